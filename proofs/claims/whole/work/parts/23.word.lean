/-! ===== words out of a search ===== -/
theorem SeQ.st {nm : Nat → Option Nat} {pl st : Nat → Nat} {c D : Nat} {q : Qu} (h : SeQ nm pl st c D q) (ho : qOK q D) {a : Nat} (ha : a < q.length) : st a / 4 = qF q a ∧ st a % 4 = qB q a ∧ (D ≤ 4096 → st a < 2 ^ 31) := by
  have h1 := (h.2.1 a (by rw [h.1]; exact ha)).2.1
  have h2 := ho.2.2 a ha
  have h3 := ho.len
  refine ⟨by omega, by omega, fun hD => ?_⟩
  rcases Nat.eq_zero_or_pos a with z | z
  · have := h2.2.2 z; omega
  · have := h2.2.1 z; omega
theorem SeQ.word {nm : Nat → Option Nat} {pl st : Nat → Nat} {c D : Nat} {q : Qu} (h : SeQ nm pl st c D q) (ho : qOK q D) {a : Nat} (ha : a < q.length) : wdA (fun a => st a / 4) (fun a => st a % 4) a = qW q a :=
  (wdA_congr ho.F (fun b _ hb => ⟨((h.st ho hb).1).symm, ((h.st ho hb).2.1).symm⟩) a a (Nat.le_refl _) ha).symm
/-- with one step more noted -/
theorem SeQ.word1 {nm : Nat → Option Nat} {pl st : Nat → Nat} {c D a i : Nat} {q : Qu} (h : SeQ nm pl st c D q) (ho : qOK q D) (ha : a < q.length) (hi : i < 4) (h1 : 1 ≤ q.length) : wdA (fun b => va_up st c (a * 4 + i) b / 4) (fun b => va_up st c (a * 4 + i) b % 4) c = qW q a ++ [i] := by
  have hc := h.1
  have hF : ∀ b, 0 < b → b < c + 1 → va_up st c (a * 4 + i) b / 4 < b := by
    intro b h0 hb
    by_cases e : b = c
    · rw [e, va_up_self]; omega
    · rw [va_up_ne _ _ e]
      have := (h.st ho (a := b) (by omega)).1
      have := ho.F b h0 (by omega)
      omega
  rw [wdA_s hF (by omega) (by omega)]
  have e1 : va_up st c (a * 4 + i) c / 4 = a := by rw [va_up_self]; omega
  have e2 : va_up st c (a * 4 + i) c % 4 = i := by rw [va_up_self]; omega
  simp only [e1, e2]
  congr 1
  rw [← h.word ho ha]
  refine wdA_congr (N := c) (fun b h0 hb => hF b h0 (by omega)) (fun b h0 hb => ?_) a a (Nat.le_refl _) (by omega)
  rw [va_up_ne _ _ (by omega)]
  exact ⟨rfl, rfl⟩
theorem ix_isSome {o k : Nat} (ho : o < 2 ^ 31) (hk : k < 2 ^ 31) : (ix (nI o) k).isSome = decide (o < k) := by
  rcases Nat.lt_or_ge o k with c | c
  · rw [ix_nI c hk]; simp [c]
  · rw [ix_ge hk (nI_le c ho)]; simp [Nat.not_lt.mpr c]
