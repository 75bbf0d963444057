/-! ===== the four searches' own steps ===== -/
def wNx (nx1 nx2 : Nat → Nat) (p i : Nat) : Nat := nx1 (p / 40 * 4 + i) * 40 + nx2 (p % 40 * 4 + i)
def wBad (ou1 ou2 : Nat → Nat) (p i : Nat) : Prop := ou1 (p / 40 * 4 + i) ≠ ou2 (p % 40 * 4 + i)
def wP (n1 n2 p : Nat) : Prop := p / 40 < n1 ∧ p % 40 < n2
theorem wP_lt {nx1 ou1 nx2 ou2 : Nat → Nat} {n1 n2 k1 k2 : Nat} (h1 : okA nx1 ou1 n1 k1) (h2 : okA nx2 ou2 n2 k2) : ∀ p, wP n1 n2 p → p < 1600 := fun p h => by have := h.1; have := h1.2.1; omega
theorem wP_mk {n1 n2 a b : Nat} (ha : a < n1) (hb : b < n2) (h2 : n2 ≤ 40) : wP n1 n2 (a * 40 + b) := ⟨by omega, by omega⟩
theorem wP_nx {nx1 ou1 nx2 ou2 : Nat → Nat} {n1 n2 k : Nat} (h1 : okA nx1 ou1 n1 k) (h2 : okA nx2 ou2 n2 k) : ∀ p i, wP n1 n2 p → i < k → wP n1 n2 (wNx nx1 nx2 p i) := fun p i h hi => wP_mk (h1.2.2.2.2 _ i h.1 hi).1 (h2.2.2.2.2 _ i h.2 hi).1 h2.2.1
theorem qOK_nil (D : Nat) : qOK [] D := ⟨List.nodup_nil, fun _ h => absurd h List.not_mem_nil, fun _ h => absurd h (Nat.not_lt_zero _)⟩
/-- sets of like states -/
def nNx (lo nx : Nat → Nat) (p i : Nat) : Nat := lo (nx (p * 4 + i))
/-- masks -/
def rNx (nx : Nat → Nat) (n p i : Nat) : Nat := mv (fun s => nx (s * 4 + i)) p n
def rP (n p : Nat) : Prop := p < 2 ^ n
theorem rP_nx {nx ou : Nat → Nat} {n k : Nat} (h : okA nx ou n k) (hn : n ≤ 12) : ∀ p i, rP n p → i < k → rP n (rNx nx n p i) := by
  intro p i _ hi
  unfold rP rNx
  have key : ∀ s, s ≤ n → mv (fun s => nx (s * 4 + i)) p s < 2 ^ n := by
    intro s
    induction s with
    | zero => intro _; exact Nat.two_pow_pos n
    | succ s ih =>
      intro hs
      simp only [mv]
      split
      · exact Nat.or_lt_two_pow (ih (by omega)) (Nat.pow_lt_pow_right (by decide) (h.2.2.2.2 s i (by omega) hi).1)
      · exact ih (by omega)
  exact key n (Nat.le_refl _)
theorem rP_lt {n : Nat} (hn : n ≤ 12) : ∀ p, rP n p → p < 4096 := fun p h => Nat.lt_of_lt_of_le h (by have := Nat.pow_le_pow_right (show 0 < 2 by decide) hn; simpa using this)
/-- pairs of a chain -/
def cNx (nx1 ou1 nx2 : Nat → Nat) (k2 p i : Nat) : Nat := if ou1 (p / 40 * 4 + i) < k2 then nx1 (p / 40 * 4 + i) * 40 + nx2 (p % 40 * 4 + ou1 (p / 40 * 4 + i)) else 0
def cBad (ou1 : Nat → Nat) (k2 p i : Nat) : Prop := k2 ≤ ou1 (p / 40 * 4 + i)
theorem cP_nx {nx1 ou1 nx2 ou2 : Nat → Nat} {n1 n2 k k2 : Nat} (h1 : okA nx1 ou1 n1 k) (h2 : okA nx2 ou2 n2 k2) : ∀ p i, wP n1 n2 p → i < k → wP n1 n2 (cNx nx1 ou1 nx2 k2 p i) := fun p i h hi => by
  unfold cNx
  split
  · rename_i c
    exact wP_mk (h1.2.2.2.2 _ i h.1 hi).1 (h2.2.2.2.2 _ _ h.2 c).1 h2.2.1
  · exact ⟨by have := h1.1; omega, by have := h2.1; omega⟩
/-- there is such a chain -/
def ChOK (nxt : Nat → Nat → Nat) (bad : Nat → Nat → Prop) (K : Nat) (q : Qu) : Prop := ∃ N, BEnd nxt K q N ∧ (∀ a, a < N → ∀ i, i < K → ¬ bad (qP (bout nxt K q a) a) i) ∧ (bout nxt K q N).length ≤ 40
theorem nI_m1 {k : Nat} (h : k < 2 ^ 31) : ¬ nI k = -1 := fun e => absurd (show nI k < 0 by rw [e]; decide) (nI_pos h)
theorem shl1 : ∀ j, j ≤ 12 → nI 1 <<< (nI j &&& 31) = nI (2 ^ j) := by decide
