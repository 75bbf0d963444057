/-! ===== those found first are looked at first, with inputs in order ===== -/
/-- the row q behind the inputs below i at number a -/
def bin (nxt : Nat → Nat → Nat) (q : Qu) (a : Nat) : Nat → Qu
  | 0 => q
  | i + 1 => qr (bin nxt q a i) (nxt (qP q a) i) a i
/-- the row behind all numbers below a -/
def bout (nxt : Nat → Nat → Nat) (K : Nat) (q : Qu) : Nat → Qu
  | 0 => q
  | a + 1 => bin nxt (bout nxt K q a) a K
theorem bin_len (nxt : Nat → Nat → Nat) (q : Qu) (a : Nat) : ∀ i, q.length ≤ (bin nxt q a i).length
  | 0 => Nat.le_refl _
  | i + 1 => Nat.le_trans (bin_len nxt q a i) (qr_len _ _ _ _)
theorem bin_mono (nxt : Nat → Nat → Nat) (q : Qu) (a : Nat) {i j : Nat} (h : i ≤ j) : (bin nxt q a i).length ≤ (bin nxt q a j).length := by
  induction j with
  | zero => have : i = 0 := by omega
            subst this; exact Nat.le_refl _
  | succ j ih =>
    rcases Nat.lt_or_ge i (j + 1) with c | c
    · exact Nat.le_trans (ih (by omega)) (qr_len _ _ _ _)
    · have : i = j + 1 := by omega
      subst this; exact Nat.le_refl _
/-- two rows agree on the numbers of the first -/
def qSub (q r : Qu) : Prop := q.length ≤ r.length ∧ ∀ i, i < q.length → qP r i = qP q i ∧ qF r i = qF q i ∧ qB r i = qB q i
theorem qSub.rf (q : Qu) : qSub q q := ⟨Nat.le_refl _, fun _ _ => ⟨rfl, rfl, rfl⟩⟩
theorem qSub.tr {q r s : Qu} (h : qSub q r) (h2 : qSub r s) : qSub q s := ⟨Nat.le_trans h.1 h2.1, fun i hi => by
  have a := h.2 i hi
  have b := h2.2 i (Nat.lt_of_lt_of_le hi h.1)
  exact ⟨b.1.trans a.1, b.2.1.trans a.2.1, b.2.2.trans a.2.2⟩⟩
theorem qSub.r (q : Qu) (p fr i : Nat) : qSub q (qr q p fr i) := by
  unfold qr
  split
  · exact qSub.rf q
  · exact ⟨by simp, fun j hj => ⟨qP_old hj, qF_old hj, qB_old hj⟩⟩
theorem bin_sub (nxt : Nat → Nat → Nat) (q : Qu) (a : Nat) : ∀ i, qSub q (bin nxt q a i)
  | 0 => qSub.rf q
  | i + 1 => (bin_sub nxt q a i).tr (qSub.r _ _ _ _)
theorem bout_sub (nxt : Nat → Nat → Nat) (K : Nat) (q : Qu) {a b : Nat} (h : a ≤ b) : qSub (bout nxt K q a) (bout nxt K q b) := by
  induction b with
  | zero => have : a = 0 := by omega
            subst this; exact qSub.rf _
  | succ b ih =>
    rcases Nat.lt_or_ge a (b + 1) with c | c
    · exact (ih (by omega)).tr (bin_sub _ _ _ _)
    · have : a = b + 1 := by omega
      subst this; exact qSub.rf _
/-- all places of a row are such -/
def qI (P : Nat → Prop) (q : Qu) : Prop := ∀ p ∈ qPs q, P p
theorem qI.r {P : Nat → Prop} {q : Qu} {p fr i : Nat} (h : qI P q) (hp : P p) : qI P (qr q p fr i) := by
  unfold qr
  split
  · exact h
  · intro a ha
    have e : qPs (q ++ [(p, fr, i)]) = qPs q ++ [p] := by simp [qPs]
    rw [e] at ha
    rcases List.mem_append.mp ha with c | c
    · exact h a c
    · simp at c; rw [c]; exact hp
theorem bin_ok {P : Nat → Prop} {nxt : Nat → Nat → Nat} {q : Qu} {a D K : Nat} (h : qOK q D) (hI : qI P q) (ha : a < q.length) (hK : K ≤ 4) (hD : ∀ p, P p → p < D) (hn : ∀ p i, P p → i < K → P (nxt p i)) : ∀ i, i ≤ K → qOK (bin nxt q a i) D ∧ qI P (bin nxt q a i)
  | 0, _ => ⟨h, hI⟩
  | i + 1, hi => by
    have h1 := bin_ok h hI ha hK hD hn i (by omega)
    have h2 := hn _ i (hI _ (qP_mem ha)) (show i < K by omega)
    exact ⟨h1.1.r (hD _ h2) (Or.inl (Nat.lt_of_lt_of_le ha (bin_len _ _ _ _))) (by omega), h1.2.r h2⟩
theorem bout_ok {P : Nat → Prop} {nxt : Nat → Nat → Nat} {q : Qu} {D K : Nat} (h : qOK q D) (hI : qI P q) (hK : K ≤ 4) (hD : ∀ p, P p → p < D) (hn : ∀ p i, P p → i < K → P (nxt p i)) : ∀ a, (∀ b, b < a → b < (bout nxt K q b).length) → qOK (bout nxt K q a) D ∧ qI P (bout nxt K q a)
  | 0, _ => ⟨h, hI⟩
  | a + 1, hb => by
    have h1 := bout_ok h hI hK hD hn a (fun b hb2 => hb b (by omega))
    exact bin_ok h1.1 h1.2 (hb a (Nat.lt_succ_self _)) hK hD hn K (Nat.le_refl _)
/-- the row is at its end with N numbers looked at -/
def BEnd (nxt : Nat → Nat → Nat) (K : Nat) (q : Qu) (N : Nat) : Prop := (bout nxt K q N).length ≤ N ∧ ∀ a, a < N → a < (bout nxt K q a).length
theorem BEnd.uniq {nxt : Nat → Nat → Nat} {K N M : Nat} {q : Qu} (h : BEnd nxt K q N) (h2 : BEnd nxt K q M) : N = M := by
  rcases Nat.lt_trichotomy N M with c | c | c
  · have := h2.2 N c; have := h.1; omega
  · exact c
  · have := h.2 M c; have := h2.1; omega
theorem BEnd.len {nxt : Nat → Nat → Nat} {K N : Nat} {q : Qu} (h : BEnd nxt K q N) (h1 : 1 ≤ q.length) : (bout nxt K q N).length = N := by
  refine Nat.le_antisymm h.1 ?_
  rcases Nat.eq_zero_or_pos N with c | c
  · omega
  · have h2 := h.2 (N - 1) (by omega)
    have h3 := (bout_sub nxt K q (a := N - 1) (b := N) (by omega)).1
    omega
theorem BEnd.lt {nxt : Nat → Nat → Nat} {K N a : Nat} {q : Qu} (h : BEnd nxt K q N) (ha : ∀ b, b ≤ a → b < (bout nxt K q b).length) : a < N := by
  rcases Nat.lt_or_ge a N with c | c
  · exact c
  · have := ha N c; have := h.1; omega
theorem bout_congr {P : Nat → Prop} {nxt nxt' : Nat → Nat → Nat} {K D : Nat} {q : Qu} (hq : qOK q D) (hI : qI P q) (hK : K ≤ 4) (hD : ∀ p, P p → p < D) (hn : ∀ p i, P p → i < K → P (nxt p i)) (he : ∀ p i, P p → i < K → nxt p i = nxt' p i) : ∀ a, (∀ b, b < a → b < (bout nxt K q b).length) → bout nxt K q a = bout nxt' K q a
  | 0, _ => rfl
  | a + 1, hb => by
    have ih := bout_congr hq hI hK hD hn he a (fun b hb2 => hb b (by omega))
    have hok := (bout_ok hq hI hK hD hn a (fun b hb2 => hb b (by omega))).2
    have ha := hb a (Nat.lt_succ_self _)
    show bin nxt (bout nxt K q a) a K = bin nxt' (bout nxt' K q a) a K
    rw [← ih]
    have key : ∀ i, i ≤ K → bin nxt (bout nxt K q a) a i = bin nxt' (bout nxt K q a) a i := by
      intro i
      induction i with
      | zero => intro _; rfl
      | succ i ih2 =>
        intro hi
        simp only [bin]
        rw [ih2 (by omega), he _ i (hok _ (qP_mem ha)) (by omega)]
    exact key K (Nat.le_refl _)
theorem q0_ok {p D : Nat} (hp : p < D) : qOK [(p, 0, 0)] D := by
  refine ⟨by simp [qPs], ?_, ?_⟩
  · intro a ha; simp [qPs] at ha; omega
  · intro i hi
    have : i = 0 := by simp at hi; omega
    subst this
    exact ⟨(show (0 : Nat) < 4 by decide), fun h => absurd h (Nat.lt_irrefl _), fun _ => rfl⟩
theorem q0_I {P : Nat → Prop} {p : Nat} (hp : P p) : qI P [(p, 0, 0)] := fun a ha => by simp [qPs] at ha; rw [ha]; exact hp
theorem q0_r (p : Nat) : qr [] p 0 0 = [(p, 0, 0)] := rfl
/-- the words of a row: those of its own numbers -/
def qW (q : Qu) (a : Nat) : List Nat := wdA (qF q) (qB q) a
theorem qOK.F {q : Qu} {D : Nat} (h : qOK q D) : ∀ a, 0 < a → a < q.length → qF q a < a := fun a h0 ha => (h.2.2 a ha).2.1 h0
theorem qW_sub {q r : Qu} {D : Nat} (h : qOK q D) (hs : qSub q r) {a : Nat} (ha : a < q.length) : qW r a = qW q a := (wdA_congr h.F (fun b _ hb => ⟨(hs.2 b hb).2.1.symm, (hs.2 b hb).2.2.symm⟩) a a (Nat.le_refl _) ha).symm
theorem qW_lt {q : Qu} {D : Nat} (h : qOK q D) : ∀ (m a : Nat), a ≤ m → a < q.length → ∀ x ∈ qW q a, x < 4
  | 0, a, h1, h2 => by
    have : a = 0 := by omega
    subst this
    intro x hx; exact absurd hx List.not_mem_nil
  | m + 1, a, h1, h2 => by
    by_cases e : a = 0
    · subst e; intro x hx; exact absurd hx List.not_mem_nil
    · intro x hx
      have hs : qW q a = qW q (qF q a) ++ [qB q a] := wdA_s h.F (by omega) h2
      rw [hs] at hx
      have hf := h.F a (by omega) h2
      rcases List.mem_append.mp hx with c | c
      · exact qW_lt h m (qF q a) (by omega) (by omega) x c
      · simp at c; rw [c]; exact (h.2.2 a h2).1
/-- the first number and input where something is told apart, or the row's end -/
def Wit (nxt : Nat → Nat → Nat) (bad : Nat → Nat → Prop) (K : Nat) (q : Qu) : Option (Nat × Nat) → Prop
  | none => ∃ N, BEnd nxt K q N ∧ ∀ a, a < N → ∀ i, i < K → ¬ bad (qP (bout nxt K q a) a) i
  | some (a, i) => (∀ b, b ≤ a → b < (bout nxt K q b).length) ∧ (∀ b, b < a → ∀ j, j < K → ¬ bad (qP (bout nxt K q b) b) j) ∧ i < K ∧ bad (qP (bout nxt K q a) a) i ∧ ∀ j, j < i → ¬ bad (qP (bout nxt K q a) a) j
theorem Wit.uniq {nxt : Nat → Nat → Nat} {bad : Nat → Nat → Prop} {K : Nat} {q : Qu} {r s : Option (Nat × Nat)} (h : Wit nxt bad K q r) (h2 : Wit nxt bad K q s) : r = s := by
  rcases r with _ | ⟨a, i⟩ <;> rcases s with _ | ⟨b, j⟩
  · rfl
  · obtain ⟨N, hN, hg⟩ := h
    obtain ⟨g1, -, g3, g4, -⟩ := h2
    exact absurd g4 (hg b (hN.lt g1) j g3)
  · obtain ⟨N, hN, hg⟩ := h2
    obtain ⟨g1, -, g3, g4, -⟩ := h
    exact absurd g4 (hg a (hN.lt g1) i g3)
  · obtain ⟨g1, g2, g3, g4, g5⟩ := h
    obtain ⟨k1, k2, k3, k4, k5⟩ := h2
    have e : a = b := by
      rcases Nat.lt_trichotomy a b with c | c | c
      · exact absurd g4 (k2 a c i g3)
      · exact c
      · exact absurd k4 (g2 b c j k3)
    subst e
    have e2 : i = j := by
      rcases Nat.lt_trichotomy i j with c | c | c
      · exact absurd g4 (k5 i c)
      · exact c
      · exact absurd k4 (g5 j c)
    subst e2
    rfl
/-- the first number whose place does, or none -/
def Fst (nxt : Nat → Nat → Nat) (ok : Nat → Prop) (K : Nat) (q : Qu) : Option Nat → Prop
  | none => ∃ N, BEnd nxt K q N ∧ ∀ a, a < N → ¬ ok (qP (bout nxt K q a) a)
  | some a => (∀ b, b ≤ a → b < (bout nxt K q b).length) ∧ (∀ b, b < a → ¬ ok (qP (bout nxt K q b) b)) ∧ ok (qP (bout nxt K q a) a)
theorem Fst.uniq {nxt : Nat → Nat → Nat} {ok : Nat → Prop} {K : Nat} {q : Qu} {r s : Option Nat} (h : Fst nxt ok K q r) (h2 : Fst nxt ok K q s) : r = s := by
  rcases r with _ | a <;> rcases s with _ | b
  · rfl
  · obtain ⟨N, hN, hg⟩ := h
    exact absurd h2.2.2 (hg b (hN.lt h2.1))
  · obtain ⟨N, hN, hg⟩ := h2
    exact absurd h.2.2 (hg a (hN.lt h.1))
  · rcases Nat.lt_trichotomy a b with c | c | c
    · exact absurd h.2.2 (h2.2.1 a c)
    · rw [c]
    · exact absurd h2.2.2 (h.2.1 b c)
