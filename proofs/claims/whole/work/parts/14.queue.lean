/-! ===== rows of places found one behind the other ===== -/
/-- (place, number from which it was found, input) -/
abbrev Qu : Type := List (Nat × Nat × Nat)
def qP (q : Qu) (i : Nat) : Nat := (q.getD i (0, 0, 0)).1
def qF (q : Qu) (i : Nat) : Nat := (q.getD i (0, 0, 0)).2.1
def qB (q : Qu) (i : Nat) : Nat := (q.getD i (0, 0, 0)).2.2
abbrev qPs (q : Qu) : List Nat := q.map Prod.fst
/-- a place is come to -/
def qr (q : Qu) (p fr i : Nat) : Qu := if p ∈ qPs q then q else q ++ [(p, fr, i)]
theorem qP_old {q : Qu} {e : Nat × Nat × Nat} {i : Nat} (h : i < q.length) : qP (q ++ [e]) i = qP q i := by simp [qP, List.getElem?_append, h]
theorem qF_old {q : Qu} {e : Nat × Nat × Nat} {i : Nat} (h : i < q.length) : qF (q ++ [e]) i = qF q i := by simp [qF, List.getElem?_append, h]
theorem qB_old {q : Qu} {e : Nat × Nat × Nat} {i : Nat} (h : i < q.length) : qB (q ++ [e]) i = qB q i := by simp [qB, List.getElem?_append, h]
theorem qP_new {q : Qu} {p a b : Nat} : qP (q ++ [(p, a, b)]) q.length = p := by simp [qP]
theorem qF_new {q : Qu} {p a b : Nat} : qF (q ++ [(p, a, b)]) q.length = a := by simp [qF]
theorem qB_new {q : Qu} {p a b : Nat} : qB (q ++ [(p, a, b)]) q.length = b := by simp [qB]
theorem qP_mem {q : Qu} {i : Nat} (h : i < q.length) : qP q i ∈ qPs q := by
  refine List.mem_map.mpr ⟨q[i], List.getElem_mem h, ?_⟩
  simp [qP, h]
theorem qP_ex {q : Qu} {p : Nat} (h : p ∈ qPs q) : ∃ i, i < q.length ∧ qP q i = p := by
  obtain ⟨e, he, rfl⟩ := List.mem_map.mp h
  obtain ⟨i, hi, h2⟩ := List.mem_iff_getElem.mp he
  exact ⟨i, hi, by simp [qP, hi, h2]⟩
theorem qP_inj {q : Qu} (hn : (qPs q).Nodup) {i j : Nat} (hi : i < q.length) (hj : j < q.length) (e : qP q i = qP q j) : i = j := by
  have hp := List.pairwise_iff_getElem.mp hn
  have a1 : ∀ m (hm : m < q.length), qP q m = (qPs q)[m]'(by simpa using hm) := fun m hm => by simp [qP, hm]
  rcases Nat.lt_trichotomy i j with c | c | c
  · exact absurd (by rw [← a1 i hi, ← a1 j hj]; exact e) (hp i j (by simpa using hi) (by simpa using hj) c)
  · exact c
  · exact absurd (by rw [← a1 i hi, ← a1 j hj]; exact e.symm) (hp j i (by simpa using hj) (by simpa using hi) c)
/-- no more different numbers below D than D -/
theorem pigeon : ∀ (D : Nat) (l : List Nat), l.Nodup → (∀ p ∈ l, p < D) → l.length ≤ D
  | 0, l, _, h => by
    cases l with
    | nil => exact Nat.le_refl _
    | cons a l => exact absurd (h a List.mem_cons_self) (Nat.not_lt_zero _)
  | D + 1, l, hn, h => by
    have h1 := pigeon D (l.filter (fun p => decide (p ≠ D))) (hn.filter _) (fun p hp => by
      have := List.mem_filter.mp hp
      have h2 := h p this.1
      have h3 : p ≠ D := by simpa using this.2
      omega)
    have h2 : l.length ≤ (l.filter (fun p => decide (p ≠ D))).length + 1 := by
      clear h1 h
      induction l with
      | nil => simp
      | cons a l ih =>
        have hn' := List.nodup_cons.mp hn
        by_cases e : a = D
        · subst e
          have e2 : l.filter (fun p => decide (p ≠ a)) = l := List.filter_eq_self.mpr (fun p hp => by
            have : p ≠ a := fun z => hn'.1 (z ▸ hp)
            simpa using this)
          rw [List.filter_cons_of_neg (by simp), e2]
          simp
        · rw [List.filter_cons_of_pos (by simpa using e)]
          have := ih hn'.2
          simp only [List.length_cons]
          omega
    omega
/-- a row that is well made: each found from one ahead, by an input -/
def qOK (q : Qu) (D : Nat) : Prop := (qPs q).Nodup ∧ (∀ p ∈ qPs q, p < D) ∧ ∀ i, i < q.length → qB q i < 4 ∧ (0 < i → qF q i < i) ∧ (i = 0 → qF q i = 0)
theorem qOK.len {q : Qu} {D : Nat} (h : qOK q D) : q.length ≤ D := by
  have := pigeon D (qPs q) h.1 h.2.1
  simpa using this
theorem qOK.add {q : Qu} {D p fr i : Nat} (h : qOK q D) (hp : p < D) (hf : fr < q.length ∨ q.length = 0 ∧ fr = 0) (hi : i < 4) (hn : p ∉ qPs q) : qOK (q ++ [(p, fr, i)]) D := by
  refine ⟨?_, ?_, ?_⟩
  · have : qPs (q ++ [(p, fr, i)]) = qPs q ++ [p] := by simp [qPs]
    rw [this]
    exact List.nodup_append.mpr ⟨h.1, by simp, fun a ha b hb => by simp at hb; subst hb; exact fun z => hn (z ▸ ha)⟩
  · intro a ha
    have e : qPs (q ++ [(p, fr, i)]) = qPs q ++ [p] := by simp [qPs]
    rw [e] at ha
    rcases List.mem_append.mp ha with c | c
    · exact h.2.1 a c
    · simp at c; omega
  · intro j hj
    have hj' : j < q.length + 1 := by simpa using hj
    rcases Nat.lt_succ_iff_lt_or_eq.mp hj' with c | c
    · rw [qB_old c, qF_old c]; exact h.2.2 j c
    · subst c; rw [qB_new, qF_new]; exact ⟨hi, fun _ => by omega, fun _ => by omega⟩
theorem qOK.r {q : Qu} {D p fr i : Nat} (h : qOK q D) (hp : p < D) (hf : fr < q.length ∨ q.length = 0 ∧ fr = 0) (hi : i < 4) : qOK (qr q p fr i) D := by
  unfold qr
  split
  · exact h
  · rename_i c; exact h.add hp hf hi c
theorem qr_len (q : Qu) (p fr i : Nat) : q.length ≤ (qr q p fr i).length := by
  unfold qr
  split
  · exact Nat.le_refl _
  · simp
theorem qr_pre {q : Qu} {p fr i j : Nat} (h : j < q.length) : qP (qr q p fr i) j = qP q j := by
  unfold qr
  split
  · rfl
  · exact qP_old h
/-- Search holds the row q of places below D -/
def SeQ (nm : Nat → Option Nat) (pl st : Nat → Nat) (c D : Nat) (q : Qu) : Prop := c = q.length ∧ (∀ i, i < c → pl i = qP q i ∧ st i = qF q i * 4 + qB q i ∧ nm (qP q i) = some i) ∧ ∀ p, p < D → p ∉ qPs q → nm p = none
theorem SeQ.add {nm : Nat → Option Nat} {pl st : Nat → Nat} {c D p fr i : Nat} {q : Qu} (h : SeQ nm pl st c D q) (hp : p < D) (hn : p ∉ qPs q) : SeQ (va_up nm p (some c)) (va_up pl c p) (va_up st c (fr * 4 + i)) (c + 1) D (q ++ [(p, fr, i)]) := by
  obtain ⟨rfl, h2, h3⟩ := h
  refine ⟨by simp, fun j hj => ?_, fun r hr hr2 => ?_⟩
  · rcases Nat.lt_succ_iff_lt_or_eq.mp hj with e | e
    · have q1 : qP q j ≠ p := fun z => hn (z ▸ qP_mem e)
      rw [qP_old e, qF_old e, qB_old e, va_up_ne _ _ (Nat.ne_of_lt e), va_up_ne _ _ (Nat.ne_of_lt e), va_up_ne _ _ q1]
      exact h2 j e
    · subst e
      rw [qP_new, qF_new, qB_new, va_up_self, va_up_self, va_up_self]
      exact ⟨rfl, rfl, rfl⟩
  · have e : qPs (q ++ [(p, fr, i)]) = qPs q ++ [p] := by simp [qPs]
    rw [e] at hr2
    simp only [List.mem_append, List.mem_singleton, not_or] at hr2
    rw [va_up_ne _ _ hr2.2]
    exact h3 r hr hr2.1
theorem SeQ.none_iff {nm : Nat → Option Nat} {pl st : Nat → Nat} {c D p : Nat} {q : Qu} (h : SeQ nm pl st c D q) (hp : p < D) : nm p = none ↔ p ∉ qPs q := by
  refine ⟨fun e hm => ?_, h.2.2 p hp⟩
  obtain ⟨i, hi, rfl⟩ := qP_ex hm
  rw [(h.2.1 i (by rw [h.1]; exact hi)).2.2] at e
  cases e
/-- the inputs that lead to a number -/
def wdL (F B : Nat → Nat) : Nat → Nat → List Nat
  | 0, _ => []
  | m + 1, a => if a = 0 then [] else wdL F B m (F a) ++ [B a]
theorem wdL_fuel {F B : Nat → Nat} {N : Nat} (h : ∀ a, 0 < a → a < N → F a < a) : ∀ (m m' a : Nat), a ≤ m → a ≤ m' → a < N → wdL F B m a = wdL F B m' a
  | 0, m', a, h1, h2, h3 => by
    have : a = 0 := by omega
    subst this
    cases m' <;> simp [wdL]
  | m + 1, m', a, h1, h2, h3 => by
    cases m' with
    | zero =>
      have : a = 0 := by omega
      subst this
      simp [wdL]
    | succ m' =>
      by_cases e : a = 0
      · simp [wdL, e]
      · have q := h a (by omega) h3
        simp only [wdL, if_neg e]
        rw [wdL_fuel h m m' (F a) (by omega) (by omega) (by omega)]
/-- the word that leads to number a -/
def wdA (F B : Nat → Nat) (a : Nat) : List Nat := wdL F B a a
theorem wdA_0 {F B : Nat → Nat} : wdA F B 0 = [] := rfl
theorem wdA_s {F B : Nat → Nat} {N a : Nat} (h : ∀ a, 0 < a → a < N → F a < a) (h0 : 0 < a) (ha : a < N) : wdA F B a = wdA F B (F a) ++ [B a] := by
  have q := h a h0 ha
  unfold wdA
  rw [wdL_fuel h a (a - 1 + 1) a (Nat.le_refl _) (by omega) ha]
  show (if a = 0 then [] else wdL F B (a - 1) (F a) ++ [B a]) = _
  rw [if_neg (by omega), wdL_fuel h (a - 1) (F a) (F a) (by omega) (Nat.le_refl _) (by omega)]
theorem wdA_len {F B : Nat → Nat} {N : Nat} (h : ∀ a, 0 < a → a < N → F a < a) : ∀ (m a : Nat), a ≤ m → a < N → (wdA F B a).length ≤ a
  | 0, a, h1, h2 => by
    have : a = 0 := by omega
    subst this
    exact Nat.le_refl _
  | m + 1, a, h1, h2 => by
    by_cases e : a = 0
    · subst e; exact Nat.le_refl _
    · have q := h a (by omega) h2
      rw [wdA_s h (by omega) h2, List.length_append]
      have := wdA_len (B := B) h m (F a) (by omega) (by omega)
      simp only [List.length_cons, List.length_nil]
      omega
theorem wdA_congr {F F' B B' : Nat → Nat} {N : Nat} (h : ∀ a, 0 < a → a < N → F a < a) (hF : ∀ a, 0 < a → a < N → F a = F' a ∧ B a = B' a) : ∀ (m a : Nat), a ≤ m → a < N → wdA F B a = wdA F' B' a
  | 0, a, h1, h2 => by
    have : a = 0 := by omega
    subst this
    rfl
  | m + 1, a, h1, h2 => by
    by_cases e : a = 0
    · subst e; rfl
    · have q := h a (by omega) h2
      have h' : ∀ a, 0 < a → a < N → F' a < a := fun a h0 h1 => by rw [← (hF a h0 h1).1]; exact h a h0 h1
      rw [wdA_s h (by omega) h2, wdA_s h' (by omega) h2, ← (hF a (by omega) h2).1, ← (hF a (by omega) h2).2, wdA_congr h hF m (F a) (by omega) (by omega)]
