/-! ===== the reference: its picture; ranges ===== -/
theorem in_ix1 {p : Int32} {n : Nat} (hn : n < 2 ^ 30) : (decide (nI 0 ≤ p) && decide (p ≤ nI n)) = (ix p (n + 1)).isSome := by
  rcases ix_cases p (n := n + 1) (by omega) with ⟨e, h⟩ | ⟨j, e, hj, rfl⟩
  · rw [e]
    rcases h with h | h
    · rw [decide_eq_false (show ¬ nI 0 ≤ p from Int32.not_le.mpr h)]
      rfl
    · have h2 : ¬ p ≤ nI n := fun q => by
        have e1 := Int32.le_iff_toInt_le.mp h
        have e2 := Int32.le_iff_toInt_le.mp q
        rw [nI_toInt (by omega)] at e1 e2
        omega
      rw [decide_eq_false h2, Bool.and_false]
      rfl
  · rw [e]
    have h1 : nI 0 ≤ nI j := by
      rw [Int32.le_iff_toInt_le, nI_toInt (by omega), nI_toInt (by omega)]; omega
    have h2 : nI j ≤ nI n := by
      rw [Int32.le_iff_toInt_le, nI_toInt (by omega), nI_toInt (by omega)]; omega
    rw [decide_eq_true h1, decide_eq_true h2]
    rfl
theorem in_ix {p : Int32} {n : Nat} (hn : n < 2 ^ 30) : (decide (nI 0 ≤ p) && decide (p ≤ nI n - nI 1)) = (ix p n).isSome := by
  cases n with
  | zero =>
    have e : ix p 0 = none := by
      unfold ix
      rw [if_neg (by omega)]
    rw [e]
    by_cases h : nI 0 ≤ p
    · have h2 : ¬ p ≤ nI 0 - nI 1 := fun q => by
        have h3 := Int32.le_trans h q
        exact absurd h3 (by decide)
      rw [decide_eq_false h2, Bool.and_false]
      rfl
    · rw [decide_eq_false h]
      rfl
  | succ k =>
    rw [pk_sub (show 1 ≤ k + 1 by omega)]
    exact in_ix1 (by omega)
theorem in_get {p : Int32} {lo hi : Nat} (hh : hi < 2 ^ 30) (hl : lo < 2 ^ 30) (h : ¬ bI (decide (nI lo ≤ p) && decide (p ≤ nI hi)) = 0) : ∃ a, p = nI a ∧ lo ≤ a ∧ a ≤ hi := by
  have h1 : (decide (nI lo ≤ p) && decide (p ≤ nI hi)) = true := Bool.of_not_eq_false (fun z => h ((bI_0 _).mpr z))
  simp only [Bool.and_eq_true, decide_eq_true_eq] at h1
  exact in_rng hh (by omega) (Int32.not_lt.mpr h1.1) (Int32.not_lt.mpr h1.2)
theorem in_no {p : Int32} {lo hi a : Nat} (hh : hi < 2 ^ 30) (h : bI (decide (nI lo ≤ p) && decide (p ≤ nI hi)) = 0) (e : p = nI a) (h1 : lo ≤ a) (h2 : a ≤ hi) : False := by
  have h0 := (bI_0 _).mp h
  subst e
  have g1 : nI lo ≤ nI a := by
    rw [Int32.le_iff_toInt_le, nI_toInt (by omega), nI_toInt (by omega)]; omega
  have g2 : nI a ≤ nI hi := by
    rw [Int32.le_iff_toInt_le, nI_toInt (by omega), nI_toInt (by omega)]; omega
  rw [decide_eq_true g1, decide_eq_true g2] at h0
  cases h0
/-- is it a machine's state -/
def ixS (p q : Int32) (c : Nat) (n : Nat → Nat) : Bool := match ix p c with
  | none => false
  | some m => (ix q (n m)).isSome
theorem ixS_some {p q : Int32} {c : Nat} {n : Nat → Nat} (h : ¬ bI (ixS p q c n) = 0) : ∃ m s, ix p c = some m ∧ ix q (n m) = some s := by
  unfold ixS at h
  cases e : ix p c with
  | none => rw [e] at h; exact absurd rfl h
  | some m =>
    rw [e] at h
    obtain ⟨s, hs⟩ := some_ix h
    exact ⟨m, s, rfl, hs⟩
theorem ixS_none {p q : Int32} {c : Nat} {n : Nat → Nat} (h : bI (ixS p q c n) = 0) : ¬ ∃ m s, ix p c = some m ∧ ix q (n m) = some s := by
  rintro ⟨m, s, e1, e2⟩
  unfold ixS at h
  rw [e1] at h
  simp only [e2] at h
  exact absurd h (show ¬ (1 : Int32) = 0 by decide)
abbrev pic (mc : Nat) (sa ka nx ou : Nat → Nat) (wl : Nat) (wd : Nat → Nat) : SG := (mc, sa, ka, fun m t => nx (160 * m + t), fun m t => ou (160 * m + t), wl, wd)
/-- the reference's cells hold the picture σ -/
def MoS (G : GT) (L : List Nat) (f : Nat → va_E) (w A : Nat → Nat) (th : Nat) (σ : SG) : Prop := okG σ ∧ ∃ (nx ou : Nat → Nat) (ap : Nat → Bool) (fo : Nat) (se : Nat → Nat) (fr : Nat → Option Nat) (by_ : Nat → Nat) (is : Nat → Bool) (tr : Nat) (my ss : Nat → Nat) (tf : Nat → Option Nat) (tb : Nat → Nat), MoAt G L f w 100 A th (gc σ) (gn σ) (gk σ) nx ou (gl σ) (gd σ) ap fo se fr by_ is tr my ss tf tb ∧ gx σ = (fun m t => nx (160 * m + t)) ∧ go σ = (fun m t => ou (160 * m + t))
