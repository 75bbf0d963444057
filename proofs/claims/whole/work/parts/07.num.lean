/-! ===== numbers that are asked for ===== -/
/-- which of n places an int names -/
def ix (p : Int32) (n : Nat) : Option Nat := if 0 ≤ p.toInt ∧ p.toInt < (n : Int) then some p.toInt.toNat else none
theorem ix_nI {j n : Nat} (h : j < n) (hn : n < 2 ^ 31) : ix (nI j) n = some j := by
  have e : (nI j).toInt = (j : Int) := nI_toInt (by omega)
  unfold ix
  rw [e, if_pos (by omega)]
  rfl
theorem ix_neg {p : Int32} {n : Nat} (h : p < 0) : ix p n = none := by
  unfold ix
  rw [if_neg]
  intro q
  have : p.toInt < 0 := by have := Int32.lt_iff_toInt_lt.mp h; simpa using this
  omega
theorem ix_ge {p : Int32} {n : Nat} (hn : n < 2 ^ 31) (h : nI n ≤ p) : ix p n = none := by
  unfold ix
  rw [if_neg]
  intro q
  have h1 : (nI n).toInt ≤ p.toInt := Int32.le_iff_toInt_le.mp h
  rw [nI_toInt hn] at h1
  omega
theorem ix_some {p : Int32} {n j : Nat} (hn : n < 2 ^ 31) (h : ix p n = some j) : j < n ∧ p = nI j := by
  unfold ix at h
  split at h
  · rename_i q
    cases h
    obtain ⟨i, hi, e⟩ := vp_in_of (vp_in_iff.mpr q) hn
    subst e
    rw [nI_toInt (by omega)]
    exact ⟨by simpa using hi, by simp⟩
  · cases h
theorem ix_in {p : Int32} {n : Nat} (hn : n < 2 ^ 31) (h1 : ¬ p < 0) (h2 : ¬ nI n ≤ p) : ∃ j, ix p n = some j ∧ j < n ∧ p = nI j := by
  rcases pk_ix p hn with h | h | ⟨j, hj, e⟩
  · exact absurd h h1
  · exact absurd h h2
  · exact ⟨j, by rw [e]; exact ix_nI hj hn, hj, e⟩
theorem ix_cases (p : Int32) {n : Nat} (hn : n < 2 ^ 31) : (ix p n = none ∧ (p < 0 ∨ nI n ≤ p)) ∨ ∃ j, ix p n = some j ∧ j < n ∧ p = nI j := by
  rcases pk_ix p hn with h | h | ⟨j, hj, e⟩
  · exact Or.inl ⟨ix_neg h, Or.inl h⟩
  · exact Or.inl ⟨ix_ge hn h, Or.inr h⟩
  · exact Or.inr ⟨j, by rw [e]; exact ix_nI hj hn, hj, e⟩
theorem bI_t : bI true = 1 := rfl
theorem bI_f : bI false = 0 := rfl
theorem bI_0 (b : Bool) : bI b = 0 ↔ b = false := by cases b <;> decide
theorem nI_one : nI 1 = bI true := by decide
theorem nI_zer : nI 0 = bI false := by decide
theorem bI_nar (b : Bool) : narrow .boolean (.int (bI b)) = .int (bI b) := by cases b <;> rfl
theorem oI_none : oI none = -1 := rfl
theorem oI_some (k : Nat) : oI (some k) = nI k := rfl
theorem oI_m1 {o : Option Nat} (h : ∀ k, o = some k → k < 2 ^ 31) : oI o = -1 ↔ o = none := by
  cases o with
  | none => exact ⟨fun _ => rfl, fun _ => rfl⟩
  | some k =>
    refine ⟨fun e => ?_, fun e => by cases e⟩
    exact absurd (show nI k < 0 by rw [show nI k = -1 from e]; decide) (nI_pos (h k rfl))
/-- the masks' bits -/
theorem bit_or {a j : Nat} (ha : a < 2 ^ 12) (hj : j < 12) : nI a ||| (nI 1 <<< (nI j &&& 31)) = nI (a ||| 2 ^ j) := by
  have e : nI 1 <<< (nI j &&& 31) = nI (2 ^ j) := by
    have := pk_shlN (n := 1) (nI j &&& 31) j (by
      have : ∀ q, q < 12 → ((nI q &&& 31).toBitVec.smod 32).toNat = q := by decide
      exact this j hj) (by
      have : ∀ q, q < 12 → 1 * 2 ^ q < 2 ^ 32 := by decide
      exact this j hj)
    rw [Nat.one_mul] at this
    exact this
  rw [e]
  apply Int32.toBitVec_inj.mp
  apply BitVec.eq_of_toNat_eq
  have hb : 2 ^ j < 2 ^ 12 := Nat.pow_lt_pow_right (by decide) hj
  have hc : a ||| 2 ^ j < 2 ^ 12 := Nat.or_lt_two_pow ha hb
  rw [Int32.toBitVec_or, BitVec.toNat_or, pk_tn (by omega), pk_tn (by omega), pk_tn (by omega)]
theorem bit_shr {a j : Nat} (ha : a < 2 ^ 12) (hj : j < 12) : nI a >>> (nI j &&& 31) = nI (a / 2 ^ j) := pk_shrN (by omega) _ j (by
  have : ∀ q, q < 12 → ((nI q &&& 31).toBitVec.smod 32).toNat = q := by decide
  exact this j hj)
theorem bit_and1 (a : Nat) (ha : a < 2 ^ 31) : nI a &&& nI 1 = nI (a % 2) := pk_andN (by omega) 1 (by decide)
