/-! ===== what Machine's loops compute ===== -/
/-- the bits that one comes to from the bits of S below s -/
def mv (g : Nat → Nat) (S : Nat) : Nat → Nat
  | 0 => 0
  | s + 1 => if S / 2 ^ s % 2 = 1 then mv g S s ||| 2 ^ g s else mv g S s
theorem mv_lt {g : Nat → Nat} {S n : Nat} (h : ∀ s, s < n → g s < 12) : ∀ s, s ≤ n → mv g S s < 2 ^ 12
  | 0, _ => by simp [mv]
  | s + 1, hs => by
    have h1 := mv_lt (S := S) h s (by omega)
    simp only [mv]
    split
    · exact Nat.or_lt_two_pow h1 (Nat.pow_lt_pow_right (by decide) (h s (by omega)))
    · exact h1
theorem mv_congr {g g' : Nat → Nat} {S n : Nat} (h : ∀ s, s < n → g s = g' s) : ∀ s, s ≤ n → mv g S s = mv g' S s
  | 0, _ => rfl
  | s + 1, hs => by simp only [mv]; rw [mv_congr h s (by omega), h s (by omega)]
/-- how many of the first s are their own least ones -/
def cn (lo : Nat → Nat) : Nat → Nat
  | 0 => 0
  | s + 1 => if lo s = s then cn lo s + 1 else cn lo s
theorem cn_le (lo : Nat → Nat) : ∀ s, cn lo s ≤ s
  | 0 => Nat.le_refl _
  | s + 1 => by have := cn_le lo s; simp only [cn]; split <;> omega
theorem cn_congr {lo lo' : Nat → Nat} : ∀ {n : Nat}, (∀ s, s < n → lo s = lo' s) → cn lo n = cn lo' n
  | 0, _ => rfl
  | n + 1, h => by simp only [cn]; rw [h n (by omega), cn_congr (fun s hs => h s (by omega))]
/-- one step more tells nothing: the outputs agree and the next ones have the same least one -/
def agr (lo nx ou : Nat → Nat) (k a b : Nat) : Prop := lo a = lo b ∧ ∀ i, i < k → ou (a * 4 + i) = ou (b * 4 + i) ∧ lo (nx (a * 4 + i)) = lo (nx (b * 4 + i))
theorem agr.rf {lo nx ou : Nat → Nat} {k a : Nat} : agr lo nx ou k a a := ⟨rfl, fun _ _ => ⟨rfl, rfl⟩⟩
theorem agr.sym {lo nx ou : Nat → Nat} {k a b : Nat} (h : agr lo nx ou k a b) : agr lo nx ou k b a := ⟨h.1.symm, fun i hi => ⟨(h.2 i hi).1.symm, (h.2 i hi).2.symm⟩⟩
theorem agr.tr {lo nx ou : Nat → Nat} {k a b c : Nat} (h : agr lo nx ou k a b) (h2 : agr lo nx ou k b c) : agr lo nx ou k a c := ⟨h.1.trans h2.1, fun i hi => ⟨(h.2 i hi).1.trans (h2.2 i hi).1, (h.2 i hi).2.trans (h2.2 i hi).2⟩⟩
/-- z is the least one up to s that agrees with s -/
def lag (lo nx ou : Nat → Nat) (k s z : Nat) : Prop := z ≤ s ∧ agr lo nx ou k z s ∧ ∀ o, o < z → ¬ agr lo nx ou k o s
theorem lag.uniq {lo nx ou : Nat → Nat} {k s y z : Nat} (h : lag lo nx ou k s y) (h2 : lag lo nx ou k s z) : y = z := by
  rcases Nat.lt_trichotomy y z with e | e | e
  · exact absurd h.2.1 (h2.2.2 y e)
  · exact e
  · exact absurd h2.2.1 (h.2.2 z e)
/-- what is known of a machine's arrows: next ones are states, outputs below 10 -/
def okA (nx ou : Nat → Nat) (n k : Nat) : Prop := 1 ≤ n ∧ n ≤ 40 ∧ 1 ≤ k ∧ k ≤ 4 ∧ ∀ s i, s < n → i < k → nx (s * 4 + i) < n ∧ ou (s * 4 + i) < 10
/-- ones among the first bits -/
def pcn (S : Nat) : Nat → Nat
  | 0 => 0
  | k + 1 => pcn S k + S / 2 ^ k % 2
