/-! ===== families of sets ===== -/
/-- a lies in b -/
def inn (a b : Nat) : Bool := decide (a &&& b = a)
theorem bv_in (A B : BitVec 32) : A &&& (B ^^^ BitVec.allOnes 32) = 0#32 ↔ A &&& B = A := by
  constructor
  · intro h
    apply BitVec.eq_of_getLsbD_eq
    intro i hi
    have q := congrArg (fun z => BitVec.getLsbD z i) h
    simp only [BitVec.getLsbD_and, BitVec.getLsbD_xor, BitVec.getLsbD_allOnes, BitVec.getLsbD_zero, hi, decide_true] at q
    rw [BitVec.getLsbD_and]
    cases ha : A.getLsbD i <;> cases hb : B.getLsbD i <;> simp [ha, hb] at q ⊢
  · intro h
    apply BitVec.eq_of_getLsbD_eq
    intro i hi
    have q := congrArg (fun z => BitVec.getLsbD z i) h
    simp only [BitVec.getLsbD_and, BitVec.getLsbD_xor, BitVec.getLsbD_allOnes, BitVec.getLsbD_zero, hi, decide_true] at q ⊢
    cases ha : A.getLsbD i <;> cases hb : B.getLsbD i <;> simp [ha, hb] at q ⊢
theorem inn_iff {a b : Nat} (ha : a < 4096) (hb : b < 4096) : nI a &&& (nI b ^^^ (-1)) = 0 ↔ inn a b = true := by
  have e1 : (nI a &&& (nI b ^^^ (-1))).toBitVec = (nI a).toBitVec &&& ((nI b).toBitVec ^^^ BitVec.allOnes 32) := rfl
  have e2 : (nI a).toBitVec.toNat = a := pk_tn (by omega)
  have e3 : (nI b).toBitVec.toNat = b := pk_tn (by omega)
  have h1 : nI a &&& (nI b ^^^ (-1)) = 0 ↔ (nI a).toBitVec &&& ((nI b).toBitVec ^^^ BitVec.allOnes 32) = 0#32 := by
    rw [← e1]
    exact ⟨fun h => by rw [h]; rfl, fun h => Int32.toBitVec_inj.mp (by rw [h]; rfl)⟩
  rw [h1, bv_in]
  simp only [inn, decide_eq_true_eq]
  constructor
  · intro h
    have := congrArg BitVec.toNat h
    rw [BitVec.toNat_and, e2, e3] at this
    exact this
  · intro h
    apply BitVec.eq_of_toNat_eq
    rw [BitVec.toNat_and, e2, e3]
    exact h
/-- where a set is put in, from behind -/
def ip (g : Nat → Nat) (s : Nat) : Nat → Nat
  | 0 => 0
  | m + 1 => if s < g m then ip g s m else m + 1
theorem ip_le (g : Nat → Nat) (s : Nat) : ∀ m, ip g s m ≤ m
  | 0 => Nat.le_refl _
  | m + 1 => by
    simp only [ip]
    split
    · exact Nat.le_trans (ip_le g s m) (Nat.le_succ _)
    · exact Nat.le_refl _
def insr (s : Nat) (l : List Nat) : List Nat := l.take (ip (fun i => l.getD i 0) s l.length) ++ s :: l.drop (ip (fun i => l.getD i 0) s l.length)
def fput (l : List Nat) (s : Nat) : List Nat := if l.any (fun o => inn s o) then l else insr s (l.filter (fun o => !inn o s))
/-- the bits of the least ones behind the states of S with output o, below s -/
def mo (S : Nat) (og g : Nat → Nat) (o : Nat) : Nat → Nat
  | 0 => 0
  | s + 1 => if S / 2 ^ s % 2 = 1 ∧ og s = o then mo S og g o s ||| 2 ^ g s else mo S og g o s
theorem mo_lt {S o n : Nat} {og g : Nat → Nat} (h : ∀ s, s < n → g s < 12) : ∀ s, s ≤ n → mo S og g o s < 2 ^ 12
  | 0, _ => by simp [mo]
  | s + 1, hs => by
    have h1 := mo_lt (S := S) (o := o) (og := og) h s (by omega)
    simp only [mo]
    split
    · exact Nat.or_lt_two_pow h1 (Nat.pow_lt_pow_right (by decide) (h s (by omega)))
    · exact h1
theorem mo_congr {S o n : Nat} {og g og' g' : Nat → Nat} (h : ∀ s, s < n → g s = g' s ∧ og s = og' s) : ∀ s, s ≤ n → mo S og g o s = mo S og' g' o s
  | 0, _ => rfl
  | s + 1, hs => by simp only [mo]; rw [mo_congr h s (by omega), (h s (by omega)).1, (h s (by omega)).2]
def fpart (S : Nat) (og g : Nat → Nat) (n : Nat) (l : List Nat) : Nat → List Nat
  | 0 => l
  | o + 1 => if mo S og g o n = 0 then fpart S og g n l o else fput (fpart S og g n l o) (mo S og g o n)
def ffol (og g : Nat → Nat) (n : Nat) (sets : List Nat) : Nat → List Nat
  | 0 => []
  | i + 1 => fpart (sets.getD i 0) og g n (ffol og g n sets i) 10
/-- how many states the sets have in all -/
def fsum (l : List Nat) : Nat := (l.map (fun s => pcn s 12)).sum
theorem pcn_bit (S k : Nat) : S / 2 ^ k % 2 = (S.testBit k).toNat := by
  rw [Nat.testBit_eq_decide_div_mod_eq]
  rcases Nat.mod_two_eq_zero_or_one (S / 2 ^ k) with h | h <;> simp [h]
theorem pcn_or (x j : Nat) : ∀ m, pcn (x ||| 2 ^ j) m ≤ pcn x m + (if j < m then 1 else 0)
  | 0 => by simp [pcn]
  | m + 1 => by
    have ih := pcn_or x j m
    simp only [pcn, pcn_bit, Nat.testBit_or, Nat.testBit_two_pow]
    by_cases e : j = m
    · subst e
      rw [if_neg (by omega)] at ih
      rw [if_pos (by omega)]
      simp only [decide_true, Bool.or_true, Bool.toNat_true]
      omega
    · simp only [e, decide_false, Bool.or_false]
      by_cases c : j < m
      · rw [if_pos c] at ih; rw [if_pos (by omega)]; omega
      · rw [if_neg c] at ih; rw [if_neg (by omega)]; omega
theorem pcn_pos {S : Nat} : ∀ m, 0 < S → S < 2 ^ m → 0 < pcn S m
  | 0, h, h2 => by simp at h2; omega
  | m + 1, h, h2 => by
    simp only [pcn]
    by_cases c : S < 2 ^ m
    · have := pcn_pos m h c; omega
    · have e : S / 2 ^ m = 1 := by
        have h3 : 0 < 2 ^ m := Nat.two_pow_pos m
        have h4 : 2 ^ (m + 1) = 2 ^ m * 2 := Nat.pow_succ 2 m
        have h5 : S / 2 ^ m < 2 := Nat.div_lt_of_lt_mul (by omega)
        have h6 : 1 ≤ S / 2 ^ m := (Nat.le_div_iff_mul_le h3).mpr (by omega)
        omega
      rw [e]
      omega
theorem sum_le_of_sub {l : List Nat} {p : Nat → Bool} : fsum (l.filter p) ≤ fsum l := by
  induction l with
  | nil => exact Nat.le_refl _
  | cons a l ih =>
    simp only [fsum, List.filter_cons] at ih ⊢
    split
    · simp only [List.map_cons, List.sum_cons]; omega
    · simp only [List.map_cons, List.sum_cons]; omega
theorem insr_sum (s : Nat) (l : List Nat) : fsum (insr s l) = fsum l + pcn s 12 := by
  unfold insr fsum
  generalize ip (fun i => l.getD i 0) s l.length = p
  have h : ((l.take p).map (fun s => pcn s 12)).sum + ((l.drop p).map (fun s => pcn s 12)).sum = (l.map (fun s => pcn s 12)).sum := by
    rw [← List.sum_append, ← List.map_append, List.take_append_drop]
  simp only [List.map_append, List.map_cons, List.sum_append, List.sum_cons]
  omega
theorem fput_sum (l : List Nat) (s : Nat) : fsum (fput l s) ≤ fsum l + pcn s 12 := by
  unfold fput
  split
  · omega
  · rw [insr_sum]
    have := sum_le_of_sub (l := l) (p := fun o => !inn o s)
    omega
/-- the sets are some, none empty, and have at most 12 states in all -/
def fOK (l : List Nat) (m : Nat) : Prop := (∀ s ∈ l, 0 < s ∧ s < 4096) ∧ fsum l ≤ m
theorem fOK.len {l : List Nat} {m : Nat} (h : fOK l m) : l.length ≤ m := by
  refine Nat.le_trans ?_ h.2
  have h1 := h.1
  clear h
  induction l with
  | nil => exact Nat.le_refl _
  | cons a l ih =>
    have q := ih (fun s hs => h1 s (List.mem_cons_of_mem _ hs))
    have p := pcn_pos 12 (h1 a List.mem_cons_self).1 (by simpa using (h1 a List.mem_cons_self).2)
    simp only [fsum, List.map_cons, List.sum_cons, List.length_cons] at q ⊢
    omega
theorem insr_mem {s t : Nat} {l : List Nat} (h : t ∈ insr s l) : t = s ∨ t ∈ l := by
  unfold insr at h
  rcases List.mem_append.mp h with c | c
  · exact Or.inr (List.mem_of_mem_take c)
  · rcases List.mem_cons.mp c with c | c
    · exact Or.inl c
    · exact Or.inr (List.mem_of_mem_drop c)
theorem fput_mem {s t : Nat} {l : List Nat} (h : t ∈ fput l s) : t = s ∨ t ∈ l := by
  unfold fput at h
  split at h
  · exact Or.inr h
  · rcases insr_mem h with c | c
    · exact Or.inl c
    · exact Or.inr (List.mem_filter.mp c).1
theorem fOK.put {l : List Nat} {m s : Nat} (h : fOK l m) (h0 : 0 < s) (h1 : s < 4096) : fOK (fput l s) (m + pcn s 12) := by
  refine ⟨fun t ht => ?_, Nat.le_trans (fput_sum l s) (Nat.add_le_add_right h.2 _)⟩
  rcases fput_mem ht with e | e
  · subst e; exact ⟨h0, h1⟩
  · exact h.1 t e
/-- sums of what goes to each output -/
def mosum (S : Nat) (og g : Nat → Nat) (n : Nat) : Nat → Nat
  | 0 => 0
  | o + 1 => mosum S og g n o + pcn (mo S og g o n) 12
theorem mosum_le {S : Nat} {og g : Nat → Nat} : ∀ (n : Nat), (∀ s, s < n → g s < 12) → ∀ O, mosum S og g n O ≤ pcn S n
  | 0, _, O => by
    have h0 : ∀ o, pcn 0 o = 0 := by intro o; induction o with | zero => rfl | succ o ih => simp [pcn, ih]
    have : mosum S og g 0 O = 0 := by induction O with | zero => rfl | succ O ih => simp [mosum, mo, ih, h0]
    rw [this]
    exact Nat.zero_le _
  | n + 1, h, O => by
    have ih := mosum_le (S := S) (og := og) n (fun s hs => h s (by omega)) O
    simp only [pcn]
    by_cases hb : S / 2 ^ n % 2 = 1
    · rw [hb]
      have key : ∀ O, mosum S og g (n + 1) O ≤ mosum S og g n O + (if og n < O then 1 else 0) := by
        intro O
        induction O with
        | zero => simp [mosum]
        | succ O ih2 =>
          simp only [mosum]
          by_cases e : og n = O
          · have e1 : mo S og g O (n + 1) = mo S og g O n ||| 2 ^ g n := if_pos ⟨hb, e⟩
            rw [e1, if_pos (by omega)]
            rw [if_neg (by omega)] at ih2
            have := pcn_or (mo S og g O n) (g n) 12
            rw [if_pos (h n (by omega))] at this
            omega
          · have e1 : mo S og g O (n + 1) = mo S og g O n := if_neg (fun q => e q.2)
            rw [e1]
            by_cases c : og n < O
            · rw [if_pos c] at ih2; rw [if_pos (by omega)]; omega
            · rw [if_neg c] at ih2; rw [if_neg (by omega)]; omega
      have := key O
      split at this <;> omega
    · have e1 : ∀ o, mo S og g o (n + 1) = mo S og g o n := fun o => if_neg (fun q => hb q.1)
      have e2 : mosum S og g (n + 1) O = mosum S og g n O := by
        clear ih
        induction O with
        | zero => rfl
        | succ O ih2 => simp only [mosum]; rw [ih2, e1]
      rw [e2]
      omega
theorem pcn_mono (S : Nat) {a b : Nat} (h : a ≤ b) : pcn S a ≤ pcn S b := by
  induction b with
  | zero => have : a = 0 := by omega
            subst this; exact Nat.le_refl _
  | succ b ih =>
    rcases Nat.lt_or_ge a (b + 1) with c | c
    · have := ih (by omega); simp only [pcn]; omega
    · have : a = b + 1 := by omega
      subst this; exact Nat.le_refl _
theorem fOK.part {S n m : Nat} {og g : Nat → Nat} {l : List Nat} (hl : fOK l m) (h : ∀ s, s < n → g s < 12) : ∀ O, fOK (fpart S og g n l O) (m + mosum S og g n O)
  | 0 => hl
  | O + 1 => by
    have ih := fOK.part (S := S) (og := og) hl h O
    simp only [fpart, mosum]
    split
    · exact ⟨ih.1, Nat.le_trans ih.2 (by omega)⟩
    · rename_i c
      have q := ih.put (s := mo S og g O n) (by omega) (by have := mo_lt (S := S) (o := O) (og := og) h n (Nat.le_refl _); simpa using this)
      rw [Nat.add_assoc] at q
      exact q
/-- the row t of the sets is l -/
def rowAt (ss sz : Nat → Nat) (t : Nat) (l : List Nat) : Prop := sz t = l.length ∧ ∀ i, i < l.length → ss (t * 12 + i) = l.getD i 0
theorem rowAt.get {ss sz : Nat → Nat} {t i : Nat} {l : List Nat} (h : rowAt ss sz t l) (hi : i < l.length) : ss (t * 12 + i) = l.getD i 0 := h.2 i hi
theorem rowAt.lt {ss sz : Nat → Nat} {t i : Nat} {l : List Nat} {m : Nat} (h : rowAt ss sz t l) (ho : fOK l m) (hi : i < l.length) : 0 < ss (t * 12 + i) ∧ ss (t * 12 + i) < 4096 := by
  rw [h.2 i hi]
  have : l.getD i 0 = l[i] := by simp [hi]
  rw [this]
  exact ho.1 _ (List.getElem_mem hi)
theorem getD_mem {l : List Nat} {i : Nat} (hi : i < l.length) : l.getD i 0 ∈ l := by
  have : l.getD i 0 = l[i] := by simp [hi]
  rw [this]
  exact List.getElem_mem hi
theorem any_false {l : List Nat} {p : Nat → Bool} (h : ∀ j, j < l.length → p (l.getD j 0) = false) : l.any p = false := by
  rw [List.any_eq_false]
  intro x hx
  obtain ⟨i, hi, rfl⟩ := List.mem_iff_getElem.mp hx
  have q := h i hi
  have : l.getD i 0 = l[i] := by simp [hi]
  rw [this] at q
  simp [q]
theorem any_true {l : List Nat} {p : Nat → Bool} {i : Nat} (hi : i < l.length) (h : p (l.getD i 0) = true) : l.any p = true := List.any_eq_true.mpr ⟨_, getD_mem hi, h⟩
theorem take_s {l : List Nat} {i : Nat} (hi : i < l.length) : l.take (i + 1) = l.take i ++ [l.getD i 0] := by
  have : l.getD i 0 = l[i] := by simp [hi]
  rw [this]
  exact (List.take_append_getElem hi).symm
theorem getD_app1 {l r : List Nat} {j : Nat} (h : j < l.length) : (l ++ r).getD j 0 = l.getD j 0 := by
  simp [List.getElem?_append, h]
theorem insr_len (s : Nat) (l : List Nat) : (insr s l).length = l.length + 1 := by
  unfold insr
  have := ip_le (fun i => l.getD i 0) s l.length
  simp only [List.length_append, List.length_take, List.length_cons, List.length_drop]
  omega
theorem insr_lo {s j : Nat} {l : List Nat} (h : j < ip (fun i => l.getD i 0) s l.length) : (insr s l).getD j 0 = l.getD j 0 := by
  unfold insr
  have := ip_le (fun i => l.getD i 0) s l.length
  rw [getD_app1 (by rw [List.length_take]; omega)]
  rw [List.getD_eq_getElem?_getD, List.getElem?_take, if_pos h, ← List.getD_eq_getElem?_getD]
theorem insr_at {s : Nat} {l : List Nat} : (insr s l).getD (ip (fun i => l.getD i 0) s l.length) 0 = s := by
  have := ip_le (fun i => l.getD i 0) s l.length
  have e : (l.take (ip (fun i => l.getD i 0) s l.length)).length = ip (fun i => l.getD i 0) s l.length := by rw [List.length_take]; omega
  unfold insr
  generalize ip (fun i => l.getD i 0) s l.length = p at e ⊢
  have q := getD_mid (l := l.take p) (r := l.drop p) (b := s)
  rw [e] at q
  exact q
theorem insr_hi {s j : Nat} {l : List Nat} (h : ip (fun i => l.getD i 0) s l.length < j) (hj : j ≤ l.length) : (insr s l).getD j 0 = l.getD (j - 1) 0 := by
  have := ip_le (fun i => l.getD i 0) s l.length
  have e : (l.take (ip (fun i => l.getD i 0) s l.length)).length = ip (fun i => l.getD i 0) s l.length := by rw [List.length_take]; omega
  unfold insr
  generalize ip (fun i => l.getD i 0) s l.length = p at e h ⊢
  obtain ⟨d, rfl⟩ : ∃ d, j = p + 1 + d := ⟨j - p - 1, by omega⟩
  rw [List.getD_eq_getElem?_getD, List.getD_eq_getElem?_getD, List.getElem?_append_right (by omega), e]
  rw [show p + 1 + d - p = d + 1 by omega, List.getElem?_cons_succ, List.getElem?_drop]
  rw [show p + 1 + d - 1 = p + d by omega]
