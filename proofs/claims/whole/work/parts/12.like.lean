/-! ===== which states are like: the largest relation that the steps keep ===== -/
def bisim (nx ou : Nat → Nat) (k : Nat) (R : Nat → Nat → Prop) : Prop := ∀ a b, R a b → ∀ i, i < k → ou (a * 4 + i) = ou (b * 4 + i) ∧ R (nx (a * 4 + i)) (nx (b * 4 + i))
def Bis (nx ou : Nat → Nat) (k a b : Nat) : Prop := ∃ R : Nat → Nat → Prop, bisim nx ou k R ∧ R a b
theorem Bis.step {nx ou : Nat → Nat} {k a b : Nat} (h : Bis nx ou k a b) {i : Nat} (hi : i < k) : ou (a * 4 + i) = ou (b * 4 + i) ∧ Bis nx ou k (nx (a * 4 + i)) (nx (b * 4 + i)) := by
  obtain ⟨R, hR, hab⟩ := h
  exact ⟨(hR a b hab i hi).1, R, hR, (hR a b hab i hi).2⟩
theorem Bis.rf {nx ou : Nat → Nat} {k a : Nat} : Bis nx ou k a a := ⟨fun x y => x = y, fun x y h i _ => by subst h; exact ⟨rfl, rfl⟩, rfl⟩
theorem Bis.sym {nx ou : Nat → Nat} {k a b : Nat} (h : Bis nx ou k a b) : Bis nx ou k b a := by
  obtain ⟨R, hR, hab⟩ := h
  exact ⟨fun x y => R y x, fun x y q i hi => ⟨(hR y x q i hi).1.symm, (hR y x q i hi).2⟩, hab⟩
theorem Bis.tr {nx ou : Nat → Nat} {k a b c : Nat} (h : Bis nx ou k a b) (h2 : Bis nx ou k b c) : Bis nx ou k a c := by
  obtain ⟨R, hR, hab⟩ := h
  obtain ⟨S, hS, hbc⟩ := h2
  exact ⟨fun x z => ∃ y, R x y ∧ S y z, fun x z ⟨y, q1, q2⟩ i hi => ⟨(hR x y q1 i hi).1.trans (hS y z q2 i hi).1, _, (hR x y q1 i hi).2, (hS y z q2 i hi).2⟩, b, hab, hbc⟩
/-- lo s is the least state that is like s -/
def Lk (nx ou : Nat → Nat) (n k : Nat) (lo : Nat → Nat) : Prop := ∀ s, s < n → lo s ≤ s ∧ Bis nx ou k (lo s) s ∧ ∀ t, t < n → Bis nx ou k t s → lo s ≤ t
theorem Lk.ker {nx ou lo : Nat → Nat} {n k a b : Nat} (h : Lk nx ou n k lo) (ha : a < n) (hb : b < n) : lo a = lo b ↔ Bis nx ou k a b := by
  obtain ⟨h1, h2, h3⟩ := h a ha
  obtain ⟨g1, g2, g3⟩ := h b hb
  refine ⟨fun e => ?_, fun e => ?_⟩
  · rw [e] at h2; exact h2.sym.tr g2
  · have := h3 (lo b) (by omega) (g2.tr e.sym)
    have := g3 (lo a) (by omega) (h2.tr e)
    omega
theorem Lk.uniq {nx ou lo lo' : Nat → Nat} {n k : Nat} (h : Lk nx ou n k lo) (h' : Lk nx ou n k lo') {s : Nat} (hs : s < n) : lo s = lo' s := by
  obtain ⟨h1, h2, h3⟩ := h s hs
  obtain ⟨g1, g2, g3⟩ := h' s hs
  have := h3 (lo' s) (by omega) g2
  have := g3 (lo s) (by omega) h2
  omega
/-- what holds at each round -/
def Lr (nx ou : Nat → Nat) (n k : Nat) (lo : Nat → Nat) : Prop := (∀ s, s < n → lo s ≤ s ∧ lo (lo s) = lo s) ∧ (∀ s t, s < n → t < n → lo t = lo s → lo s ≤ t) ∧ ∀ a b, a < n → b < n → Bis nx ou k a b → lo a = lo b
theorem Lr.start {nx ou lo : Nat → Nat} {n k : Nat} (h : ∀ s, s < n → lo s = 0) : Lr nx ou n k lo := by
  refine ⟨fun s hs => ?_, fun s t hs _ _ => ?_, fun a b ha hb _ => ?_⟩
  · rw [h s hs]; exact ⟨Nat.zero_le _, h 0 (by omega)⟩
  · rw [h s hs]; exact Nat.zero_le _
  · rw [h a ha, h b hb]
theorem lag_ker {lo lo' nx ou : Nat → Nat} {n k : Nat} (h : ∀ s, s < n → lag lo nx ou k s (lo' s)) {a b : Nat} (ha : a < n) (hb : b < n) : lo' a = lo' b ↔ agr lo nx ou k a b := by
  have h1 := h a ha
  have h2 := h b hb
  refine ⟨fun e => ?_, fun e => ?_⟩
  · have q := h1.2.1
    rw [e] at q
    exact q.sym.tr h2.2.1
  · rcases Nat.lt_trichotomy (lo' a) (lo' b) with c | c | c
    · exact absurd (h1.2.1.tr e) (h2.2.2 _ c)
    · exact c
    · exact absurd (h2.2.1.tr e.sym) (h1.2.2 _ c)
theorem Lr.next {nx ou lo lo' : Nat → Nat} {n k : Nat} (hA : okA nx ou n k) (hL : Lr nx ou n k lo) (h : ∀ s, s < n → lag lo nx ou k s (lo' s)) : Lr nx ou n k lo' := by
  refine ⟨fun s hs => ⟨(h s hs).1, ?_⟩, fun s t hs ht e => ?_, fun a b ha hb e => ?_⟩
  · have q := h s hs
    exact (lag_ker h (by have := q.1; omega) hs).mpr q.2.1
  · have q := (lag_ker h ht hs).mp e
    rcases Nat.lt_or_ge t (lo' s) with c | c
    · exact absurd q ((h s hs).2.2 t c)
    · exact c
  · refine (lag_ker h ha hb).mpr ⟨hL.2.2 a b ha hb e, fun i hi => ⟨(e.step hi).1, hL.2.2 _ _ (hA.2.2.2.2 a i ha hi).1 (hA.2.2.2.2 b i hb hi).1 (e.step hi).2⟩⟩
theorem cn_lt {lo lo' : Nat → Nat} : ∀ {n : Nat}, (∀ s, s < n → lo s = s → lo' s = s) → (∃ t, t < n ∧ lo' t = t ∧ lo t ≠ t) → cn lo n < cn lo' n
  | 0, _, h => by obtain ⟨t, ht, _⟩ := h; omega
  | n + 1, h1, ⟨t, ht, h2, h3⟩ => by
    have mono : ∀ m, m ≤ n + 1 → cn lo m ≤ cn lo' m := by
      intro m
      induction m with
      | zero => intro _; exact Nat.le_refl _
      | succ m ih =>
        intro hm
        have q := ih (by omega)
        simp only [cn]
        by_cases e : lo m = m
        · rw [if_pos e, if_pos (h1 m (by omega) e)]; omega
        · rw [if_neg e]; split <;> omega
    have hn := mono n (by omega)
    simp only [cn]
    rcases Nat.lt_succ_iff_lt_or_eq.mp ht with c | c
    · have q := cn_lt (n := n) (fun s hs => h1 s (by omega)) ⟨t, c, h2, h3⟩
      by_cases e : lo n = n
      · rw [if_pos e, if_pos (h1 n (by omega) e)]; omega
      · rw [if_neg e]; split <;> omega
    · subst c
      rw [if_neg h3, if_pos h2]; omega
theorem Lr.grows {nx ou lo lo' : Nat → Nat} {n k : Nat} (hL : Lr nx ou n k lo) (h : ∀ s, s < n → lag lo nx ou k s (lo' s)) (hx : ∃ s, s < n ∧ lo' s ≠ lo s) : cn lo n < cn lo' n := by
  refine cn_lt (fun s hs e => ?_) ?_
  · have q := h s hs
    have h1 := q.1
    have h2 := hL.2.1 s (lo' s) hs (by omega) q.2.1.1
    omega
  · obtain ⟨s, hs, hne⟩ := hx
    have q := h s hs
    have h1 := q.1
    refine ⟨lo' s, by omega, (lag_ker h (by omega) hs).mpr q.2.1, fun e => hne ?_⟩
    have := q.2.1.1
    omega
theorem Lr.done {nx ou lo lo' : Nat → Nat} {n k : Nat} (hA : okA nx ou n k) (hL : Lr nx ou n k lo) (h : ∀ s, s < n → lag lo nx ou k s (lo' s)) (hx : ∀ s, s < n → lo' s = lo s) : Lk nx ou n k lo' := by
  have hb : ∀ a b, a < n → b < n → lo a = lo b → Bis nx ou k a b := by
    intro a b ha hb e
    refine ⟨fun x y => x < n ∧ y < n ∧ lo x = lo y, fun x y ⟨h1, h2, h3⟩ i hi => ?_, ha, hb, e⟩
    have q := (lag_ker h h1 h2).mp (by rw [hx x h1, hx y h2]; exact h3)
    exact ⟨(q.2 i hi).1, (hA.2.2.2.2 x i h1 hi).1, (hA.2.2.2.2 y i h2 hi).1, (q.2 i hi).2⟩
  have hL' := hL.next hA h
  intro s hs
  refine ⟨(hL'.1 s hs).1, ?_, fun t ht e => ?_⟩
  · have h1 := (hL'.1 s hs).1
    refine hb _ _ (by omega) hs ?_
    have h2 := (hL'.1 s hs).2
    rw [hx _ (by omega), hx s hs] at h2
    rw [hx s hs]
    exact h2
  · exact hL'.2.1 s t hs ht (hL'.2.2 t s ht hs e)
theorem fil_nI (g : Nat → Nat) (a b v : Nat) : fil (fun k => nI (g k)) a b (nI v) = fun k => nI (if a ≤ k ∧ k < b then v else g k) := by
  funext j
  simp only [fil]
  split <;> rfl
