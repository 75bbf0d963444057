theorem ChOK.cg {P : Nat → Prop} {nxt nxt' : Nat → Nat → Nat} {K D : Nat} {q : Qu} {bad bad' : Nat → Nat → Prop} (h : cgr P nxt nxt' K D q) (hb : ∀ p i, P p → i < K → (bad p i ↔ bad' p i)) (hc : ChOK nxt bad K q) : ChOK nxt' bad' K q := by
  obtain ⟨N, hN, hg, hl⟩ := hc
  refine ⟨N, cgr_end h hN, fun a ha i hi hz => hg a ha i hi ?_, by rw [← cgr_b h hN.2]; exact hl⟩
  rw [← cgr_b h (fun c hc => hN.2 c (by omega))] at hz
  exact (hb _ i (cgr_p h (fun b hb => hN.2 b (by omega))) hi).mpr hz
theorem cgr_sym {P : Nat → Prop} {nxt nxt' : Nat → Nat → Nat} {K D : Nat} {q : Qu} (h : cgr P nxt nxt' K D q) : cgr P nxt' nxt K D q := ⟨h.1, h.2.1, h.2.2.1, h.2.2.2.1, fun p i hp hi => by rw [← h.2.2.2.2.2 p i hp hi]; exact h.2.2.2.2.1 p i hp hi, fun p i hp hi => (h.2.2.2.2.2 p i hp hi).symm⟩
section DET2
variable {σ τ σ' τ' : SG}
theorem det_chain (hR : Rel σ τ) (h1 : okG σ) {p q : Int32} {v v' : Option Int32} (a : rChain σ p q v σ') (b : rChain τ p q v' τ') : v = v' ∧ Rel σ' τ' := by
  have e := hR.1.1
  rcases a with ⟨a1, rfl, ra⟩ | ⟨m, m2, a1, a2, a3, a4⟩
  · rcases b with ⟨b1, rfl, rb⟩ | ⟨m', n', b1, b2, b3, -⟩
    · exact ⟨rfl, ra.sym.tr (hR.tr rb)⟩
    · rw [← e] at b1 b2 b3
      rcases a1 with z | z | z
      · rw [z] at b1; cases b1
      · rw [z] at b2; cases b2
      · omega
  · have hm := ix_lt a1
    have hm2 := ix_lt a2
    obtain ⟨g1, g2, hA, he⟩ := rel_at hR h1 hm
    obtain ⟨k1, k2, hB, hf⟩ := rel_at hR h1 hm2
    rcases b with ⟨b1, rfl, rb⟩ | ⟨m', n', b1, b2, b3, b4⟩
    · rw [← e] at b1
      rcases b1 with z | z | z
      · rw [z] at a1; cases a1
      · rw [z] at a2; cases a2
      · omega
    · rw [← e] at b1 b2
      cases a1.symm.trans b1
      cases a2.symm.trans b2
      obtain ⟨cg, cb⟩ := cg_c hA he hB hf
      have cb' : ∀ p i, wP (gn σ m) (gn σ m2) p → i < gk σ m → (cBad (go τ m) (gk σ m2) p i ↔ cBad (go σ m) (gk σ m2) p i) := fun p i hp hi => (cb p i hp hi).symm
      have iff : ChOK (cNx (gx σ m) (go σ m) (gx σ m2) (gk σ m2)) (cBad (go σ m) (gk σ m2)) (gk σ m) [(0, 0, 0)] ↔ ChOK (cNx (gx τ m) (go τ m) (gx τ m2) (gk τ m2)) (cBad (go τ m) (gk τ m2)) (gk τ m) [(0, 0, 0)] := by
        rw [← g2, ← k2]
        exact ⟨fun z => z.cg cg cb, fun z => z.cg (cgr_sym cg) cb'⟩
      rcases a4 with ⟨na, rfl, ra⟩ | ⟨N, x, o, c1, c2, c3, rfl, pa, fa⟩
      · rcases b4 with ⟨nb, rfl, rb⟩ | ⟨N', x', o', d1, d2, d3, rfl, pb, fb⟩
        · exact ⟨rfl, ra.sym.tr (hR.tr rb)⟩
        · exact absurd (iff.mpr ⟨N', d1, d2, by rw [d1.len (Nat.le_refl _)]; exact d3⟩) na
      · rcases b4 with ⟨nb, rfl, rb⟩ | ⟨N', x', o', d1, d2, d3, rfl, pb, fb⟩
        · exact absurd (iff.mp ⟨N, c1, c2, by rw [c1.len (Nat.le_refl _)]; exact c3⟩) nb
        · have d1' := d1
          rw [← g2, ← k2] at d1'
          have eN := (cgr_end cg c1).uniq d1'
          subst eN
          have er : cRow σ m m2 N = cRow τ m m2 N := by
            show bout (cNx (gx σ m) (go σ m) (gx σ m2) (gk σ m2)) (gk σ m) [(0, 0, 0)] N = bout (cNx (gx τ m) (go τ m) (gx τ m2) (gk τ m2)) (gk τ m) [(0, 0, 0)] N
            rw [← g2, ← k2]
            exact cgr_b cg c1.2
          have hok := bout_ok cg.1 cg.2.1 cg.2.2.1 cg.2.2.2.1 cg.2.2.2.2.1 N c1.2
          have hlen : (cRow σ m m2 N).length = N := c1.len (Nat.le_refl _)
          have pb2 := pb.inv hR
          rw [← g2] at pb2
          refine ⟨by rw [e], pa.det pb2 (fun s i hs hi => ?_)⟩
          have f1 := fa s i hs hi
          have f2 := fb s i hs (by rw [← g2]; exact hi)
          rw [← er] at f2
          have hsL : s < (cRow σ m m2 N).length := by omega
          have hp : wP (gn σ m) (gn σ m2) (qP (cRow σ m m2 N) s) := hok.2 _ (qP_mem hsL)
          have hx := he _ i hp.1 hi
          have hng : go σ m (qP (cRow σ m m2 N) s / 40 * 4 + i) < gk σ m2 := by
            have e7 : qP (cRow σ m m2 s) s = qP (cRow σ m m2 N) s := (((bout_sub (cNx (gx σ m) (go σ m) (gx σ m2) (gk σ m2)) (gk σ m) [(0, 0, 0)] (a := s) (b := N) (by omega)).2 s (c1.2 s hs)).1).symm
            have h7 := c2 s hs i hi
            rw [e7] at h7
            exact Nat.lt_of_not_le h7
          have hy := hf _ _ hp.2 hng
          have hcx := cg.2.2.2.2.2 _ i hp hi
          rw [← k2, ← hcx, ← hx.2, ← hy.2] at f2
          exact ⟨qP_inj hok.1.1 (by show x (s * 4 + i) < (cRow σ m m2 N).length; omega) (by show x' (s * 4 + i) < (cRow σ m m2 N).length; omega) (f1.2.1.trans f2.2.1.symm), by rw [f1.2.2, f2.2.2]⟩
theorem det_letter (hR : Rel σ τ) (p : Int32) : sLetter σ p = sLetter τ p := by
  unfold sLetter
  rw [hR.2.1]
  cases e : ix p (gl τ) with
  | none => rfl
  | some j =>
    simp only
    rw [hR.2.2 j (by rw [hR.2.1]; exact ix_lt e)]
theorem det_total (hR : Rel σ τ) (p : Int32) : sTotal σ p = sTotal τ p := by
  unfold sTotal
  rw [hR.1.1, hR.2.1]
  split
  · rfl
  split
  · rfl
  split
  · cases e : ix (p - 200) (gc τ) with
    | none => rfl
    | some m => simp only; rw [(hR.1.2 m (by rw [hR.1.1]; exact ix_lt e)).2.1]
  · cases e : ix (p - 100) (gc τ) with
    | none => rfl
    | some m => simp only; rw [(hR.1.2 m (by rw [hR.1.1]; exact ix_lt e)).1]
theorem aWalk_two (hR : Rel σ τ) (h1 : okG σ) {m s : Nat} (hm : m < gc σ) (hs : s < gn σ m) : ∀ j, j ≤ gl σ → aWalk σ m s j = aWalk τ m s j ∧ ∀ a, aWalk σ m s j = some a → a < gn σ m
  | 0, _ => ⟨rfl, fun a h => by cases h; exact hs⟩
  | j + 1, hj => by
    obtain ⟨i1, i2⟩ := aWalk_two hR h1 hm hs j (by omega)
    obtain ⟨g1, g2, hA, he⟩ := rel_at hR h1 hm
    have ed := hR.2.2 j (by omega)
    simp only [aWalk]
    rw [← i1]
    cases e : aWalk σ m s j with
    | none => exact ⟨rfl, fun a h => by cases h⟩
    | some a =>
      have ha := i2 a e
      simp only
      rw [← ed, ← g2]
      by_cases c : gd σ j < gk σ m
      · rw [if_pos c, if_pos c, (he a _ ha c).1]
        refine ⟨rfl, fun b hb => ?_⟩
        cases hb
        rw [← (he a _ ha c).1]
        exact (hA.2.2.2.2 a _ ha c).1
      · rw [if_neg c, if_neg c]
        exact ⟨rfl, fun b hb => by cases hb⟩
theorem det_along (hR : Rel σ τ) (h1 : okG σ) (p q : Int32) : sAlong σ p q = sAlong τ p q := by
  unfold sAlong
  rw [hR.1.1]
  cases e1 : ix p (gc τ) with
  | none => rfl
  | some m =>
    have hm : m < gc σ := by rw [hR.1.1]; exact ix_lt e1
    have d1 := (hR.1.2 m hm).1
    simp only
    rw [d1]
    cases e2 : ix q (gn τ m) with
    | none => rfl
    | some s =>
      simp only
      rw [(aWalk_two hR h1 hm (by rw [d1]; exact ix_lt e2) (gl σ) (Nat.le_refl _)).1, hR.2.1]
end DET2
