/-! ===== one picture, one answer ===== -/
theorem nI_inj {a b : Nat} (ha : a < 2 ^ 31) (hb : b < 2 ^ 31) (h : nI a = nI b) : a = b := by
  have := congrArg Int32.toInt h
  rw [nI_toInt ha, nI_toInt hb] at this
  omega
section DET
variable {σ τ σ' τ' : SG} (hR : Rel σ τ) (h1 : okG σ) (h2 : okG τ)
theorem det_machine (hR : Rel σ τ) {p q v v' : Int32} (a : rMachine σ p q v σ') (b : rMachine τ p q v' τ') : v = v' ∧ Rel σ' τ' := by
  have e := hR.1.1
  rcases a with ⟨a1, a2, e1, e2, l1, l2, l3, l4, l5, rfl, pl⟩ | ⟨na, rfl, ra⟩
  · rcases b with ⟨b1, b2, d1, d2, k1, k2, k3, k4, k5, rfl, pm⟩ | ⟨nb, -, -⟩
    · have w1 := nI_inj (by omega) (by omega) (e1.symm.trans d1)
      have w2 := nI_inj (by omega) (by omega) (e2.symm.trans d2)
      subst w1
      subst w2
      exact ⟨by rw [e], pl.det (pm.inv hR) (fun _ _ _ _ => ⟨rfl, rfl⟩)⟩
    · exact absurd ⟨a1, a2, e1, e2, l1, l2, l3, l4, by rw [← e]; exact l5⟩ nb
  · rcases b with ⟨b1, b2, d1, d2, k1, k2, k3, k4, k5, rfl, pm⟩ | ⟨nb, rfl, rb⟩
    · exact absurd ⟨b1, b2, d1, d2, k1, k2, k3, k4, by rw [e]; exact k5⟩ na
    · exact ⟨rfl, ra.sym.tr (hR.tr rb)⟩
theorem isArr_inv (hR : Rel σ τ) {p q r t o : Int32} {m s i a b : Nat} (h : isArr τ p q r t o m s i a b) : isArr σ p q r t o m s i a b := by
  obtain ⟨e1, e2, e3, e4, e5⟩ := h
  have e := hR.1.1
  rw [← e] at e1
  obtain ⟨d1, d2, -⟩ := hR.1.2 m (ix_lt e1)
  exact ⟨e1, by rw [d1]; exact e2, by rw [d2]; exact e3, by rw [d1]; exact e4, e5⟩
theorem det_arrow (hR : Rel σ τ) {p q r t o v v' : Int32} (a : rArrow σ p q r t o v σ') (b : rArrow τ p q r t o v' τ') : v = v' ∧ Rel σ' τ' := by
  have e := hR.1.1
  rcases a with ⟨m, s, i, x, y, g, rfl, c1, c2, c3, c4⟩ | ⟨na, rfl, ra⟩
  · rcases b with ⟨m', s', i', x', y', g', rfl, d1, d2, d3, d4⟩ | ⟨nb, -, -⟩
    · obtain ⟨q1, q2, q3, q4, q5⟩ := g
      obtain ⟨r1, r2, r3, r4, r5⟩ := isArr_inv hR g'
      cases q1.symm.trans r1
      cases q2.symm.trans r2
      cases q3.symm.trans r3
      cases q4.symm.trans r4
      cases q5.symm.trans r5
      refine ⟨rfl, ⟨by rw [c1, d1, e], fun j hj => ?_⟩, c2.sym.tr (hR.2.tr d2)⟩
      rw [c1] at hj
      by_cases ej : j = m
      · subst ej
        obtain ⟨w1, w2, w3⟩ := hR.1.2 j hj
        refine c4.sym.tr (relM.tr ⟨w1, w2, fun s9 i9 hs hi => ?_⟩ d4)
        have w4 := w3 s9 i9 hs hi
        by_cases ez : s9 * 4 + i9 = s * 4 + i
        · rw [ez, va_up_self, va_up_self, va_up_self, va_up_self]; exact ⟨rfl, rfl⟩
        · rw [va_up_ne _ _ ez, va_up_ne _ _ ez, va_up_ne _ _ ez, va_up_ne _ _ ez]; exact w4
      · exact (c3 j hj ej).sym.tr ((hR.1.2 j hj).tr (d3 j (by rw [← e]; exact hj) ej))
    · exact absurd ⟨m, s, i, x, y, isArr_inv hR.sym g⟩ nb
  · rcases b with ⟨m', s', i', x', y', g', -⟩ | ⟨nb, rfl, rb⟩
    · exact absurd ⟨m', s', i', x', y', isArr_inv hR g'⟩ na
    · exact ⟨rfl, ra.sym.tr (hR.tr rb)⟩
theorem det_look (hR : Rel σ τ) (p q r t : Int32) : sLook σ p q r t = sLook τ p q r t := by
  unfold sLook
  rw [hR.1.1]
  cases e1 : ix p (gc τ) with
  | none => rfl
  | some m =>
    obtain ⟨d1, d2, d3⟩ := hR.1.2 m (by rw [hR.1.1]; exact ix_lt e1)
    simp only
    rw [d1]
    cases e2 : ix q (gn τ m) with
    | none => rfl
    | some s =>
      simp only
      rw [d2]
      cases e3 : ix r (gk τ m) with
      | none => rfl
      | some i =>
        have hs : s < gn σ m := by rw [d1]; exact ix_lt e2
        have hi : i < gk σ m := by rw [d2]; exact ix_lt e3
        simp only
        rw [(d3 s i hs hi).1, (d3 s i hs hi).2]
theorem Lk.two (hR : Rel σ τ) (h1 : okG σ) {m : Nat} (hm : m < gc σ) {lo lo' : Nat → Nat} (a : Lk (gx σ m) (go σ m) (gn σ m) (gk σ m) lo) (b : Lk (gx τ m) (go τ m) (gn τ m) (gk τ m) lo') : ∀ s, s < gn σ m → lo s = lo' s := by
  obtain ⟨e1, e2, hA, he⟩ := rel_at hR h1 hm
  rw [← e1, ← e2] at b
  exact fun s hs => (a.cg hA he).uniq b hs
theorem det_classes (hR : Rel σ τ) (h1 : okG σ) {p v v' : Int32} (a : rClasses σ p v) (b : rClasses τ p v') : v = v' := by
  have e := hR.1.1
  rcases a with ⟨a1, rfl⟩ | ⟨m, lo, a1, a2, rfl⟩
  · rcases b with ⟨b1, rfl⟩ | ⟨m', lo', b1, b2, rfl⟩
    · rfl
    · rw [e, b1] at a1; cases a1
  · rcases b with ⟨b1, rfl⟩ | ⟨m', lo', b1, b2, rfl⟩
    · rw [e, b1] at a1; cases a1
    · rw [← e] at b1
      cases a1.symm.trans b1
      have hm := ix_lt a1
      rw [← (rel_at hR h1 hm).1, cn_congr (Lk.two hR h1 hm a2 b2)]
theorem det_like (hR : Rel σ τ) (h1 : okG σ) {p q v v' : Int32} (a : rLike σ p q v) (b : rLike τ p q v') : v = v' := by
  have e := hR.1.1
  rcases a with ⟨a1, rfl⟩ | ⟨m, s, lo, a1, a2, a3, rfl⟩
  · rcases b with ⟨b1, rfl⟩ | ⟨m', s', lo', b1, b2, b3, rfl⟩
    · rfl
    · rw [← e] at b1
      exact absurd ⟨m', s', b1, by rw [(rel_at hR h1 (ix_lt b1)).1]; exact b2⟩ a1
  · have hm := ix_lt a1
    have g := rel_at hR h1 hm
    rcases b with ⟨b1, rfl⟩ | ⟨m', s', lo', b1, b2, b3, rfl⟩
    · exact absurd ⟨m, s, by rw [← e]; exact a1, by rw [← g.1]; exact a2⟩ b1
    · rw [← e] at b1
      cases a1.symm.trans b1
      rw [← g.1] at b2
      cases a2.symm.trans b2
      rw [Lk.two hR h1 hm a3 b3 s (ix_lt a2)]
/-- least's row in two pictures -/
theorem row_two (hR : Rel σ τ) (h1 : okG σ) {m : Nat} (hm : m < gc σ) {lo lo' : Nat → Nat} {N N' : Nat} (a : Lk (gx σ m) (go σ m) (gn σ m) (gk σ m) lo) (b : Lk (gx τ m) (go τ m) (gn τ m) (gk τ m) lo') (c : BEnd (nNx lo (gx σ m)) (gk σ m) [(lo 0, 0, 0)] N) (d : BEnd (nNx lo' (gx τ m)) (gk τ m) [(lo' 0, 0, 0)] N') : N = N' ∧ lRow lo (gx σ m) (gk σ m) N = lRow lo' (gx τ m) (gk τ m) N' ∧ ∀ p, p ∈ qPs (lRow lo (gx σ m) (gk σ m) N) → p < gn σ m := by
  obtain ⟨e1, e2, hA, he⟩ := rel_at hR h1 hm
  have hl := Lk.two hR h1 hm a b
  have h0 := hA.1
  have cg := cg_n hA he (fun s hs => (a s hs).1)
  have cg2 : cgr (fun p => p < gn σ m) (nNx lo (gx σ m)) (nNx lo' (gx τ m)) (gk σ m) (gn σ m) [(lo 0, 0, 0)] := ⟨cg.1, cg.2.1, cg.2.2.1, cg.2.2.2.1, cg.2.2.2.2.1, fun p i hp hi => by
    rw [cg.2.2.2.2.2 p i hp hi]
    exact hl _ (by have := (he p i hp hi).1; rw [← this]; exact (hA.2.2.2.2 p i hp hi).1)⟩
  rw [← e2, ← hl 0 (by omega)] at d
  have hN := (cgr_end cg2 c).uniq d
  subst hN
  refine ⟨rfl, ?_, (bout_ok cg2.1 cg2.2.1 cg2.2.2.1 cg2.2.2.2.1 cg2.2.2.2.2.1 N c.2).2⟩
  show bout (nNx lo (gx σ m)) (gk σ m) [(lo 0, 0, 0)] N = bout (nNx lo' (gx τ m)) (gk τ m) [(lo' 0, 0, 0)] N
  rw [← e2, ← hl 0 (by omega)]
  exact cgr_b cg2 c.2
theorem row_nd (h1 : okG σ) {m : Nat} (hm : m < gc σ) {lo : Nat → Nat} {N : Nat} (a : Lk (gx σ m) (go σ m) (gn σ m) (gk σ m) lo) (c : BEnd (nNx lo (gx σ m)) (gk σ m) [(lo 0, 0, 0)] N) : (qPs (lRow lo (gx σ m) (gk σ m) N)).Nodup ∧ (lRow lo (gx σ m) (gk σ m) N).length = N := by
  obtain ⟨e1, e2, hA, he⟩ := rel_at (Rel.rf σ) h1 hm
  have cg := cg_n hA he (fun s hs => (a s hs).1)
  exact ⟨(bout_ok cg.1 cg.2.1 cg.2.2.1 cg.2.2.2.1 cg.2.2.2.2.1 N c.2).1.1, c.len (Nat.le_refl _)⟩
theorem det_part (hR : Rel σ τ) (h1 : okG σ) {p q v v' : Int32} (a : rPart σ p q v) (b : rPart τ p q v') : v = v' := by
  have e := hR.1.1
  rcases a with ⟨a1, rfl⟩ | ⟨m, s, lo, N, a1, a2, a3, a4, a5⟩
  · rcases b with ⟨b1, rfl⟩ | ⟨m', s', lo', N', b1, b2, -⟩
    · rfl
    · rw [← e] at b1
      exact absurd ⟨m', s', b1, by rw [(rel_at hR h1 (ix_lt b1)).1]; exact b2⟩ a1
  · have hm := ix_lt a1
    have g := rel_at hR h1 hm
    rcases b with ⟨b1, rfl⟩ | ⟨m', s', lo', N', b1, b2, b3, b4, b5⟩
    · exact absurd ⟨m, s, by rw [← e]; exact a1, by rw [← g.1]; exact a2⟩ b1
    · rw [← e] at b1
      cases a1.symm.trans b1
      rw [← g.1] at b2
      cases a2.symm.trans b2
      obtain ⟨eN, er, -⟩ := row_two hR h1 hm a3 b3 a4 b4
      obtain ⟨nd, nl⟩ := row_nd h1 hm a3 a4
      rw [← er, ← eN, ← Lk.two hR h1 hm a3 b3 s (ix_lt a2)] at b5
      rcases a5 with ⟨r, r1, r2, rfl⟩ | ⟨r1, rfl⟩
      · rcases b5 with ⟨r', q1, q2, rfl⟩ | ⟨q1, rfl⟩
        · rw [qP_inj nd (by omega) (by omega) (r2.trans q2.symm)]
        · exact absurd (r2 ▸ qP_mem (by omega)) q1
      · rcases b5 with ⟨r', q1, q2, rfl⟩ | ⟨q1, rfl⟩
        · exact absurd (q2 ▸ qP_mem (by omega)) r1
        · rfl
theorem det_least (hR : Rel σ τ) (h1 : okG σ) {p v v' : Int32} (a : rLeast σ p v σ') (b : rLeast τ p v' τ') : v = v' ∧ Rel σ' τ' := by
  have e := hR.1.1
  rcases a with ⟨a1, rfl, ra⟩ | ⟨m, lo, N, x, o, a1, a2, a3, a4, rfl, pa, fa⟩
  · rcases b with ⟨b1, rfl, rb⟩ | ⟨m', lo', N', x', o', b1, b2, -⟩
    · exact ⟨rfl, ra.sym.tr (hR.tr rb)⟩
    · rw [← e] at b1 b2
      rcases a1 with z | z
      · rw [z] at b1; cases b1
      · omega
  · rcases b with ⟨b1, rfl, rb⟩ | ⟨m', lo', N', x', o', b1, b2, b3, b4, rfl, pb, fb⟩
    · rw [← e] at b1
      rcases b1 with z | z
      · rw [z] at a1; cases a1
      · omega
    · rw [← e] at b1
      cases a1.symm.trans b1
      have hm := ix_lt a1
      have g := rel_at hR h1 hm
      obtain ⟨eN, er, hin⟩ := row_two hR h1 hm a3 b3 a4 b4
      obtain ⟨nd, nl⟩ := row_nd h1 hm a3 a4
      subst eN
      have pb2 := pb.inv hR
      rw [← g.2.1] at pb2
      refine ⟨by rw [e], pa.det pb2 (fun s i hs hi => ?_)⟩
      have f1 := fa s i hs hi
      have f2 := fb s i hs (by rw [← g.2.1]; exact hi)
      rw [← er] at f2
      have hp := hin _ (qP_mem (show s < (lRow lo (gx σ m) (gk σ m) N).length by omega))
      have hx := g.2.2.2 _ i hp hi
      rw [← hx.1, ← hx.2] at f2
      have hlo := Lk.two hR h1 hm a3 b3 _ (g.2.2.1.2.2.2.2 _ i hp hi).1
      exact ⟨qP_inj nd (by omega) (by omega) (by rw [f1.2.1, f2.2.1, hlo]), by rw [f1.2.2, f2.2.2]⟩
theorem det_reset (hR : Rel σ τ) (h1 : okG σ) {p v v' : Int32} (a : rReset σ p v σ') (b : rReset τ p v' τ') : v = v' ∧ Rel σ' τ' := by
  have e := hR.1.1
  rcases a with ⟨a1, rfl, ra⟩ | ⟨m, r, a1, a2, a3, a4⟩
  · rcases b with ⟨b1, rfl, rb⟩ | ⟨m', r', b1, b2, -⟩
    · exact ⟨rfl, ra.sym.tr (hR.tr rb)⟩
    · rw [← e] at b1
      have z := a1 m' b1
      rw [(rel_at hR h1 (ix_lt b1)).1] at z
      omega
  · have hm := ix_lt a1
    obtain ⟨g1, g2, hA, he⟩ := rel_at hR h1 hm
    rcases b with ⟨b1, rfl, rb⟩ | ⟨m', r', b1, b2, b3, b4⟩
    · have z := b1 m (by rw [← e]; exact a1)
      omega
    · rw [← e] at b1
      cases a1.symm.trans b1
      have cg := cg_r hA he a2
      have w1 := cgr_fst cg a3
      rw [← g1, ← g2] at b3
      have w2 := w1.uniq b3
      subst w2
      rcases r with _ | t
      · obtain ⟨rfl, ra⟩ := a4
        obtain ⟨rfl, rb⟩ := b4
        exact ⟨rfl, ra.sym.tr (hR.tr rb)⟩
      · obtain ⟨rfl, ra⟩ := a4
        obtain ⟨rfl, rb⟩ := b4
        have eb : bout (rNx (gx σ m) (gn σ m)) (gk σ m) (rQ (gn σ m)) t = bout (rNx (gx τ m) (gn τ m)) (gk τ m) (rQ (gn τ m)) t := by
          rw [← g1, ← g2]
          exact cgr_b cg (fun b hb => a3.1 b (by omega))
        rw [← eb] at rb ⊢
        exact ⟨rfl, ra.det (rb.inv hR)⟩
theorem det_alike (hR : Rel σ τ) (h1 : okG σ) {p q r t : Int32} {v v' : Option Int32} (a : rAlike σ p q r t v σ') (b : rAlike τ p q r t v' τ') : v = v' ∧ Rel σ' τ' := by
  have e := hR.1.1
  rcases a with ⟨a1, rfl, ra⟩ | ⟨m, s, m2, s2, z, a1, a2, a3, a4, a5, a6, a7⟩
  · rcases b with ⟨b1, rfl, rb⟩ | ⟨m', s', n', o', z', b1, b2, b3, b4, b5, -⟩
    · exact ⟨rfl, ra.sym.tr (hR.tr rb)⟩
    · rw [← e] at b1 b3
      have g := rel_at hR h1 (ix_lt b1)
      have g' := rel_at hR h1 (ix_lt b3)
      exact absurd ⟨m', s', n', o', b1, by rw [g.1]; exact b2, b3, by rw [g'.1]; exact b4, by rw [g.2.1, g'.2.1]; exact b5⟩ a1
  · have hm := ix_lt a1
    have hm2 := ix_lt a3
    obtain ⟨g1, g2, hA, he⟩ := rel_at hR h1 hm
    obtain ⟨k1, k2, hB, hf⟩ := rel_at hR h1 hm2
    rcases b with ⟨b1, rfl, rb⟩ | ⟨m', s', n', o', z', b1, b2, b3, b4, b5, b6, b7⟩
    · exact absurd ⟨m, s, m2, s2, by rw [← e]; exact a1, by rw [← g1]; exact a2, by rw [← e]; exact a3, by rw [← k1]; exact a4, by rw [← g2, ← k2]; exact a5⟩ b1
    · rw [← e] at b1 b3
      cases a1.symm.trans b1
      cases a3.symm.trans b3
      rw [← g1] at b2
      rw [← k1] at b4
      cases a2.symm.trans b2
      cases a4.symm.trans b4
      rw [← a5] at hB hf
      obtain ⟨cg, cb⟩ := cg_w hA he hB hf (ix_lt a2) (ix_lt a4)
      have w1 := cgr_wit cg cb a6
      rw [← g2] at b6
      have w2 := w1.uniq b6
      subst w2
      rcases z with _ | ⟨c, i⟩
      · obtain ⟨rfl, ra⟩ := a7
        obtain ⟨rfl, rb⟩ := b7
        exact ⟨rfl, ra.sym.tr (hR.tr rb)⟩
      · obtain ⟨rfl, ra⟩ := a7
        obtain ⟨rfl, rb⟩ := b7
        have eb := cgr_b cg (a := c) (fun b hb => a6.1 b (by omega))
        rw [← g2, ← eb] at rb
        exact ⟨rfl, ra.det (rb.inv hR)⟩
theorem det_home (hR : Rel σ τ) (h1 : okG σ) {p : Int32} {v v' : Option Int32} (a : rHome σ p v σ') (b : rHome τ p v' τ') : v = v' ∧ Rel σ' τ' := by
  have e := hR.1.1
  rcases a with ⟨a1, rfl, ra⟩ | ⟨m, lo, a1, a2, a3, a4⟩
  · rcases b with ⟨b1, rfl, rb⟩ | ⟨m', lo', b1, b2, -⟩
    · exact ⟨rfl, ra.sym.tr (hR.tr rb)⟩
    · rw [← e] at b1
      have z := a1 m' b1
      rw [(rel_at hR h1 (ix_lt b1)).1] at z
      omega
  · have hm := ix_lt a1
    obtain ⟨g1, g2, hA, he⟩ := rel_at hR h1 hm
    rcases b with ⟨b1, rfl, rb⟩ | ⟨m', lo', b1, b2, b3, b4⟩
    · have z := b1 m (by rw [← e]; exact a1)
      omega
    · rw [← e] at b1
      cases a1.symm.trans b1
      have hl := Lk.two hR h1 hm a3 b3
      have hlo : ∀ s, s < gn σ m → lo s ≤ s := fun s hs => (a3 s hs).1
      obtain ⟨cg, cb⟩ := cg_h hA he a2 hlo
      have eal : alm lo' (gn τ m) = alm lo (gn σ m) := by rw [← g1]; exact (alm_congr hl).symm
      have eq0 : hQ0 lo' (gn τ m) = hQ0 lo (gn σ m) := by show [(enc [alm lo' (gn τ m)], 0, 0)] = _; rw [eal]
      rw [eal] at b4
      have enx : ∀ p i, i < gk σ m → hNx (gx τ m) (go τ m) lo (gn σ m) p i = hNx (gx τ m) (go τ m) lo' (gn τ m) p i := fun p i hi => by
        unfold hNx
        rw [← g1]
        rw [ffol_cg (fun s hs => ⟨hl _ (by have := (he s i hs hi).1; rw [← this]; exact (hA.2.2.2.2 s i hs hi).1), rfl⟩)]
      have cg2 : cgr fP (hNx (gx σ m) (go σ m) lo (gn σ m)) (hNx (gx τ m) (go τ m) lo' (gn τ m)) (gk σ m) fD (hQ0 lo (gn σ m)) := ⟨cg.1, cg.2.1, cg.2.2.1, cg.2.2.2.1, cg.2.2.2.2.1, fun p i hp hi => (cg.2.2.2.2.2 p i hp hi).trans (enx p i hi)⟩
      have cb2 : ∀ p i, fP p → i < gk σ m → (hBad (gx σ m) (go σ m) lo (gn σ m) p i ↔ hBad (gx τ m) (go τ m) lo' (gn τ m) p i) := fun p i hp hi => by
        unfold hBad
        rw [cg2.2.2.2.2.2 p i hp hi]
      have hH : ∀ a i, Hom (gx σ m) (go σ m) lo (gn σ m) (gk σ m) a i → Hom (gx τ m) (go τ m) lo' (gn τ m) (gk τ m) a i ∧ bout (hNx (gx σ m) (go σ m) lo (gn σ m)) (gk σ m) (hQ0 lo (gn σ m)) a = bout (hNx (gx τ m) (go τ m) lo' (gn τ m)) (gk τ m) (hQ0 lo' (gn τ m)) a := fun a i h => by
        have eb := cgr_b cg2 (a := a) (fun b hb => h.1.1 b (by omega))
        have hw := cgr_wit cg2 cb2 h.1
        have hi := h.1.2.2.1
        have ebi : ∀ j, j ≤ gk σ m → bin (hNx (gx σ m) (go σ m) lo (gn σ m)) (bout (hNx (gx σ m) (go σ m) lo (gn σ m)) (gk σ m) (hQ0 lo (gn σ m)) a) a j = bin (hNx (gx τ m) (go τ m) lo' (gn τ m)) (bout (hNx (gx σ m) (go σ m) lo (gn σ m)) (gk σ m) (hQ0 lo (gn σ m)) a) a j := by
          intro j
          induction j with
          | zero => intro _; rfl
          | succ j ih =>
            intro hj
            simp only [bin]
            rw [ih (by omega), cg2.2.2.2.2.2 _ j (cgr_p cg2 h.1.1) (by omega)]
        have hl3 := h.2
        rw [ebi i (by omega), eb] at hl3
        refine ⟨⟨?_, ?_⟩, ?_⟩
        · rw [← g2, eq0]; exact hw
        · rw [← g2, eq0]; exact hl3
        · rw [← g2, eq0]; exact eb
      rcases a4 with ⟨s1, rfl, wa⟩ | ⟨s1, a4⟩
      · rcases b4 with ⟨t1, rfl, wb⟩ | ⟨t1, -⟩
        · exact ⟨rfl, wa.det (wb.inv hR)⟩
        · rw [s1] at t1; cases t1
      · rcases b4 with ⟨t1, rfl, wb⟩ | ⟨t1, b4⟩
        · rw [s1] at t1; cases t1
        · rcases a4 with ⟨na, rfl, ra⟩ | ⟨x, i, hx, rfl, wa⟩
          · rcases b4 with ⟨nb, rfl, rb⟩ | ⟨y, j, hy, rfl, wb⟩
            · exact ⟨rfl, ra.sym.tr (hR.tr rb)⟩
            · exfalso
              have hwit := cgr_wit (P := fP) (nxt := hNx (gx τ m) (go τ m) lo' (gn τ m)) (nxt' := hNx (gx σ m) (go σ m) lo (gn σ m)) (K := gk σ m) (D := fD) (q := hQ0 lo (gn σ m)) ⟨cg2.1, cg2.2.1, cg2.2.2.1, cg2.2.2.2.1, fun p i hp hi => by rw [← cg2.2.2.2.2.2 p i hp hi]; exact cg2.2.2.2.2.1 p i hp hi, fun p i hp hi => (cg2.2.2.2.2.2 p i hp hi).symm⟩ (fun p i hp hi => (cb2 p i hp hi).symm) (by have := hy.1; rw [eq0, ← g2] at this; exact this)
              have eb := cgr_b cg2 (a := y) (fun b hb => hwit.1 b (by omega))
              have ebi : ∀ j, j ≤ gk σ m → bin (hNx (gx σ m) (go σ m) lo (gn σ m)) (bout (hNx (gx σ m) (go σ m) lo (gn σ m)) (gk σ m) (hQ0 lo (gn σ m)) y) y j = bin (hNx (gx τ m) (go τ m) lo' (gn τ m)) (bout (hNx (gx σ m) (go σ m) lo (gn σ m)) (gk σ m) (hQ0 lo (gn σ m)) y) y j := by
                intro j
                induction j with
                | zero => intro _; rfl
                | succ j ih =>
                  intro hj
                  simp only [bin]
                  rw [ih (by omega), cg2.2.2.2.2.2 _ j (cgr_p cg2 hwit.1) (by omega)]
              have hl3 := hy.2
              rw [eq0, ← g2, ← eb, ← ebi j (by have := hwit.2.2.1; omega)] at hl3
              exact na y j ⟨hwit, hl3⟩
          · obtain ⟨hx2, eb⟩ := hH x i hx
            rcases b4 with ⟨nb, rfl, rb⟩ | ⟨y, j, hy, rfl, wb⟩
            · exact absurd hx2 (nb x i)
            · obtain ⟨rfl, rfl⟩ := hx2.uniq hy
              rw [← eb] at wb ⊢
              exact ⟨rfl, wa.det (wb.inv hR)⟩
end DET
