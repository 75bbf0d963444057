theorem numOf {nm : Nat → Option Nat} {pl st : Nat → Nat} {c D p : Nat} {q : Qu} (h : SeQ nm pl st c D q) (hp : p < D) : (∃ r, r < q.length ∧ qP q r = p ∧ nm p = some r ∧ oI (nm p) = nI r) ∨ p ∉ qPs q ∧ oI (nm p) = -1 := by
  by_cases hm : p ∈ qPs q
  · obtain ⟨r, hr, e⟩ := qP_ex hm
    have h1 := (h.2.1 r (by rw [h.1]; exact hr)).2.2
    rw [e] at h1
    exact Or.inl ⟨r, hr, e, h1, by rw [h1]; rfl⟩
  · exact Or.inr ⟨hm, by rw [h.2.2 p hp hm]; rfl⟩
theorem aWalk_none {σ : SG} {m s i : Nat} (h : aWalk σ m s i = none) : ∀ l, i ≤ l → aWalk σ m s l = none := by
  intro l hl
  induction l with
  | zero => have : i = 0 := by omega
            subst this; exact h
  | succ l ih =>
    rcases Nat.lt_or_ge i (l + 1) with c | c
    · simp only [aWalk]; rw [ih (by omega)]
    · have : i = l + 1 := by omega
      subst this; exact h
set_option maxHeartbeats 4000000 in
set_option maxRecDepth 100000 in
theorem c_MT_classes {G : GT} {L : List Nat} {f : Nat → va_E} {w A : Nat → Nat} {c : Nat} {n k : Nat → Nat} {nx ou : Nat → Nat → Nat} {wl : Nat} {wd : Nat → Nat} (hY : SysS G L f w A (c, n, k, nx, ou, wl, wd)) (p : Int32) : Con G y_MT_classes (.code y_MT_classes b_MT_classes 3 (some .int) :: BIG) 5 111 0 0 [.ref (A 0), .int p] L f (fun v L' f' => ∃ (vi : Int32) (w' : Nat → Nat) (σ' : SG), v = some (.int vi) ∧ Out L f w L' f' w' ∧ SysS G L' f' w' A σ' ∧ rClasses (c, n, k, nx, ou, wl, wd) p vi ∧ σ' = (c, n, k, nx, ou, wl, wd)) := by
  refine con_of (cc := b_MT_classes) (mL := 3) (lv := [some (.ref (A 0)), some (.int p), none]) (by decide) (by intro w hw; simp at hw; rcases hw with rfl | rfl <;> rfl) (by first | exact Nat.le_of_ble_eq_true rfl | decide) rfl ?_
  intro x hx hr hin
  obtain ⟨S, Fm, wa, mp, M, lo, fi, b, nm, pl, st, sc, ss, sz, bo, fc, hC⟩ := hY
  have hC : SysC G L f w A S Fm c wa mp M nx ou lo fi n k b nm pl st sc ss sz bo fc wl wd := hC
  have hT := hC.1
  have hMs := hC.ms
  have hc := hC.c12
  refine v_aload_n hx d_MT_classes_0 rfl rfl ?_
  refine v_iload_n hx d_MT_classes_1 rfl rfl ?_
  refine v_callV (as := [.int p]) (q := (R_MT, T_MT, 5)) hx (c_MT_find hT hMs hc p) cy_MT_find k_MT_45 ki_MT_find kl_MT_find d_MT_classes_2 (by decide) (ci := 3) rfl hT.m0 hT.f0 (by decide) rfl rfl (Nat.le_of_ble_eq_true rfl) (fun v1 L f p1 => ?_)
  obtain ⟨(⟨e, rfl⟩ | ⟨j, e, hj, rfl⟩), rfl, rfl⟩ := p1
  · refine v_astore_nN (lv' := [some (.ref (A 0)), some (.int p), some (.null)]) hx d_MT_classes_5 rfl (by decide) rfl ?_
    refine v_aload_nN hx d_MT_classes_6 rfl rfl ?_
    refine v_ifnonnullN hx d_MT_classes_7 ?_
    refine v_iconst (v := (-1)) hx d_MT_classes_10 rfl ?_
    exact v_iret hx hr d_MT_classes_11 ⟨_, w, (c, n, k, nx, ou, wl, wd), rfl, Out.rf, ⟨_, _, _, _, _, _, _, _, _, _, _, _, _, _, _, _, hC⟩, Or.inl ⟨e, rfl⟩, rfl⟩
  · have hA := hC.ok hj
    have hA_ := hA
    obtain ⟨hn1, hn2, hk1, hk2, hnx⟩ := hA_
    refine v_astore_n (lv' := [some (.ref (A 0)), some (.int p), some (.ref (M j 0))]) hx d_MT_classes_5 rfl (by decide) rfl ?_
    refine v_aload_n hx d_MT_classes_6 rfl rfl ?_
    refine v_ifnonnull (tgt := 12) hx d_MT_classes_7 (by decide) ?_
    refine v_aload_n hx d_MT_classes_12 rfl rfl ?_
    refine v_callV (as := []) (q := (R_Ma, T_Ma, 7)) hx (c_Ma_settle (hMs j hj).2 (hC.ok hj) (hC.2.2.2.2.2.2.1 j hj).2) cy_Ma_settle k_MT_67 ki_Ma_settle kl_Ma_settle d_MT_classes_13 (by decide) (ci := 1) rfl (hMs j hj).2.m0 (hMs j hj).2.f0 (by decide) rfl rfl (Nat.le_of_ble_eq_true rfl) (fun v2 L f1 p2 => ?_)
    obtain ⟨rfl, rfl, lo2, fi2, hMj, hF1, hLk⟩ := p2
    have hC1 := hC.settle hj hMj hF1 hLk
    have hO1 : Out L f w L f1 w := Out.g hF1 (by omega)
    refine v_aload_n hx d_MT_classes_16 rfl rfl ?_
    refine v_callV (as := []) (q := (R_Ma, T_Ma, 7)) hx (c_Ma_countSets hMj (by omega) (fun s hs => by have := (hLk s hs).1; omega)) cy_Ma_countSets k_MT_70 ki_Ma_countSets kl_Ma_countSets d_MT_classes_17 (by decide) (ci := 1) rfl hMj.m0 hMj.f0 (by decide) rfl rfl (Nat.le_of_ble_eq_true rfl) (fun v3 L f1 p3 => ?_)
    obtain ⟨rfl, rfl, rfl⟩ := p3
    exact v_iret hx hr d_MT_classes_20 ⟨_, w, (c, n, k, nx, ou, wl, wd), rfl, hO1, ⟨_, _, _, _, _, _, _, _, _, _, _, _, _, _, _, _, hC1⟩, Or.inr ⟨j, lo2, e, hLk, rfl⟩, rfl⟩
set_option maxHeartbeats 4000000 in
set_option maxRecDepth 100000 in
theorem c_MT_like {G : GT} {L : List Nat} {f : Nat → va_E} {w A : Nat → Nat} {c : Nat} {n k : Nat → Nat} {nx ou : Nat → Nat → Nat} {wl : Nat} {wd : Nat → Nat} (hY : SysS G L f w A (c, n, k, nx, ou, wl, wd)) (p q : Int32) : Con G y_MT_like (.code y_MT_like b_MT_like 4 (some .int) :: BIG) 5 111 0 0 [.ref (A 0), .int p, .int q] L f (fun v L' f' => ∃ (vi : Int32) (w' : Nat → Nat) (σ' : SG), v = some (.int vi) ∧ Out L f w L' f' w' ∧ SysS G L' f' w' A σ' ∧ rLike (c, n, k, nx, ou, wl, wd) p q vi ∧ σ' = (c, n, k, nx, ou, wl, wd)) := by
  refine con_of (cc := b_MT_like) (mL := 4) (lv := [some (.ref (A 0)), some (.int p), some (.int q), none]) (by decide) (by intro w hw; simp at hw; rcases hw with rfl | rfl | rfl <;> rfl) (by first | exact Nat.le_of_ble_eq_true rfl | decide) rfl ?_
  intro x hx hr hin
  obtain ⟨S, Fm, wa, mp, M, lo, fi, b, nm, pl, st, sc, ss, sz, bo, fc, hC⟩ := hY
  have hC : SysC G L f w A S Fm c wa mp M nx ou lo fi n k b nm pl st sc ss sz bo fc wl wd := hC
  have hT := hC.1
  have hMs := hC.ms
  have hc := hC.c12
  refine v_aload_n hx d_MT_like_0 rfl rfl ?_
  refine v_iload_n hx d_MT_like_1 rfl rfl ?_
  refine v_callV (as := [.int p]) (q := (R_MT, T_MT, 5)) hx (c_MT_find hT hMs hc p) cy_MT_find k_MT_45 ki_MT_find kl_MT_find d_MT_like_2 (by decide) (ci := 3) rfl hT.m0 hT.f0 (by decide) rfl rfl (Nat.le_of_ble_eq_true rfl) (fun v1 L f p1 => ?_)
  obtain ⟨(⟨e, rfl⟩ | ⟨j, e, hj, rfl⟩), rfl, rfl⟩ := p1
  · refine v_astore_nN (lv' := [some (.ref (A 0)), some (.int p), some (.int q), some (.null)]) hx d_MT_like_5 rfl (by decide) rfl ?_
    refine v_aload_nN hx d_MT_like_6 rfl rfl ?_
    refine v_ifnullN (tgt := 18) hx d_MT_like_7 (by decide) ?_
    refine v_iconst (v := (-1)) hx d_MT_like_18 rfl ?_
    exact v_iret hx hr d_MT_like_19 ⟨_, w, (c, n, k, nx, ou, wl, wd), rfl, Out.rf, ⟨_, _, _, _, _, _, _, _, _, _, _, _, _, _, _, _, hC⟩, Or.inl ⟨fun ⟨m, s_, e1, e2⟩ => (by rw [e] at e1; cases e1), rfl⟩, rfl⟩
  · have hA := hC.ok hj
    have hA_ := hA
    obtain ⟨hn1, hn2, hk1, hk2, hnx⟩ := hA_
    refine v_astore_n (lv' := [some (.ref (A 0)), some (.int p), some (.int q), some (.ref (M j 0))]) hx d_MT_like_5 rfl (by decide) rfl ?_
    refine v_aload_n hx d_MT_like_6 rfl rfl ?_
    refine v_ifnull hx d_MT_like_7 ?_
    refine v_aload_n hx d_MT_like_10 rfl rfl ?_
    refine v_iload_n hx d_MT_like_11 rfl rfl ?_
    refine v_callV (as := [.int q]) (q := (R_Ma, T_Ma, 7)) hx (c_Ma_hasState (hMs j hj).2 (by omega) q) cy_Ma_hasState k_MT_49 ki_Ma_hasState kl_Ma_hasState d_MT_like_12 (by decide) (ci := 1) rfl (hMs j hj).2.m0 (hMs j hj).2.f0 (by decide) rfl rfl (Nat.le_of_ble_eq_true rfl) (fun v2 L f p2 => ?_)
    obtain ⟨rfl, rfl, rfl⟩ := p2
    refine v_if_ne (tgt := 20) hx d_MT_like_15 (by decide) (fun c15 => ?_) (fun c15 => ?_)
    · obtain ⟨s, es⟩ := some_ix c15
      obtain ⟨hs, e2⟩ := ix_some (by omega) es
      subst e2
      refine v_aload_n hx d_MT_like_20 rfl rfl ?_
      refine v_callV (as := []) (q := (R_Ma, T_Ma, 7)) hx (c_Ma_settle (hMs j hj).2 (hC.ok hj) (hC.2.2.2.2.2.2.1 j hj).2) cy_Ma_settle k_MT_67 ki_Ma_settle kl_Ma_settle d_MT_like_21 (by decide) (ci := 1) rfl (hMs j hj).2.m0 (hMs j hj).2.f0 (by decide) rfl rfl (Nat.le_of_ble_eq_true rfl) (fun v3 L f1 p3 => ?_)
      obtain ⟨rfl, rfl, lo2, fi2, hMj, hF1, hLk⟩ := p3
      have hC1 := hC.settle hj hMj hF1 hLk
      have hO1 : Out L f w L f1 w := Out.g hF1 (by omega)
      refine v_aload_n hx d_MT_like_24 rfl rfl ?_
      refine v_iload_n hx d_MT_like_25 rfl rfl ?_
      refine v_callV (as := [.int (nI s)]) (q := (R_Ma, T_Ma, 7)) hx (c_Ma_leastLike hMj s (by omega)) cy_Ma_leastLike k_MT_74 ki_Ma_leastLike kl_Ma_leastLike d_MT_like_26 (by decide) (ci := 1) rfl hMj.m0 hMj.f0 (by decide) rfl rfl (Nat.le_of_ble_eq_true rfl) (fun v4 L f1 p4 => ?_)
      obtain ⟨rfl, rfl, rfl⟩ := p4
      exact v_iret hx hr d_MT_like_29 ⟨_, w, (c, n, k, nx, ou, wl, wd), rfl, hO1, ⟨_, _, _, _, _, _, _, _, _, _, _, _, _, _, _, _, hC1⟩, Or.inr ⟨j, s, lo2, e, es, hLk, rfl⟩, rfl⟩
    · refine v_iconst (v := (-1)) hx d_MT_like_18 rfl ?_
      exact v_iret hx hr d_MT_like_19 ⟨_, w, (c, n, k, nx, ou, wl, wd), rfl, Out.rf, ⟨_, _, _, _, _, _, _, _, _, _, _, _, _, _, _, _, hC⟩, Or.inl ⟨fun ⟨m, s_, e1, e2⟩ => (by rw [e] at e1; cases e1; rw [none_ix c15] at e2; cases e2), rfl⟩, rfl⟩
set_option maxHeartbeats 4000000 in
set_option maxRecDepth 100000 in
theorem c_MT_part {G : GT} {L : List Nat} {f : Nat → va_E} {w A : Nat → Nat} {c : Nat} {n k : Nat → Nat} {nx ou : Nat → Nat → Nat} {wl : Nat} {wd : Nat → Nat} (hY : SysS G L f w A (c, n, k, nx, ou, wl, wd)) (p q : Int32) : Con G y_MT_part (.code y_MT_part b_MT_part 4 (some .int) :: BIG) 5 111 0 0 [.ref (A 0), .int p, .int q] L f (fun v L' f' => ∃ (vi : Int32) (w' : Nat → Nat) (σ' : SG), v = some (.int vi) ∧ Out L f w L' f' w' ∧ SysS G L' f' w' A σ' ∧ rPart (c, n, k, nx, ou, wl, wd) p q vi ∧ σ' = (c, n, k, nx, ou, wl, wd)) := by
  refine con_of (cc := b_MT_part) (mL := 4) (lv := [some (.ref (A 0)), some (.int p), some (.int q), none]) (by decide) (by intro w hw; simp at hw; rcases hw with rfl | rfl | rfl <;> rfl) (by first | exact Nat.le_of_ble_eq_true rfl | decide) rfl ?_
  intro x hx hr hin
  obtain ⟨S, Fm, wa, mp, M, lo, fi, b, nm, pl, st, sc, ss, sz, bo, fc, hC⟩ := hY
  have hC : SysC G L f w A S Fm c wa mp M nx ou lo fi n k b nm pl st sc ss sz bo fc wl wd := hC
  have hT := hC.1
  have hMs := hC.ms
  have hc := hC.c12
  refine v_aload_n hx d_MT_part_0 rfl rfl ?_
  refine v_iload_n hx d_MT_part_1 rfl rfl ?_
  refine v_callV (as := [.int p]) (q := (R_MT, T_MT, 5)) hx (c_MT_find hT hMs hc p) cy_MT_find k_MT_45 ki_MT_find kl_MT_find d_MT_part_2 (by decide) (ci := 3) rfl hT.m0 hT.f0 (by decide) rfl rfl (Nat.le_of_ble_eq_true rfl) (fun v1 L f p1 => ?_)
  obtain ⟨(⟨e, rfl⟩ | ⟨j, e, hj, rfl⟩), rfl, rfl⟩ := p1
  · refine v_astore_nN (lv' := [some (.ref (A 0)), some (.int p), some (.int q), some (.null)]) hx d_MT_part_5 rfl (by decide) rfl ?_
    refine v_aload_nN hx d_MT_part_6 rfl rfl ?_
    refine v_ifnullN (tgt := 18) hx d_MT_part_7 (by decide) ?_
    refine v_iconst (v := (-1)) hx d_MT_part_18 rfl ?_
    exact v_iret hx hr d_MT_part_19 ⟨_, w, (c, n, k, nx, ou, wl, wd), rfl, Out.rf, ⟨_, _, _, _, _, _, _, _, _, _, _, _, _, _, _, _, hC⟩, Or.inl ⟨fun ⟨m, s_, e1, e2⟩ => (by rw [e] at e1; cases e1), rfl⟩, rfl⟩
  · have hA := hC.ok hj
    have hA_ := hA
    obtain ⟨hn1, hn2, hk1, hk2, hnx⟩ := hA_
    refine v_astore_n (lv' := [some (.ref (A 0)), some (.int p), some (.int q), some (.ref (M j 0))]) hx d_MT_part_5 rfl (by decide) rfl ?_
    refine v_aload_n hx d_MT_part_6 rfl rfl ?_
    refine v_ifnull hx d_MT_part_7 ?_
    refine v_aload_n hx d_MT_part_10 rfl rfl ?_
    refine v_iload_n hx d_MT_part_11 rfl rfl ?_
    refine v_callV (as := [.int q]) (q := (R_Ma, T_Ma, 7)) hx (c_Ma_hasState (hMs j hj).2 (by omega) q) cy_Ma_hasState k_MT_49 ki_Ma_hasState kl_Ma_hasState d_MT_part_12 (by decide) (ci := 1) rfl (hMs j hj).2.m0 (hMs j hj).2.f0 (by decide) rfl rfl (Nat.le_of_ble_eq_true rfl) (fun v2 L f p2 => ?_)
    obtain ⟨rfl, rfl, rfl⟩ := p2
    refine v_if_ne (tgt := 20) hx d_MT_part_15 (by decide) (fun c15 => ?_) (fun c15 => ?_)
    · obtain ⟨s, es⟩ := some_ix c15
      obtain ⟨hs, e2⟩ := ix_some (by omega) es
      subst e2
      refine v_aload_n hx d_MT_part_20 rfl rfl ?_
      refine v_callV (as := []) (q := (R_Ma, T_Ma, 7)) hx (c_Ma_settle (hMs j hj).2 (hC.ok hj) (hC.2.2.2.2.2.2.1 j hj).2) cy_Ma_settle k_MT_67 ki_Ma_settle kl_Ma_settle d_MT_part_21 (by decide) (ci := 1) rfl (hMs j hj).2.m0 (hMs j hj).2.f0 (by decide) rfl rfl (Nat.le_of_ble_eq_true rfl) (fun v3 L f1 p3 => ?_)
      obtain ⟨rfl, rfl, lo2, fi2, hMj, hF1, hLk⟩ := p3
      have hC1 := hC.settle hj hMj hF1 hLk
      have hO1 : Out L f w L f1 w := Out.g hF1 (by omega)
      refine v_aload_n hx d_MT_part_24 rfl rfl ?_
      refine v_aload_n hx d_MT_part_25 rfl rfl ?_
      refine v_callV (as := [.ref (M j 0)]) (q := (R_MT, T_MT, 5)) hx (c_MT_numberSets hC1.1 hC1.2.1 hMj (by omega) hA (fun s hs => (hLk s hs).1)) cy_MT_numberSets k_MT_97 ki_MT_numberSets kl_MT_numberSets d_MT_part_26 (by decide) (ci := 3) rfl hC1.1.m0 hC1.1.f0 (by decide) rfl rfl (Nat.le_of_ble_eq_true rfl) (fun v4 L f2 p4 => ?_)
      obtain ⟨rfl, rfl, hF2, N, nm2, pl2, st2, hE, hS2, hQ2, hq2⟩ := p4
      have hC2 := hC1.search hS2 hF2
      have hO2 : Out L f w L f2 w := hO1.tr (Out.g hF2 (by decide))
      refine v_aload_n hx d_MT_part_29 rfl rfl ?_
      refine v_get hx cf_MT 1 (by decide) k_MT_18 d_MT_part_30 hC2.1.m0 hC2.1.f0 rfl ?_
      refine v_aload_n hx d_MT_part_33 rfl rfl ?_
      refine v_iload_n hx d_MT_part_34 rfl rfl ?_
      refine v_callV (as := [.int (nI s)]) (q := (R_Ma, T_Ma, 7)) hx (c_Ma_leastLike (hMj.fr hF2 (by omega)) s (by omega)) cy_Ma_leastLike k_MT_74 ki_Ma_leastLike kl_Ma_leastLike d_MT_part_35 (by decide) (ci := 1) rfl (hMj.fr hF2 (by omega)).m0 (hMj.fr hF2 (by omega)).f0 (by decide) rfl rfl (Nat.le_of_ble_eq_true rfl) (fun v5 L f2 p5 => ?_)
      obtain ⟨rfl, rfl, rfl⟩ := p5
      have hls := (hLk s hs).1
      refine v_callV (as := [.int (nI (lo2 s))]) (q := (R_Se, T_Se, 4)) hx (c_Se_numberOf hS2 (lo2 s) (by omega)) cy_Se_numberOf k_MT_108 ki_Se_numberOf kl_Se_numberOf d_MT_part_38 (by decide) (ci := 2) rfl hS2.m0 hS2.f0 (by decide) rfl rfl (Nat.le_of_ble_eq_true rfl) (fun v6 L f2 p6 => ?_)
      obtain ⟨rfl, rfl, rfl⟩ := p6
      have hno := numOf hQ2 (show lo2 s < n j by omega)
      have hlen := hE.len (Nat.le_refl _)
      exact v_iret hx hr d_MT_part_41 ⟨_, w, (c, n, k, nx, ou, wl, wd), rfl, hO2, ⟨_, _, _, _, _, _, _, _, _, _, _, _, _, _, _, _, hC2⟩, Or.inr ⟨j, s, lo2, N, e, es, hLk, hE, hno.imp (fun ⟨r, h1, h2, _, h4⟩ => ⟨r, (by omega), h2, h4⟩) id⟩, rfl⟩
    · refine v_iconst (v := (-1)) hx d_MT_part_18 rfl ?_
      exact v_iret hx hr d_MT_part_19 ⟨_, w, (c, n, k, nx, ou, wl, wd), rfl, Out.rf, ⟨_, _, _, _, _, _, _, _, _, _, _, _, _, _, _, _, hC⟩, Or.inl ⟨fun ⟨m, s_, e1, e2⟩ => (by rw [e] at e1; cases e1; rw [none_ix c15] at e2; cases e2), rfl⟩, rfl⟩
set_option maxHeartbeats 4000000 in
set_option maxRecDepth 100000 in
theorem c_MT_total {G : GT} {L : List Nat} {f : Nat → va_E} {w A : Nat → Nat} {c : Nat} {n k : Nat → Nat} {nx ou : Nat → Nat → Nat} {wl : Nat} {wd : Nat → Nat} (hY : SysS G L f w A (c, n, k, nx, ou, wl, wd)) (p : Int32) : Con G y_MT_total (.code y_MT_total b_MT_total 4 (some .int) :: BIG) 1 21 0 0 [.ref (A 0), .int p] L f (fun v L' f' => ∃ (vi : Int32) (w' : Nat → Nat) (σ' : SG), v = some (.int vi) ∧ Out L f w L' f' w' ∧ SysS G L' f' w' A σ' ∧ vi = sTotal (c, n, k, nx, ou, wl, wd) p ∧ σ' = (c, n, k, nx, ou, wl, wd)) := by
  refine con_of (cc := b_MT_total) (mL := 4) (lv := [some (.ref (A 0)), some (.int p), none, none]) (by decide) (by intro w hw; simp at hw; rcases hw with rfl | rfl <;> rfl) (by first | exact Nat.le_of_ble_eq_true rfl | decide) rfl ?_
  intro x hx hr hin
  obtain ⟨S, Fm, wa, mp, M, lo, fi, b, nm, pl, st, sc, ss, sz, bo, fc, hC⟩ := hY
  have hC : SysC G L f w A S Fm c wa mp M nx ou lo fi n k b nm pl st sc ss sz bo fc wl wd := hC
  have hT := hC.1
  have hMs := hC.ms
  have hc := hC.c12
  refine v_iload_n hx d_MT_total_0 rfl rfl ?_
  refine v_if_ne (tgt := 9) hx d_MT_total_1 (by decide) (fun c1 => ?_) (fun c1 => ?_)
  · refine v_iload_n hx d_MT_total_9 rfl rfl ?_
    refine v_iconst (v := (nI 1)) hx d_MT_total_10 rfl ?_
    refine v_icmp_ne (tgt := 20) hx d_MT_total_11 (by decide) (fun c11 => ?_) (fun c11 => ?_)
    · refine v_iload_n hx d_MT_total_20 rfl rfl ?_
      refine v_sipush (v := (nI 200)) hx d_MT_total_21 rfl ?_
      refine v_icmp_lt (tgt := 31) hx d_MT_total_24 (by decide) (fun c24 => ?_) (fun c24 => ?_)
      · refine v_iconst (v := (nI 0)) hx d_MT_total_31 rfl ?_
        refine v_istore_n (lv' := [some (.ref (A 0)), some (.int p), some (.int (nI 0)), none]) hx d_MT_total_32 rfl (by decide) rfl ?_
        refine v_aload_n hx d_MT_total_33 rfl rfl ?_
        refine v_iload_n hx d_MT_total_34 rfl rfl ?_
        refine v_iload_n hx d_MT_total_35 rfl rfl ?_
        refine n_if_eq (tgt := 45) hx d_MT_total_36 (by decide) (by omega) (fun c36 => ?_) (fun c36 => ?_)
        · refine v_bipush (v := (nI 100)) hx d_MT_total_45 rfl ?_
          refine v_isub hx d_MT_total_47 rfl ?_
          refine v_callV (as := [.int (p - (nI 100))]) (q := (R_MT, T_MT, 5)) hx (c_MT_find hT hMs hc (p - (nI 100))) cy_MT_find k_MT_45 ki_MT_find kl_MT_find d_MT_total_48 (by decide) (ci := 3) rfl hT.m0 hT.f0 (by decide) rfl rfl (Nat.le_of_ble_eq_true rfl) (fun v1 L f p1 => ?_)
          obtain ⟨(⟨e, rfl⟩ | ⟨j, e, hj, rfl⟩), rfl, rfl⟩ := p1
          · refine v_astore_nN (lv' := [some (.ref (A 0)), some (.int p), some (.int (nI 0)), some (.null)]) hx d_MT_total_51 rfl (by decide) rfl ?_
            refine v_aload_nN hx d_MT_total_52 rfl rfl ?_
            refine v_ifnonnullN hx d_MT_total_53 ?_
            refine v_iconst (v := (-1)) hx d_MT_total_56 rfl ?_
            have e_ : ix (p - 100) c = none := e
            exact v_iret hx hr d_MT_total_57 ⟨_, w, (c, n, k, nx, ou, wl, wd), rfl, Out.rf, ⟨_, _, _, _, _, _, _, _, _, _, _, _, _, _, _, _, hC⟩, (by show _ = sTotal (c, n, k, nx, ou, wl, wd) p; simp only [sTotal, if_neg c1, if_neg (show ¬ p = 1 from c11), if_neg (show ¬ (200 : Int32) ≤ p from Int32.not_le.mpr c24), e_]), rfl⟩
          · refine v_astore_n (lv' := [some (.ref (A 0)), some (.int p), some (.int (nI 0)), some (.ref (M j 0))]) hx d_MT_total_51 rfl (by decide) rfl ?_
            refine v_aload_n hx d_MT_total_52 rfl rfl ?_
            refine v_ifnonnull (tgt := 58) hx d_MT_total_53 (by decide) ?_
            refine v_iload_n hx d_MT_total_58 rfl rfl ?_
            refine n_if_eq (tgt := 69) hx d_MT_total_59 (by decide) (by omega) (fun c59 => ?_) (fun c59 => ?_)
            · refine v_aload_n hx d_MT_total_69 rfl rfl ?_
              refine v_getN hx cf_Ma 4 (by decide) kN_MT_102 d_MT_total_70 (hMs j hj).2.m0 (hMs j hj).2.f0 rfl ?_
              have e_ : ix (p - 100) c = some j := e
              exact v_iret hx hr d_MT_total_73 ⟨_, w, (c, n, k, nx, ou, wl, wd), rfl, Out.rf, ⟨_, _, _, _, _, _, _, _, _, _, _, _, _, _, _, _, hC⟩, (by show _ = sTotal (c, n, k, nx, ou, wl, wd) p; simp only [sTotal, if_neg c1, if_neg (show ¬ p = 1 from c11), if_neg (show ¬ (200 : Int32) ≤ p from Int32.not_le.mpr c24), e_]), rfl⟩
            · exact absurd c59 (by omega)
        · exact absurd c36 (by omega)
      · refine v_iconst (v := (nI 1)) hx d_MT_total_27 rfl ?_
        refine v_goto (tgt := 32) hx d_MT_total_28 (by decide) ?_
        refine v_istore_n (lv' := [some (.ref (A 0)), some (.int p), some (.int (nI 1)), none]) hx d_MT_total_32 rfl (by decide) rfl ?_
        refine v_aload_n hx d_MT_total_33 rfl rfl ?_
        refine v_iload_n hx d_MT_total_34 rfl rfl ?_
        refine v_iload_n hx d_MT_total_35 rfl rfl ?_
        refine n_if_eq (tgt := 45) hx d_MT_total_36 (by decide) (by omega) (fun c36 => ?_) (fun c36 => ?_)
        · exact absurd c36 (by omega)
        · refine v_sipush (v := (nI 200)) hx d_MT_total_39 rfl ?_
          refine v_goto (tgt := 47) hx d_MT_total_42 (by decide) ?_
          refine v_isub hx d_MT_total_47 rfl ?_
          refine v_callV (as := [.int (p - (nI 200))]) (q := (R_MT, T_MT, 5)) hx (c_MT_find hT hMs hc (p - (nI 200))) cy_MT_find k_MT_45 ki_MT_find kl_MT_find d_MT_total_48 (by decide) (ci := 3) rfl hT.m0 hT.f0 (by decide) rfl rfl (Nat.le_of_ble_eq_true rfl) (fun v2 L f p2 => ?_)
          obtain ⟨(⟨e, rfl⟩ | ⟨j, e, hj, rfl⟩), rfl, rfl⟩ := p2
          · refine v_astore_nN (lv' := [some (.ref (A 0)), some (.int p), some (.int (nI 1)), some (.null)]) hx d_MT_total_51 rfl (by decide) rfl ?_
            refine v_aload_nN hx d_MT_total_52 rfl rfl ?_
            refine v_ifnonnullN hx d_MT_total_53 ?_
            refine v_iconst (v := (-1)) hx d_MT_total_56 rfl ?_
            have e_ : ix (p - 200) c = none := e
            exact v_iret hx hr d_MT_total_57 ⟨_, w, (c, n, k, nx, ou, wl, wd), rfl, Out.rf, ⟨_, _, _, _, _, _, _, _, _, _, _, _, _, _, _, _, hC⟩, (by show _ = sTotal (c, n, k, nx, ou, wl, wd) p; simp only [sTotal, if_neg c1, if_neg (show ¬ p = 1 from c11), if_pos (show (200 : Int32) ≤ p from Int32.not_lt.mp c24), e_]), rfl⟩
          · refine v_astore_n (lv' := [some (.ref (A 0)), some (.int p), some (.int (nI 1)), some (.ref (M j 0))]) hx d_MT_total_51 rfl (by decide) rfl ?_
            refine v_aload_n hx d_MT_total_52 rfl rfl ?_
            refine v_ifnonnull (tgt := 58) hx d_MT_total_53 (by decide) ?_
            refine v_iload_n hx d_MT_total_58 rfl rfl ?_
            refine n_if_eq (tgt := 69) hx d_MT_total_59 (by decide) (by omega) (fun c59 => ?_) (fun c59 => ?_)
            · exact absurd c59 (by omega)
            · refine v_aload_n hx d_MT_total_62 rfl rfl ?_
              refine v_getN hx cf_Ma 5 (by decide) kN_MT_85 d_MT_total_63 (hMs j hj).2.m0 (hMs j hj).2.f0 rfl ?_
              refine v_goto (tgt := 73) hx d_MT_total_66 (by decide) ?_
              have e_ : ix (p - 200) c = some j := e
              exact v_iret hx hr d_MT_total_73 ⟨_, w, (c, n, k, nx, ou, wl, wd), rfl, Out.rf, ⟨_, _, _, _, _, _, _, _, _, _, _, _, _, _, _, _, hC⟩, (by show _ = sTotal (c, n, k, nx, ou, wl, wd) p; simp only [sTotal, if_neg c1, if_neg (show ¬ p = 1 from c11), if_pos (show (200 : Int32) ≤ p from Int32.not_lt.mp c24), e_]), rfl⟩
    · refine v_aload_n hx d_MT_total_14 rfl rfl ?_
      refine v_get hx cf_MT 4 (by decide) k_MT_33 d_MT_total_15 hT.m0 hT.f0 rfl ?_
      refine v_alen hx d_MT_total_18 hC.2.2.2.1.1 hC.2.2.2.1.2.2 ?_
      exact v_iret hx hr d_MT_total_19 ⟨_, w, (c, n, k, nx, ou, wl, wd), rfl, Out.rf, ⟨_, _, _, _, _, _, _, _, _, _, _, _, _, _, _, _, hC⟩, (by show _ = sTotal (c, n, k, nx, ou, wl, wd) p; simp only [sTotal, if_neg c1, if_pos (show p = 1 from c11)]), rfl⟩
  · refine v_aload_n hx d_MT_total_4 rfl rfl ?_
    refine v_get hx cf_MT 3 (by decide) k_MT_29 d_MT_total_5 hT.m0 hT.f0 rfl ?_
    exact v_iret hx hr d_MT_total_8 ⟨_, w, (c, n, k, nx, ou, wl, wd), rfl, Out.rf, ⟨_, _, _, _, _, _, _, _, _, _, _, _, _, _, _, _, hC⟩, (by show _ = sTotal (c, n, k, nx, ou, wl, wd) p; simp only [sTotal, if_pos c1]), rfl⟩
set_option maxHeartbeats 4000000 in
set_option maxRecDepth 100000 in
theorem c_MT_along {G : GT} {L : List Nat} {f : Nat → va_E} {w A : Nat → Nat} {c : Nat} {n k : Nat → Nat} {nx ou : Nat → Nat → Nat} {wl : Nat} {wd : Nat → Nat} (hY : SysS G L f w A (c, n, k, nx, ou, wl, wd)) (p q : Int32) : Con G y_MT_along (.code y_MT_along b_MT_along 6 (some .int) :: BIG) 1 22 0 0 [.ref (A 0), .int p, .int q] L f (fun v L' f' => ∃ (vi : Int32) (w' : Nat → Nat) (σ' : SG), v = some (.int vi) ∧ Out L f w L' f' w' ∧ SysS G L' f' w' A σ' ∧ vi = sAlong (c, n, k, nx, ou, wl, wd) p q ∧ σ' = (c, n, k, nx, ou, wl, wd)) := by
  refine con_of (cc := b_MT_along) (mL := 6) (lv := [some (.ref (A 0)), some (.int p), some (.int q), none, none, none]) (by decide) (by intro w hw; simp at hw; rcases hw with rfl | rfl | rfl <;> rfl) (by first | exact Nat.le_of_ble_eq_true rfl | decide) rfl ?_
  intro x hx hr hin
  obtain ⟨S, Fm, wa, mp, M, lo, fi, b, nm, pl, st, sc, ss, sz, bo, fc, hC⟩ := hY
  have hC : SysC G L f w A S Fm c wa mp M nx ou lo fi n k b nm pl st sc ss sz bo fc wl wd := hC
  have hT := hC.1
  have hMs := hC.ms
  have hc := hC.c12
  have hwl := hC.2.2.2.2.2.2.2.1
  have hw4 := hC.2.2.2.2.2.2.2.2
  refine v_aload_n hx d_MT_along_0 rfl rfl ?_
  refine v_iload_n hx d_MT_along_1 rfl rfl ?_
  refine v_callV (as := [.int p]) (q := (R_MT, T_MT, 5)) hx (c_MT_find hT hMs hc p) cy_MT_find k_MT_45 ki_MT_find kl_MT_find d_MT_along_2 (by decide) (ci := 3) rfl hT.m0 hT.f0 (by decide) rfl rfl (Nat.le_of_ble_eq_true rfl) (fun v1 L f p1 => ?_)
  obtain ⟨(⟨e, rfl⟩ | ⟨j, e, hj, rfl⟩), rfl, rfl⟩ := p1
  · refine v_astore_nN (lv' := [some (.ref (A 0)), some (.int p), some (.int q), some (.null), none, none]) hx d_MT_along_5 rfl (by decide) rfl ?_
    refine v_aload_nN hx d_MT_along_6 rfl rfl ?_
    refine v_ifnullN (tgt := 18) hx d_MT_along_7 (by decide) ?_
    refine v_iconst (v := (-1)) hx d_MT_along_18 rfl ?_
    exact v_iret hx hr d_MT_along_19 ⟨_, w, (c, n, k, nx, ou, wl, wd), rfl, Out.rf, ⟨_, _, _, _, _, _, _, _, _, _, _, _, _, _, _, _, hC⟩, (by show _ = sAlong (c, n, k, nx, ou, wl, wd) _ _; simp only [sAlong, e]), rfl⟩
  · have hA := hC.ok hj
    have hA_ := hA
    obtain ⟨hn1, hn2, hk1, hk2, hnx⟩ := hA_
    refine v_astore_n (lv' := [some (.ref (A 0)), some (.int p), some (.int q), some (.ref (M j 0)), none, none]) hx d_MT_along_5 rfl (by decide) rfl ?_
    refine v_aload_n hx d_MT_along_6 rfl rfl ?_
    refine v_ifnull hx d_MT_along_7 ?_
    refine v_aload_n hx d_MT_along_10 rfl rfl ?_
    refine v_iload_n hx d_MT_along_11 rfl rfl ?_
    refine v_callV (as := [.int q]) (q := (R_Ma, T_Ma, 7)) hx (c_Ma_hasState (hMs j hj).2 (by omega) q) cy_Ma_hasState k_MT_49 ki_Ma_hasState kl_Ma_hasState d_MT_along_12 (by decide) (ci := 1) rfl (hMs j hj).2.m0 (hMs j hj).2.f0 (by decide) rfl rfl (Nat.le_of_ble_eq_true rfl) (fun v2 L f p2 => ?_)
    obtain ⟨rfl, rfl, rfl⟩ := p2
    refine v_if_ne (tgt := 20) hx d_MT_along_15 (by decide) (fun c15 => ?_) (fun c15 => ?_)
    · obtain ⟨s, es⟩ := some_ix c15
      obtain ⟨hs, e2⟩ := ix_some (by omega) es
      subst e2
      refine v_iload_n hx d_MT_along_20 rfl rfl ?_
      refine v_istore (lv' := [some (.ref (A 0)), some (.int p), some (.int (nI s)), some (.ref (M j 0)), some (.int (nI s)), none]) hx d_MT_along_21 (by decide) rfl ?_
      refine v_iconst (v := (nI 0)) hx d_MT_along_23 rfl ?_
      refine v_istore (lv' := [some (.ref (A 0)), some (.int p), some (.int (nI s)), some (.ref (M j 0)), some (.int (nI s)), some (.int (nI 0))]) hx d_MT_along_24 (by decide) rfl ?_
      have H26 : ∀ (fu : Nat) (i : Nat) (a : Nat), wl - i < fu → (i ≤ wl) → (a < n j) → (aWalk (c, n, k, nx, ou, wl, wd) j s i = some a) → V G { frames := 1, cells := 0, slots := 0, locals := 22 } 6 x L f 0 0 [some (.ref (A 0)), some (.int p), some (.int (nI s)), some (.ref (M j 0)), some (.int (nI a)), some (.int (nI i))] 26 [] := by
        intro fu
        induction fu with
        | zero => intro i a hm; exact absurd hm (Nat.not_lt_zero _)
        | succ fu ih =>
          intro i a hm hi ha haw
          refine v_iload hx d_MT_along_26 rfl ?_
          refine v_aload_n hx d_MT_along_28 rfl rfl ?_
          refine v_get hx cf_MT 4 (by decide) k_MT_33 d_MT_along_29 hT.m0 hT.f0 rfl ?_
          refine v_alen hx d_MT_along_32 hC.2.2.2.1.1 hC.2.2.2.1.2.2 ?_
          refine n_icmp_ge (tgt := 73) hx d_MT_along_33 (by decide) (by omega) (by omega) (fun c33 => ?_) (fun c33 => ?_)
          · refine v_iload hx d_MT_along_73 rfl ?_
            have hil : i = wl := by omega
            rw [hil] at haw
            exact v_iret hx hr d_MT_along_75 ⟨_, w, (c, n, k, nx, ou, wl, wd), rfl, Out.rf, ⟨_, _, _, _, _, _, _, _, _, _, _, _, _, _, _, _, hC⟩, (by show _ = sAlong (c, n, k, nx, ou, wl, wd) _ _; simp only [sAlong, e, es]; exact (congrArg oI haw).symm), rfl⟩
          · have hwi := hw4 i (by omega)
            refine v_aload_n hx d_MT_along_36 rfl rfl ?_
            refine v_aload_n hx d_MT_along_37 rfl rfl ?_
            refine v_get hx cf_MT 4 (by decide) k_MT_33 d_MT_along_38 hT.m0 hT.f0 rfl ?_
            refine v_iload hx d_MT_along_41 rfl ?_
            refine n_iald hx d_MT_along_43 hC.2.2.2.1.1 hC.2.2.2.1.2.2 (by omega) (by omega) ?_
            refine v_callV (as := [.int (nI (wd i))]) (q := (R_Ma, T_Ma, 7)) hx (c_Ma_hasInput (hMs j hj).2 (by omega) (nI (wd i))) cy_Ma_hasInput k_MT_53 ki_Ma_hasInput kl_Ma_hasInput d_MT_along_44 (by decide) (ci := 1) rfl (hMs j hj).2.m0 (hMs j hj).2.f0 (by decide) rfl rfl (Nat.le_of_ble_eq_true rfl) (fun v3 L f p3 => ?_)
            obtain ⟨rfl, rfl, rfl⟩ := p3
            rw [ix_isSome (by omega) (by omega)]
            refine v_if_ne (tgt := 52) hx d_MT_along_47 (by decide) (fun c47 => ?_) (fun c47 => ?_)
            · have hki : wd i < k j := of_decide_eq_true (Bool.of_not_eq_false (fun z => c47 ((bI_0 _).mpr z)))
              have hxa := hnx a (wd i) ha hki
              refine v_aload_n hx d_MT_along_52 rfl rfl ?_
              refine v_iload hx d_MT_along_53 rfl ?_
              refine v_aload_n hx d_MT_along_55 rfl rfl ?_
              refine v_get hx cf_MT 4 (by decide) k_MT_33 d_MT_along_56 hT.m0 hT.f0 rfl ?_
              refine v_iload hx d_MT_along_59 rfl ?_
              refine n_iald hx d_MT_along_61 hC.2.2.2.1.1 hC.2.2.2.1.2.2 (by omega) (by omega) ?_
              refine v_callV (as := [.int (nI a), .int (nI (wd i))]) (q := (R_Ma, T_Ma, 7)) hx (c_Ma_nextOf (hMs j hj).2 a (wd i) (by omega) (by omega)) cy_Ma_nextOf k_MT_60 ki_Ma_nextOf kl_Ma_nextOf d_MT_along_62 (by decide) (ci := 1) rfl (hMs j hj).2.m0 (hMs j hj).2.f0 (by decide) rfl rfl (Nat.le_of_ble_eq_true rfl) (fun v4 L f p4 => ?_)
              obtain ⟨rfl, rfl, rfl⟩ := p4
              refine v_istore (lv' := [some (.ref (A 0)), some (.int p), some (.int (nI s)), some (.ref (M j 0)), some (.int (nI (nx j (a * 4 + wd i)))), some (.int (nI i))]) hx d_MT_along_65 (by decide) rfl ?_
              refine n_iinc (lv' := [some (.ref (A 0)), some (.int p), some (.int (nI s)), some (.ref (M j 0)), some (.int (nI (nx j (a * 4 + wd i)))), some (.int (nI (i + 1)))]) hx d_MT_along_67 rfl (by decide) rfl ?_
              refine v_goto (tgt := 26) hx d_MT_along_70 (by decide) ?_
              exact ih (i + 1) (nx j (a * 4 + wd i)) (by omega) (by omega) hxa.1 (by show (match aWalk (c, n, k, nx, ou, wl, wd) j s i with | none => none | some a => if wd i < k j then some (nx j (a * 4 + wd i)) else none) = _; rw [haw]; exact if_pos hki)
            · refine v_iconst (v := (-1)) hx d_MT_along_50 rfl ?_
              have hnn : aWalk (c, n, k, nx, ou, wl, wd) j s (i + 1) = none := by show (match aWalk (c, n, k, nx, ou, wl, wd) j s i with | none => none | some a => if wd i < k j then some (nx j (a * 4 + wd i)) else none) = none; rw [haw]; exact if_neg (of_decide_eq_false ((bI_0 _).mp c47))
              have hnw : aWalk (c, n, k, nx, ou, wl, wd) j s wl = none := aWalk_none hnn wl (by omega)
              exact v_iret hx hr d_MT_along_51 ⟨_, w, (c, n, k, nx, ou, wl, wd), rfl, Out.rf, ⟨_, _, _, _, _, _, _, _, _, _, _, _, _, _, _, _, hC⟩, (by show _ = sAlong (c, n, k, nx, ou, wl, wd) _ _; simp only [sAlong, e, es]; exact (congrArg oI hnw).symm), rfl⟩
      exact H26 _ 0 s (Nat.lt_succ_self _) (Nat.zero_le _) hs rfl
    · refine v_iconst (v := (-1)) hx d_MT_along_18 rfl ?_
      exact v_iret hx hr d_MT_along_19 ⟨_, w, (c, n, k, nx, ou, wl, wd), rfl, Out.rf, ⟨_, _, _, _, _, _, _, _, _, _, _, _, _, _, _, _, hC⟩, (by show _ = sAlong (c, n, k, nx, ou, wl, wd) _ _; simp only [sAlong, e, none_ix c15]), rfl⟩
set_option maxHeartbeats 4000000 in
set_option maxRecDepth 100000 in
theorem c_MT_reset {G : GT} {L : List Nat} {f : Nat → va_E} {w A : Nat → Nat} {c : Nat} {n k : Nat → Nat} {nx ou : Nat → Nat → Nat} {wl : Nat} {wd : Nat → Nat} (hY : SysS G L f w A (c, n, k, nx, ou, wl, wd)) (p : Int32) : Con G y_MT_reset (.code y_MT_reset b_MT_reset 4 (some .int) :: BIG) 4 91 1 4096 [.ref (A 0), .int p] L f (fun v L' f' => ∃ (vi : Int32) (w' : Nat → Nat) (σ' : SG), v = some (.int vi) ∧ Out L f w L' f' w' ∧ SysS G L' f' w' A σ' ∧ rReset (c, n, k, nx, ou, wl, wd) p vi σ') := by
  refine con_of (cc := b_MT_reset) (mL := 4) (lv := [some (.ref (A 0)), some (.int p), none, none]) (by decide) (by intro w hw; simp at hw; rcases hw with rfl | rfl <;> rfl) (by first | exact Nat.le_of_ble_eq_true rfl | decide) rfl ?_
  intro x hx hr hin
  obtain ⟨S, Fm, wa, mp, M, lo, fi, b, nm, pl, st, sc, ss, sz, bo, fc, hC⟩ := hY
  have hC : SysC G L f w A S Fm c wa mp M nx ou lo fi n k b nm pl st sc ss sz bo fc wl wd := hC
  have hT := hC.1
  have hMs := hC.ms
  have hc := hC.c12
  refine v_aload_n hx d_MT_reset_0 rfl rfl ?_
  refine v_iload_n hx d_MT_reset_1 rfl rfl ?_
  refine v_callV (as := [.int p]) (q := (R_MT, T_MT, 5)) hx (c_MT_findSmall hT hMs hc (fun j hj => (hC.ok hj).2.1) p) cy_MT_findSmall k_MT_111 ki_MT_findSmall kl_MT_findSmall d_MT_reset_2 (by decide) (ci := 3) rfl hT.m0 hT.f0 (by decide) rfl rfl (Nat.le_of_ble_eq_true rfl) (fun v1 L f p1 => ?_)
  obtain ⟨(⟨e, rfl⟩ | ⟨j, e, hj, h12, rfl⟩), rfl, rfl⟩ := p1
  · refine v_astore_nN (lv' := [some (.ref (A 0)), some (.int p), some (.null), none]) hx d_MT_reset_5 rfl (by decide) rfl ?_
    refine v_aload_nN hx d_MT_reset_6 rfl rfl ?_
    refine v_ifnonnullN hx d_MT_reset_7 ?_
    refine v_iconst (v := (-1)) hx d_MT_reset_10 rfl ?_
    refine v_widen (k' := 1) (n' := 4096) (by omega) (by omega) ?_
    exact v_iret hx hr d_MT_reset_11 ⟨_, w, (c, n, k, nx, ou, wl, wd), rfl, Out.rf, ⟨_, _, _, _, _, _, _, _, _, _, _, _, _, _, _, _, hC⟩, Or.inl ⟨fun m hm => by rcases e with e | ⟨j, e, h12⟩; rw [e] at hm; cases hm; rw [e] at hm; cases hm; exact h12, rfl, Rel.rf _⟩⟩
  · have hA := hC.ok hj
    refine v_astore_n (lv' := [some (.ref (A 0)), some (.int p), some (.ref (M j 0)), none]) hx d_MT_reset_5 rfl (by decide) rfl ?_
    refine v_aload_n hx d_MT_reset_6 rfl rfl ?_
    refine v_ifnonnull (tgt := 12) hx d_MT_reset_7 (by decide) ?_
    refine v_aload_n hx d_MT_reset_12 rfl rfl ?_
    refine v_aload_n hx d_MT_reset_13 rfl rfl ?_
    refine v_callV (as := [.ref (M j 0)]) (q := (R_MT, T_MT, 5)) hx (c_MT_seekReset hT hC.2.1 (hMs j hj).2 (by omega) hA h12) cy_MT_seekReset k_MT_114 ki_MT_seekReset kl_MT_seekReset d_MT_reset_14 (by decide) (ci := 3) rfl hT.m0 hT.f0 (by decide) rfl rfl (Nat.le_of_ble_eq_true rfl) (fun v2 L f1 p2 => ?_)
    obtain ⟨rfl, hF1, (⟨hw, rfl, nm1, pl1, st1, sc1, hS1⟩ | ⟨a, nm1, pl1, st1, sc1, hw, rfl, hS1, hQ1, hq1⟩)⟩ := p2
    · have hC1 := hC.search hS1 hF1
      have hO1 : Out L f w L f1 w := Out.g hF1 (by decide)
      refine v_istore_n (lv' := [some (.ref (A 0)), some (.int p), some (.ref (M j 0)), some (.int (-1))]) hx d_MT_reset_17 rfl (by decide) rfl ?_
      refine v_iload_n hx d_MT_reset_18 rfl rfl ?_
      refine v_iconst (v := (-1)) hx d_MT_reset_19 rfl ?_
      refine v_icmp_ne (tgt := 27) hx d_MT_reset_20 (by decide) (fun c20 => ?_) (fun c20 => ?_)
      · exact absurd rfl c20
      · refine v_iconst (v := (-1)) hx d_MT_reset_23 rfl ?_
        refine v_goto (tgt := 32) hx d_MT_reset_24 (by decide) ?_
        refine v_widen (k' := 1) (n' := 4096) (by omega) (by omega) ?_
        exact v_iret hx hr d_MT_reset_32 ⟨_, w, (c, n, k, nx, ou, wl, wd), rfl, hO1, ⟨_, _, _, _, _, _, _, _, _, _, _, _, _, _, _, _, hC1⟩, Or.inr ⟨j, none, e, h12, hw, rfl, Rel.rf _⟩⟩
    · have hC1 := hC.search hS1 hF1
      have hO1 : Out L f w L f1 w := Out.g hF1 (by decide)
      have hpw : 2 ^ n j ≤ 4096 := by have := Nat.pow_le_pow_right (show 0 < 2 by decide) h12; simpa using this
      have hlen : (bout (rNx (nx j) (n j)) (k j) (rQ (n j)) a).length ≤ 2 ^ n j := hq1.len
      have haL : a < (bout (rNx (nx j) (n j)) (k j) (rQ (n j)) a).length := hw.1 a (Nat.le_refl _)
      have hTell := tell_at hQ1.stq hq1 (Nat.le_trans hlen hpw) haL
      generalize hWe : qW (bout (rNx (nx j) (n j)) (k j) (rQ (n j)) a) a = W at hTell
      have hW4 : ∀ x ∈ W, x < 4 := by rw [← hWe]; exact qW_lt hq1 a a (Nat.le_refl _) haL
      have hWl : W.length ≤ a := by rw [← hWe]; exact wdA_len hq1.F a a (Nat.le_refl _) haL
      refine v_istore_n (lv' := [some (.ref (A 0)), some (.int p), some (.ref (M j 0)), some (.int (nI a))]) hx d_MT_reset_17 rfl (by decide) rfl ?_
      refine v_iload_n hx d_MT_reset_18 rfl rfl ?_
      refine v_iconst (v := (-1)) hx d_MT_reset_19 rfl ?_
      refine v_icmp_ne (tgt := 27) hx d_MT_reset_20 (by decide) (fun c20 => ?_) (fun c20 => ?_)
      · refine v_aload_n hx d_MT_reset_27 rfl rfl ?_
        refine v_iload_n hx d_MT_reset_28 rfl rfl ?_
        refine v_callV (as := [.int (nI a)]) (q := (R_MT, T_MT, 5)) hx (c_MT_tell hC1.1 hC1.2.1 a _ hTell) cy_MT_tell k_MT_94 ki_MT_tell kl_MT_tell d_MT_reset_29 (by decide) (ci := 3) rfl hC1.1.m0 hC1.1.f0 (by decide) rfl rfl (Nat.le_of_ble_eq_true rfl) (fun v3 L2 f2 p3 => ?_)
        obtain ⟨rfl, q, w2, hq, rfl, hw2, hq3, hT2, ⟨g, hg1, hg2⟩, hfr2⟩ := p3
        have hC2 := hC1.tell (fun p h => List.mem_append_left _ h) hw2 (List.mem_append_right _ List.mem_cons_self) hq3 hT2 hfr2 hg1 hg2 (by omega) hW4
        refine v_widen (k' := 1) (n' := 4096) (by omega) (by omega) ?_
        exact v_iret hx hr d_MT_reset_32 ⟨_, w2, (c, n, k, nx, ou, W.length, g), rfl, hO1.tr ⟨fun p h => List.mem_append_left _ h, hw2, fun p h1 h2 => hfr2 p h1 (by omega)⟩, ⟨_, _, _, _, _, _, _, _, _, _, _, _, _, _, _, _, hC2⟩, Or.inr ⟨j, some a, e, h12, hw, by show _ = nI (qW _ _).length; rw [hWe], by rw [hWe]; exact ⟨relT.rf _, rfl, hg2⟩⟩⟩
      · exact absurd c20 (nI_m1 (by omega))
