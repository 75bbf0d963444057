/-! ===== methods that may throw ===== -/
theorem TellOK.lt4 {st : Nat → Nat} {num N : Nat} {W : List Nat} (h : TellOK st num N W) : ∀ x ∈ W, x < 4 := by
  obtain ⟨h1, h2, h3, h4, rfl⟩ := h
  have key : ∀ (m a : Nat), a ≤ m → a < N → ∀ x ∈ wdA (fun a => st a / 4) (fun a => st a % 4) a, x < 4 := by
    intro m
    induction m with
    | zero =>
      intro a ha _ x hx
      have : a = 0 := by omega
      subst this
      rw [wdA_0] at hx
      cases hx
    | succ m ih =>
      intro a ha haN x hx
      rcases Nat.eq_zero_or_pos a with z | z
      · subst z; rw [wdA_0] at hx; cases hx
      · rw [wdA_s h3 z haN] at hx
        have hlt := h3 a z haN
        rcases List.mem_append.mp hx with q | q
        · exact ih (st a / 4) (by omega) (by omega) x q
        · simp at q; omega
  exact key num num (Nat.le_refl _) h1
theorem TellOK.len {st : Nat → Nat} {num N : Nat} {W : List Nat} (h : TellOK st num N W) : W.length ≤ 4096 := by
  obtain ⟨h1, h2, h3, h4, rfl⟩ := h
  have := wdA_len (B := fun a => st a % 4) h3 num num (Nat.le_refl _) h1
  omega
theorem bx0_XN : decode b_XN_init 0 = .ok (.aload_n 0, 1) := by decide +kernel
theorem bx1_XN : decode b_XN_init 1 = .ok (.aload_n 1, 1) := by decide +kernel
theorem bx2_XN : decode b_XN_init 2 = .ok (.invokespecial 13, 3) := by decide +kernel
theorem bx5_XN : decode b_XN_init 5 = .ok (.return_, 1) := by decide +kernel
theorem bx0_XI : decode b_XI_init 0 = .ok (.aload_n 0, 1) := by decide +kernel
theorem bx1_XI : decode b_XI_init 1 = .ok (.aload_n 1, 1) := by decide +kernel
theorem bx2_XI : decode b_XI_init 2 = .ok (.invokespecial 7, 3) := by decide +kernel
theorem bx5_XI : decode b_XI_init 5 = .ok (.return_, 1) := by decide +kernel
theorem bx0_XA : decode b_XA_init 0 = .ok (.aload_n 0, 1) := by decide +kernel
theorem bx1_XA : decode b_XA_init 1 = .ok (.aload_n 1, 1) := by decide +kernel
theorem bx2_XA : decode b_XA_init 2 = .ok (.invokespecial 7, 3) := by decide +kernel
theorem bx5_XA : decode b_XA_init 5 = .ok (.return_, 1) := by decide +kernel
set_option maxHeartbeats 4000000 in
set_option maxRecDepth 100000 in
theorem c_MT_letter {G : GT} {L : List Nat} {f : Nat → va_E} (hoff : G.1.stackTraces = false) {w A : Nat → Nat} {c : Nat} {n k : Nat → Nat} {nx ou : Nat → Nat → Nat} {wl : Nat} {wd : Nat → Nat} (hY : SysS G L f w A (c, n, k, nx, ou, wl, wd)) (p : Int32) : ConT G y_MT_letter (.code y_MT_letter b_MT_letter 2 (some .int) :: BIG) 6 82 1 6 [.ref (A 0), .int p] L f "java/util/NoSuchElementException" (fun v L' f' => ∃ (vi : Int32) (w' : Nat → Nat) (σ' : SG), v = some (.int vi) ∧ Out L f w L' f' w' ∧ SysS G L' f' w' A σ' ∧ (some vi) = sLetter (c, n, k, nx, ou, wl, wd) p ∧ σ' = (c, n, k, nx, ou, wl, wd)) (fun L' f' => ∃ (w' : Nat → Nat) (σ' : SG), Out L f w L' f' w' ∧ SysS G L' f' w' A σ' ∧ none = sLetter (c, n, k, nx, ou, wl, wd) p ∧ σ' = (c, n, k, nx, ou, wl, wd)) := by
  refine con_ofT (cc := b_MT_letter) (mL := 2) (lv := [some (.ref (A 0)), some (.int p)]) (by decide) (by intro w hw; simp at hw; rcases hw with rfl | rfl <;> rfl) (by first | exact Nat.le_of_ble_eq_true rfl | decide) rfl ?_
  intro x hx hr hin hnh hTX
  obtain ⟨S, Fm, wa, mp, M, lo, fi, b, nm, pl, st, sc, ss, sz, bo, fc, hC⟩ := hY
  have hC : SysC G L f w A S Fm c wa mp M nx ou lo fi n k b nm pl st sc ss sz bo fc wl wd := hC
  have hT := hC.1
  have hMs := hC.ms
  have hc := hC.c12
  have hwl := hC.2.2.2.2.2.2.2.1
  refine v_iload_n hx d_MT_letter_0 rfl rfl ?_
  refine v_if_lt (tgt := 13) hx d_MT_letter_1 (by decide) (fun c1 => ?_) (fun c1 => ?_)
  · have e : ix p wl = none := ix_neg c1
    refine v_widen (k' := 0) (n' := 0) (by omega) (by omega) ?_
    exact v_throw (z := (144, "no such input of the word")) hx hnh hTX hoff (by decide) at_XN (by decide) bx0_XN bx1_XN bx2_XN bx5_XN k_MT_142 kt_XN kz_XN d_MT_letter_13 d_MT_letter_16 d_MT_letter_17 d_MT_letter_19 d_MT_letter_22 hr (by decide) (by decide) (by decide) ⟨w, (c, n, k, nx, ou, wl, wd), Out.rf, ⟨_, _, _, _, _, _, _, _, _, _, _, _, _, _, _, _, hC⟩, (by show none = sLetter (c, n, k, nx, ou, wl, wd) p; simp only [sLetter, e]), rfl⟩
  · refine v_iload_n hx d_MT_letter_4 rfl rfl ?_
    refine v_aload_n hx d_MT_letter_5 rfl rfl ?_
    refine v_get hx cf_MT 4 (by decide) k_MT_33 d_MT_letter_6 hT.m0 hT.f0 rfl ?_
    refine v_alen hx d_MT_letter_9 hC.2.2.2.1.1 hC.2.2.2.1.2.2 ?_
    refine v_icmp_lt (tgt := 23) hx d_MT_letter_10 (by decide) (fun c10 => ?_) (fun c10 => ?_)
    · obtain ⟨j, ej, hj, e⟩ := ix_in (n := wl) (by omega) c1 (Int32.not_le.mpr c10)
      subst e
      refine v_aload_n hx d_MT_letter_23 rfl rfl ?_
      refine v_get hx cf_MT 4 (by decide) k_MT_33 d_MT_letter_24 hT.m0 hT.f0 rfl ?_
      refine v_iload_n hx d_MT_letter_27 rfl rfl ?_
      refine n_iald hx d_MT_letter_28 hC.2.2.2.1.1 hC.2.2.2.1.2.2 (by omega) (by omega) ?_
      refine v_widen (k' := 1) (n' := 6) (by omega) (by omega) ?_
      exact v_iretT hx hr d_MT_letter_29 ⟨_, w, (c, n, k, nx, ou, wl, wd), rfl, Out.rf, ⟨_, _, _, _, _, _, _, _, _, _, _, _, _, _, _, _, hC⟩, (by show _ = sLetter (c, n, k, nx, ou, wl, wd) _; simp only [sLetter, ej]), rfl⟩
    · have e : ix p wl = none := ix_ge (by omega) (Int32.not_lt.mp c10)
      refine v_widen (k' := 0) (n' := 0) (by omega) (by omega) ?_
      exact v_throw (z := (144, "no such input of the word")) hx hnh hTX hoff (by decide) at_XN (by decide) bx0_XN bx1_XN bx2_XN bx5_XN k_MT_142 kt_XN kz_XN d_MT_letter_13 d_MT_letter_16 d_MT_letter_17 d_MT_letter_19 d_MT_letter_22 hr (by decide) (by decide) (by decide) ⟨w, (c, n, k, nx, ou, wl, wd), Out.rf, ⟨_, _, _, _, _, _, _, _, _, _, _, _, _, _, _, _, hC⟩, (by show none = sLetter (c, n, k, nx, ou, wl, wd) p; simp only [sLetter, e]), rfl⟩
set_option maxHeartbeats 4000000 in
set_option maxRecDepth 100000 in
theorem c_MT_alike {G : GT} {L : List Nat} {f : Nat → va_E} (hoff : G.1.stackTraces = false) {w A : Nat → Nat} {c : Nat} {n k : Nat → Nat} {nx ou : Nat → Nat → Nat} {wl : Nat} {wd : Nat → Nat} (hY : SysS G L f w A (c, n, k, nx, ou, wl, wd)) (p q r t : Int32) : ConT G y_MT_alike (.code y_MT_alike b_MT_alike 8 (some .boolean) :: BIG) 6 95 1 4096 [.ref (A 0), .int p, .int q, .int r, .int t] L f "java/lang/IllegalArgumentException" (fun v L' f' => ∃ (vi : Int32) (w' : Nat → Nat) (σ' : SG), v = some (.int vi) ∧ Out L f w L' f' w' ∧ SysS G L' f' w' A σ' ∧ rAlike (c, n, k, nx, ou, wl, wd) p q r t (some vi) σ') (fun L' f' => ∃ (w' : Nat → Nat) (σ' : SG), Out L f w L' f' w' ∧ SysS G L' f' w' A σ' ∧ rAlike (c, n, k, nx, ou, wl, wd) p q r t none σ') := by
  refine con_ofT (cc := b_MT_alike) (mL := 8) (lv := [some (.ref (A 0)), some (.int p), some (.int q), some (.int r), some (.int t), none, none, none]) (by decide) (by intro w hw; simp at hw; rcases hw with rfl | rfl | rfl | rfl | rfl <;> rfl) (by first | exact Nat.le_of_ble_eq_true rfl | decide) rfl ?_
  intro x hx hr hin hnh hTX
  obtain ⟨S, Fm, wa, mp, M, lo, fi, b, nm, pl, st, sc, ss, sz, bo, fc, hC⟩ := hY
  have hC : SysC G L f w A S Fm c wa mp M nx ou lo fi n k b nm pl st sc ss sz bo fc wl wd := hC
  have hT := hC.1
  have hMs := hC.ms
  have hc := hC.c12
  refine v_aload_n hx d_MT_alike_0 rfl rfl ?_
  refine v_iload_n hx d_MT_alike_1 rfl rfl ?_
  refine v_callV (as := [.int p]) (q := (R_MT, T_MT, 5)) hx (c_MT_find hT hMs hc p) cy_MT_find k_MT_45 ki_MT_find kl_MT_find d_MT_alike_2 (by decide) (ci := 3) rfl hT.m0 hT.f0 (by decide) rfl rfl (Nat.le_of_ble_eq_true rfl) (fun v1 L f p1 => ?_)
  obtain ⟨(⟨e, rfl⟩ | ⟨j, e, hj, rfl⟩), rfl, rfl⟩ := p1
  · refine v_astoreN (lv' := [some (.ref (A 0)), some (.int p), some (.int q), some (.int r), some (.int t), some (.null), none, none]) hx d_MT_alike_5 (by decide) rfl ?_
    refine v_aload_n hx d_MT_alike_7 rfl rfl ?_
    refine v_iload_n hx d_MT_alike_8 rfl rfl ?_
    refine v_callV (as := [.int r]) (q := (R_MT, T_MT, 5)) hx (c_MT_find hT hMs hc r) cy_MT_find k_MT_45 ki_MT_find kl_MT_find d_MT_alike_9 (by decide) (ci := 3) rfl hT.m0 hT.f0 (by decide) rfl rfl (Nat.le_of_ble_eq_true rfl) (fun v2 L f p2 => ?_)
    obtain ⟨(⟨e2, rfl⟩ | ⟨j2, e2, hj2, rfl⟩), rfl, rfl⟩ := p2
    · refine v_astoreN (lv' := [some (.ref (A 0)), some (.int p), some (.int q), some (.int r), some (.int t), some (.null), some (.null), none]) hx d_MT_alike_12 (by decide) rfl ?_
      refine v_aloadN hx d_MT_alike_14 rfl ?_
      refine v_ifnullN (tgt := 43) hx d_MT_alike_16 (by decide) ?_
      refine v_widen (k' := 0) (n' := 4090) (by omega) (by omega) ?_
      exact v_throw (z := (80, "no such machine or state")) hx hnh hTX hoff (by decide) at_XI (by decide) bx0_XI bx1_XI bx2_XI bx5_XI k_MT_78 kt_XI kz_XI d_MT_alike_43 d_MT_alike_46 d_MT_alike_47 d_MT_alike_49 d_MT_alike_52 hr (by decide) (by decide) (by decide) ⟨w, (c, n, k, nx, ou, wl, wd), Out.rf, ⟨_, _, _, _, _, _, _, _, _, _, _, _, _, _, _, _, hC⟩, Or.inl ⟨fun ⟨m, s_, m1, s1, g1, g2, g3, g4, g5⟩ => (by rw [e] at g1; cases g1), rfl, Rel.rf _⟩⟩
    · have hB := hC.ok hj2
      have hB_ := hB
      obtain ⟨gn1, gn2, gk1, gk2, gnx⟩ := hB_
      refine v_astore (lv' := [some (.ref (A 0)), some (.int p), some (.int q), some (.int r), some (.int t), some (.null), some (.ref (M j2 0)), none]) hx d_MT_alike_12 (by decide) rfl ?_
      refine v_aloadN hx d_MT_alike_14 rfl ?_
      refine v_ifnullN (tgt := 43) hx d_MT_alike_16 (by decide) ?_
      refine v_widen (k' := 0) (n' := 4090) (by omega) (by omega) ?_
      exact v_throw (z := (80, "no such machine or state")) hx hnh hTX hoff (by decide) at_XI (by decide) bx0_XI bx1_XI bx2_XI bx5_XI k_MT_78 kt_XI kz_XI d_MT_alike_43 d_MT_alike_46 d_MT_alike_47 d_MT_alike_49 d_MT_alike_52 hr (by decide) (by decide) (by decide) ⟨w, (c, n, k, nx, ou, wl, wd), Out.rf, ⟨_, _, _, _, _, _, _, _, _, _, _, _, _, _, _, _, hC⟩, Or.inl ⟨fun ⟨m, s_, m1, s1, g1, g2, g3, g4, g5⟩ => (by rw [e] at g1; cases g1), rfl, Rel.rf _⟩⟩
  · have hA := hC.ok hj
    have hA_ := hA
    obtain ⟨hn1, hn2, hk1, hk2, hnx⟩ := hA_
    refine v_astore (lv' := [some (.ref (A 0)), some (.int p), some (.int q), some (.int r), some (.int t), some (.ref (M j 0)), none, none]) hx d_MT_alike_5 (by decide) rfl ?_
    refine v_aload_n hx d_MT_alike_7 rfl rfl ?_
    refine v_iload_n hx d_MT_alike_8 rfl rfl ?_
    refine v_callV (as := [.int r]) (q := (R_MT, T_MT, 5)) hx (c_MT_find hT hMs hc r) cy_MT_find k_MT_45 ki_MT_find kl_MT_find d_MT_alike_9 (by decide) (ci := 3) rfl hT.m0 hT.f0 (by decide) rfl rfl (Nat.le_of_ble_eq_true rfl) (fun v3 L f p3 => ?_)
    obtain ⟨(⟨e2, rfl⟩ | ⟨j2, e2, hj2, rfl⟩), rfl, rfl⟩ := p3
    · refine v_astoreN (lv' := [some (.ref (A 0)), some (.int p), some (.int q), some (.int r), some (.int t), some (.ref (M j 0)), some (.null), none]) hx d_MT_alike_12 (by decide) rfl ?_
      refine v_aload hx d_MT_alike_14 rfl ?_
      refine v_ifnull hx d_MT_alike_16 ?_
      refine v_aloadN hx d_MT_alike_19 rfl ?_
      refine v_ifnullN (tgt := 43) hx d_MT_alike_21 (by decide) ?_
      refine v_widen (k' := 0) (n' := 4090) (by omega) (by omega) ?_
      exact v_throw (z := (80, "no such machine or state")) hx hnh hTX hoff (by decide) at_XI (by decide) bx0_XI bx1_XI bx2_XI bx5_XI k_MT_78 kt_XI kz_XI d_MT_alike_43 d_MT_alike_46 d_MT_alike_47 d_MT_alike_49 d_MT_alike_52 hr (by decide) (by decide) (by decide) ⟨w, (c, n, k, nx, ou, wl, wd), Out.rf, ⟨_, _, _, _, _, _, _, _, _, _, _, _, _, _, _, _, hC⟩, Or.inl ⟨fun ⟨m, s_, m1, s1, g1, g2, g3, g4, g5⟩ => (by rw [e2] at g3; cases g3), rfl, Rel.rf _⟩⟩
    · have hB := hC.ok hj2
      have hB_ := hB
      obtain ⟨gn1, gn2, gk1, gk2, gnx⟩ := hB_
      refine v_astore (lv' := [some (.ref (A 0)), some (.int p), some (.int q), some (.int r), some (.int t), some (.ref (M j 0)), some (.ref (M j2 0)), none]) hx d_MT_alike_12 (by decide) rfl ?_
      refine v_aload hx d_MT_alike_14 rfl ?_
      refine v_ifnull hx d_MT_alike_16 ?_
      refine v_aload hx d_MT_alike_19 rfl ?_
      refine v_ifnull hx d_MT_alike_21 ?_
      refine v_aload hx d_MT_alike_24 rfl ?_
      refine v_iload_n hx d_MT_alike_26 rfl rfl ?_
      refine v_callV (as := [.int q]) (q := (R_Ma, T_Ma, 7)) hx (c_Ma_hasState (hMs j hj).2 (by omega) q) cy_Ma_hasState k_MT_49 ki_Ma_hasState kl_Ma_hasState d_MT_alike_27 (by decide) (ci := 1) rfl (hMs j hj).2.m0 (hMs j hj).2.f0 (by decide) rfl rfl (Nat.le_of_ble_eq_true rfl) (fun v4 L f p4 => ?_)
      obtain ⟨rfl, rfl, rfl⟩ := p4
      refine v_if_eq (tgt := 43) hx d_MT_alike_30 (by decide) (fun c30 => ?_) (fun c30 => ?_)
      · refine v_widen (k' := 0) (n' := 4090) (by omega) (by omega) ?_
        exact v_throw (z := (80, "no such machine or state")) hx hnh hTX hoff (by decide) at_XI (by decide) bx0_XI bx1_XI bx2_XI bx5_XI k_MT_78 kt_XI kz_XI d_MT_alike_43 d_MT_alike_46 d_MT_alike_47 d_MT_alike_49 d_MT_alike_52 hr (by decide) (by decide) (by decide) ⟨w, (c, n, k, nx, ou, wl, wd), Out.rf, ⟨_, _, _, _, _, _, _, _, _, _, _, _, _, _, _, _, hC⟩, Or.inl ⟨fun ⟨m, s_, m1, s1, g1, g2, g3, g4, g5⟩ => (by rw [e] at g1; cases g1; rw [none_ix c30] at g2; cases g2), rfl, Rel.rf _⟩⟩
      · refine v_aload hx d_MT_alike_33 rfl ?_
        refine v_iload hx d_MT_alike_35 rfl ?_
        refine v_callV (as := [.int t]) (q := (R_Ma, T_Ma, 7)) hx (c_Ma_hasState (hMs j2 hj2).2 (by omega) t) cy_Ma_hasState k_MT_49 ki_Ma_hasState kl_Ma_hasState d_MT_alike_37 (by decide) (ci := 1) rfl (hMs j2 hj2).2.m0 (hMs j2 hj2).2.f0 (by decide) rfl rfl (Nat.le_of_ble_eq_true rfl) (fun v5 L f p5 => ?_)
        obtain ⟨rfl, rfl, rfl⟩ := p5
        refine v_if_ne (tgt := 53) hx d_MT_alike_40 (by decide) (fun c40 => ?_) (fun c40 => ?_)
        · obtain ⟨s, es⟩ := some_ix c30
          obtain ⟨u, eu⟩ := some_ix c40
          obtain ⟨hs, e3⟩ := ix_some (by omega) es
          obtain ⟨hu, e4⟩ := ix_some (by omega) eu
          subst e3
          subst e4
          refine v_aload hx d_MT_alike_53 rfl ?_
          refine v_getN hx cf_Ma 5 (by decide) kN_MT_85 d_MT_alike_55 (hMs j hj).2.m0 (hMs j hj).2.f0 rfl ?_
          refine v_aload hx d_MT_alike_58 rfl ?_
          refine v_getN hx cf_Ma 5 (by decide) kN_MT_85 d_MT_alike_60 (hMs j2 hj2).2.m0 (hMs j2 hj2).2.f0 rfl ?_
          refine n_icmp_eq (tgt := 76) hx d_MT_alike_63 (by decide) (by omega) (by omega) (fun c63 => ?_) (fun c63 => ?_)
          · have hB1 : okA (nx j2) (ou j2) (n j2) (k j) := by rw [c63]; exact hB
            refine v_aload_n hx d_MT_alike_76 rfl rfl ?_
            refine v_aload hx d_MT_alike_77 rfl ?_
            refine v_iload_n hx d_MT_alike_79 rfl rfl ?_
            refine v_aload hx d_MT_alike_80 rfl ?_
            refine v_iload hx d_MT_alike_82 rfl ?_
            refine v_callV (as := [.ref (M j 0), .int (nI s), .ref (M j2 0), .int (nI u)]) (q := (R_MT, T_MT, 5)) hx (c_MT_seekWitness hT hC.2.1 (hMs j hj).2 (hMs j2 hj2).2 (by omega) (by omega) hA hB1 s u hs hu) cy_MT_seekWitness k_MT_90 ki_MT_seekWitness kl_MT_seekWitness d_MT_alike_84 (by decide) (ci := 3) rfl hT.m0 hT.f0 (by decide) rfl rfl (Nat.le_of_ble_eq_true rfl) (fun v6 L f1 p6 => ?_)
            obtain ⟨rfl, hF1, (⟨hw, rfl, nm1, pl1, st1, sc1, hS1⟩ | ⟨a, i, nm1, pl1, st1, sc1, hw, rfl, hS1, hQ1, hq1⟩)⟩ := p6
            · have hC1 := hC.search hS1 hF1
              have hO1 : Out L f w L f1 w := Out.g hF1 (by decide)
              refine v_istore (lv' := [some (.ref (A 0)), some (.int p), some (.int (nI s)), some (.int r), some (.int (nI u)), some (.ref (M j 0)), some (.ref (M j2 0)), some (.int (-1))]) hx d_MT_alike_87 (by decide) rfl ?_
              refine v_iload hx d_MT_alike_89 rfl ?_
              refine v_iconst (v := (-1)) hx d_MT_alike_91 rfl ?_
              refine v_icmp_ne (tgt := 97) hx d_MT_alike_92 (by decide) (fun c92 => ?_) (fun c92 => ?_)
              · exact absurd rfl c92
              · refine v_iconst (v := (nI 1)) hx d_MT_alike_95 rfl ?_
                refine v_widen (k' := 1) (n' := 4096) (by omega) (by omega) ?_
                exact v_zretT hx hr d_MT_alike_96 rfl ⟨_, w, (c, n, k, nx, ou, wl, wd), rfl, hO1, ⟨_, _, _, _, _, _, _, _, _, _, _, _, _, _, _, _, hC1⟩, Or.inr ⟨j, s, j2, u, none, e, es, e2, eu, c63, hw, rfl, Rel.rf _⟩⟩
            · have hC1 := hC.search hS1 hF1
              have hO1 : Out L f w L f1 w := Out.g hF1 (by decide)
              have hlen := hq1.len
              have haL : a < (bout (wNx (nx j) (nx j2)) (k j) [(s * 40 + u, 0, 0)] a).length := hw.1 a (Nat.le_refl _)
              have hbl := bin_len (wNx (nx j) (nx j2)) (bout (wNx (nx j) (nx j2)) (k j) [(s * 40 + u, 0, 0)] a) a i
              have hsc : sc1 = (bin (wNx (nx j) (nx j2)) (bout (wNx (nx j) (nx j2)) (k j) [(s * 40 + u, 0, 0)] a) a i).length := hQ1.1
              have hik : i < k j := hw.2.2.1
              have hsub := bin_sub (wNx (nx j) (nx j2)) (bout (wNx (nx j) (nx j2)) (k j) [(s * 40 + u, 0, 0)] a) a i
              have hTell := tell_1 hQ1.stq hq1 (by omega) (show a < (bin (wNx (nx j) (nx j2)) (bout (wNx (nx j) (nx j2)) (k j) [(s * 40 + u, 0, 0)] a) a i).length by omega) (show i < 4 by omega)
              rw [← hsc] at hTell
              have hq0 : qOK (bout (wNx (nx j) (nx j2)) (k j) [(s * 40 + u, 0, 0)] a) 1600 := (bout_ok (q0_ok (wP_lt hA hB1 _ (wP_mk hs hu gn2))) (q0_I (wP_mk hs hu gn2)) hk2 (wP_lt hA hB1) (wP_nx hA hB1) a (fun b hb => hw.1 b (by omega))).1
              have hWe : qW (bin (wNx (nx j) (nx j2)) (bout (wNx (nx j) (nx j2)) (k j) [(s * 40 + u, 0, 0)] a) a i) a = qW (bout (wNx (nx j) (nx j2)) (k j) [(s * 40 + u, 0, 0)] a) a := qW_sub hq0 hsub haL
              rw [hWe] at hTell
              refine v_istore (lv' := [some (.ref (A 0)), some (.int p), some (.int (nI s)), some (.int r), some (.int (nI u)), some (.ref (M j 0)), some (.ref (M j2 0)), some (.int (nI sc1))]) hx d_MT_alike_87 (by decide) rfl ?_
              refine v_iload hx d_MT_alike_89 rfl ?_
              refine v_iconst (v := (-1)) hx d_MT_alike_91 rfl ?_
              refine v_icmp_ne (tgt := 97) hx d_MT_alike_92 (by decide) (fun c92 => ?_) (fun c92 => ?_)
              · refine v_aload_n hx d_MT_alike_97 rfl rfl ?_
                refine v_iload hx d_MT_alike_98 rfl ?_
                refine v_callV (as := [.int (nI sc1)]) (q := (R_MT, T_MT, 5)) hx (c_MT_tell hC1.1 hC1.2.1 sc1 _ hTell) cy_MT_tell k_MT_94 ki_MT_tell kl_MT_tell d_MT_alike_100 (by decide) (ci := 3) rfl hC1.1.m0 hC1.1.f0 (by decide) rfl rfl (Nat.le_of_ble_eq_true rfl) (fun v7 L2 f2 p7 => ?_)
                obtain ⟨rfl, q, w2, hq, rfl, hw2, hq3, hT2, ⟨g, hg1, hg2⟩, hfr2⟩ := p7
                have hC2 := hC1.tell (fun p h => List.mem_append_left _ h) hw2 (List.mem_append_right _ List.mem_cons_self) hq3 hT2 hfr2 hg1 hg2 hTell.len hTell.lt4
                refine v_pop hx d_MT_alike_103 rfl ?_
                refine v_iconst (v := (nI 0)) hx d_MT_alike_104 rfl ?_
                refine v_widen (k' := 1) (n' := 4096) (by omega) (by omega) ?_
                exact v_zretT hx hr d_MT_alike_105 rfl ⟨_, w2, (c, n, k, nx, ou, (qW (bout (wNx (nx j) (nx j2)) (k j) [(s * 40 + u, 0, 0)] a) a ++ [i]).length, g), rfl, hO1.tr ⟨fun p h => List.mem_append_left _ h, hw2, fun p h1 h2 => hfr2 p h1 (by omega)⟩, ⟨_, _, _, _, _, _, _, _, _, _, _, _, _, _, _, _, hC2⟩, Or.inr ⟨j, s, j2, u, some (a, i), e, es, e2, eu, c63, hw, rfl, relT.rf _, rfl, hg2⟩⟩
              · exact absurd c92 (nI_m1 (by omega))
          · refine v_widen (k' := 0) (n' := 4090) (by omega) (by omega) ?_
            exact v_throw (z := (88, "not as many inputs")) hx hnh hTX hoff (by decide) at_XI (by decide) bx0_XI bx1_XI bx2_XI bx5_XI k_MT_78 kt_XI kz_XI d_MT_alike_66 d_MT_alike_69 d_MT_alike_70 d_MT_alike_72 d_MT_alike_75 hr (by decide) (by decide) (by decide) ⟨w, (c, n, k, nx, ou, wl, wd), Out.rf, ⟨_, _, _, _, _, _, _, _, _, _, _, _, _, _, _, _, hC⟩, Or.inl ⟨fun ⟨m, s_, m1, s1, g1, g2, g3, g4, g5⟩ => (by have h1 : some j = some m := e.symm.trans g1; have h2 : some j2 = some m1 := e2.symm.trans g3; cases h1; cases h2; exact c63 g5), rfl, Rel.rf _⟩⟩
        · refine v_widen (k' := 0) (n' := 4090) (by omega) (by omega) ?_
          exact v_throw (z := (80, "no such machine or state")) hx hnh hTX hoff (by decide) at_XI (by decide) bx0_XI bx1_XI bx2_XI bx5_XI k_MT_78 kt_XI kz_XI d_MT_alike_43 d_MT_alike_46 d_MT_alike_47 d_MT_alike_49 d_MT_alike_52 hr (by decide) (by decide) (by decide) ⟨w, (c, n, k, nx, ou, wl, wd), Out.rf, ⟨_, _, _, _, _, _, _, _, _, _, _, _, _, _, _, _, hC⟩, Or.inl ⟨fun ⟨m, s_, m1, s1, g1, g2, g3, g4, g5⟩ => (by rw [e2] at g3; cases g3; rw [none_ix c40] at g4; cases g4), rfl, Rel.rf _⟩⟩
set_option maxHeartbeats 4000000 in
set_option maxRecDepth 100000 in
theorem c_MT_home {G : GT} {L : List Nat} {f : Nat → va_E} (hoff : G.1.stackTraces = false) {w A : Nat → Nat} {c : Nat} {n k : Nat → Nat} {nx ou : Nat → Nat → Nat} {wl : Nat} {wd : Nat → Nat} (hY : SysS G L f w A (c, n, k, nx, ou, wl, wd)) (p : Int32) : ConT G y_MT_home (.code y_MT_home b_MT_home 4 (some .int) :: BIG) 6 120 1 4096 [.ref (A 0), .int p] L f "java/lang/ArithmeticException" (fun v L' f' => ∃ (vi : Int32) (w' : Nat → Nat) (σ' : SG), v = some (.int vi) ∧ Out L f w L' f' w' ∧ SysS G L' f' w' A σ' ∧ rHome (c, n, k, nx, ou, wl, wd) p (some vi) σ') (fun L' f' => ∃ (w' : Nat → Nat) (σ' : SG), Out L f w L' f' w' ∧ SysS G L' f' w' A σ' ∧ rHome (c, n, k, nx, ou, wl, wd) p none σ') := by
  refine con_ofT (cc := b_MT_home) (mL := 4) (lv := [some (.ref (A 0)), some (.int p), none, none]) (by decide) (by intro w hw; simp at hw; rcases hw with rfl | rfl <;> rfl) (by first | exact Nat.le_of_ble_eq_true rfl | decide) rfl ?_
  intro x hx hr hin hnh hTX
  obtain ⟨S, Fm, wa, mp, M, lo, fi, b, nm, pl, st, sc, ss, sz, bo, fc, hC⟩ := hY
  have hC : SysC G L f w A S Fm c wa mp M nx ou lo fi n k b nm pl st sc ss sz bo fc wl wd := hC
  have hT := hC.1
  have hMs := hC.ms
  have hc := hC.c12
  refine v_aload_n hx d_MT_home_0 rfl rfl ?_
  refine v_iload_n hx d_MT_home_1 rfl rfl ?_
  refine v_callV (as := [.int p]) (q := (R_MT, T_MT, 5)) hx (c_MT_findSmall hT hMs hc (fun j hj => (hC.ok hj).2.1) p) cy_MT_findSmall k_MT_111 ki_MT_findSmall kl_MT_findSmall d_MT_home_2 (by decide) (ci := 3) rfl hT.m0 hT.f0 (by decide) rfl rfl (Nat.le_of_ble_eq_true rfl) (fun v1 L f p1 => ?_)
  obtain ⟨(⟨e, rfl⟩ | ⟨j, e, hj, h12, rfl⟩), rfl, rfl⟩ := p1
  · refine v_astore_nN (lv' := [some (.ref (A 0)), some (.int p), some (.null), none]) hx d_MT_home_5 rfl (by decide) rfl ?_
    refine v_aload_nN hx d_MT_home_6 rfl rfl ?_
    refine v_ifnonnullN hx d_MT_home_7 ?_
    refine v_iconst (v := (-1)) hx d_MT_home_10 rfl ?_
    refine v_widen (k' := 1) (n' := 4096) (by omega) (by omega) ?_
    exact v_iretT hx hr d_MT_home_11 ⟨_, w, (c, n, k, nx, ou, wl, wd), rfl, Out.rf, ⟨_, _, _, _, _, _, _, _, _, _, _, _, _, _, _, _, hC⟩, Or.inl ⟨fun m hm => by rcases e with e | ⟨j, e, h12⟩; rw [e] at hm; cases hm; rw [e] at hm; cases hm; exact h12, rfl, Rel.rf _⟩⟩
  · have hA := hC.ok hj
    refine v_astore_n (lv' := [some (.ref (A 0)), some (.int p), some (.ref (M j 0)), none]) hx d_MT_home_5 rfl (by decide) rfl ?_
    refine v_aload_n hx d_MT_home_6 rfl rfl ?_
    refine v_ifnonnull (tgt := 12) hx d_MT_home_7 (by decide) ?_
    refine v_aload_n hx d_MT_home_12 rfl rfl ?_
    refine v_callV (as := []) (q := (R_Ma, T_Ma, 7)) hx (c_Ma_settle (hMs j hj).2 (hC.ok hj) (hC.2.2.2.2.2.2.1 j hj).2) cy_Ma_settle k_MT_67 ki_Ma_settle kl_Ma_settle d_MT_home_13 (by decide) (ci := 1) rfl (hMs j hj).2.m0 (hMs j hj).2.f0 (by decide) rfl rfl (Nat.le_of_ble_eq_true rfl) (fun v2 L f1 p2 => ?_)
    obtain ⟨rfl, rfl, lo2, fi2, hMj, hF1, hLk⟩ := p2
    have hC1 := hC.settle hj hMj hF1 hLk
    have hO1 : Out L f w L f1 w := Out.g hF1 (by omega)
    refine v_aload_n hx d_MT_home_16 rfl rfl ?_
    refine v_aload_n hx d_MT_home_17 rfl rfl ?_
    refine v_callV (as := [.ref (M j 0)]) (q := (R_MT, T_MT, 5)) hx (c_MT_seekHomed hC1.1 hC1.2.1 hC1.2.2.1 hMj (by omega) (by omega) hA h12 (fun s hs => (hLk s hs).1)) cy_MT_seekHomed k_MT_118 ki_MT_seekHomed kl_MT_seekHomed d_MT_home_18 (by decide) (ci := 3) rfl hC1.1.m0 hC1.1.f0 (by decide) rfl rfl (Nat.le_of_ble_eq_true rfl) (fun v3 L f2 p3 => ?_)
    obtain ⟨rfl, hF2, ⟨ss2, sz2, bo2, fc2, hFa2⟩, (⟨hsg, hno, rfl, nm1, pl1, st1, sc1, hS1⟩ | ⟨num, N, W, nm1, pl1, st1, sc1, rfl, hS1, hTell, hcase⟩)⟩ := p3
    · have hC2 := hC1.fam hS1 hFa2 hF2
      have hO2 : Out L f w L f2 w := hO1.tr (Out.g2 hF2 (by decide) (by decide))
      refine v_istore_n (lv' := [some (.ref (A 0)), some (.int p), some (.ref (M j 0)), some (.int (-1))]) hx d_MT_home_21 rfl (by decide) rfl ?_
      refine v_iload_n hx d_MT_home_22 rfl rfl ?_
      refine v_iconst (v := (-1)) hx d_MT_home_23 rfl ?_
      refine v_icmp_ne (tgt := 37) hx d_MT_home_24 (by decide) (fun c24 => ?_) (fun c24 => ?_)
      · exact absurd rfl c24
      · refine v_widen (k' := 0) (n' := 4090) (by omega) (by omega) ?_
        exact v_throw (z := (123, "given up")) hx hnh hTX hoff (by decide) at_XA (by decide) bx0_XA bx1_XA bx2_XA bx5_XA k_MT_121 kt_XA kz_XA d_MT_home_27 d_MT_home_30 d_MT_home_31 d_MT_home_33 d_MT_home_36 hr (by decide) (by decide) (by decide) ⟨w, (c, n, k, nx, ou, wl, wd), hO2, ⟨_, _, _, _, _, _, _, _, _, _, _, _, _, _, _, _, hC2⟩, Or.inr ⟨j, lo2, e, h12, hLk, Or.inr ⟨hsg, Or.inl ⟨hno, rfl, Rel.rf _⟩⟩⟩⟩
    · have hC2 := hC1.fam hS1 hFa2 hF2
      have hO2 : Out L f w L f2 w := hO1.tr (Out.g2 hF2 (by decide) (by decide))
      have hnum := hTell.1
      have hN := hTell.2.1
      refine v_istore_n (lv' := [some (.ref (A 0)), some (.int p), some (.ref (M j 0)), some (.int (nI num))]) hx d_MT_home_21 rfl (by decide) rfl ?_
      refine v_iload_n hx d_MT_home_22 rfl rfl ?_
      refine v_iconst (v := (-1)) hx d_MT_home_23 rfl ?_
      refine v_icmp_ne (tgt := 37) hx d_MT_home_24 (by decide) (fun c24 => ?_) (fun c24 => ?_)
      · refine v_aload_n hx d_MT_home_37 rfl rfl ?_
        refine v_iload_n hx d_MT_home_38 rfl rfl ?_
        refine v_callV (as := [.int (nI num)]) (q := (R_MT, T_MT, 5)) hx (c_MT_tell hC2.1 hC2.2.1 num _ hTell) cy_MT_tell k_MT_94 ki_MT_tell kl_MT_tell d_MT_home_39 (by decide) (ci := 3) rfl hC2.1.m0 hC2.1.f0 (by decide) rfl rfl (Nat.le_of_ble_eq_true rfl) (fun v4 L3 f3 p4 => ?_)
        obtain ⟨rfl, q, w3, hq, rfl, hw3, hq3, hT3, ⟨g, hg1, hg2⟩, hfr3⟩ := p4
        have hC3 := hC2.tell (fun p h => List.mem_append_left _ h) hw3 (List.mem_append_right _ List.mem_cons_self) hq3 hT3 hfr3 hg1 hg2 hTell.len hTell.lt4
        refine v_widen (k' := 1) (n' := 4096) (by omega) (by omega) ?_
        exact v_iretT hx hr d_MT_home_42 ⟨_, w3, (c, n, k, nx, ou, W.length, g), rfl, hO2.tr ⟨fun p h => List.mem_append_left _ h, hw3, fun p h1 h2 => hfr3 p h1 (by omega)⟩, ⟨_, _, _, _, _, _, _, _, _, _, _, _, _, _, _, _, hC3⟩, Or.inr ⟨j, lo2, e, h12, hLk, hcase.imp (fun ⟨h1, h2⟩ => by subst h2; exact ⟨h1, rfl, relT.rf _, rfl, hg2⟩) (fun ⟨h1, a, i, h2, h3⟩ => by subst h3; exact ⟨h1, Or.inr ⟨a, i, h2, rfl, relT.rf _, rfl, hg2⟩⟩)⟩⟩
      · exact absurd c24 (nI_m1 (by omega))
