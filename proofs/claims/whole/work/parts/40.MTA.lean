set_option maxHeartbeats 4000000 in
set_option maxRecDepth 100000 in
theorem c_MT_chain {G : GT} {L : List Nat} {f : Nat → va_E} (hoff : G.1.stackTraces = false) {w A : Nat → Nat} {c : Nat} {n k : Nat → Nat} {nx ou : Nat → Nat → Nat} {wl : Nat} {wd : Nat → Nat} (hY : SysS G L f w A (c, n, k, nx, ou, wl, wd)) (p q : Int32) : ConT G y_MT_chain (.code y_MT_chain b_MT_chain 11 (some .int) :: BIG) 6 92 5 407 [.ref (A 0), .int p, .int q] L f "java/lang/ArithmeticException" (fun v L' f' => ∃ (vi : Int32) (w' : Nat → Nat) (σ' : SG), v = some (.int vi) ∧ Out L f w L' f' w' ∧ SysS G L' f' w' A σ' ∧ rChain (c, n, k, nx, ou, wl, wd) p q (some vi) σ') (fun L' f' => ∃ (w' : Nat → Nat) (σ' : SG), Out L f w L' f' w' ∧ SysS G L' f' w' A σ' ∧ rChain (c, n, k, nx, ou, wl, wd) p q none σ') := by
  refine con_ofT (cc := b_MT_chain) (mL := 11) (lv := [some (.ref (A 0)), some (.int p), some (.int q), none, none, none, none, none, none, none, none]) (by decide) (by intro w hw; simp at hw; rcases hw with rfl | rfl | rfl <;> rfl) (by first | exact Nat.le_of_ble_eq_true rfl | decide) rfl ?_
  intro x hx hr hin hnh hTX
  obtain ⟨S, Fm, wa, mp, M, lo, fi, b, nm, pl, st, sc, ss, sz, bo, fc, hC⟩ := hY
  have hC : SysC G L f w A S Fm c wa mp M nx ou lo fi n k b nm pl st sc ss sz bo fc wl wd := hC
  have hT := hC.1
  have hMs := hC.ms
  have hc := hC.c12
  refine v_aload_n hx d_MT_chain_0 rfl rfl ?_
  refine v_iload_n hx d_MT_chain_1 rfl rfl ?_
  refine v_callV (as := [.int p]) (q := (R_MT, T_MT, 5)) hx (c_MT_find hT hMs hc p) cy_MT_find k_MT_45 ki_MT_find kl_MT_find d_MT_chain_2 (by decide) (ci := 3) rfl hT.m0 hT.f0 (by decide) rfl rfl (Nat.le_of_ble_eq_true rfl) (fun v1 L f p1 => ?_)
  obtain ⟨(⟨e, rfl⟩ | ⟨j, e, hj, rfl⟩), rfl, rfl⟩ := p1
  · refine v_astore_nN (lv' := [some (.ref (A 0)), some (.int p), some (.int q), some (.null), none, none, none, none, none, none, none]) hx d_MT_chain_5 rfl (by decide) rfl ?_
    refine v_aload_n hx d_MT_chain_6 rfl rfl ?_
    refine v_iload_n hx d_MT_chain_7 rfl rfl ?_
    refine v_callV (as := [.int q]) (q := (R_MT, T_MT, 5)) hx (c_MT_find hT hMs hc q) cy_MT_find k_MT_45 ki_MT_find kl_MT_find d_MT_chain_8 (by decide) (ci := 3) rfl hT.m0 hT.f0 (by decide) rfl rfl (Nat.le_of_ble_eq_true rfl) (fun v2 L f p2 => ?_)
    obtain ⟨(⟨e2, rfl⟩ | ⟨j2, e2, hj2, rfl⟩), rfl, rfl⟩ := p2
    · refine v_astoreN (lv' := [some (.ref (A 0)), some (.int p), some (.int q), some (.null), some (.null), none, none, none, none, none, none]) hx d_MT_chain_11 (by decide) rfl ?_
      refine v_aload_nN hx d_MT_chain_13 rfl rfl ?_
      refine v_ifnullN (tgt := 29) hx d_MT_chain_14 (by decide) ?_
      refine v_iconst (v := (-1)) hx d_MT_chain_29 rfl ?_
      refine v_widen (k' := 5) (n' := 407) (by omega) (by omega) ?_
      exact v_iretT hx hr d_MT_chain_30 ⟨_, w, (c, n, k, nx, ou, wl, wd), rfl, Out.rf, ⟨_, _, _, _, _, _, _, _, _, _, _, _, _, _, _, _, hC⟩, Or.inl ⟨Or.inl e, rfl, Rel.rf _⟩⟩
    · have hB := hC.ok hj2
      have hB_ := hB
      obtain ⟨gn1, gn2, gk1, gk2, gnx⟩ := hB_
      refine v_astore (lv' := [some (.ref (A 0)), some (.int p), some (.int q), some (.null), some (.ref (M j2 0)), none, none, none, none, none, none]) hx d_MT_chain_11 (by decide) rfl ?_
      refine v_aload_nN hx d_MT_chain_13 rfl rfl ?_
      refine v_ifnullN (tgt := 29) hx d_MT_chain_14 (by decide) ?_
      refine v_iconst (v := (-1)) hx d_MT_chain_29 rfl ?_
      refine v_widen (k' := 5) (n' := 407) (by omega) (by omega) ?_
      exact v_iretT hx hr d_MT_chain_30 ⟨_, w, (c, n, k, nx, ou, wl, wd), rfl, Out.rf, ⟨_, _, _, _, _, _, _, _, _, _, _, _, _, _, _, _, hC⟩, Or.inl ⟨Or.inl e, rfl, Rel.rf _⟩⟩
  · have hA := hC.ok hj
    have hA_ := hA
    obtain ⟨hn1, hn2, hk1, hk2, hnx⟩ := hA_
    refine v_astore_n (lv' := [some (.ref (A 0)), some (.int p), some (.int q), some (.ref (M j 0)), none, none, none, none, none, none, none]) hx d_MT_chain_5 rfl (by decide) rfl ?_
    refine v_aload_n hx d_MT_chain_6 rfl rfl ?_
    refine v_iload_n hx d_MT_chain_7 rfl rfl ?_
    refine v_callV (as := [.int q]) (q := (R_MT, T_MT, 5)) hx (c_MT_find hT hMs hc q) cy_MT_find k_MT_45 ki_MT_find kl_MT_find d_MT_chain_8 (by decide) (ci := 3) rfl hT.m0 hT.f0 (by decide) rfl rfl (Nat.le_of_ble_eq_true rfl) (fun v3 L f p3 => ?_)
    obtain ⟨(⟨e2, rfl⟩ | ⟨j2, e2, hj2, rfl⟩), rfl, rfl⟩ := p3
    · refine v_astoreN (lv' := [some (.ref (A 0)), some (.int p), some (.int q), some (.ref (M j 0)), some (.null), none, none, none, none, none, none]) hx d_MT_chain_11 (by decide) rfl ?_
      refine v_aload_n hx d_MT_chain_13 rfl rfl ?_
      refine v_ifnull hx d_MT_chain_14 ?_
      refine v_aloadN hx d_MT_chain_17 rfl ?_
      refine v_ifnullN (tgt := 29) hx d_MT_chain_19 (by decide) ?_
      refine v_iconst (v := (-1)) hx d_MT_chain_29 rfl ?_
      refine v_widen (k' := 5) (n' := 407) (by omega) (by omega) ?_
      exact v_iretT hx hr d_MT_chain_30 ⟨_, w, (c, n, k, nx, ou, wl, wd), rfl, Out.rf, ⟨_, _, _, _, _, _, _, _, _, _, _, _, _, _, _, _, hC⟩, Or.inl ⟨Or.inr (Or.inl e2), rfl, Rel.rf _⟩⟩
    · have hB := hC.ok hj2
      have hB_ := hB
      obtain ⟨gn1, gn2, gk1, gk2, gnx⟩ := hB_
      refine v_astore (lv' := [some (.ref (A 0)), some (.int p), some (.int q), some (.ref (M j 0)), some (.ref (M j2 0)), none, none, none, none, none, none]) hx d_MT_chain_11 (by decide) rfl ?_
      refine v_aload_n hx d_MT_chain_13 rfl rfl ?_
      refine v_ifnull hx d_MT_chain_14 ?_
      refine v_aload hx d_MT_chain_17 rfl ?_
      refine v_ifnull hx d_MT_chain_19 ?_
      refine v_aload_n hx d_MT_chain_22 rfl rfl ?_
      refine v_callV (as := []) (q := (R_MT, T_MT, 5)) hx (c_MT_isFull hT hc) cy_MT_isFull k_MT_37 ki_MT_isFull kl_MT_isFull d_MT_chain_23 (by decide) (ci := 3) rfl hT.m0 hT.f0 (by decide) rfl rfl (Nat.le_of_ble_eq_true rfl) (fun v4 L f p4 => ?_)
      obtain ⟨rfl, rfl, rfl⟩ := p4
      refine v_if_eq (tgt := 31) hx d_MT_chain_26 (by decide) (fun c26 => ?_) (fun c26 => ?_)
      · have hlt : c < 12 := Nat.lt_of_not_le (of_decide_eq_false ((bI_0 _).mp c26))
        refine v_aload_n hx d_MT_chain_31 rfl rfl ?_
        refine v_aload_n hx d_MT_chain_32 rfl rfl ?_
        refine v_aload hx d_MT_chain_33 rfl ?_
        refine v_callV (as := [.ref (M j 0), .ref (M j2 0)]) (q := (R_MT, T_MT, 5)) hx (c_MT_numberPairs hT hC.2.1 (hMs j hj).2 (hMs j2 hj2).2 (by omega) (by omega) hA hB) cy_MT_numberPairs k_MT_126 ki_MT_numberPairs kl_MT_numberPairs d_MT_chain_35 (by decide) (ci := 3) rfl hT.m0 hT.f0 (by decide) rfl rfl (Nat.le_of_ble_eq_true rfl) (fun v5 L f2 p5 => ?_)
        obtain ⟨rfl, hF2, (⟨N, nm2, pl2, st2, hE, hgood, hN40, rfl, hS2, hQ2, hq2, hI2⟩ | ⟨hbad, rfl, nm2, pl2, st2, sc2, hS2⟩)⟩ := p5
        · have hC2 := hC.search hS2 hF2
          have hMj2 := (hMs j hj).2.fr hF2 (show 10 + j ≠ 1 by omega)
          have hMk2 := (hMs j2 hj2).2.fr hF2 (show 10 + j2 ≠ 1 by omega)
          have hO2 : Out L f w L f2 w := Out.g hF2 (by decide)
          have hlen : (bout (cNx (nx j) (ou j) (nx j2) (k j2)) (k j) [(0, 0, 0)] N).length = N := hE.len (Nat.le_refl _)
          have hN1 := hE.pos (Nat.le_refl _)
          refine v_if_ne (tgt := 51) hx d_MT_chain_38 (by decide) (fun c38 => ?_) (fun c38 => ?_)
          · refine v_aload_n hx d_MT_chain_51 rfl rfl ?_
            refine v_aload_n hx d_MT_chain_52 rfl rfl ?_
            refine v_get hx cf_MT 1 (by decide) k_MT_18 d_MT_chain_53 hC2.1.m0 hC2.1.f0 rfl ?_
            refine v_getN hx cf_Se 3 (by decide) kN_MT_101 d_MT_chain_56 hS2.m0 hS2.f0 rfl ?_
            refine v_aload_n hx d_MT_chain_59 rfl rfl ?_
            refine v_getN hx cf_Ma 5 (by decide) kN_MT_85 d_MT_chain_60 hMj2.m0 hMj2.f0 rfl ?_
            refine v_callV (as := [.int (nI N), .int (nI (k j))]) (q := (R_MT, T_MT, 5)) hx (c_MT_add hC2 hlt N (k j) ⟨hN1, hN40⟩ ⟨hk1, hk2⟩) cy_MT_add k_MT_41 ki_MT_add kl_MT_add d_MT_chain_63 (by decide) (ci := 3) rfl hC2.1.m0 hC2.1.f0 (by decide) rfl rfl (Nat.le_of_ble_eq_true rfl) (fun v1 L3 f3 p1 => ?_)
            obtain ⟨B, w3, mp3, nx3, ou3, lo3, fi3, rfl, hL3, hw3, hmp3, hT3, hM3, -, hfr3⟩ := p1
            have hMj3 := hMj2.move hL3 hw3 (fun p h1 h2 => hfr3 p h1 (by omega) (by omega))
            have hMk3 := hMk2.move hL3 hw3 (fun p h1 h2 => hfr3 p h1 (by omega) (by omega))
            have hS3 := hS2.move hL3 hw3 (fun p h1 h2 => hfr3 p h1 (by omega) (by omega))
            refine v_astore (lv' := [some (.ref (A 0)), some (.int p), some (.int q), some (.ref (M j 0)), some (.ref (M j2 0)), some (.ref (B 0)), none, none, none, none, none]) hx d_MT_chain_66 (by decide) rfl ?_
            refine v_iconst (v := (nI 0)) hx d_MT_chain_68 rfl ?_
            refine v_istore (lv' := [some (.ref (A 0)), some (.int p), some (.int q), some (.ref (M j 0)), some (.ref (M j2 0)), some (.ref (B 0)), some (.int (nI 0)), none, none, none, none]) hx d_MT_chain_69 (by decide) rfl ?_
            have H71 : ∀ (fu : Nat) (a : Nat) (f4 : Nat → va_E) (nx4 : Nat → Nat) (ou4 : Nat → Nat) (b4 : Nat), N - a < fu → (a ≤ N) → (MaAt G L3 f4 w3 (10 + c) B nx4 ou4 lo3 fi3 N (k j) b4) → (gF w3 (10 + c) f3 f4) → (1 ≤ a → b4 = 0) → (∀ y z, y < a → z < k j → nx4 (y * 4 + z) < N ∧ qP (bout (cNx (nx j) (ou j) (nx j2) (k j2)) (k j) [(0, 0, 0)] N) (nx4 (y * 4 + z)) = (cNx (nx j) (ou j) (nx j2) (k j2)) (qP (bout (cNx (nx j) (ou j) (nx j2) (k j2)) (k j) [(0, 0, 0)] N) y) z ∧ ou4 (y * 4 + z) = ou j2 (qP (bout (cNx (nx j) (ou j) (nx j2) (k j2)) (k j) [(0, 0, 0)] N) y % 40 * 4 + ou j (qP (bout (cNx (nx j) (ou j) (nx j2) (k j2)) (k j) [(0, 0, 0)] N) y / 40 * 4 + z))) → V G { frames := 6, cells := 5, slots := 407, locals := 92 } 11 x L3 f4 5 407 [some (.ref (A 0)), some (.int p), some (.int q), some (.ref (M j 0)), some (.ref (M j2 0)), some (.ref (B 0)), some (.int (nI a)), none, none, none, none] 71 [] := by
              intro fu
              induction fu with
              | zero => intro a f4 nx4 ou4 b4 hm; exact absurd hm (Nat.not_lt_zero _)
              | succ fu ih =>
                intro a f4 nx4 ou4 b4 hm ha hM4 hF4 hb hv
                have ihO := ih
                refine v_iload hx d_MT_chain_71 rfl ?_
                refine v_aload hx d_MT_chain_73 rfl ?_
                refine v_getN hx cf_Ma 4 (by decide) kN_MT_102 d_MT_chain_75 hM4.m0 hM4.f0 rfl ?_
                refine n_icmp_ge (tgt := 172) hx d_MT_chain_78 (by decide) (by omega) (by omega) (fun c78 => ?_) (fun c78 => ?_)
                · have haN : a = N := by omega
                  have hb0 := hb (by omega)
                  subst hb0
                  rw [haN] at hv
                  have hA4 : okA nx4 ou4 N (k j) := ⟨hN1, hN40, hk1, hk2, fun s i hs hi => ⟨(hv s i hs hi).1, by
                    have hIs : wP (n j) (n j2) (qP (bout (cNx (nx j) (ou j) (nx j2) (k j2)) (k j) [(0, 0, 0)] N) s) := hI2 _ (qP_mem (show s < (bout (cNx (nx j) (ou j) (nx j2) (k j2)) (k j) [(0, 0, 0)] N).length by omega))
                    have hgs : ou j (qP (bout (cNx (nx j) (ou j) (nx j2) (k j2)) (k j) [(0, 0, 0)] N) s / 40 * 4 + i) < k j2 := by
                      have e7 : qP (bout (cNx (nx j) (ou j) (nx j2) (k j2)) (k j) [(0, 0, 0)] s) s = qP (bout (cNx (nx j) (ou j) (nx j2) (k j2)) (k j) [(0, 0, 0)] N) s := (((bout_sub (cNx (nx j) (ou j) (nx j2) (k j2)) (k j) [(0, 0, 0)] (a := s) (b := N) (by omega)).2 s (hE.2 s hs)).1).symm
                      have := hgood s hs i hi
                      rw [e7] at this
                      exact Nat.lt_of_not_le this
                    rw [(hv s i hs hi).2.2]; exact (gnx _ _ hIs.2 hgs).2⟩⟩
                  have hfr4 : ∀ p, p ∈ L → w p ≠ 0 → w p ≠ 10 + c → f4 p = f2 p := fun p h1 h2 h3 => (hF4 p (by rw [hw3 p h1]; exact h3)).trans (hfr3 p h1 h2 h3)
                  have hC4 := hC2.add hL3 hw3 hlt hmp3 (hT3.fr hF4 (by omega)) hM4 hA4 hfr4
                  refine v_aload_n hx d_MT_chain_172 rfl rfl ?_
                  refine v_get hx cf_MT 3 (by decide) k_MT_29 d_MT_chain_173 (hT3.fr hF4 (by omega)).m0 (hT3.fr hF4 (by omega)).f0 rfl ?_
                  refine v_iconst (v := (nI 1)) hx d_MT_chain_176 rfl ?_
                  refine n_isub hx d_MT_chain_177 (by omega) ?_
                  refine v_widen (k' := 5) (n' := 407) (by omega) (by omega) ?_
                  exact v_iretT hx hr d_MT_chain_178 ⟨_, w3, (c + 1, va_up n c N, va_up k c (k j), va_up nx c nx4, va_up ou c ou4, wl, wd), rfl, hO2.tr ⟨hL3, hw3, fun q h1 h2 => hfr4 q h1 (by omega) (by omega)⟩, ⟨_, _, _, _, _, _, _, _, _, _, _, _, _, _, _, _, hC4⟩, Or.inr ⟨j, j2, e, e2, hlt, Or.inr ⟨N, nx4, ou4, hE, hgood, hN40, by rw [Nat.add_sub_cancel], relM_plus, hv⟩⟩⟩
                · have haL : a < (bout (cNx (nx j) (ou j) (nx j2) (k j2)) (k j) [(0, 0, 0)] N).length := by omega
                  have hpa : pl2 a = qP (bout (cNx (nx j) (ou j) (nx j2) (k j2)) (k j) [(0, 0, 0)] N) a := (hQ2.2.1 a (by omega)).1
                  have hPa : wP (n j) (n j2) (pl2 a) := by rw [hpa]; exact hI2 _ (qP_mem haL)
                  have hPa1 := hPa.1
                  have hPa2 := hPa.2
                  have hpl := wP_lt hA hB _ hPa
                  refine v_aload_n hx d_MT_chain_81 rfl rfl ?_
                  refine v_get hx cf_MT 1 (by decide) k_MT_18 d_MT_chain_82 (hT3.fr hF4 (by omega)).m0 (hT3.fr hF4 (by omega)).f0 rfl ?_
                  refine v_iload hx d_MT_chain_85 rfl ?_
                  refine v_callV (as := [.int (nI a)]) (q := (R_Se, T_Se, 4)) hx (c_Se_placeAt (hS3.fr hF4 (by omega)) a (by omega)) cy_Se_placeAt k_MT_105 ki_Se_placeAt kl_Se_placeAt d_MT_chain_87 (by decide) (ci := 2) rfl (hS3.fr hF4 (by omega)).m0 (hS3.fr hF4 (by omega)).f0 (by decide) rfl rfl (Nat.le_of_ble_eq_true rfl) (fun v2 L3 f4 p2 => ?_)
                  obtain ⟨rfl, rfl, rfl⟩ := p2
                  refine v_istore (lv' := [some (.ref (A 0)), some (.int p), some (.int q), some (.ref (M j 0)), some (.ref (M j2 0)), some (.ref (B 0)), some (.int (nI a)), some (.int (nI (pl2 a))), none, none, none]) hx d_MT_chain_90 (by decide) rfl ?_
                  refine v_iconst (v := (nI 0)) hx d_MT_chain_92 rfl ?_
                  refine v_istore (lv' := [some (.ref (A 0)), some (.int p), some (.int q), some (.ref (M j 0)), some (.ref (M j2 0)), some (.ref (B 0)), some (.int (nI a)), some (.int (nI (pl2 a))), some (.int (nI 0)), none, none]) hx d_MT_chain_93 (by decide) rfl ?_
                  have H95 : ∀ (fu : Nat) (i : Nat) (f4 : Nat → va_E) (nx4 : Nat → Nat) (ou4 : Nat → Nat) (b4 : Nat), k j - i < fu → (i ≤ k j) → (MaAt G L3 f4 w3 (10 + c) B nx4 ou4 lo3 fi3 N (k j) b4) → (gF w3 (10 + c) f3 f4) → (1 ≤ a + i → b4 = 0) → (∀ y z, (y < a ∨ y = a ∧ z < i) → z < k j → nx4 (y * 4 + z) < N ∧ qP (bout (cNx (nx j) (ou j) (nx j2) (k j2)) (k j) [(0, 0, 0)] N) (nx4 (y * 4 + z)) = (cNx (nx j) (ou j) (nx j2) (k j2)) (qP (bout (cNx (nx j) (ou j) (nx j2) (k j2)) (k j) [(0, 0, 0)] N) y) z ∧ ou4 (y * 4 + z) = ou j2 (qP (bout (cNx (nx j) (ou j) (nx j2) (k j2)) (k j) [(0, 0, 0)] N) y % 40 * 4 + ou j (qP (bout (cNx (nx j) (ou j) (nx j2) (k j2)) (k j) [(0, 0, 0)] N) y / 40 * 4 + z))) → V G { frames := 6, cells := 5, slots := 407, locals := 92 } 11 x L3 f4 5 407 [some (.ref (A 0)), some (.int p), some (.int q), some (.ref (M j 0)), some (.ref (M j2 0)), some (.ref (B 0)), some (.int (nI a)), some (.int (nI (pl2 a))), some (.int (nI i)), none, none] 95 [] := by
                    intro fu
                    induction fu with
                    | zero => intro i f4 nx4 ou4 b4 hm; exact absurd hm (Nat.not_lt_zero _)
                    | succ fu ih =>
                      intro i f4 nx4 ou4 b4 hm hi hM4 hF4 hb hv
                      refine v_iload hx d_MT_chain_95 rfl ?_
                      refine v_aload hx d_MT_chain_97 rfl ?_
                      refine v_getN hx cf_Ma 5 (by decide) kN_MT_85 d_MT_chain_99 hM4.m0 hM4.f0 rfl ?_
                      refine n_icmp_ge (tgt := 166) hx d_MT_chain_102 (by decide) (by omega) (by omega) (fun c102 => ?_) (fun c102 => ?_)
                      · refine n_iinc (lv' := [some (.ref (A 0)), some (.int p), some (.int q), some (.ref (M j 0)), some (.ref (M j2 0)), some (.ref (B 0)), some (.int (nI (a + 1))), some (.int (nI (pl2 a))), some (.int (nI i)), none, none]) hx d_MT_chain_166 rfl (by decide) rfl ?_
                        refine v_goto (tgt := 71) hx d_MT_chain_169 (by decide) ?_
                        exact v_weak (by simp [vsub]) (ihO (a + 1) f4 nx4 ou4 b4 (by omega) (by omega) hM4 hF4 (fun _ => hb (by omega)) (fun y z h1 h2 => hv y z (by omega) h2))
                      · have hxa := hnx (pl2 a / 40) i hPa1 (by omega)
                        have hng : ou j (pl2 a / 40 * 4 + i) < k j2 := by
                          have e7 : qP (bout (cNx (nx j) (ou j) (nx j2) (k j2)) (k j) [(0, 0, 0)] a) a = pl2 a := by rw [hpa]; exact (((bout_sub (cNx (nx j) (ou j) (nx j2) (k j2)) (k j) [(0, 0, 0)] (a := a) (b := N) (by omega)).2 a (hE.2 a (by omega))).1).symm
                          have := hgood a (by omega) i (by omega)
                          rw [e7] at this
                          exact Nat.lt_of_not_le this
                        have hxb := gnx (pl2 a % 40) (ou j (pl2 a / 40 * 4 + i)) hPa2 hng
                        have hcn : (cNx (nx j) (ou j) (nx j2) (k j2)) (pl2 a) i = nx j (pl2 a / 40 * 4 + i) * 40 + nx j2 (pl2 a % 40 * 4 + ou j (pl2 a / 40 * 4 + i)) := if_pos hng
                        have hcl := hE.closed (a := a) (i := i) (by omega) (by omega)
                        obtain ⟨z, hz1, hz2, -, hz4⟩ : ∃ z, z < (bout (cNx (nx j) (ou j) (nx j2) (k j2)) (k j) [(0, 0, 0)] N).length ∧ qP (bout (cNx (nx j) (ou j) (nx j2) (k j2)) (k j) [(0, 0, 0)] N) z = nx j (pl2 a / 40 * 4 + i) * 40 + nx j2 (pl2 a % 40 * 4 + ou j (pl2 a / 40 * 4 + i)) ∧ nm2 (nx j (pl2 a / 40 * 4 + i) * 40 + nx j2 (pl2 a % 40 * 4 + ou j (pl2 a / 40 * 4 + i))) = some z ∧ oI (nm2 (nx j (pl2 a / 40 * 4 + i) * 40 + nx j2 (pl2 a % 40 * 4 + ou j (pl2 a / 40 * 4 + i)))) = nI z := (numOf hQ2 (show nx j (pl2 a / 40 * 4 + i) * 40 + nx j2 (pl2 a % 40 * 4 + ou j (pl2 a / 40 * 4 + i)) < 1600 by omega)).resolve_right (fun z => z.1 (by rw [← hcn, hpa]; exact hcl))
                        refine v_aload_n hx d_MT_chain_105 rfl rfl ?_
                        refine v_iload hx d_MT_chain_106 rfl ?_
                        refine v_callS (as := [.int (nI (pl2 a))]) hx (c_MT_firstOf (pl2 a) (by omega)) cy_MT_firstOf k_MT_132 ks_MT_firstOf d_MT_chain_108 (by decide) (by decide) rfl rfl (Nat.le_of_ble_eq_true rfl) (fun v2 L3 f4 p2 => ?_)
                        obtain ⟨rfl, rfl, rfl⟩ := p2
                        refine v_iload hx d_MT_chain_111 rfl ?_
                        refine v_callV (as := [.int (nI (pl2 a / 40)), .int (nI i)]) (q := (R_Ma, T_Ma, 7)) hx (c_Ma_outputOf (hMj3.fr hF4 (by omega)) (pl2 a / 40) i (by omega) (by omega)) cy_Ma_outputOf k_MT_64 ki_Ma_outputOf kl_Ma_outputOf d_MT_chain_113 (by decide) (ci := 1) rfl (hMj3.fr hF4 (by omega)).m0 (hMj3.fr hF4 (by omega)).f0 (by decide) rfl rfl (Nat.le_of_ble_eq_true rfl) (fun v3 L3 f4 p3 => ?_)
                        obtain ⟨rfl, rfl, rfl⟩ := p3
                        refine v_istore (lv' := [some (.ref (A 0)), some (.int p), some (.int q), some (.ref (M j 0)), some (.ref (M j2 0)), some (.ref (B 0)), some (.int (nI a)), some (.int (nI (pl2 a))), some (.int (nI i)), some (.int (nI (ou j (pl2 a / 40 * 4 + i)))), none]) hx d_MT_chain_116 (by decide) rfl ?_
                        refine v_aload_n hx d_MT_chain_118 rfl rfl ?_
                        refine v_get hx cf_MT 1 (by decide) k_MT_18 d_MT_chain_119 (hT3.fr hF4 (by omega)).m0 (hT3.fr hF4 (by omega)).f0 rfl ?_
                        refine v_aload_n hx d_MT_chain_122 rfl rfl ?_
                        refine v_aload hx d_MT_chain_123 rfl ?_
                        refine v_iload hx d_MT_chain_125 rfl ?_
                        refine v_iload hx d_MT_chain_127 rfl ?_
                        refine v_callS (as := [.ref (M j 0), .ref (M j2 0), .int (nI (pl2 a)), .int (nI i)]) hx (c_MT_pairBehind (hMj3.fr hF4 (by omega)) (hMk3.fr hF4 (by omega)) hA hB (pl2 a) i hPa1 hPa2 hpl (by omega)) cy_MT_pairBehind k_MT_135 ks_MT_pairBehind d_MT_chain_129 (by decide) (by decide) rfl rfl (Nat.le_of_ble_eq_true rfl) (fun v4 L3 f4 p4 => ?_)
                        obtain ⟨hpb, rfl, rfl⟩ := p4
                        obtain ⟨-, rfl⟩ : _ ∧ v4 = some (.int (nI (nx j (pl2 a / 40 * 4 + i) * 40 + nx j2 (pl2 a % 40 * 4 + ou j (pl2 a / 40 * 4 + i))))) := hpb.resolve_right (fun z => absurd z.1 (by omega))
                        refine v_callV (as := [.int (nI (nx j (pl2 a / 40 * 4 + i) * 40 + nx j2 (pl2 a % 40 * 4 + ou j (pl2 a / 40 * 4 + i))))]) (q := (R_Se, T_Se, 4)) hx (c_Se_numberOf (hS3.fr hF4 (by omega)) (nx j (pl2 a / 40 * 4 + i) * 40 + nx j2 (pl2 a % 40 * 4 + ou j (pl2 a / 40 * 4 + i))) (by omega)) cy_Se_numberOf k_MT_108 ki_Se_numberOf kl_Se_numberOf d_MT_chain_132 (by decide) (ci := 2) rfl (hS3.fr hF4 (by omega)).m0 (hS3.fr hF4 (by omega)).f0 (by decide) rfl rfl (Nat.le_of_ble_eq_true rfl) (fun v5 L3 f4 p5 => ?_)
                        obtain ⟨rfl, rfl, rfl⟩ := p5
                        rw [hz4]
                        refine v_istore (lv' := [some (.ref (A 0)), some (.int p), some (.int q), some (.ref (M j 0)), some (.ref (M j2 0)), some (.ref (B 0)), some (.int (nI a)), some (.int (nI (pl2 a))), some (.int (nI i)), some (.int (nI (ou j (pl2 a / 40 * 4 + i)))), some (.int (nI z))]) hx d_MT_chain_135 (by decide) rfl ?_
                        refine v_aload hx d_MT_chain_137 rfl ?_
                        refine v_iload hx d_MT_chain_139 rfl ?_
                        refine v_iload hx d_MT_chain_141 rfl ?_
                        refine v_iload hx d_MT_chain_143 rfl ?_
                        refine v_aload hx d_MT_chain_145 rfl ?_
                        refine v_iload hx d_MT_chain_147 rfl ?_
                        refine v_callS (as := [.int (nI (pl2 a))]) hx (c_MT_secondOf (pl2 a) (by omega)) cy_MT_secondOf k_MT_139 ks_MT_secondOf d_MT_chain_149 (by decide) (by decide) rfl rfl (Nat.le_of_ble_eq_true rfl) (fun v6 L3 f4 p6 => ?_)
                        obtain ⟨rfl, rfl, rfl⟩ := p6
                        refine v_iload hx d_MT_chain_152 rfl ?_
                        refine v_callV (as := [.int (nI (pl2 a % 40)), .int (nI (ou j (pl2 a / 40 * 4 + i)))]) (q := (R_Ma, T_Ma, 7)) hx (c_Ma_outputOf (hMk3.fr hF4 (by omega)) (pl2 a % 40) (ou j (pl2 a / 40 * 4 + i)) (by omega) (by omega)) cy_Ma_outputOf k_MT_64 ki_Ma_outputOf kl_Ma_outputOf d_MT_chain_154 (by decide) (ci := 1) rfl (hMk3.fr hF4 (by omega)).m0 (hMk3.fr hF4 (by omega)).f0 (by decide) rfl rfl (Nat.le_of_ble_eq_true rfl) (fun v7 L3 f4 p7 => ?_)
                        obtain ⟨rfl, rfl, rfl⟩ := p7
                        refine v_callV (as := [.int (nI a), .int (nI i), .int (nI z), .int (nI (ou j2 (pl2 a % 40 * 4 + ou j (pl2 a / 40 * 4 + i))))]) (q := (R_Ma, T_Ma, 7)) hx (c_Ma_setArrow hM4 a i z (ou j2 (pl2 a % 40 * 4 + ou j (pl2 a / 40 * 4 + i))) (by omega) (by omega)) cy_Ma_setArrow k_MT_56 ki_Ma_setArrow kl_Ma_setArrow d_MT_chain_157 (by decide) (ci := 1) rfl hM4.m0 hM4.f0 (by decide) rfl rfl (Nat.le_of_ble_eq_true rfl) (fun v8 L3 f5 p8 => ?_)
                        obtain ⟨rfl, rfl, hM5, hF5⟩ := p8
                        refine n_iinc (lv' := [some (.ref (A 0)), some (.int p), some (.int q), some (.ref (M j 0)), some (.ref (M j2 0)), some (.ref (B 0)), some (.int (nI a)), some (.int (nI (pl2 a))), some (.int (nI (i + 1))), some (.int (nI (ou j (pl2 a / 40 * 4 + i)))), some (.int (nI z))]) hx d_MT_chain_160 rfl (by decide) rfl ?_
                        refine v_goto (tgt := 95) hx d_MT_chain_163 (by decide) ?_
                        refine v_weak (by simp [vsub]) (ih (i + 1) f5 _ _ _ (by omega) (by omega) hM5 (hF4.tr hF5) (fun _ => rfl) (fun y y2 h1 h2 => ?_))
                        by_cases e9 : y * 4 + y2 = a * 4 + i
                        · obtain ⟨rfl, rfl⟩ : y = a ∧ y2 = i := ⟨by omega, by omega⟩
                          rw [va_up_self, va_up_self, ← hpa]; exact ⟨by omega, hz2.trans hcn.symm, rfl⟩
                        · rw [va_up_ne _ _ e9, va_up_ne _ _ e9]; exact hv y y2 (by omega) h2
                  exact v_weak (by simp [vsub]) (H95 _ 0 f4 nx4 ou4 b4 (Nat.lt_succ_self _) (Nat.zero_le _) hM4 hF4 (fun h => hb (by omega)) (fun y z h1 h2 => hv y z (by omega) h2))
            exact H71 _ 0 f3 nx3 ou3 0 (Nat.lt_succ_self _) (Nat.zero_le _) hM3 gF.rf (fun _ => rfl) (fun y z h1 _ => absurd h1 (Nat.not_lt_zero _))
          · exact absurd c38 (show ¬ nI 1 = 0 by decide)
        · have hC2 := hC.search hS2 hF2
          have hO2 : Out L f w L f2 w := Out.g hF2 (by decide)
          refine v_if_ne (tgt := 51) hx d_MT_chain_38 (by decide) (fun c38 => ?_) (fun c38 => ?_)
          · exact absurd rfl c38
          · refine v_widen (k' := 4) (n' := 401) (by omega) (by omega) ?_
            exact v_throw (z := (130, "an output is no input, or too many pairs")) hx hnh hTX hoff (by decide) at_XA (by decide) bx0_XA bx1_XA bx2_XA bx5_XA k_MT_121 kt_XA kz_XA d_MT_chain_41 d_MT_chain_44 d_MT_chain_45 d_MT_chain_47 d_MT_chain_50 hr (by decide) (by decide) (by decide) ⟨w, (c, n, k, nx, ou, wl, wd), hO2, ⟨_, _, _, _, _, _, _, _, _, _, _, _, _, _, _, _, hC2⟩, Or.inr ⟨j, j2, e, e2, hlt, Or.inl ⟨hbad, rfl, Rel.rf _⟩⟩⟩
      · refine v_iconst (v := (-1)) hx d_MT_chain_29 rfl ?_
        refine v_widen (k' := 5) (n' := 407) (by omega) (by omega) ?_
        exact v_iretT hx hr d_MT_chain_30 ⟨_, w, (c, n, k, nx, ou, wl, wd), rfl, Out.rf, ⟨_, _, _, _, _, _, _, _, _, _, _, _, _, _, _, _, hC⟩, Or.inl ⟨Or.inr (Or.inr (of_decide_eq_true (Bool.of_not_eq_false (fun z => c26 ((bI_0 _).mpr z))))), rfl, Rel.rf _⟩⟩
