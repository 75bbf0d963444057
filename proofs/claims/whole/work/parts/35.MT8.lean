theorem qr_mem (q : Qu) (p fr i : Nat) : p ∈ qPs (qr q p fr i) := by
  unfold qr
  split
  · rename_i h; exact h
  · simp [qPs]
theorem qSub.mem {q r : Qu} (h : qSub q r) {p : Nat} (hp : p ∈ qPs q) : p ∈ qPs r := by
  obtain ⟨i, hi, e⟩ := qP_ex hp
  rw [← e, ← (h.2 i hi).1]
  exact qP_mem (Nat.lt_of_lt_of_le hi h.1)
theorem bin_sub2 (nxt : Nat → Nat → Nat) (q : Qu) (a : Nat) {i j : Nat} (h : i ≤ j) : qSub (bin nxt q a i) (bin nxt q a j) := by
  induction j with
  | zero => have : i = 0 := by omega
            subst this; exact qSub.rf _
  | succ j ih =>
    rcases Nat.lt_or_ge i (j + 1) with c | c
    · exact (ih (by omega)).tr (qSub.r _ _ _ _)
    · have : i = j + 1 := by omega
      subst this; exact qSub.rf _
theorem BEnd.closed {nxt : Nat → Nat → Nat} {K N a i : Nat} {q : Qu} (h : BEnd nxt K q N) (ha : a < N) (hi : i < K) : nxt (qP (bout nxt K q N) a) i ∈ qPs (bout nxt K q N) := by
  have h1 := h.2 a ha
  have e : qP (bout nxt K q N) a = qP (bout nxt K q a) a := ((bout_sub nxt K q (a := a) (b := N) (by omega)).2 a h1).1
  rw [e]
  have h2 : nxt (qP (bout nxt K q a) a) i ∈ qPs (bin nxt (bout nxt K q a) a (i + 1)) := qr_mem _ _ _ _
  have h3 := (bin_sub2 nxt (bout nxt K q a) a (i := i + 1) (j := K) (by omega)).mem h2
  exact (bout_sub nxt K q (a := a + 1) (b := N) (by omega)).mem h3
theorem BEnd.pos {nxt : Nat → Nat → Nat} {K N : Nat} {q : Qu} (h : BEnd nxt K q N) (h1 : 1 ≤ q.length) : 1 ≤ N := by
  have := h.len h1
  have := (bout_sub nxt K q (a := 0) (b := N) (Nat.zero_le _)).1
  have : q.length ≤ (bout nxt K q N).length := this
  omega
set_option maxHeartbeats 4000000 in
set_option maxRecDepth 100000 in
theorem c_MT_least {G : GT} {L : List Nat} {f : Nat → va_E} {w A : Nat → Nat} {c : Nat} {n k : Nat → Nat} {nx ou : Nat → Nat → Nat} {wl : Nat} {wd : Nat → Nat} (hY : SysS G L f w A (c, n, k, nx, ou, wl, wd)) (p : Int32) : Con G y_MT_least (.code y_MT_least b_MT_least 8 (some .int) :: BIG) 5 111 5 407 [.ref (A 0), .int p] L f (fun v L' f' => ∃ (vi : Int32) (w' : Nat → Nat) (σ' : SG), v = some (.int vi) ∧ Out L f w L' f' w' ∧ SysS G L' f' w' A σ' ∧ rLeast (c, n, k, nx, ou, wl, wd) p vi σ') := by
  refine con_of (cc := b_MT_least) (mL := 8) (lv := [some (.ref (A 0)), some (.int p), none, none, none, none, none, none]) (by decide) (by intro w hw; simp at hw; rcases hw with rfl | rfl <;> rfl) (by first | exact Nat.le_of_ble_eq_true rfl | decide) rfl ?_
  intro x hx hr hin
  obtain ⟨S, Fm, wa, mp, M, lo, fi, b, nm, pl, st, sc, ss, sz, bo, fc, hC⟩ := hY
  have hC : SysC G L f w A S Fm c wa mp M nx ou lo fi n k b nm pl st sc ss sz bo fc wl wd := hC
  have hT := hC.1
  have hMs := hC.ms
  have hc := hC.c12
  refine v_aload_n hx d_MT_least_0 rfl rfl ?_
  refine v_iload_n hx d_MT_least_1 rfl rfl ?_
  refine v_callV (as := [.int p]) (q := (R_MT, T_MT, 5)) hx (c_MT_find hT hMs hc p) cy_MT_find k_MT_45 ki_MT_find kl_MT_find d_MT_least_2 (by decide) (ci := 3) rfl hT.m0 hT.f0 (by decide) rfl rfl (Nat.le_of_ble_eq_true rfl) (fun v1 L f p1 => ?_)
  obtain ⟨(⟨e, rfl⟩ | ⟨j, e, hj, rfl⟩), rfl, rfl⟩ := p1
  · refine v_astore_nN (lv' := [some (.ref (A 0)), some (.int p), some (.null), none, none, none, none, none]) hx d_MT_least_5 rfl (by decide) rfl ?_
    refine v_aload_nN hx d_MT_least_6 rfl rfl ?_
    refine v_ifnullN (tgt := 17) hx d_MT_least_7 (by decide) ?_
    refine v_iconst (v := (-1)) hx d_MT_least_17 rfl ?_
    refine v_widen (k' := 5) (n' := 407) (by omega) (by omega) ?_
    exact v_iret hx hr d_MT_least_18 ⟨_, w, (c, n, k, nx, ou, wl, wd), rfl, Out.rf, ⟨_, _, _, _, _, _, _, _, _, _, _, _, _, _, _, _, hC⟩, Or.inl ⟨Or.inl e, rfl, Rel.rf _⟩⟩
  · have hA := hC.ok hj
    have hA_ := hA
    obtain ⟨hn1, hn2, hk1, hk2, hnx⟩ := hA_
    refine v_astore_n (lv' := [some (.ref (A 0)), some (.int p), some (.ref (M j 0)), none, none, none, none, none]) hx d_MT_least_5 rfl (by decide) rfl ?_
    refine v_aload_n hx d_MT_least_6 rfl rfl ?_
    refine v_ifnull hx d_MT_least_7 ?_
    refine v_aload_n hx d_MT_least_10 rfl rfl ?_
    refine v_callV (as := []) (q := (R_MT, T_MT, 5)) hx (c_MT_isFull hT hc) cy_MT_isFull k_MT_37 ki_MT_isFull kl_MT_isFull d_MT_least_11 (by decide) (ci := 3) rfl hT.m0 hT.f0 (by decide) rfl rfl (Nat.le_of_ble_eq_true rfl) (fun v2 L f p2 => ?_)
    obtain ⟨rfl, rfl, rfl⟩ := p2
    refine v_if_eq (tgt := 19) hx d_MT_least_14 (by decide) (fun c14 => ?_) (fun c14 => ?_)
    · have hlt : c < 12 := Nat.lt_of_not_le (of_decide_eq_false ((bI_0 _).mp c14))
      refine v_aload_n hx d_MT_least_19 rfl rfl ?_
      refine v_callV (as := []) (q := (R_Ma, T_Ma, 7)) hx (c_Ma_settle (hMs j hj).2 (hC.ok hj) (hC.2.2.2.2.2.2.1 j hj).2) cy_Ma_settle k_MT_67 ki_Ma_settle kl_Ma_settle d_MT_least_20 (by decide) (ci := 1) rfl (hMs j hj).2.m0 (hMs j hj).2.f0 (by decide) rfl rfl (Nat.le_of_ble_eq_true rfl) (fun v3 L f1 p3 => ?_)
      obtain ⟨rfl, rfl, lo2, fi2, hMj, hF1, hLk⟩ := p3
      have hC1 := hC.settle hj hMj hF1 hLk
      have hO1 : Out L f w L f1 w := Out.g hF1 (by omega)
      refine v_aload_n hx d_MT_least_23 rfl rfl ?_
      refine v_aload_n hx d_MT_least_24 rfl rfl ?_
      refine v_callV (as := [.ref (M j 0)]) (q := (R_MT, T_MT, 5)) hx (c_MT_numberSets hC1.1 hC1.2.1 hMj (by omega) hA (fun s hs => (hLk s hs).1)) cy_MT_numberSets k_MT_97 ki_MT_numberSets kl_MT_numberSets d_MT_least_25 (by decide) (ci := 3) rfl hC1.1.m0 hC1.1.f0 (by decide) rfl rfl (Nat.le_of_ble_eq_true rfl) (fun v4 L f2 p4 => ?_)
      obtain ⟨rfl, rfl, hF2, N, nm2, pl2, st2, hE, hS2, hQ2, hq2⟩ := p4
      have hC2 := hC1.search hS2 hF2
      have hMj2 := hMj.fr hF2 (show 10 + j ≠ 1 by omega)
      have hO2 : Out L f w L f2 w := hO1.tr (Out.g hF2 (by decide))
      have hlen : (lRow lo2 (nx j) (k j) N).length = N := hE.len (Nat.le_refl _)
      have hNn : (lRow lo2 (nx j) (k j) N).length ≤ n j := hq2.len
      have hN1 := hE.pos (Nat.le_refl _)
      refine v_aload_n hx d_MT_least_28 rfl rfl ?_
      refine v_aload_n hx d_MT_least_29 rfl rfl ?_
      refine v_get hx cf_MT 1 (by decide) k_MT_18 d_MT_least_30 hC2.1.m0 hC2.1.f0 rfl ?_
      refine v_getN hx cf_Se 3 (by decide) kN_MT_101 d_MT_least_33 hS2.m0 hS2.f0 rfl ?_
      refine v_aload_n hx d_MT_least_36 rfl rfl ?_
      refine v_getN hx cf_Ma 5 (by decide) kN_MT_85 d_MT_least_37 hMj2.m0 hMj2.f0 rfl ?_
      refine v_callV (as := [.int (nI N), .int (nI (k j))]) (q := (R_MT, T_MT, 5)) hx (c_MT_add hC2 hlt N (k j) ⟨hN1, by omega⟩ ⟨hk1, hk2⟩) cy_MT_add k_MT_41 ki_MT_add kl_MT_add d_MT_least_40 (by decide) (ci := 3) rfl hC2.1.m0 hC2.1.f0 (by decide) rfl rfl (Nat.le_of_ble_eq_true rfl) (fun v5 L3 f3 p5 => ?_)
      obtain ⟨B, w3, mp3, nx3, ou3, lo3, fi3, rfl, hL3, hw3, hmp3, hT3, hM3, -, hfr3⟩ := p5
      have hMj3 := hMj2.move hL3 hw3 (fun p h1 h2 => hfr3 p h1 (by omega) (by omega))
      have hS3 := hS2.move hL3 hw3 (fun p h1 h2 => hfr3 p h1 (by omega) (by omega))
      refine v_astore_n (lv' := [some (.ref (A 0)), some (.int p), some (.ref (M j 0)), some (.ref (B 0)), none, none, none, none]) hx d_MT_least_43 rfl (by decide) rfl ?_
      refine v_iconst (v := (nI 0)) hx d_MT_least_44 rfl ?_
      refine v_istore (lv' := [some (.ref (A 0)), some (.int p), some (.ref (M j 0)), some (.ref (B 0)), some (.int (nI 0)), none, none, none]) hx d_MT_least_45 (by decide) rfl ?_
      have H47 : ∀ (fu : Nat) (a : Nat) (f4 : Nat → va_E) (nx4 : Nat → Nat) (ou4 : Nat → Nat) (b4 : Nat), N - a < fu → (a ≤ N) → (MaAt G L3 f4 w3 (10 + c) B nx4 ou4 lo3 fi3 N (k j) b4) → (gF w3 (10 + c) f3 f4) → (1 ≤ a → b4 = 0) → (∀ y z, y < a → z < k j → nx4 (y * 4 + z) < N ∧ qP (lRow lo2 (nx j) (k j) N) (nx4 (y * 4 + z)) = lo2 (nx j (qP (lRow lo2 (nx j) (k j) N) y * 4 + z)) ∧ ou4 (y * 4 + z) = ou j (qP (lRow lo2 (nx j) (k j) N) y * 4 + z)) → V G { frames := 5, cells := 5, slots := 407, locals := 111 } 8 x L3 f4 5 407 [some (.ref (A 0)), some (.int p), some (.ref (M j 0)), some (.ref (B 0)), some (.int (nI a)), none, none, none] 47 [] := by
        intro fu
        induction fu with
        | zero => intro a f4 nx4 ou4 b4 hm; exact absurd hm (Nat.not_lt_zero _)
        | succ fu ih =>
          intro a f4 nx4 ou4 b4 hm ha hM4 hF4 hb hv
          have ihO := ih
          refine v_iload hx d_MT_least_47 rfl ?_
          refine v_aload_n hx d_MT_least_49 rfl rfl ?_
          refine v_getN hx cf_Ma 4 (by decide) kN_MT_102 d_MT_least_50 hM4.m0 hM4.f0 rfl ?_
          refine n_icmp_ge (tgt := 130) hx d_MT_least_53 (by decide) (by omega) (by omega) (fun c53 => ?_) (fun c53 => ?_)
          · have haN : a = N := by omega
            have hb0 := hb (by omega)
            subst hb0
            rw [haN] at hv
            have hA4 : okA nx4 ou4 N (k j) := ⟨hN1, by omega, hk1, hk2, fun s i hs hi => ⟨(hv s i hs hi).1, by rw [(hv s i hs hi).2.2]; exact (hnx _ i (hq2.2.1 _ (qP_mem (show s < (lRow lo2 (nx j) (k j) N).length by omega))) hi).2⟩⟩
            have hfr4 : ∀ p, p ∈ L → w p ≠ 0 → w p ≠ 10 + c → f4 p = f2 p := fun p h1 h2 h3 => (hF4 p (by rw [hw3 p h1]; exact h3)).trans (hfr3 p h1 h2 h3)
            have hC4 := hC2.add hL3 hw3 hlt hmp3 (hT3.fr hF4 (by omega)) hM4 hA4 hfr4
            refine v_aload_n hx d_MT_least_130 rfl rfl ?_
            refine v_get hx cf_MT 3 (by decide) k_MT_29 d_MT_least_131 (hT3.fr hF4 (by omega)).m0 (hT3.fr hF4 (by omega)).f0 rfl ?_
            refine v_iconst (v := (nI 1)) hx d_MT_least_134 rfl ?_
            refine n_isub hx d_MT_least_135 (by omega) ?_
            refine v_widen (k' := 5) (n' := 407) (by omega) (by omega) ?_
            exact v_iret hx hr d_MT_least_136 ⟨_, w3, (c + 1, va_up n c N, va_up k c (k j), va_up nx c nx4, va_up ou c ou4, wl, wd), rfl, hO2.tr ⟨hL3, hw3, fun q h1 h2 => hfr4 q h1 (by omega) (by omega)⟩, ⟨_, _, _, _, _, _, _, _, _, _, _, _, _, _, _, _, hC4⟩, Or.inr ⟨j, lo2, N, nx4, ou4, e, hlt, hLk, hE, by rw [Nat.add_sub_cancel], relM_plus, hv⟩⟩
          · have hpa : pl2 a = qP (lRow lo2 (nx j) (k j) N) a := (hQ2.2.1 a (by omega)).1
            have hPa : qP (lRow lo2 (nx j) (k j) N) a < n j := hq2.2.1 _ (qP_mem (show a < (lRow lo2 (nx j) (k j) N).length by omega))
            refine v_aload_n hx d_MT_least_56 rfl rfl ?_
            refine v_get hx cf_MT 1 (by decide) k_MT_18 d_MT_least_57 (hT3.fr hF4 (by omega)).m0 (hT3.fr hF4 (by omega)).f0 rfl ?_
            refine v_iload hx d_MT_least_60 rfl ?_
            refine v_callV (as := [.int (nI a)]) (q := (R_Se, T_Se, 4)) hx (c_Se_placeAt (hS3.fr hF4 (by omega)) a (by omega)) cy_Se_placeAt k_MT_105 ki_Se_placeAt kl_Se_placeAt d_MT_least_62 (by decide) (ci := 2) rfl (hS3.fr hF4 (by omega)).m0 (hS3.fr hF4 (by omega)).f0 (by decide) rfl rfl (Nat.le_of_ble_eq_true rfl) (fun v6 L3 f4 p6 => ?_)
            obtain ⟨rfl, rfl, rfl⟩ := p6
            refine v_istore (lv' := [some (.ref (A 0)), some (.int p), some (.ref (M j 0)), some (.ref (B 0)), some (.int (nI a)), some (.int (nI (pl2 a))), none, none]) hx d_MT_least_65 (by decide) rfl ?_
            refine v_iconst (v := (nI 0)) hx d_MT_least_67 rfl ?_
            refine v_istore (lv' := [some (.ref (A 0)), some (.int p), some (.ref (M j 0)), some (.ref (B 0)), some (.int (nI a)), some (.int (nI (pl2 a))), some (.int (nI 0)), none]) hx d_MT_least_68 (by decide) rfl ?_
            have H70 : ∀ (fu : Nat) (i : Nat) (f4 : Nat → va_E) (nx4 : Nat → Nat) (ou4 : Nat → Nat) (b4 : Nat), k j - i < fu → (i ≤ k j) → (MaAt G L3 f4 w3 (10 + c) B nx4 ou4 lo3 fi3 N (k j) b4) → (gF w3 (10 + c) f3 f4) → (1 ≤ a + i → b4 = 0) → (∀ y z, (y < a ∨ y = a ∧ z < i) → z < k j → nx4 (y * 4 + z) < N ∧ qP (lRow lo2 (nx j) (k j) N) (nx4 (y * 4 + z)) = lo2 (nx j (qP (lRow lo2 (nx j) (k j) N) y * 4 + z)) ∧ ou4 (y * 4 + z) = ou j (qP (lRow lo2 (nx j) (k j) N) y * 4 + z)) → V G { frames := 5, cells := 5, slots := 407, locals := 111 } 8 x L3 f4 5 407 [some (.ref (A 0)), some (.int p), some (.ref (M j 0)), some (.ref (B 0)), some (.int (nI a)), some (.int (nI (pl2 a))), some (.int (nI i)), none] 70 [] := by
              intro fu
              induction fu with
              | zero => intro i f4 nx4 ou4 b4 hm; exact absurd hm (Nat.not_lt_zero _)
              | succ fu ih =>
                intro i f4 nx4 ou4 b4 hm hi hM4 hF4 hb hv
                refine v_iload hx d_MT_least_70 rfl ?_
                refine v_aload_n hx d_MT_least_72 rfl rfl ?_
                refine v_getN hx cf_Ma 5 (by decide) kN_MT_85 d_MT_least_73 hM4.m0 hM4.f0 rfl ?_
                refine n_icmp_ge (tgt := 124) hx d_MT_least_76 (by decide) (by omega) (by omega) (fun c76 => ?_) (fun c76 => ?_)
                · refine n_iinc (lv' := [some (.ref (A 0)), some (.int p), some (.ref (M j 0)), some (.ref (B 0)), some (.int (nI (a + 1))), some (.int (nI (pl2 a))), some (.int (nI i)), none]) hx d_MT_least_124 rfl (by decide) rfl ?_
                  refine v_goto (tgt := 47) hx d_MT_least_127 (by decide) ?_
                  exact v_weak (by simp [vsub]) (ihO (a + 1) f4 nx4 ou4 b4 (by omega) (by omega) hM4 hF4 (fun _ => hb (by omega)) (fun y z h1 h2 => hv y z (by omega) h2))
                · have hxa := hnx (pl2 a) i (by omega) (by omega)
                  have hla := (hLk _ hxa.1).1
                  have hcl := hE.closed (a := a) (i := i) (by omega) (by omega)
                  obtain ⟨q, hq1, hq2_, -, hq4⟩ : ∃ q, q < (lRow lo2 (nx j) (k j) N).length ∧ qP (lRow lo2 (nx j) (k j) N) q = lo2 (nx j (pl2 a * 4 + i)) ∧ nm2 (lo2 (nx j (pl2 a * 4 + i))) = some q ∧ oI (nm2 (lo2 (nx j (pl2 a * 4 + i)))) = nI q := (numOf hQ2 (show lo2 (nx j (pl2 a * 4 + i)) < n j by omega)).resolve_right (fun z => z.1 (by rw [hpa]; exact hcl))
                  refine v_aload_n hx d_MT_least_79 rfl rfl ?_
                  refine v_get hx cf_MT 1 (by decide) k_MT_18 d_MT_least_80 (hT3.fr hF4 (by omega)).m0 (hT3.fr hF4 (by omega)).f0 rfl ?_
                  refine v_aload_n hx d_MT_least_83 rfl rfl ?_
                  refine v_aload_n hx d_MT_least_84 rfl rfl ?_
                  refine v_iload hx d_MT_least_85 rfl ?_
                  refine v_iload hx d_MT_least_87 rfl ?_
                  refine v_callV (as := [.int (nI (pl2 a)), .int (nI i)]) (q := (R_Ma, T_Ma, 7)) hx (c_Ma_nextOf (hMj3.fr hF4 (by omega)) (pl2 a) i (by omega) (by omega)) cy_Ma_nextOf k_MT_60 ki_Ma_nextOf kl_Ma_nextOf d_MT_least_89 (by decide) (ci := 1) rfl (hMj3.fr hF4 (by omega)).m0 (hMj3.fr hF4 (by omega)).f0 (by decide) rfl rfl (Nat.le_of_ble_eq_true rfl) (fun v6 L3 f4 p6 => ?_)
                  obtain ⟨rfl, rfl, rfl⟩ := p6
                  refine v_callV (as := [.int (nI (nx j (pl2 a * 4 + i)))]) (q := (R_Ma, T_Ma, 7)) hx (c_Ma_leastLike (hMj3.fr hF4 (by omega)) (nx j (pl2 a * 4 + i)) (by omega)) cy_Ma_leastLike k_MT_74 ki_Ma_leastLike kl_Ma_leastLike d_MT_least_92 (by decide) (ci := 1) rfl (hMj3.fr hF4 (by omega)).m0 (hMj3.fr hF4 (by omega)).f0 (by decide) rfl rfl (Nat.le_of_ble_eq_true rfl) (fun v7 L3 f4 p7 => ?_)
                  obtain ⟨rfl, rfl, rfl⟩ := p7
                  refine v_callV (as := [.int (nI (lo2 (nx j (pl2 a * 4 + i))))]) (q := (R_Se, T_Se, 4)) hx (c_Se_numberOf (hS3.fr hF4 (by omega)) (lo2 (nx j (pl2 a * 4 + i))) (by omega)) cy_Se_numberOf k_MT_108 ki_Se_numberOf kl_Se_numberOf d_MT_least_95 (by decide) (ci := 2) rfl (hS3.fr hF4 (by omega)).m0 (hS3.fr hF4 (by omega)).f0 (by decide) rfl rfl (Nat.le_of_ble_eq_true rfl) (fun v8 L3 f4 p8 => ?_)
                  obtain ⟨rfl, rfl, rfl⟩ := p8
                  rw [hq4]
                  refine v_istore (lv' := [some (.ref (A 0)), some (.int p), some (.ref (M j 0)), some (.ref (B 0)), some (.int (nI a)), some (.int (nI (pl2 a))), some (.int (nI i)), some (.int (nI q))]) hx d_MT_least_98 (by decide) rfl ?_
                  refine v_aload_n hx d_MT_least_100 rfl rfl ?_
                  refine v_iload hx d_MT_least_101 rfl ?_
                  refine v_iload hx d_MT_least_103 rfl ?_
                  refine v_iload hx d_MT_least_105 rfl ?_
                  refine v_aload_n hx d_MT_least_107 rfl rfl ?_
                  refine v_iload hx d_MT_least_108 rfl ?_
                  refine v_iload hx d_MT_least_110 rfl ?_
                  refine v_callV (as := [.int (nI (pl2 a)), .int (nI i)]) (q := (R_Ma, T_Ma, 7)) hx (c_Ma_outputOf (hMj3.fr hF4 (by omega)) (pl2 a) i (by omega) (by omega)) cy_Ma_outputOf k_MT_64 ki_Ma_outputOf kl_Ma_outputOf d_MT_least_112 (by decide) (ci := 1) rfl (hMj3.fr hF4 (by omega)).m0 (hMj3.fr hF4 (by omega)).f0 (by decide) rfl rfl (Nat.le_of_ble_eq_true rfl) (fun v9 L3 f4 p9 => ?_)
                  obtain ⟨rfl, rfl, rfl⟩ := p9
                  refine v_callV (as := [.int (nI a), .int (nI i), .int (nI q), .int (nI (ou j (pl2 a * 4 + i)))]) (q := (R_Ma, T_Ma, 7)) hx (c_Ma_setArrow hM4 a i q (ou j (pl2 a * 4 + i)) (by omega) (by omega)) cy_Ma_setArrow k_MT_56 ki_Ma_setArrow kl_Ma_setArrow d_MT_least_115 (by decide) (ci := 1) rfl hM4.m0 hM4.f0 (by decide) rfl rfl (Nat.le_of_ble_eq_true rfl) (fun v10 L3 f5 p10 => ?_)
                  obtain ⟨rfl, rfl, hM5, hF5⟩ := p10
                  refine n_iinc (lv' := [some (.ref (A 0)), some (.int p), some (.ref (M j 0)), some (.ref (B 0)), some (.int (nI a)), some (.int (nI (pl2 a))), some (.int (nI (i + 1))), some (.int (nI q))]) hx d_MT_least_118 rfl (by decide) rfl ?_
                  refine v_goto (tgt := 70) hx d_MT_least_121 (by decide) ?_
                  refine v_weak (by simp [vsub]) (ih (i + 1) f5 _ _ _ (by omega) (by omega) hM5 (hF4.tr hF5) (fun _ => rfl) (fun y z h1 h2 => ?_))
                  by_cases e9 : y * 4 + z = a * 4 + i
                  · obtain ⟨rfl, rfl⟩ : y = a ∧ z = i := ⟨by omega, by omega⟩
                    rw [va_up_self, va_up_self, ← hpa]; exact ⟨by omega, hq2_, rfl⟩
                  · rw [va_up_ne _ _ e9, va_up_ne _ _ e9]; exact hv y z (by omega) h2
            exact v_weak (by simp [vsub]) (H70 _ 0 f4 nx4 ou4 b4 (Nat.lt_succ_self _) (Nat.zero_le _) hM4 hF4 (fun h => hb (by omega)) (fun y z h1 h2 => hv y z (by omega) h2))
      exact H47 _ 0 f3 nx3 ou3 0 (Nat.lt_succ_self _) (Nat.zero_le _) hM3 gF.rf (fun _ => rfl) (fun y z h1 _ => absurd h1 (Nat.not_lt_zero _))
    · refine v_iconst (v := (-1)) hx d_MT_least_17 rfl ?_
      refine v_widen (k' := 5) (n' := 407) (by omega) (by omega) ?_
      exact v_iret hx hr d_MT_least_18 ⟨_, w, (c, n, k, nx, ou, wl, wd), rfl, Out.rf, ⟨_, _, _, _, _, _, _, _, _, _, _, _, _, _, _, _, hC⟩, Or.inl ⟨Or.inr (of_decide_eq_true (Bool.of_not_eq_false (fun z => c14 ((bI_0 _).mpr z)))), rfl, Rel.rf _⟩⟩
