set_option maxHeartbeats 4000000 in
set_option maxRecDepth 100000 in
theorem c_MT_numberSets {G : GT} {L : List Nat} {f : Nat → va_E} {w : Nat → Nat} {A S Fm : Nat → Nat} {c wa : Nat} {mp : Nat → Option Nat} (hT : TbAt G L f w 0 A (S 0) (Fm 0) c wa mp) {nm : Nat → Option Nat} {pl st : Nat → Nat} {sc : Nat} (hS : SeAt G L f w 1 S nm pl st sc) {id1 : Nat} {Ba nx1 ou1 lo1 fi1 : Nat → Nat} {n1 k1 b1 : Nat} (hM1 : MaAt G L f w id1 Ba nx1 ou1 lo1 fi1 n1 k1 b1) (hi1 : id1 ≠ 1) (hA1 : okA nx1 ou1 n1 k1) (hlo : ∀ s, s < n1 → lo1 s ≤ s) : Con G y_MT_numberSets (.code y_MT_numberSets b_MT_numberSets 5 none :: BIG) 3 67 0 0 [.ref (A 0), .ref (Ba 0)] L f (fun v L' f' => v = none ∧ L' = L ∧ gF w 1 f f' ∧ ∃ (N : Nat) (nm : Nat → Option Nat) (pl st : Nat → Nat), BEnd (nNx lo1 nx1) k1 [(lo1 0, 0, 0)] N ∧ SeAt G L f' w 1 S nm pl st N ∧ SeQ nm pl st N n1 (bout (nNx lo1 nx1) k1 [(lo1 0, 0, 0)] N) ∧ qOK (bout (nNx lo1 nx1) k1 [(lo1 0, 0, 0)] N) n1) := by
  refine con_of (cc := b_MT_numberSets) (mL := 5) (lv := [some (.ref (A 0)), some (.ref (Ba 0)), none, none, none]) (by decide) (by intro w hw; simp at hw; rcases hw with rfl | rfl <;> rfl) (by first | exact Nat.le_of_ble_eq_true rfl | decide) rfl ?_
  intro x hx hr hin
  have hF := gF.rf (w := w) (id := 1) (f := f)
  have hA1_ := hA1
  obtain ⟨a1, a2, a3, a4, a5⟩ := hA1_
  have hll : ∀ s, s < n1 → lo1 s < n1 := fun s hs => by have := hlo s hs; omega
  have hlt : ∀ p, p < n1 → p < n1 := fun _ h => h
  have hnP : ∀ p i, p < n1 → i < k1 → (nNx lo1 nx1) p i < n1 := fun p i hp hi => hll _ (a5 p i hp hi).1
  have hP0 : lo1 0 < n1 := hll 0 (by omega)
  have hq0 : qOK [(lo1 0, 0, 0)] n1 := q0_ok hP0
  have hI0 : qI (fun p => p < n1) [(lo1 0, 0, 0)] := q0_I hP0
  refine v_aload_n hx d_MT_numberSets_0 rfl rfl ?_
  refine v_get hx cf_MT 1 (by decide) k_MT_18 d_MT_numberSets_1 (hT.fr hF (by decide)).m0 (hT.fr hF (by decide)).f0 rfl ?_
  refine v_aload_n hx d_MT_numberSets_4 rfl rfl ?_
  refine v_getN hx cf_Ma 4 (by decide) kN_MT_102 d_MT_numberSets_5 (hM1.fr hF hi1).m0 (hM1.fr hF hi1).f0 rfl ?_
  refine v_callV (as := [.int (nI n1)]) (q := (R_Se, T_Se, 4)) hx (c_Se_begin hS n1 (by omega)) cy_Se_begin k_MT_156 ki_Se_begin kl_Se_begin d_MT_numberSets_8 (by decide) (ci := 2) rfl hS.m0 hS.f0 (by decide) rfl rfl (Nat.le_of_ble_eq_true rfl) (fun v1 L f1 p1 => ?_)
  obtain ⟨rfl, rfl, ⟨nm1, hS1, hQ1⟩, hF1⟩ := p1
  have hF := hF1
  refine v_aload_n hx d_MT_numberSets_11 rfl rfl ?_
  refine v_get hx cf_MT 1 (by decide) k_MT_18 d_MT_numberSets_12 (hT.fr hF (by decide)).m0 (hT.fr hF (by decide)).f0 rfl ?_
  refine v_aload_n hx d_MT_numberSets_15 rfl rfl ?_
  refine v_iconst (v := (nI 0)) hx d_MT_numberSets_16 rfl ?_
  refine v_callV (as := [.int (nI 0)]) (q := (R_Ma, T_Ma, 7)) hx (c_Ma_leastLike (hM1.fr hF hi1) 0 (by decide)) cy_Ma_leastLike k_MT_74 ki_Ma_leastLike kl_Ma_leastLike d_MT_numberSets_17 (by decide) (ci := 1) rfl (hM1.fr hF hi1).m0 (hM1.fr hF hi1).f0 (by decide) rfl rfl (Nat.le_of_ble_eq_true rfl) (fun v2 L f1 p2 => ?_)
  obtain ⟨rfl, rfl, rfl⟩ := p2
  refine v_iconst (v := (nI 0)) hx d_MT_numberSets_20 rfl ?_
  refine v_iconst (v := (nI 0)) hx d_MT_numberSets_21 rfl ?_
  refine v_callV (as := [.int (nI (lo1 0)), .int (nI 0), .int (nI 0)]) (q := (R_Se, T_Se, 4)) hx (c_Se_reach hS1 hQ1 (qOK_nil _) (lo1 0) 0 0 (by omega) hP0 (Or.inr ⟨rfl, rfl⟩) (by decide)) cy_Se_reach k_MT_162 ki_Se_reach kl_Se_reach d_MT_numberSets_22 (by decide) (ci := 2) rfl hS1.m0 hS1.f0 (by decide) rfl rfl (Nat.le_of_ble_eq_true rfl) (fun v3 L f2 p3 => ?_)
  obtain ⟨rfl, rfl, ⟨nm2, pl2, st2, hS2, hQ2⟩, hF2⟩ := p3
  have hF := hF.tr hF2
  refine v_iconst (v := (nI 0)) hx d_MT_numberSets_25 rfl ?_
  refine v_istore_n (lv' := [some (.ref (A 0)), some (.ref (Ba 0)), some (.int (nI 0)), none, none]) hx d_MT_numberSets_26 rfl (by decide) rfl ?_
  have H27 : ∀ (fu : Nat) (a : Nat) (f3 : Nat → va_E) (nm1 : Nat → Option Nat) (pl1 : Nat → Nat) (st1 : Nat → Nat) (sc1 : Nat), n1 - a < fu → (a ≤ n1) → (∀ b, b < a → b < (bout (nNx lo1 nx1) k1 [(lo1 0, 0, 0)] b).length) → (SeAt G L f3 w 1 S nm1 pl1 st1 sc1) → (SeQ nm1 pl1 st1 sc1 n1 (bout (nNx lo1 nx1) k1 [(lo1 0, 0, 0)] a)) → (gF w 1 f f3) → V G { frames := 3, cells := 0, slots := 0, locals := 67 } 5 x L f3 0 0 [some (.ref (A 0)), some (.ref (Ba 0)), some (.int (nI a)), none, none] 27 [] := by
    intro fu
    induction fu with
    | zero => intro a f3 nm1 pl1 st1 sc1 hm; exact absurd hm (Nat.not_lt_zero _)
    | succ fu ih =>
      intro a f3 nm1 pl1 st1 sc1 hm ha0 hr1 hM hQ hF
      have ihO := ih
      have hok := bout_ok hq0 hI0 a4 hlt hnP a hr1
      have hlen := hok.1.len
      have hce := hQ.1
      refine v_iload_n hx d_MT_numberSets_27 rfl rfl ?_
      refine v_aload_n hx d_MT_numberSets_28 rfl rfl ?_
      refine v_get hx cf_MT 1 (by decide) k_MT_18 d_MT_numberSets_29 (hT.fr hF (by decide)).m0 (hT.fr hF (by decide)).f0 rfl ?_
      refine v_getN hx cf_Se 3 (by decide) kN_MT_101 d_MT_numberSets_32 hM.m0 hM.f0 rfl ?_
      refine n_icmp_ge (tgt := 98) hx d_MT_numberSets_35 (by decide) (by omega) (by omega) (fun c35 => ?_) (fun c35 => ?_)
      · have hE : BEnd (nNx lo1 nx1) k1 [(lo1 0, 0, 0)] a := ⟨by omega, hr1⟩
        have hsa : sc1 = a := by rw [hce]; exact hE.len (Nat.le_refl _)
        subst hsa
        exact v_vret hx hr d_MT_numberSets_98 ⟨rfl, rfl, hF, sc1, nm1, pl1, st1, hE, hM, hQ, hok.1⟩
      · refine v_iload_n hx d_MT_numberSets_38 rfl rfl ?_
        refine v_bipush (v := (nI 40)) hx d_MT_numberSets_39 rfl ?_
        refine n_icmp_ge (tgt := 98) hx d_MT_numberSets_41 (by decide) (by omega) (by omega) (fun c41 => ?_) (fun c41 => ?_)
        · exact absurd c41 (by omega)
        · have haL : a < (bout (nNx lo1 nx1) k1 [(lo1 0, 0, 0)] a).length := by omega
          have hpa : pl1 a = qP (bout (nNx lo1 nx1) k1 [(lo1 0, 0, 0)] a) a := (hQ.2.1 a (by omega)).1
          have hPa : pl1 a < n1 := by rw [hpa]; exact hok.2 _ (qP_mem haL)
          refine v_aload_n hx d_MT_numberSets_44 rfl rfl ?_
          refine v_get hx cf_MT 1 (by decide) k_MT_18 d_MT_numberSets_45 (hT.fr hF (by decide)).m0 (hT.fr hF (by decide)).f0 rfl ?_
          refine v_iload_n hx d_MT_numberSets_48 rfl rfl ?_
          refine v_callV (as := [.int (nI a)]) (q := (R_Se, T_Se, 4)) hx (c_Se_placeAt hM a (by omega)) cy_Se_placeAt k_MT_105 ki_Se_placeAt kl_Se_placeAt d_MT_numberSets_49 (by decide) (ci := 2) rfl hM.m0 hM.f0 (by decide) rfl rfl (Nat.le_of_ble_eq_true rfl) (fun v4 L f3 p4 => ?_)
          obtain ⟨rfl, rfl, rfl⟩ := p4
          refine v_istore_n (lv' := [some (.ref (A 0)), some (.ref (Ba 0)), some (.int (nI a)), some (.int (nI (pl1 a))), none]) hx d_MT_numberSets_52 rfl (by decide) rfl ?_
          refine v_iconst (v := (nI 0)) hx d_MT_numberSets_53 rfl ?_
          refine v_istore (lv' := [some (.ref (A 0)), some (.ref (Ba 0)), some (.int (nI a)), some (.int (nI (pl1 a))), some (.int (nI 0))]) hx d_MT_numberSets_54 (by decide) rfl ?_
          have H56 : ∀ (fu : Nat) (i : Nat) (f4 : Nat → va_E) (nm2 : Nat → Option Nat) (pl2 : Nat → Nat) (st2 : Nat → Nat) (sc2 : Nat), k1 - i < fu → (i ≤ k1) → (SeAt G L f4 w 1 S nm2 pl2 st2 sc2) → (SeQ nm2 pl2 st2 sc2 n1 (bin (nNx lo1 nx1) (bout (nNx lo1 nx1) k1 [(lo1 0, 0, 0)] a) a i)) → (gF w 1 f f4) → V G { frames := 3, cells := 0, slots := 0, locals := 67 } 5 x L f4 0 0 [some (.ref (A 0)), some (.ref (Ba 0)), some (.int (nI a)), some (.int (nI (pl1 a))), some (.int (nI i))] 56 [] := by
            intro fu
            induction fu with
            | zero => intro i f4 nm2 pl2 st2 sc2 hm; exact absurd hm (Nat.not_lt_zero _)
            | succ fu ih =>
              intro i f4 nm2 pl2 st2 sc2 hm hi hM2_ hQ2_ hF
              have hoki := bin_ok hok.1 hok.2 haL a4 hlt hnP i hi
              have hlen2 := hoki.1.len
              have hce2 := hQ2_.1
              have hbl := bin_len (nNx lo1 nx1) (bout (nNx lo1 nx1) k1 [(lo1 0, 0, 0)] a) a i
              refine v_iload hx d_MT_numberSets_56 rfl ?_
              refine v_aload_n hx d_MT_numberSets_58 rfl rfl ?_
              refine v_getN hx cf_Ma 5 (by decide) kN_MT_85 d_MT_numberSets_59 (hM1.fr hF hi1).m0 (hM1.fr hF hi1).f0 rfl ?_
              refine n_icmp_ge (tgt := 92) hx d_MT_numberSets_62 (by decide) (by omega) (by omega) (fun c62 => ?_) (fun c62 => ?_)
              · refine n_iinc (lv' := [some (.ref (A 0)), some (.ref (Ba 0)), some (.int (nI (a + 1))), some (.int (nI (pl1 a))), some (.int (nI i))]) hx d_MT_numberSets_92 rfl (by decide) rfl ?_
                refine v_goto (tgt := 27) hx d_MT_numberSets_95 (by decide) ?_
                have e6 : i = k1 := by omega
                refine v_weak (by simp [vsub]) (ihO (a + 1) f4 nm2 pl2 st2 sc2 (by omega) (by omega) (lt_s hr1 haL) hM2_ (by rw [e6] at hQ2_; exact hQ2_) hF)
              · have hxa := a5 (pl1 a) i hPa (by omega)
                refine v_aload_n hx d_MT_numberSets_65 rfl rfl ?_
                refine v_get hx cf_MT 1 (by decide) k_MT_18 d_MT_numberSets_66 (hT.fr hF (by decide)).m0 (hT.fr hF (by decide)).f0 rfl ?_
                refine v_aload_n hx d_MT_numberSets_69 rfl rfl ?_
                refine v_aload_n hx d_MT_numberSets_70 rfl rfl ?_
                refine v_iload_n hx d_MT_numberSets_71 rfl rfl ?_
                refine v_iload hx d_MT_numberSets_72 rfl ?_
                refine v_callV (as := [.int (nI (pl1 a)), .int (nI i)]) (q := (R_Ma, T_Ma, 7)) hx (c_Ma_nextOf (hM1.fr hF hi1) (pl1 a) i (by omega) (by omega)) cy_Ma_nextOf k_MT_60 ki_Ma_nextOf kl_Ma_nextOf d_MT_numberSets_74 (by decide) (ci := 1) rfl (hM1.fr hF hi1).m0 (hM1.fr hF hi1).f0 (by decide) rfl rfl (Nat.le_of_ble_eq_true rfl) (fun v4 L f4 p4 => ?_)
                obtain ⟨rfl, rfl, rfl⟩ := p4
                refine v_callV (as := [.int (nI (nx1 (pl1 a * 4 + i)))]) (q := (R_Ma, T_Ma, 7)) hx (c_Ma_leastLike (hM1.fr hF hi1) (nx1 (pl1 a * 4 + i)) (by omega)) cy_Ma_leastLike k_MT_74 ki_Ma_leastLike kl_Ma_leastLike d_MT_numberSets_77 (by decide) (ci := 1) rfl (hM1.fr hF hi1).m0 (hM1.fr hF hi1).f0 (by decide) rfl rfl (Nat.le_of_ble_eq_true rfl) (fun v5 L f4 p5 => ?_)
                obtain ⟨rfl, rfl, rfl⟩ := p5
                refine v_iload_n hx d_MT_numberSets_80 rfl rfl ?_
                refine v_iload hx d_MT_numberSets_81 rfl ?_
                refine v_callV (as := [.int (nI (lo1 (nx1 (pl1 a * 4 + i)))), .int (nI a), .int (nI i)]) (q := (R_Se, T_Se, 4)) hx (c_Se_reach hM2_ hQ2_ hoki.1 _ a i (by omega) (hnP _ i hPa (by omega)) (Or.inl (by omega)) (by omega)) cy_Se_reach k_MT_162 ki_Se_reach kl_Se_reach d_MT_numberSets_83 (by decide) (ci := 2) rfl hM2_.m0 hM2_.f0 (by decide) rfl rfl (Nat.le_of_ble_eq_true rfl) (fun v6 L f5 p6 => ?_)
                obtain ⟨rfl, rfl, ⟨nm5, pl5, st5, hS5, hQ5⟩, hF5⟩ := p6
                refine n_iinc (lv' := [some (.ref (A 0)), some (.ref (Ba 0)), some (.int (nI a)), some (.int (nI (pl1 a))), some (.int (nI (i + 1)))]) hx d_MT_numberSets_86 rfl (by decide) rfl ?_
                refine v_goto (tgt := 56) hx d_MT_numberSets_89 (by decide) ?_
                have e5 : (bin (nNx lo1 nx1) (bout (nNx lo1 nx1) k1 [(lo1 0, 0, 0)] a) a (i + 1)) = qr (bin (nNx lo1 nx1) (bout (nNx lo1 nx1) k1 [(lo1 0, 0, 0)] a) a i) ((nNx lo1 nx1) (pl1 a) i) a i := by rw [hpa]; rfl
                refine ih (i + 1) f5 nm5 pl5 st5 _ (by omega) (by omega) hS5 ?_ (hF.tr hF5)
                rw [e5]
                exact hQ5
          exact H56 _ 0 f3 nm1 pl1 st1 sc1 (Nat.lt_succ_self _) (Nat.zero_le _) hM hQ hF
  exact H27 _ 0 f2 nm2 pl2 st2 _ (Nat.lt_succ_self _) (Nat.zero_le _) (fun _ h => absurd h (Nat.not_lt_zero _)) hS2 hQ2 hF
set_option maxHeartbeats 4000000 in
set_option maxRecDepth 100000 in
theorem c_MT_seekReset {G : GT} {L : List Nat} {f : Nat → va_E} {w : Nat → Nat} {A S Fm : Nat → Nat} {c wa : Nat} {mp : Nat → Option Nat} (hT : TbAt G L f w 0 A (S 0) (Fm 0) c wa mp) {nm : Nat → Option Nat} {pl st : Nat → Nat} {sc : Nat} (hS : SeAt G L f w 1 S nm pl st sc) {id1 : Nat} {Ba nx1 ou1 lo1 fi1 : Nat → Nat} {n1 k1 b1 : Nat} (hM1 : MaAt G L f w id1 Ba nx1 ou1 lo1 fi1 n1 k1 b1) (hi1 : id1 ≠ 1) (hA1 : okA nx1 ou1 n1 k1) (hn12 : n1 ≤ 12) : Con G y_MT_seekReset (.code y_MT_seekReset b_MT_seekReset 5 (some .int) :: BIG) 3 67 0 0 [.ref (A 0), .ref (Ba 0)] L f (fun v L' f' => L' = L ∧ gF w 1 f f' ∧ (Fst (rNx nx1 n1) (fun p => pcn p 12 = 1) k1 [(2 ^ n1 - 1, 0, 0)] none ∧ v = some (.int (-1)) ∧ (∃ (nm : Nat → Option Nat) (pl st : Nat → Nat) (sc : Nat), SeAt G L f' w 1 S nm pl st sc) ∨ ∃ (a : Nat) (nm : Nat → Option Nat) (pl st : Nat → Nat) (sc : Nat), Fst (rNx nx1 n1) (fun p => pcn p 12 = 1) k1 [(2 ^ n1 - 1, 0, 0)] (some a) ∧ v = some (.int (nI a)) ∧ SeAt G L f' w 1 S nm pl st sc ∧ SeQ nm pl st sc (2 ^ n1) (bout (rNx nx1 n1) k1 [(2 ^ n1 - 1, 0, 0)] a) ∧ qOK (bout (rNx nx1 n1) k1 [(2 ^ n1 - 1, 0, 0)] a) (2 ^ n1))) := by
  refine con_of (cc := b_MT_seekReset) (mL := 5) (lv := [some (.ref (A 0)), some (.ref (Ba 0)), none, none, none]) (by decide) (by intro w hw; simp at hw; rcases hw with rfl | rfl <;> rfl) (by first | exact Nat.le_of_ble_eq_true rfl | decide) rfl ?_
  intro x hx hr hin
  have hF := gF.rf (w := w) (id := 1) (f := f)
  have hA1_ := hA1
  obtain ⟨a1, a2, a3, a4, a5⟩ := hA1_
  have hpw : 2 ^ n1 ≤ 4096 := by have := Nat.pow_le_pow_right (show 0 < 2 by decide) hn12; simpa using this
  have hpp := Nat.two_pow_pos n1
  have hlt : ∀ p, rP n1 p → p < 2 ^ n1 := fun _ h => h
  have hnP := rP_nx hA1 hn12
  have hP0 : rP n1 (2 ^ n1 - 1) := by show 2 ^ n1 - 1 < 2 ^ n1; omega
  have hq0 : qOK [(2 ^ n1 - 1, 0, 0)] (2 ^ n1) := q0_ok (hlt _ hP0)
  have hI0 : qI (rP n1) [(2 ^ n1 - 1, 0, 0)] := q0_I hP0
  refine v_aload_n hx d_MT_seekReset_0 rfl rfl ?_
  refine v_get hx cf_MT 1 (by decide) k_MT_18 d_MT_seekReset_1 (hT.fr hF (by decide)).m0 (hT.fr hF (by decide)).f0 rfl ?_
  refine v_iconst (v := (nI 1)) hx d_MT_seekReset_4 rfl ?_
  refine v_aload_n hx d_MT_seekReset_5 rfl rfl ?_
  refine v_getN hx cf_Ma 4 (by decide) kN_MT_102 d_MT_seekReset_6 (hM1.fr hF hi1).m0 (hM1.fr hF hi1).f0 rfl ?_
  refine v_ishl (v := (nI (2 ^ n1))) hx d_MT_seekReset_9 (shl1 n1 hn12) ?_
  refine v_callV (as := [.int (nI (2 ^ n1))]) (q := (R_Se, T_Se, 4)) hx (c_Se_begin hS (2 ^ n1) hpw) cy_Se_begin k_MT_156 ki_Se_begin kl_Se_begin d_MT_seekReset_10 (by decide) (ci := 2) rfl hS.m0 hS.f0 (by decide) rfl rfl (Nat.le_of_ble_eq_true rfl) (fun v1 L f1 p1 => ?_)
  obtain ⟨rfl, rfl, ⟨nm1, hS1, hQ1⟩, hF1⟩ := p1
  have hF := hF1
  refine v_aload_n hx d_MT_seekReset_13 rfl rfl ?_
  refine v_get hx cf_MT 1 (by decide) k_MT_18 d_MT_seekReset_14 (hT.fr hF (by decide)).m0 (hT.fr hF (by decide)).f0 rfl ?_
  refine v_iconst (v := (nI 1)) hx d_MT_seekReset_17 rfl ?_
  refine v_aload_n hx d_MT_seekReset_18 rfl rfl ?_
  refine v_getN hx cf_Ma 4 (by decide) kN_MT_102 d_MT_seekReset_19 (hM1.fr hF hi1).m0 (hM1.fr hF hi1).f0 rfl ?_
  refine v_ishl (v := (nI (2 ^ n1))) hx d_MT_seekReset_22 (shl1 n1 hn12) ?_
  refine v_iconst (v := (nI 1)) hx d_MT_seekReset_23 rfl ?_
  refine n_isub hx d_MT_seekReset_24 (by omega) ?_
  refine v_iconst (v := (nI 0)) hx d_MT_seekReset_25 rfl ?_
  refine v_iconst (v := (nI 0)) hx d_MT_seekReset_26 rfl ?_
  refine v_callV (as := [.int (nI ((2 ^ n1) - 1)), .int (nI 0), .int (nI 0)]) (q := (R_Se, T_Se, 4)) hx (c_Se_reach hS1 hQ1 (qOK_nil _) (2 ^ n1 - 1) 0 0 hpw (hlt _ hP0) (Or.inr ⟨rfl, rfl⟩) (by decide)) cy_Se_reach k_MT_162 ki_Se_reach kl_Se_reach d_MT_seekReset_27 (by decide) (ci := 2) rfl hS1.m0 hS1.f0 (by decide) rfl rfl (Nat.le_of_ble_eq_true rfl) (fun v2 L f2 p2 => ?_)
  obtain ⟨rfl, rfl, ⟨nm2, pl2, st2, hS2, hQ2⟩, hF2⟩ := p2
  have hF := hF.tr hF2
  refine v_iconst (v := (nI 0)) hx d_MT_seekReset_30 rfl ?_
  refine v_istore_n (lv' := [some (.ref (A 0)), some (.ref (Ba 0)), some (.int (nI 0)), none, none]) hx d_MT_seekReset_31 rfl (by decide) rfl ?_
  have H32 : ∀ (fu : Nat) (a : Nat) (f3 : Nat → va_E) (nm1 : Nat → Option Nat) (pl1 : Nat → Nat) (st1 : Nat → Nat) (sc1 : Nat), 2 ^ n1 - a < fu → (a ≤ 2 ^ n1) → (∀ b, b < a → b < (bout (rNx nx1 n1) k1 [(2 ^ n1 - 1, 0, 0)] b).length) → (∀ b, b < a → ¬ (fun p => pcn p 12 = 1) (qP (bout (rNx nx1 n1) k1 [(2 ^ n1 - 1, 0, 0)] b) b)) → (SeAt G L f3 w 1 S nm1 pl1 st1 sc1) → (SeQ nm1 pl1 st1 sc1 (2 ^ n1) (bout (rNx nx1 n1) k1 [(2 ^ n1 - 1, 0, 0)] a)) → (gF w 1 f f3) → V G { frames := 3, cells := 0, slots := 0, locals := 67 } 5 x L f3 0 0 [some (.ref (A 0)), some (.ref (Ba 0)), some (.int (nI a)), none, none] 32 [] := by
    intro fu
    induction fu with
    | zero => intro a f3 nm1 pl1 st1 sc1 hm; exact absurd hm (Nat.not_lt_zero _)
    | succ fu ih =>
      intro a f3 nm1 pl1 st1 sc1 hm ha0 hr1 hg1 hM hQ hF
      have ihO := ih
      have hok := bout_ok hq0 hI0 a4 hlt hnP a hr1
      have hlen := hok.1.len
      have hce := hQ.1
      refine v_iload_n hx d_MT_seekReset_32 rfl rfl ?_
      refine v_aload_n hx d_MT_seekReset_33 rfl rfl ?_
      refine v_get hx cf_MT 1 (by decide) k_MT_18 d_MT_seekReset_34 (hT.fr hF (by decide)).m0 (hT.fr hF (by decide)).f0 rfl ?_
      refine v_getN hx cf_Se 3 (by decide) kN_MT_101 d_MT_seekReset_37 hM.m0 hM.f0 rfl ?_
      refine n_icmp_ge (tgt := 110) hx d_MT_seekReset_40 (by decide) (by omega) (by omega) (fun c40 => ?_) (fun c40 => ?_)
      · refine v_iconst (v := (-1)) hx d_MT_seekReset_110 rfl ?_
        exact v_iret hx hr d_MT_seekReset_111 ⟨rfl, hF, Or.inl ⟨⟨a, ⟨by omega, hr1⟩, hg1⟩, rfl, nm1, pl1, st1, sc1, hM⟩⟩
      · refine v_iload_n hx d_MT_seekReset_43 rfl rfl ?_
        refine v_sipush (v := (nI 4096)) hx d_MT_seekReset_44 rfl ?_
        refine n_icmp_ge (tgt := 110) hx d_MT_seekReset_47 (by decide) (by omega) (by omega) (fun c47 => ?_) (fun c47 => ?_)
        · exact absurd c47 (by omega)
        · have haL : a < (bout (rNx nx1 n1) k1 [(2 ^ n1 - 1, 0, 0)] a).length := by omega
          have hpa : pl1 a = qP (bout (rNx nx1 n1) k1 [(2 ^ n1 - 1, 0, 0)] a) a := (hQ.2.1 a (by omega)).1
          have hPa : rP n1 (pl1 a) := by rw [hpa]; exact hok.2 _ (qP_mem haL)
          have hPa2 : pl1 a < 2 ^ n1 := hPa
          have hps := pcn_small (pl1 a)
          refine v_aload_n hx d_MT_seekReset_50 rfl rfl ?_
          refine v_get hx cf_MT 1 (by decide) k_MT_18 d_MT_seekReset_51 (hT.fr hF (by decide)).m0 (hT.fr hF (by decide)).f0 rfl ?_
          refine v_iload_n hx d_MT_seekReset_54 rfl rfl ?_
          refine v_callV (as := [.int (nI a)]) (q := (R_Se, T_Se, 4)) hx (c_Se_placeAt hM a (by omega)) cy_Se_placeAt k_MT_105 ki_Se_placeAt kl_Se_placeAt d_MT_seekReset_55 (by decide) (ci := 2) rfl hM.m0 hM.f0 (by decide) rfl rfl (Nat.le_of_ble_eq_true rfl) (fun v3 L f3 p3 => ?_)
          obtain ⟨rfl, rfl, rfl⟩ := p3
          refine v_istore_n (lv' := [some (.ref (A 0)), some (.ref (Ba 0)), some (.int (nI a)), some (.int (nI (pl1 a))), none]) hx d_MT_seekReset_58 rfl (by decide) rfl ?_
          refine v_iload_n hx d_MT_seekReset_59 rfl rfl ?_
          refine v_callS (as := [.int (nI (pl1 a))]) hx (c_In_bitCount (pl1 a) (by omega)) cy_In_bitCount k_MT_169 ks_In_bitCount d_MT_seekReset_60 (by decide) (by decide) rfl rfl (Nat.le_of_ble_eq_true rfl) (fun v4 L f3 p4 => ?_)
          obtain ⟨rfl, rfl, rfl⟩ := p4
          refine v_iconst (v := (nI 1)) hx d_MT_seekReset_63 rfl ?_
          refine n_icmp_ne (tgt := 69) hx d_MT_seekReset_64 (by decide) (by omega) (by omega) (fun c64 => ?_) (fun c64 => ?_)
          · refine v_iconst (v := (nI 0)) hx d_MT_seekReset_69 rfl ?_
            refine v_istore (lv' := [some (.ref (A 0)), some (.ref (Ba 0)), some (.int (nI a)), some (.int (nI (pl1 a))), some (.int (nI 0))]) hx d_MT_seekReset_70 (by decide) rfl ?_
            have H72 : ∀ (fu : Nat) (i : Nat) (f4 : Nat → va_E) (nm2 : Nat → Option Nat) (pl2 : Nat → Nat) (st2 : Nat → Nat) (sc2 : Nat), k1 - i < fu → (i ≤ k1) → (SeAt G L f4 w 1 S nm2 pl2 st2 sc2) → (SeQ nm2 pl2 st2 sc2 (2 ^ n1) (bin (rNx nx1 n1) (bout (rNx nx1 n1) k1 [(2 ^ n1 - 1, 0, 0)] a) a i)) → (gF w 1 f f4) → V G { frames := 3, cells := 0, slots := 0, locals := 67 } 5 x L f4 0 0 [some (.ref (A 0)), some (.ref (Ba 0)), some (.int (nI a)), some (.int (nI (pl1 a))), some (.int (nI i))] 72 [] := by
              intro fu
              induction fu with
              | zero => intro i f4 nm2 pl2 st2 sc2 hm; exact absurd hm (Nat.not_lt_zero _)
              | succ fu ih =>
                intro i f4 nm2 pl2 st2 sc2 hm hi hM2_ hQ2_ hF
                have hoki := bin_ok hok.1 hok.2 haL a4 hlt hnP i hi
                have hlen2 := hoki.1.len
                have hce2 := hQ2_.1
                have hbl := bin_len (rNx nx1 n1) (bout (rNx nx1 n1) k1 [(2 ^ n1 - 1, 0, 0)] a) a i
                refine v_iload hx d_MT_seekReset_72 rfl ?_
                refine v_aload_n hx d_MT_seekReset_74 rfl rfl ?_
                refine v_getN hx cf_Ma 5 (by decide) kN_MT_85 d_MT_seekReset_75 (hM1.fr hF hi1).m0 (hM1.fr hF hi1).f0 rfl ?_
                refine n_icmp_ge (tgt := 104) hx d_MT_seekReset_78 (by decide) (by omega) (by omega) (fun c78 => ?_) (fun c78 => ?_)
                · refine n_iinc (lv' := [some (.ref (A 0)), some (.ref (Ba 0)), some (.int (nI (a + 1))), some (.int (nI (pl1 a))), some (.int (nI i))]) hx d_MT_seekReset_104 rfl (by decide) rfl ?_
                  refine v_goto (tgt := 32) hx d_MT_seekReset_107 (by decide) ?_
                  have e6 : i = k1 := by omega
                  refine v_weak (by simp [vsub]) (ihO (a + 1) f4 nm2 pl2 st2 sc2 (by omega) (by omega) (lt_s hr1 haL) (lt_s hg1 (by rw [← hpa]; exact c64)) hM2_ (by rw [e6] at hQ2_; exact hQ2_) hF)
                · refine v_aload_n hx d_MT_seekReset_81 rfl rfl ?_
                  refine v_get hx cf_MT 1 (by decide) k_MT_18 d_MT_seekReset_82 (hT.fr hF (by decide)).m0 (hT.fr hF (by decide)).f0 rfl ?_
                  refine v_aload_n hx d_MT_seekReset_85 rfl rfl ?_
                  refine v_iload_n hx d_MT_seekReset_86 rfl rfl ?_
                  refine v_iload hx d_MT_seekReset_87 rfl ?_
                  refine v_callV (as := [.int (nI (pl1 a)), .int (nI i)]) (q := (R_Ma, T_Ma, 7)) hx (c_Ma_reachedFrom (hM1.fr hF hi1) (pl1 a) i (Nat.lt_of_lt_of_le hPa2 hpw) (by omega) hn12 (fun s hs => by have := (a5 s i hs (by omega)).1; omega)) cy_Ma_reachedFrom k_MT_174 ki_Ma_reachedFrom kl_Ma_reachedFrom d_MT_seekReset_89 (by decide) (ci := 1) rfl (hM1.fr hF hi1).m0 (hM1.fr hF hi1).f0 (by decide) rfl rfl (Nat.le_of_ble_eq_true rfl) (fun v3 L f4 p3 => ?_)
                  obtain ⟨rfl, rfl, rfl⟩ := p3
                  refine v_iload_n hx d_MT_seekReset_92 rfl rfl ?_
                  refine v_iload hx d_MT_seekReset_93 rfl ?_
                  refine v_callV (as := [.int (nI (mv (fun s => nx1 (s * 4 + i)) (pl1 a) n1)), .int (nI a), .int (nI i)]) (q := (R_Se, T_Se, 4)) hx (c_Se_reach hM2_ hQ2_ hoki.1 _ a i hpw (hlt _ (hnP _ i hPa (by omega))) (Or.inl (by omega)) (by omega)) cy_Se_reach k_MT_162 ki_Se_reach kl_Se_reach d_MT_seekReset_95 (by decide) (ci := 2) rfl hM2_.m0 hM2_.f0 (by decide) rfl rfl (Nat.le_of_ble_eq_true rfl) (fun v4 L f5 p4 => ?_)
                  obtain ⟨rfl, rfl, ⟨nm5, pl5, st5, hS5, hQ5⟩, hF5⟩ := p4
                  refine n_iinc (lv' := [some (.ref (A 0)), some (.ref (Ba 0)), some (.int (nI a)), some (.int (nI (pl1 a))), some (.int (nI (i + 1)))]) hx d_MT_seekReset_98 rfl (by decide) rfl ?_
                  refine v_goto (tgt := 72) hx d_MT_seekReset_101 (by decide) ?_
                  have e5 : (bin (rNx nx1 n1) (bout (rNx nx1 n1) k1 [(2 ^ n1 - 1, 0, 0)] a) a (i + 1)) = qr (bin (rNx nx1 n1) (bout (rNx nx1 n1) k1 [(2 ^ n1 - 1, 0, 0)] a) a i) ((rNx nx1 n1) (pl1 a) i) a i := by rw [hpa]; rfl
                  refine ih (i + 1) f5 nm5 pl5 st5 _ (by omega) (by omega) hS5 ?_ (hF.tr hF5)
                  rw [e5]
                  exact hQ5
            exact H72 _ 0 f3 nm1 pl1 st1 sc1 (Nat.lt_succ_self _) (Nat.zero_le _) hM hQ hF
          · refine v_iload_n hx d_MT_seekReset_67 rfl rfl ?_
            exact v_iret hx hr d_MT_seekReset_68 ⟨rfl, hF, Or.inr ⟨a, nm1, pl1, st1, sc1, ⟨lt_le hr1 haL, hg1, by rw [← hpa]; exact c64⟩, rfl, hM, hQ, hok.1⟩⟩
  exact H32 _ 0 f2 nm2 pl2 st2 _ (Nat.lt_succ_self _) (Nat.zero_le _) (fun _ h => absurd h (Nat.not_lt_zero _)) (fun _ h => absurd h (Nat.not_lt_zero _)) hS2 hQ2 hF
set_option maxHeartbeats 4000000 in
set_option maxRecDepth 100000 in
theorem c_MT_numberPairs {G : GT} {L : List Nat} {f : Nat → va_E} {w : Nat → Nat} {A S Fm : Nat → Nat} {c wa : Nat} {mp : Nat → Option Nat} (hT : TbAt G L f w 0 A (S 0) (Fm 0) c wa mp) {nm : Nat → Option Nat} {pl st : Nat → Nat} {sc : Nat} (hS : SeAt G L f w 1 S nm pl st sc) {id1 : Nat} {Ba nx1 ou1 lo1 fi1 : Nat → Nat} {n1 k1 b1 : Nat} (hM1 : MaAt G L f w id1 Ba nx1 ou1 lo1 fi1 n1 k1 b1) {id2 : Nat} {Bb nx2 ou2 lo2 fi2 : Nat → Nat} {n2 k2 b2 : Nat} (hM2 : MaAt G L f w id2 Bb nx2 ou2 lo2 fi2 n2 k2 b2) (hi1 : id1 ≠ 1) (hi2 : id2 ≠ 1) (hA1 : okA nx1 ou1 n1 k1) (hA2 : okA nx2 ou2 n2 k2) : Con G y_MT_numberPairs (.code y_MT_numberPairs b_MT_numberPairs 6 (some .boolean) :: BIG) 3 67 0 0 [.ref (A 0), .ref (Ba 0), .ref (Bb 0)] L f (fun v L' f' => L' = L ∧ gF w 1 f f' ∧ ((∃ (N : Nat) (nm : Nat → Option Nat) (pl st : Nat → Nat), BEnd (cNx nx1 ou1 nx2 k2) k1 [(0, 0, 0)] N ∧ (∀ a, a < N → ∀ i, i < k1 → ¬ (cBad ou1 k2) (qP (bout (cNx nx1 ou1 nx2 k2) k1 [(0, 0, 0)] a) a) i) ∧ N ≤ 40 ∧ v = some (.int (nI 1)) ∧ SeAt G L f' w 1 S nm pl st N ∧ SeQ nm pl st N 1600 (bout (cNx nx1 ou1 nx2 k2) k1 [(0, 0, 0)] N) ∧ qOK (bout (cNx nx1 ou1 nx2 k2) k1 [(0, 0, 0)] N) 1600 ∧ qI (wP n1 n2) (bout (cNx nx1 ou1 nx2 k2) k1 [(0, 0, 0)] N)) ∨ ¬ ChOK (cNx nx1 ou1 nx2 k2) (cBad ou1 k2) k1 [(0, 0, 0)] ∧ v = some (.int (nI 0)) ∧ (∃ (nm : Nat → Option Nat) (pl st : Nat → Nat) (sc : Nat), SeAt G L f' w 1 S nm pl st sc))) := by
  refine con_of (cc := b_MT_numberPairs) (mL := 6) (lv := [some (.ref (A 0)), some (.ref (Ba 0)), some (.ref (Bb 0)), none, none, none]) (by decide) (by intro w hw; simp at hw; rcases hw with rfl | rfl | rfl <;> rfl) (by first | exact Nat.le_of_ble_eq_true rfl | decide) rfl ?_
  intro x hx hr hin
  have hF := gF.rf (w := w) (id := 1) (f := f)
  have hA1_ := hA1
  obtain ⟨a1, a2, a3, a4, a5⟩ := hA1_
  have hA2_ := hA2
  obtain ⟨d1, d2, d3, d4, d5⟩ := hA2_
  have hlt := wP_lt hA1 hA2
  have hnP := cP_nx hA1 hA2
  have hP0 : wP n1 n2 (0 * 40 + 0) := wP_mk (by omega) (by omega) d2
  have hq0 : qOK [(0, 0, 0)] 1600 := q0_ok (by decide)
  have hI0 : qI (wP n1 n2) [(0, 0, 0)] := q0_I hP0
  refine v_aload_n hx d_MT_numberPairs_0 rfl rfl ?_
  refine v_get hx cf_MT 1 (by decide) k_MT_18 d_MT_numberPairs_1 (hT.fr hF (by decide)).m0 (hT.fr hF (by decide)).f0 rfl ?_
  refine v_sipush (v := (nI 1600)) hx d_MT_numberPairs_4 rfl ?_
  refine v_callV (as := [.int (nI 1600)]) (q := (R_Se, T_Se, 4)) hx (c_Se_begin hS 1600 (by decide)) cy_Se_begin k_MT_156 ki_Se_begin kl_Se_begin d_MT_numberPairs_7 (by decide) (ci := 2) rfl hS.m0 hS.f0 (by decide) rfl rfl (Nat.le_of_ble_eq_true rfl) (fun v1 L f1 p1 => ?_)
  obtain ⟨rfl, rfl, ⟨nm1, hS1, hQ1⟩, hF1⟩ := p1
  have hF := hF1
  refine v_aload_n hx d_MT_numberPairs_10 rfl rfl ?_
  refine v_get hx cf_MT 1 (by decide) k_MT_18 d_MT_numberPairs_11 (hT.fr hF (by decide)).m0 (hT.fr hF (by decide)).f0 rfl ?_
  refine v_iconst (v := (nI 0)) hx d_MT_numberPairs_14 rfl ?_
  refine v_iconst (v := (nI 0)) hx d_MT_numberPairs_15 rfl ?_
  refine v_callS (as := [.int (nI 0), .int (nI 0)]) hx (c_MT_pairOf 0 0) cy_MT_pairOf k_MT_159 ks_MT_pairOf d_MT_numberPairs_16 (by decide) (by decide) rfl rfl (Nat.le_of_ble_eq_true rfl) (fun v2 L f1 p2 => ?_)
  obtain ⟨rfl, rfl, rfl⟩ := p2
  refine v_iconst (v := (nI 0)) hx d_MT_numberPairs_19 rfl ?_
  refine v_iconst (v := (nI 0)) hx d_MT_numberPairs_20 rfl ?_
  refine v_callV (as := [.int (nI (0 * 40 + 0)), .int (nI 0), .int (nI 0)]) (q := (R_Se, T_Se, 4)) hx (c_Se_reach hS1 hQ1 (qOK_nil _) (0 * 40 + 0) 0 0 (by decide) (hlt _ hP0) (Or.inr ⟨rfl, rfl⟩) (by decide)) cy_Se_reach k_MT_162 ki_Se_reach kl_Se_reach d_MT_numberPairs_21 (by decide) (ci := 2) rfl hS1.m0 hS1.f0 (by decide) rfl rfl (Nat.le_of_ble_eq_true rfl) (fun v3 L f2 p3 => ?_)
  obtain ⟨rfl, rfl, ⟨nm2, pl2, st2, hS2, hQ2⟩, hF2⟩ := p3
  have hF := hF.tr hF2
  refine v_iconst (v := (nI 0)) hx d_MT_numberPairs_24 rfl ?_
  refine v_istore_n (lv' := [some (.ref (A 0)), some (.ref (Ba 0)), some (.ref (Bb 0)), some (.int (nI 0)), none, none]) hx d_MT_numberPairs_25 rfl (by decide) rfl ?_
  have H26 : ∀ (fu : Nat) (a : Nat) (f3 : Nat → va_E) (nm1 : Nat → Option Nat) (pl1 : Nat → Nat) (st1 : Nat → Nat) (sc1 : Nat), 40 - a < fu → (a ≤ 40) → (∀ b, b < a → b < (bout (cNx nx1 ou1 nx2 k2) k1 [(0, 0, 0)] b).length) → (∀ b, b < a → ∀ j, j < k1 → ¬ (cBad ou1 k2) (qP (bout (cNx nx1 ou1 nx2 k2) k1 [(0, 0, 0)] b) b) j) → (SeAt G L f3 w 1 S nm1 pl1 st1 sc1) → (SeQ nm1 pl1 st1 sc1 1600 (bout (cNx nx1 ou1 nx2 k2) k1 [(0, 0, 0)] a)) → (gF w 1 f f3) → V G { frames := 3, cells := 0, slots := 0, locals := 67 } 6 x L f3 0 0 [some (.ref (A 0)), some (.ref (Ba 0)), some (.ref (Bb 0)), some (.int (nI a)), none, none] 26 [] := by
    intro fu
    induction fu with
    | zero => intro a f3 nm1 pl1 st1 sc1 hm; exact absurd hm (Nat.not_lt_zero _)
    | succ fu ih =>
      intro a f3 nm1 pl1 st1 sc1 hm ha0 hr1 hg1 hM hQ hF
      have ihO := ih
      have hok := bout_ok hq0 hI0 a4 hlt hnP a hr1
      have hlen := hok.1.len
      have hce := hQ.1
      refine v_iload_n hx d_MT_numberPairs_26 rfl rfl ?_
      refine v_aload_n hx d_MT_numberPairs_27 rfl rfl ?_
      refine v_get hx cf_MT 1 (by decide) k_MT_18 d_MT_numberPairs_28 (hT.fr hF (by decide)).m0 (hT.fr hF (by decide)).f0 rfl ?_
      refine v_getN hx cf_Se 3 (by decide) kN_MT_101 d_MT_numberPairs_31 hM.m0 hM.f0 rfl ?_
      refine n_icmp_ge (tgt := 104) hx d_MT_numberPairs_34 (by decide) (by omega) (by omega) (fun c34 => ?_) (fun c34 => ?_)
      · refine v_aload_n hx d_MT_numberPairs_104 rfl rfl ?_
        refine v_get hx cf_MT 1 (by decide) k_MT_18 d_MT_numberPairs_105 (hT.fr hF (by decide)).m0 (hT.fr hF (by decide)).f0 rfl ?_
        refine v_getN hx cf_Se 3 (by decide) kN_MT_101 d_MT_numberPairs_108 hM.m0 hM.f0 rfl ?_
        refine v_bipush (v := (nI 40)) hx d_MT_numberPairs_111 rfl ?_
        refine n_icmp_gt (tgt := 120) hx d_MT_numberPairs_113 (by decide) (by omega) (by omega) (fun c113 => ?_) (fun c113 => ?_)
        · refine v_iconst (v := (nI 0)) hx d_MT_numberPairs_120 rfl ?_
          exact v_zret hx hr d_MT_numberPairs_121 rfl ⟨rfl, hF, Or.inr ⟨fun ⟨N, hN, _, h40⟩ => by have e := hN.uniq (⟨by omega, hr1⟩ : BEnd (cNx nx1 ou1 nx2 k2) k1 [(0, 0, 0)] a); subst e; omega, rfl, nm1, pl1, st1, sc1, hM⟩⟩
        · have hE : BEnd (cNx nx1 ou1 nx2 k2) k1 [(0, 0, 0)] a := ⟨by omega, hr1⟩
          have hsa : sc1 = a := by rw [hce]; exact hE.len (Nat.le_refl _)
          subst hsa
          refine v_iconst (v := (nI 1)) hx d_MT_numberPairs_116 rfl ?_
          refine v_goto (tgt := 121) hx d_MT_numberPairs_117 (by decide) ?_
          exact v_zret hx hr d_MT_numberPairs_121 rfl ⟨rfl, hF, Or.inl ⟨sc1, nm1, pl1, st1, hE, hg1, c113, rfl, hM, hQ, hok.1, hok.2⟩⟩
      · refine v_iload_n hx d_MT_numberPairs_37 rfl rfl ?_
        refine v_bipush (v := (nI 40)) hx d_MT_numberPairs_38 rfl ?_
        refine n_icmp_ge (tgt := 104) hx d_MT_numberPairs_40 (by decide) (by omega) (by omega) (fun c40 => ?_) (fun c40 => ?_)
        · refine v_aload_n hx d_MT_numberPairs_104 rfl rfl ?_
          refine v_get hx cf_MT 1 (by decide) k_MT_18 d_MT_numberPairs_105 (hT.fr hF (by decide)).m0 (hT.fr hF (by decide)).f0 rfl ?_
          refine v_getN hx cf_Se 3 (by decide) kN_MT_101 d_MT_numberPairs_108 hM.m0 hM.f0 rfl ?_
          refine v_bipush (v := (nI 40)) hx d_MT_numberPairs_111 rfl ?_
          refine n_icmp_gt (tgt := 120) hx d_MT_numberPairs_113 (by decide) (by omega) (by omega) (fun c113 => ?_) (fun c113 => ?_)
          · refine v_iconst (v := (nI 0)) hx d_MT_numberPairs_120 rfl ?_
            exact v_zret hx hr d_MT_numberPairs_121 rfl ⟨rfl, hF, Or.inr ⟨fun ⟨N, hN, _, h40⟩ => by have h1 := hN.lt (lt_le hr1 (show a < (bout (cNx nx1 ou1 nx2 k2) k1 [(0, 0, 0)] a).length by omega)); have h2 := hN.len (Nat.le_refl _); omega, rfl, nm1, pl1, st1, sc1, hM⟩⟩
          · exact absurd c113 (by omega)
        · have haL : a < (bout (cNx nx1 ou1 nx2 k2) k1 [(0, 0, 0)] a).length := by omega
          refine v_iconst (v := (nI 0)) hx d_MT_numberPairs_43 rfl ?_
          refine v_istore (lv' := [some (.ref (A 0)), some (.ref (Ba 0)), some (.ref (Bb 0)), some (.int (nI a)), some (.int (nI 0)), none]) hx d_MT_numberPairs_44 (by decide) rfl ?_
          have H46 : ∀ (fu : Nat) (i : Nat) (f4 : Nat → va_E) (nm2 : Nat → Option Nat) (pl2 : Nat → Nat) (st2 : Nat → Nat) (sc2 : Nat), k1 - i < fu → (i ≤ k1) → (∀ j, j < i → ¬ (cBad ou1 k2) (qP (bout (cNx nx1 ou1 nx2 k2) k1 [(0, 0, 0)] a) a) j) → (SeAt G L f4 w 1 S nm2 pl2 st2 sc2) → (SeQ nm2 pl2 st2 sc2 1600 (bin (cNx nx1 ou1 nx2 k2) (bout (cNx nx1 ou1 nx2 k2) k1 [(0, 0, 0)] a) a i)) → (gF w 1 f f4) → V G { frames := 3, cells := 0, slots := 0, locals := 67 } 6 x L f4 0 0 [some (.ref (A 0)), some (.ref (Ba 0)), some (.ref (Bb 0)), some (.int (nI a)), some (.int (nI i)), none] 46 [] := by
            intro fu
            induction fu with
            | zero => intro i f4 nm2 pl2 st2 sc2 hm; exact absurd hm (Nat.not_lt_zero _)
            | succ fu ih =>
              intro i f4 nm2 pl2 st2 sc2 hm hi hgi hM2_ hQ2_ hF
              have hoki := bin_ok hok.1 hok.2 haL a4 hlt hnP i hi
              have hlen2 := hoki.1.len
              have hce2 := hQ2_.1
              have hbl := bin_len (cNx nx1 ou1 nx2 k2) (bout (cNx nx1 ou1 nx2 k2) k1 [(0, 0, 0)] a) a i
              have hpa : pl2 a = qP (bout (cNx nx1 ou1 nx2 k2) k1 [(0, 0, 0)] a) a := ((hQ2_.2.1 a (by omega)).1).trans ((bin_sub (cNx nx1 ou1 nx2 k2) (bout (cNx nx1 ou1 nx2 k2) k1 [(0, 0, 0)] a) a i).2 a haL).1
              have hPa : wP n1 n2 (pl2 a) := by rw [hpa]; exact hok.2 _ (qP_mem haL)
              refine v_iload hx d_MT_numberPairs_46 rfl ?_
              refine v_aload_n hx d_MT_numberPairs_48 rfl rfl ?_
              refine v_getN hx cf_Ma 5 (by decide) kN_MT_85 d_MT_numberPairs_49 (hM1.fr hF hi1).m0 (hM1.fr hF hi1).f0 rfl ?_
              refine n_icmp_ge (tgt := 98) hx d_MT_numberPairs_52 (by decide) (by omega) (by omega) (fun c52 => ?_) (fun c52 => ?_)
              · refine n_iinc (lv' := [some (.ref (A 0)), some (.ref (Ba 0)), some (.ref (Bb 0)), some (.int (nI (a + 1))), some (.int (nI i)), none]) hx d_MT_numberPairs_98 rfl (by decide) rfl ?_
                refine v_goto (tgt := 26) hx d_MT_numberPairs_101 (by decide) ?_
                have e6 : i = k1 := by omega
                refine v_weak (by simp [vsub]) (ihO (a + 1) f4 nm2 pl2 st2 sc2 (by omega) (by omega) (lt_s hr1 haL) (lt_s hg1 (fun j hj => hgi j (by omega))) hM2_ (by rw [e6] at hQ2_; exact hQ2_) hF)
              · have hxa := a5 (pl2 a / 40) i hPa.1 (by omega)
                have hpl := hlt _ hPa
                refine v_aload_n hx d_MT_numberPairs_55 rfl rfl ?_
                refine v_aload_n hx d_MT_numberPairs_56 rfl rfl ?_
                refine v_aload_n hx d_MT_numberPairs_57 rfl rfl ?_
                refine v_get hx cf_MT 1 (by decide) k_MT_18 d_MT_numberPairs_58 (hT.fr hF (by decide)).m0 (hT.fr hF (by decide)).f0 rfl ?_
                refine v_iload_n hx d_MT_numberPairs_61 rfl rfl ?_
                refine v_callV (as := [.int (nI a)]) (q := (R_Se, T_Se, 4)) hx (c_Se_placeAt hM2_ a (by omega)) cy_Se_placeAt k_MT_105 ki_Se_placeAt kl_Se_placeAt d_MT_numberPairs_62 (by decide) (ci := 2) rfl hM2_.m0 hM2_.f0 (by decide) rfl rfl (Nat.le_of_ble_eq_true rfl) (fun v4 L f4 p4 => ?_)
                obtain ⟨rfl, rfl, rfl⟩ := p4
                refine v_iload hx d_MT_numberPairs_65 rfl ?_
                refine v_callS (as := [.ref (Ba 0), .ref (Bb 0), .int (nI (pl2 a)), .int (nI i)]) hx (c_MT_pairBehind (hM1.fr hF hi1) (hM2.fr hF hi2) hA1 hA2 (pl2 a) i hPa.1 hPa.2 (hlt _ hPa) (by omega)) cy_MT_pairBehind k_MT_135 ks_MT_pairBehind d_MT_numberPairs_67 (by decide) (by decide) rfl rfl (Nat.le_of_ble_eq_true rfl) (fun v5 L f4 p5 => ?_)
                obtain ⟨(⟨hk, rfl⟩ | ⟨hk, rfl⟩), rfl, rfl⟩ := p5
                · have hxb := (d5 (pl2 a % 40) _ hPa.2 hk).1
                  refine v_istore (lv' := [some (.ref (A 0)), some (.ref (Ba 0)), some (.ref (Bb 0)), some (.int (nI a)), some (.int (nI i)), some (.int (nI (nx1 (pl2 a / 40 * 4 + i) * 40 + nx2 (pl2 a % 40 * 4 + ou1 (pl2 a / 40 * 4 + i)))))]) hx d_MT_numberPairs_70 (by decide) rfl ?_
                  refine v_iload hx d_MT_numberPairs_72 rfl ?_
                  refine v_iconst (v := (-1)) hx d_MT_numberPairs_74 rfl ?_
                  refine v_icmp_ne (tgt := 80) hx d_MT_numberPairs_75 (by decide) (fun c75 => ?_) (fun c75 => ?_)
                  · have hcn : (cNx nx1 ou1 nx2 k2) (pl2 a) i = nx1 (pl2 a / 40 * 4 + i) * 40 + nx2 (pl2 a % 40 * 4 + ou1 (pl2 a / 40 * 4 + i)) := if_pos hk
                    refine v_aload_n hx d_MT_numberPairs_80 rfl rfl ?_
                    refine v_get hx cf_MT 1 (by decide) k_MT_18 d_MT_numberPairs_81 (hT.fr hF (by decide)).m0 (hT.fr hF (by decide)).f0 rfl ?_
                    refine v_iload hx d_MT_numberPairs_84 rfl ?_
                    refine v_iload_n hx d_MT_numberPairs_86 rfl rfl ?_
                    refine v_iload hx d_MT_numberPairs_87 rfl ?_
                    refine v_callV (as := [.int (nI (nx1 (pl2 a / 40 * 4 + i) * 40 + nx2 (pl2 a % 40 * 4 + ou1 (pl2 a / 40 * 4 + i)))), .int (nI a), .int (nI i)]) (q := (R_Se, T_Se, 4)) hx (c_Se_reach hM2_ hQ2_ hoki.1 _ a i (by decide) (by have := hlt _ (hnP _ i hPa (by omega)); rw [hcn] at this; exact this) (Or.inl (by omega)) (by omega)) cy_Se_reach k_MT_162 ki_Se_reach kl_Se_reach d_MT_numberPairs_89 (by decide) (ci := 2) rfl hM2_.m0 hM2_.f0 (by decide) rfl rfl (Nat.le_of_ble_eq_true rfl) (fun v6 L f5 p6 => ?_)
                    obtain ⟨rfl, rfl, ⟨nm5, pl5, st5, hS5, hQ5⟩, hF5⟩ := p6
                    refine n_iinc (lv' := [some (.ref (A 0)), some (.ref (Ba 0)), some (.ref (Bb 0)), some (.int (nI a)), some (.int (nI (i + 1))), some (.int (nI (nx1 (pl2 a / 40 * 4 + i) * 40 + nx2 (pl2 a % 40 * 4 + ou1 (pl2 a / 40 * 4 + i)))))]) hx d_MT_numberPairs_92 rfl (by decide) rfl ?_
                    refine v_goto (tgt := 46) hx d_MT_numberPairs_95 (by decide) ?_
                    have e5 : (bin (cNx nx1 ou1 nx2 k2) (bout (cNx nx1 ou1 nx2 k2) k1 [(0, 0, 0)] a) a (i + 1)) = qr (bin (cNx nx1 ou1 nx2 k2) (bout (cNx nx1 ou1 nx2 k2) k1 [(0, 0, 0)] a) a i) (nx1 (pl2 a / 40 * 4 + i) * 40 + nx2 (pl2 a % 40 * 4 + ou1 (pl2 a / 40 * 4 + i))) a i := by rw [← hcn, hpa]; rfl
                    refine v_weak (by simp [vsub]) (ih (i + 1) f5 nm5 pl5 st5 _ (by omega) (by omega) (lt_s hgi (by rw [← hpa]; exact Nat.not_le.mpr hk)) hS5 ?_ (hF.tr hF5))
                    rw [e5]
                    exact hQ5
                  · exact absurd c75 (nI_m1 (by omega))
                · refine v_istore (lv' := [some (.ref (A 0)), some (.ref (Ba 0)), some (.ref (Bb 0)), some (.int (nI a)), some (.int (nI i)), some (.int (-1))]) hx d_MT_numberPairs_70 (by decide) rfl ?_
                  refine v_iload hx d_MT_numberPairs_72 rfl ?_
                  refine v_iconst (v := (-1)) hx d_MT_numberPairs_74 rfl ?_
                  refine v_icmp_ne (tgt := 80) hx d_MT_numberPairs_75 (by decide) (fun c75 => ?_) (fun c75 => ?_)
                  · exact absurd rfl c75
                  · refine v_iconst (v := (nI 0)) hx d_MT_numberPairs_78 rfl ?_
                    exact v_zret hx hr d_MT_numberPairs_79 rfl ⟨rfl, hF, Or.inr ⟨fun ⟨N, hN, hg, _⟩ => hg a (hN.lt (lt_le hr1 haL)) i (by omega) (by rw [← hpa]; exact hk), rfl, nm2, pl2, st2, sc2, hM2_⟩⟩
          exact v_weak (by simp [vsub]) (H46 _ 0 f3 nm1 pl1 st1 sc1 (Nat.lt_succ_self _) (Nat.zero_le _) (fun _ h => absurd h (Nat.not_lt_zero _)) hM hQ hF)
  exact H26 _ 0 f2 nm2 pl2 st2 _ (Nat.lt_succ_self _) (Nat.zero_le _) (fun _ h => absurd h (Nat.not_lt_zero _)) (fun _ h => absurd h (Nat.not_lt_zero _)) hS2 hQ2 hF
