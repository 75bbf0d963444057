set_option maxHeartbeats 4000000 in
set_option maxRecDepth 100000 in
theorem c_Mo_findParts {G : GT} {L : List Nat} {f : Nat → va_E} {w A : Nat → Nat} {th : Nat} {mc : Nat} {sa : Nat → Nat} {ka : Nat → Nat} {nx : Nat → Nat} {ou : Nat → Nat} {wl : Nat} {wd : Nat → Nat} {ap : Nat → Bool} {fo : Nat} {se : Nat → Nat} {fr : Nat → Option Nat} {by_ : Nat → Nat} {is : Nat → Bool} {tr : Nat} {my : Nat → Nat} {ss : Nat → Nat} {tf : Nat → Option Nat} {tb : Nat → Nat} (hM : MoAt G L f w 100 A th mc sa ka nx ou wl wd ap fo se fr by_ is tr my ss tf tb) (m : Nat) (hm12 : m < 12) (hA : okA (fun t => nx (160 * m + t)) (fun t => ou (160 * m + t)) (sa m) (ka m)) : Con G y_Mo_findParts (.code y_Mo_findParts b_Mo_findParts 4 none :: BIG) 2 50 0 0 [.ref (A 0), .int (nI m)] L f (fun v L' f' => v = none ∧ L' = L ∧ gF w 100 f f' ∧ ∃ (ap' : Nat → Bool) (lo : Nat → Nat) (N : Nat) (se' : Nat → Nat) (fr' : Nat → Option Nat) (by' : Nat → Nat) (is' : Nat → Bool), MoAt G L f' w 100 A th mc sa ka nx ou wl wd ap' N se' fr' by' is' tr my ss tf tb ∧ Lk (fun t => nx (160 * m + t)) (fun t => ou (160 * m + t)) (sa m) (ka m) lo ∧ FL ap' (sa m) lo ∧ BEnd (nNx lo (fun t => nx (160 * m + t))) (ka m) [(lo 0, 0, 0)] N ∧ ReQ N se' fr' by' is' (bout (nNx lo (fun t => nx (160 * m + t))) (ka m) [(lo 0, 0, 0)] N) ∧ qOK (bout (nNx lo (fun t => nx (160 * m + t))) (ka m) [(lo 0, 0, 0)] N) (sa m)) := by
  refine con_of (cc := b_Mo_findParts) (mL := 4) (lv := [some (.ref (A 0)), some (.int (nI m)), none, none]) (by decide) (by intro w hw; simp at hw; rcases hw with rfl | rfl <;> rfl) (by first | exact Nat.le_of_ble_eq_true rfl | decide) rfl ?_
  intro x hx hr hin
  have hF0 := gF.rf (w := w) (id := 100) (f := f)
  obtain ⟨hn1, hn2, hk1, hk2, hnx⟩ := id hA
  refine v_aload_n hx d_Mo_findParts_0 rfl rfl ?_
  refine v_iload_n hx d_Mo_findParts_1 rfl rfl ?_
  refine v_callV (as := [.int (nI m)]) (q := (R_Mo, T_Mo, 19)) hx (c_Mo_mark hM m hm12 hA) cy_Mo_mark k_Mo_79 ki_Mo_mark kl_Mo_mark d_Mo_findParts_2 (by decide) (ci := 4) rfl hM.m0 hM.f0 (by decide) rfl rfl (Nat.le_of_ble_eq_true rfl) (fun v1 L f8 p1 => ?_)
  obtain ⟨rfl, rfl, hF8, ap8, lo, hM8, hLk, hFL⟩ := p1
  have hF8_ := hF0.tr hF8
  have hll : ∀ s, s < sa m → lo s < sa m := fun s hs => by have := (hFL s hs).1; omega
  have hlt : ∀ p, p < sa m → p < sa m := fun _ h => h
  have hnP : ∀ p i, p < sa m → i < ka m → (nNx lo (fun t => nx (160 * m + t))) p i < sa m := fun p i hp hi => hll _ (hnx p i hp hi).1
  have hP0 : lo 0 < sa m := hll 0 (by omega)
  have hq0 : qOK [(lo 0, 0, 0)] (sa m) := q0_ok hP0
  have hI0 : qI (fun p => p < sa m) [(lo 0, 0, 0)] := q0_I hP0
  refine v_aload_n hx d_Mo_findParts_5 rfl rfl ?_
  refine v_aload_n hx d_Mo_findParts_6 rfl rfl ?_
  refine v_iconst (v := (nI 0)) hx d_Mo_findParts_7 rfl ?_
  refine v_callV (as := [.int (nI 0)]) (q := (R_Mo, T_Mo, 19)) hx (c_Mo_firstLike hM8 (sa m) lo hn2 hFL 0 (by omega)) cy_Mo_firstLike k_Mo_83 ki_Mo_firstLike kl_Mo_firstLike d_Mo_findParts_8 (by decide) (ci := 4) rfl hM8.m0 hM8.f0 (by decide) rfl rfl (Nat.le_of_ble_eq_true rfl) (fun v2 L f8 p2 => ?_)
  obtain ⟨rfl, rfl, rfl⟩ := p2
  refine v_callV (as := [.int (nI (lo 0))]) (q := (R_Mo, T_Mo, 19)) hx (c_Mo_begin hM8 (lo 0) (by omega)) cy_Mo_begin k_Mo_97 ki_Mo_begin kl_Mo_begin d_Mo_findParts_11 (by decide) (ci := 4) rfl hM8.m0 hM8.f0 (by decide) rfl rfl (Nat.le_of_ble_eq_true rfl) (fun v3 L f1 p3 => ?_)
  obtain ⟨rfl, rfl, hF1, fo1, se1, fr1, by1, is1, hM1, hQ1⟩ := p3
  have hF1_ := hF8_.tr hF1
  refine v_iconst (v := (nI 0)) hx d_Mo_findParts_14 rfl ?_
  refine v_istore_n (lv' := [some (.ref (A 0)), some (.int (nI m)), some (.int (nI 0)), none]) hx d_Mo_findParts_15 rfl (by decide) rfl ?_
  have H16 : ∀ (fu : Nat) (a : Nat) (f1 : Nat → va_E) (fo1 : Nat) (se1 : Nat → Nat) (fr1 : Nat → Option Nat) (by1 : Nat → Nat) (is1 : Nat → Bool), sa m - a < fu → (a ≤ sa m) → (∀ b, b < a → b < (bout (nNx lo (fun t => nx (160 * m + t))) (ka m) [(lo 0, 0, 0)] b).length) → (MoAt G L f1 w 100 A th mc sa ka nx ou wl wd ap8 fo1 se1 fr1 by1 is1 tr my ss tf tb) → (ReQ fo1 se1 fr1 by1 is1 (bout (nNx lo (fun t => nx (160 * m + t))) (ka m) [(lo 0, 0, 0)] a)) → (gF w 100 f f1) → V G { frames := 2, cells := 0, slots := 0, locals := 50 } 4 x L f1 0 0 [some (.ref (A 0)), some (.int (nI m)), some (.int (nI a)), none] 16 [] := by
    intro fu
    induction fu with
    | zero => intro a f1 fo1 se1 fr1 by1 is1 hm; exact absurd hm (Nat.not_lt_zero _)
    | succ fu ih =>
      intro a f1 fo1 se1 fr1 by1 is1 hm ha0 hr1 hM1 hQ hF1_
      have ihO := ih
      have hok := bout_ok hq0 hI0 hk2 hlt hnP a hr1
      have hlen := hok.1.len
      have hce := hQ.1
      refine v_iload_n hx d_Mo_findParts_16 rfl rfl ?_
      refine v_aload_n hx d_Mo_findParts_17 rfl rfl ?_
      refine v_get hx cf_Mo 9 (by decide) k_Mo_87 d_Mo_findParts_18 hM1.m0 hM1.f0 rfl ?_
      refine n_icmp_ge (tgt := 79) hx d_Mo_findParts_21 (by decide) (by omega) (by omega) (fun c21 => ?_) (fun c21 => ?_)
      · have hE : BEnd (nNx lo (fun t => nx (160 * m + t))) (ka m) [(lo 0, 0, 0)] a := ⟨by omega, hr1⟩
        have hfa : fo1 = a := by rw [hce]; exact hE.len (Nat.le_refl _)
        subst hfa
        exact v_vret hx hr d_Mo_findParts_79 ⟨rfl, rfl, hF1_, ap8, lo, _, _, _, _, _, hM1, hLk, hFL, hE, hQ, hok.1⟩
      · have haL : a < (bout (nNx lo (fun t => nx (160 * m + t))) (ka m) [(lo 0, 0, 0)] a).length := by omega
        have hpa : se1 a = qP (bout (nNx lo (fun t => nx (160 * m + t))) (ka m) [(lo 0, 0, 0)] a) a := (hQ.2.1 a (by omega)).1
        have hPa : se1 a < sa m := by rw [hpa]; exact hok.2 _ (qP_mem haL)
        refine v_iconst (v := (nI 0)) hx d_Mo_findParts_24 rfl ?_
        refine v_istore_n (lv' := [some (.ref (A 0)), some (.int (nI m)), some (.int (nI a)), some (.int (nI 0))]) hx d_Mo_findParts_25 rfl (by decide) rfl ?_
        have H26 : ∀ (fu : Nat) (i : Nat) (f2 : Nat → va_E) (fo2 : Nat) (se2 : Nat → Nat) (fr2 : Nat → Option Nat) (by2 : Nat → Nat) (is2 : Nat → Bool), ka m - i < fu → (i ≤ ka m) → (MoAt G L f2 w 100 A th mc sa ka nx ou wl wd ap8 fo2 se2 fr2 by2 is2 tr my ss tf tb) → (ReQ fo2 se2 fr2 by2 is2 (bin (nNx lo (fun t => nx (160 * m + t))) (bout (nNx lo (fun t => nx (160 * m + t))) (ka m) [(lo 0, 0, 0)] a) a i)) → (gF w 100 f f2) → V G { frames := 2, cells := 0, slots := 0, locals := 50 } 4 x L f2 0 0 [some (.ref (A 0)), some (.int (nI m)), some (.int (nI a)), some (.int (nI i))] 26 [] := by
          intro fu
          induction fu with
          | zero => intro i f2 fo2 se2 fr2 by2 is2 hm; exact absurd hm (Nat.not_lt_zero _)
          | succ fu ih =>
            intro i f2 fo2 se2 fr2 by2 is2 hm hi hM2_ hQ2_ hF2
            have hoki := bin_ok hok.1 hok.2 haL hk2 hlt hnP i hi
            have hlen2 := hoki.1.len
            have hce2 := hQ2_.1
            have hbl := bin_len (nNx lo (fun t => nx (160 * m + t))) (bout (nNx lo (fun t => nx (160 * m + t))) (ka m) [(lo 0, 0, 0)] a) a i
            have hsub := bin_sub (nNx lo (fun t => nx (160 * m + t))) (bout (nNx lo (fun t => nx (160 * m + t))) (ka m) [(lo 0, 0, 0)] a) a i
            have hse2 : se2 a = se1 a := by rw [(hQ2_.2.1 a (by omega)).1, hpa, (hsub.2 a haL).1]
            refine v_iload_n hx d_Mo_findParts_26 rfl rfl ?_
            refine v_aload_n hx d_Mo_findParts_27 rfl rfl ?_
            refine v_get hx cf_Mo 3 (by decide) k_Mo_13 d_Mo_findParts_28 hM2_.m0 hM2_.f0 rfl ?_
            refine v_iload_n hx d_Mo_findParts_31 rfl rfl ?_
            refine n_iald hx d_Mo_findParts_32 hM2_.m2 hM2_.f2 (by omega) (by decide) ?_
            refine n_icmp_ge (tgt := 73) hx d_Mo_findParts_33 (by decide) (by omega) (by omega) (fun c33 => ?_) (fun c33 => ?_)
            · refine n_iinc (lv' := [some (.ref (A 0)), some (.int (nI m)), some (.int (nI (a + 1))), some (.int (nI i))]) hx d_Mo_findParts_73 rfl (by decide) rfl ?_
              refine v_goto (tgt := 16) hx d_Mo_findParts_76 (by decide) ?_
              have e6 : i = ka m := by omega
              refine v_weak (by simp [vsub]) (ihO (a + 1) f2 fo2 se2 fr2 by2 is2 (by omega) (by omega) (lt_s hr1 haL) hM2_ (by rw [e6] at hQ2_; exact hQ2_) hF2)
            · refine v_aload_n hx d_Mo_findParts_36 rfl rfl ?_
              refine v_aload_n hx d_Mo_findParts_37 rfl rfl ?_
              refine v_aload_n hx d_Mo_findParts_38 rfl rfl ?_
              refine v_get hx cf_Mo 4 (by decide) k_Mo_16 d_Mo_findParts_39 hM2_.m0 hM2_.f0 rfl ?_
              refine v_sipush (v := (nI 160)) hx d_Mo_findParts_42 rfl ?_
              refine v_iload_n hx d_Mo_findParts_45 rfl rfl ?_
              refine n_imul hx d_Mo_findParts_46 ?_
              refine v_iconst (v := (nI 4)) hx d_Mo_findParts_47 rfl ?_
              refine v_aload_n hx d_Mo_findParts_48 rfl rfl ?_
              refine v_get hx cf_Mo 10 (by decide) k_Mo_29 d_Mo_findParts_49 hM2_.m0 hM2_.f0 rfl ?_
              refine v_iload_n hx d_Mo_findParts_52 rfl rfl ?_
              refine n_iald hx d_Mo_findParts_53 hM2_.m7 hM2_.f7 (by omega) (by decide) ?_
              rw [hse2]
              have hxa : nx (160 * m + 4 * se1 a + i) < sa m := by rw [pic_ix]; exact (hnx (se1 a) i hPa (by omega)).1
              refine n_imul hx d_Mo_findParts_54 ?_
              refine n_iadd hx d_Mo_findParts_55 ?_
              refine v_iload_n hx d_Mo_findParts_56 rfl rfl ?_
              refine n_iadd hx d_Mo_findParts_57 ?_
              refine n_iald hx d_Mo_findParts_58 hM2_.m3 hM2_.f3 (by omega) (by decide) ?_
              refine v_callV (as := [.int (nI (nx (((160 * m) + (4 * (se1 a))) + i)))]) (q := (R_Mo, T_Mo, 19)) hx (c_Mo_firstLike hM2_ (sa m) lo hn2 hFL (nx (160 * m + 4 * se1 a + i)) (by omega)) cy_Mo_firstLike k_Mo_83 ki_Mo_firstLike kl_Mo_firstLike d_Mo_findParts_59 (by decide) (ci := 4) rfl hM2_.m0 hM2_.f0 (by decide) rfl rfl (Nat.le_of_ble_eq_true rfl) (fun v4 L f2 p4 => ?_)
              obtain ⟨rfl, rfl, rfl⟩ := p4
              rw [show lo (nx (160 * m + 4 * se1 a + i)) = (nNx lo (fun t => nx (160 * m + t))) (se1 a) i by rw [pic_ix]; rfl]
              refine v_iload_n hx d_Mo_findParts_62 rfl rfl ?_
              refine v_iload_n hx d_Mo_findParts_63 rfl rfl ?_
              refine v_callV (as := [.int (nI ((nNx lo (fun t => nx (160 * m + t))) (se1 a) i)), .int (nI a), .int (nI i)]) (q := (R_Mo, T_Mo, 19)) hx (c_Mo_come hM2_ hQ2_ ⟨hoki.1.1, fun p hp => Nat.lt_of_lt_of_le (hoki.1.2.1 p hp) (by omega), hoki.1.2.2⟩ a i (some a) ((nNx lo (fun t => nx (160 * m + t))) (se1 a) i) (Nat.lt_of_lt_of_le (hnP _ i hPa (by omega)) (by omega)) (by rw [if_neg (by omega)]) (Or.inl (by omega)) (by omega)) cy_Mo_come k_Mo_90 ki_Mo_come kl_Mo_come d_Mo_findParts_64 (by decide) (ci := 4) rfl hM2_.m0 hM2_.f0 (by decide) rfl rfl (Nat.le_of_ble_eq_true rfl) (fun v5 L f5 p5 => ?_)
              obtain ⟨rfl, rfl, hF5, fo5, se5, fr5, by5, is5, hM5, hQ5⟩ := p5
              refine n_iinc (lv' := [some (.ref (A 0)), some (.int (nI m)), some (.int (nI a)), some (.int (nI (i + 1)))]) hx d_Mo_findParts_67 rfl (by decide) rfl ?_
              refine v_goto (tgt := 26) hx d_Mo_findParts_70 (by decide) ?_
              have e5 : (bin (nNx lo (fun t => nx (160 * m + t))) (bout (nNx lo (fun t => nx (160 * m + t))) (ka m) [(lo 0, 0, 0)] a) a (i + 1)) = qr (bin (nNx lo (fun t => nx (160 * m + t))) (bout (nNx lo (fun t => nx (160 * m + t))) (ka m) [(lo 0, 0, 0)] a) a i) ((nNx lo (fun t => nx (160 * m + t))) (se1 a) i) a i := by rw [hpa]; rfl
              refine ih (i + 1) f5 fo5 se5 fr5 by5 is5 (by omega) (by omega) hM5 ?_ (hF2.tr hF5)
              rw [e5]
              exact hQ5
        exact H26 _ 0 f1 fo1 se1 fr1 by1 is1 (Nat.lt_succ_self _) (Nat.zero_le _) hM1 hQ hF1_
  exact v_weak (by simp [vsub]) (H16 _ 0 f1 fo1 se1 fr1 by1 is1 (Nat.lt_succ_self _) (Nat.zero_le _) (fun _ h => absurd h (Nat.not_lt_zero _)) hM1 hQ1 hF1_)
set_option maxHeartbeats 4000000 in
set_option maxRecDepth 100000 in
theorem c_Mo_partOf {G : GT} {L : List Nat} {f : Nat → va_E} {w A : Nat → Nat} {th : Nat} {mc : Nat} {sa : Nat → Nat} {ka : Nat → Nat} {nx : Nat → Nat} {ou : Nat → Nat} {wl : Nat} {wd : Nat → Nat} {ap : Nat → Bool} {fo : Nat} {se : Nat → Nat} {fr : Nat → Option Nat} {by_ : Nat → Nat} {is : Nat → Bool} {tr : Nat} {my : Nat → Nat} {ss : Nat → Nat} {tf : Nat → Option Nat} {tb : Nat → Nat} (hM : MoAt G L f w 100 A th mc sa ka nx ou wl wd ap fo se fr by_ is tr my ss tf tb) {q : Qu} (hQ : ReQ fo se fr by_ is q) (hq : qOK q 40) (N : Nat) (lo : Nat → Nat) (hN : N ≤ 40) (hFL : FL ap N lo) (s : Nat) (hs : s < N) : Con G y_Mo_partOf (.code y_Mo_partOf b_Mo_partOf 4 (some .int) :: BIG) 1 22 0 0 [.ref (A 0), .int (nI s)] L f (fun v L' f' => ((∃ r, r < q.length ∧ qP q r = lo s ∧ v = some (.int (nI r))) ∨ lo s ∉ qPs q ∧ v = some (.int (-1))) ∧ L' = L ∧ f' = f) := by
  refine con_of (cc := b_Mo_partOf) (mL := 4) (lv := [some (.ref (A 0)), some (.int (nI s)), none, none]) (by decide) (by intro w hw; simp at hw; rcases hw with rfl | rfl <;> rfl) (by first | exact Nat.le_of_ble_eq_true rfl | decide) rfl ?_
  intro x hx hr hin
  have hF0 := gF.rf (w := w) (id := 100) (f := f)
  have hlo := (hFL s hs).1
  have hlen := hq.len
  have hfo := hQ.1
  refine v_aload_n hx d_Mo_partOf_0 rfl rfl ?_
  refine v_iload_n hx d_Mo_partOf_1 rfl rfl ?_
  refine v_callV (as := [.int (nI s)]) (q := (R_Mo, T_Mo, 19)) hx (c_Mo_firstLike hM N lo hN hFL s hs) cy_Mo_firstLike k_Mo_83 ki_Mo_firstLike kl_Mo_firstLike d_Mo_partOf_2 (by decide) (ci := 4) rfl hM.m0 hM.f0 (by decide) rfl rfl (Nat.le_of_ble_eq_true rfl) (fun v1 L f p1 => ?_)
  obtain ⟨rfl, rfl, rfl⟩ := p1
  refine v_istore_n (lv' := [some (.ref (A 0)), some (.int (nI s)), some (.int (nI (lo s))), none]) hx d_Mo_partOf_5 rfl (by decide) rfl ?_
  refine v_iconst (v := (nI 0)) hx d_Mo_partOf_6 rfl ?_
  refine v_istore_n (lv' := [some (.ref (A 0)), some (.int (nI s)), some (.int (nI (lo s))), some (.int (nI 0))]) hx d_Mo_partOf_7 rfl (by decide) rfl ?_
  have H8 : ∀ (fu : Nat) (j : Nat), fo - j < fu → (j ≤ fo) → (∀ r, r < j → qP q r ≠ lo s) → V G { frames := 1, cells := 0, slots := 0, locals := 22 } 4 x L f 0 0 [some (.ref (A 0)), some (.int (nI s)), some (.int (nI (lo s))), some (.int (nI j))] 8 [] := by
    intro fu
    induction fu with
    | zero => intro j hm; exact absurd hm (Nat.not_lt_zero _)
    | succ fu ih =>
      intro j hm hj hno
      refine v_iload_n hx d_Mo_partOf_8 rfl rfl ?_
      refine v_aload_n hx d_Mo_partOf_9 rfl rfl ?_
      refine v_get hx cf_Mo 9 (by decide) k_Mo_87 d_Mo_partOf_10 hM.m0 hM.f0 rfl ?_
      refine n_icmp_ge (tgt := 34) hx d_Mo_partOf_13 (by decide) (by omega) (by omega) (fun c13 => ?_) (fun c13 => ?_)
      · refine v_iconst (v := (-1)) hx d_Mo_partOf_34 rfl ?_
        have hni : lo s ∉ qPs q := fun z => by
          obtain ⟨r, hr, e⟩ := qP_ex z
          exact hno r (by omega) e
        exact v_iret hx hr d_Mo_partOf_35 ⟨Or.inr ⟨hni, rfl⟩, rfl, rfl⟩
      · have hse := (hQ.2.1 j (by omega)).1
        have hse40 : se j < 40 := by rw [hse]; exact hq.2.1 _ (qP_mem (by omega))
        refine v_aload_n hx d_Mo_partOf_16 rfl rfl ?_
        refine v_get hx cf_Mo 10 (by decide) k_Mo_29 d_Mo_partOf_17 hM.m0 hM.f0 rfl ?_
        refine v_iload_n hx d_Mo_partOf_20 rfl rfl ?_
        refine n_iald hx d_Mo_partOf_21 hM.m7 hM.f7 (by omega) (by decide) ?_
        refine v_iload_n hx d_Mo_partOf_22 rfl rfl ?_
        refine n_icmp_ne (tgt := 28) hx d_Mo_partOf_23 (by decide) (by omega) (by omega) (fun c23 => ?_) (fun c23 => ?_)
        · refine n_iinc (lv' := [some (.ref (A 0)), some (.int (nI s)), some (.int (nI (lo s))), some (.int (nI (j + 1)))]) hx d_Mo_partOf_28 rfl (by decide) rfl ?_
          refine v_goto (tgt := 8) hx d_Mo_partOf_31 (by decide) ?_
          exact ih (j + 1) (by omega) (by omega) (lt_s hno (by rw [← hse]; exact c23))
        · refine v_iload_n hx d_Mo_partOf_26 rfl rfl ?_
          exact v_iret hx hr d_Mo_partOf_27 ⟨Or.inl ⟨j, by omega, by rw [← hse]; exact c23, rfl⟩, rfl, rfl⟩
  exact H8 _ 0 (Nat.lt_succ_self _) (Nat.zero_le _) (fun _ h => absurd h (Nat.not_lt_zero _))
set_option maxHeartbeats 4000000 in
set_option maxRecDepth 100000 in
theorem c_Mo_part {G : GT} {L : List Nat} {f : Nat → va_E} {w A : Nat → Nat} {th : Nat} {mc : Nat} {sa : Nat → Nat} {ka : Nat → Nat} {nx : Nat → Nat} {ou : Nat → Nat} {wl : Nat} {wd : Nat → Nat} {ap : Nat → Bool} {fo : Nat} {se : Nat → Nat} {fr : Nat → Option Nat} {by_ : Nat → Nat} {is : Nat → Bool} {tr : Nat} {my : Nat → Nat} {ss : Nat → Nat} {tf : Nat → Option Nat} {tb : Nat → Nat} (hM : MoAt G L f w 100 A th mc sa ka nx ou wl wd ap fo se fr by_ is tr my ss tf tb) (hG : okG (pic mc sa ka nx ou wl wd)) (p q : Int32) : Con G y_Mo_part (.code y_Mo_part b_Mo_part 3 (some .int) :: BIG) 3 73 0 0 [.ref (A 0), .int p, .int q] L f (fun v L' f' => ∃ (vi : Int32) (th' : Nat) (σ' : SG), v = some (.int vi) ∧ L' = L ∧ gF w 100 f f' ∧ MoS G L f' w A th' σ' ∧ th' = 0 ∧ rPart (pic mc sa ka nx ou wl wd) p q vi ∧ σ' = (pic mc sa ka nx ou wl wd)) := by
  refine con_of (cc := b_Mo_part) (mL := 3) (lv := [some (.ref (A 0)), some (.int p), some (.int q)]) (by decide) (by intro w hw; simp at hw; rcases hw with rfl | rfl | rfl <;> rfl) (by first | exact Nat.le_of_ble_eq_true rfl | decide) rfl ?_
  intro x hx hr hin
  have hF0 := gF.rf (w := w) (id := 100) (f := f)
  obtain ⟨hmc, hok, hwl, hwd⟩ := id hG
  have hmc : mc ≤ 12 := hmc
  have hok : ∀ j, j < mc → okA (fun t => nx (160 * j + t)) (fun t => ou (160 * j + t)) (sa j) (ka j) := hok
  have hwl : wl ≤ 4096 := hwl
  have hwd : ∀ j, j < wl → wd j < 4 := hwd
  have hsa : ∀ j, j < mc → sa j ≤ 40 := fun j hj => (hok j hj).2.1
  have hka : ∀ j, j < mc → ka j ≤ 4 := fun j hj => (hok j hj).2.2.2.1
  refine v_aload_n hx d_Mo_part_0 rfl rfl ?_
  refine v_iconst (v := (nI 0)) hx d_Mo_part_1 rfl ?_
  refine v_put hx cf_Mo 0 (by decide) k_Mo_53 rfl rfl rfl d_Mo_part_2 hM.m0 hM.f0 (Nat.le_of_ble_eq_true rfl) (fun f1 hf1 => ?_)
  have mf1 := hM.up0 hf1
  have Ff1 := hF0.up hf1 hM.o0
  refine v_aload_n hx d_Mo_part_5 rfl rfl ?_
  refine v_iload_n hx d_Mo_part_6 rfl rfl ?_
  refine v_iload_n hx d_Mo_part_7 rfl rfl ?_
  refine v_callV (as := [.int p, .int q]) (q := (R_Mo, T_Mo, 19)) hx (c_Mo_isState mf1 hmc hsa p q) cy_Mo_isState k_Mo_72 ki_Mo_isState kl_Mo_isState d_Mo_part_8 (by decide) (ci := 4) rfl mf1.m0 mf1.f0 (by decide) rfl rfl (Nat.le_of_ble_eq_true rfl) (fun v2 L f1 p2 => ?_)
  obtain ⟨rfl, rfl, rfl⟩ := p2
  refine v_if_ne (tgt := 16) hx d_Mo_part_11 (by decide) (fun c11 => ?_) (fun c11 => ?_)
  · obtain ⟨m, s, em, es⟩ := ixS_some c11
    obtain ⟨hm, zm⟩ := ix_some (by omega) em
    have hAm := hok m hm
    have hsm := hsa m hm
    have hkm := hka m hm
    obtain ⟨hs, zs⟩ := ix_some (by omega) es
    subst zm
    subst zs
    refine v_aload_n hx d_Mo_part_16 rfl rfl ?_
    refine v_iload_n hx d_Mo_part_17 rfl rfl ?_
    refine v_callV (as := [.int (nI m)]) (q := (R_Mo, T_Mo, 19)) hx (c_Mo_findParts mf1 m (by omega) hAm) cy_Mo_findParts k_Mo_104 ki_Mo_findParts kl_Mo_findParts d_Mo_part_18 (by decide) (ci := 4) rfl mf1.m0 mf1.f0 (by decide) rfl rfl (Nat.le_of_ble_eq_true rfl) (fun v3 L f9 p3 => ?_)
    obtain ⟨rfl, rfl, hF9, ap9, lo, N, se9, fr9, by9, is9, hM9, hLk, hFL, hE, hQ9, hq9⟩ := p3
    have hF9_ := Ff1.tr hF9
    have hlen : (bout (nNx lo (fun t => nx (160 * m + t))) (ka m) [(lo 0, 0, 0)] N).length = N := hE.len (Nat.le_refl _)
    have hNn : (bout (nNx lo (fun t => nx (160 * m + t))) (ka m) [(lo 0, 0, 0)] N).length ≤ sa m := hq9.len
    have hN1 := hE.pos (Nat.le_refl _)
    have hq40 : qOK (bout (nNx lo (fun t => nx (160 * m + t))) (ka m) [(lo 0, 0, 0)] N) 40 := ⟨hq9.1, fun p hp => Nat.lt_of_lt_of_le (hq9.2.1 p hp) hsm, hq9.2.2⟩
    refine v_aload_n hx d_Mo_part_21 rfl rfl ?_
    refine v_iload_n hx d_Mo_part_22 rfl rfl ?_
    refine v_callV (as := [.int (nI s)]) (q := (R_Mo, T_Mo, 19)) hx (c_Mo_partOf hM9 hQ9 hq40 (sa m) lo hsm hFL s (by omega)) cy_Mo_partOf k_Mo_107 ki_Mo_partOf kl_Mo_partOf d_Mo_part_23 (by decide) (ci := 4) rfl hM9.m0 hM9.f0 (by decide) rfl rfl (Nat.le_of_ble_eq_true rfl) (fun v4 L f9 p4 => ?_)
    obtain ⟨(⟨z, hz1, hz2, rfl⟩ | ⟨hz1, rfl⟩), rfl, rfl⟩ := p4
    · exact v_iret hx hr d_Mo_part_26 ⟨_, 0, (pic mc sa ka nx ou wl wd), rfl, rfl, hF9_, ⟨hG, _, _, _, _, _, _, _, _, _, _, _, _, _, hM9, rfl, rfl⟩, rfl, Or.inr ⟨m, s, lo, N, em, es, hLk, hE, Or.inl ⟨z, hlen ▸ hz1, hz2, rfl⟩⟩, rfl⟩
    · exact v_iret hx hr d_Mo_part_26 ⟨_, 0, (pic mc sa ka nx ou wl wd), rfl, rfl, hF9_, ⟨hG, _, _, _, _, _, _, _, _, _, _, _, _, _, hM9, rfl, rfl⟩, rfl, Or.inr ⟨m, s, lo, N, em, es, hLk, hE, Or.inr ⟨hz1, rfl⟩⟩, rfl⟩
  · refine v_iconst (v := (-1)) hx d_Mo_part_14 rfl ?_
    exact v_iret hx hr d_Mo_part_15 ⟨_, 0, (pic mc sa ka nx ou wl wd), rfl, rfl, Ff1, ⟨hG, _, _, _, _, _, _, _, _, _, _, _, _, _, mf1, rfl, rfl⟩, rfl, Or.inl ⟨ixS_none c11, rfl⟩, rfl⟩
set_option maxHeartbeats 4000000 in
set_option maxRecDepth 100000 in
theorem c_Mo_least {G : GT} {L : List Nat} {f : Nat → va_E} {w A : Nat → Nat} {th : Nat} {mc : Nat} {sa : Nat → Nat} {ka : Nat → Nat} {nx : Nat → Nat} {ou : Nat → Nat} {wl : Nat} {wd : Nat → Nat} {ap : Nat → Bool} {fo : Nat} {se : Nat → Nat} {fr : Nat → Option Nat} {by_ : Nat → Nat} {is : Nat → Bool} {tr : Nat} {my : Nat → Nat} {ss : Nat → Nat} {tf : Nat → Option Nat} {tb : Nat → Nat} (hM : MoAt G L f w 100 A th mc sa ka nx ou wl wd ap fo se fr by_ is tr my ss tf tb) (hG : okG (pic mc sa ka nx ou wl wd)) (p : Int32) : Con G y_Mo_least (.code y_Mo_least b_Mo_least 5 (some .int) :: BIG) 3 73 0 0 [.ref (A 0), .int p] L f (fun v L' f' => ∃ (vi : Int32) (th' : Nat) (σ' : SG), v = some (.int vi) ∧ L' = L ∧ gF w 100 f f' ∧ MoS G L f' w A th' σ' ∧ th' = 0 ∧ rLeast (pic mc sa ka nx ou wl wd) p vi σ') := by
  refine con_of (cc := b_Mo_least) (mL := 5) (lv := [some (.ref (A 0)), some (.int p), none, none, none]) (by decide) (by intro w hw; simp at hw; rcases hw with rfl | rfl <;> rfl) (by first | exact Nat.le_of_ble_eq_true rfl | decide) rfl ?_
  intro x hx hr hin
  have hF0 := gF.rf (w := w) (id := 100) (f := f)
  obtain ⟨hmc, hok, hwl, hwd⟩ := id hG
  have hmc : mc ≤ 12 := hmc
  have hok : ∀ j, j < mc → okA (fun t => nx (160 * j + t)) (fun t => ou (160 * j + t)) (sa j) (ka j) := hok
  have hwl : wl ≤ 4096 := hwl
  have hwd : ∀ j, j < wl → wd j < 4 := hwd
  have hsa : ∀ j, j < mc → sa j ≤ 40 := fun j hj => (hok j hj).2.1
  have hka : ∀ j, j < mc → ka j ≤ 4 := fun j hj => (hok j hj).2.2.2.1
  refine v_aload_n hx d_Mo_least_0 rfl rfl ?_
  refine v_iconst (v := (nI 0)) hx d_Mo_least_1 rfl ?_
  refine v_put hx cf_Mo 0 (by decide) k_Mo_53 rfl rfl rfl d_Mo_least_2 hM.m0 hM.f0 (Nat.le_of_ble_eq_true rfl) (fun f1 hf1 => ?_)
  have mf1 := hM.up0 hf1
  have Ff1 := hF0.up hf1 hM.o0
  refine v_aload_n hx d_Mo_least_5 rfl rfl ?_
  refine v_iload_n hx d_Mo_least_6 rfl rfl ?_
  refine v_callV (as := [.int p]) (q := (R_Mo, T_Mo, 19)) hx (c_Mo_isMachine mf1 hmc p) cy_Mo_isMachine k_Mo_64 ki_Mo_isMachine kl_Mo_isMachine d_Mo_least_7 (by decide) (ci := 4) rfl mf1.m0 mf1.f0 (by decide) rfl rfl (Nat.le_of_ble_eq_true rfl) (fun v2 L f1 p2 => ?_)
  obtain ⟨rfl, rfl, rfl⟩ := p2
  refine v_if_eq (tgt := 22) hx d_Mo_least_10 (by decide) (fun c10 => ?_) (fun c10 => ?_)
  · refine v_iconst (v := (-1)) hx d_Mo_least_22 rfl ?_
    exact v_iret hx hr d_Mo_least_23 ⟨_, 0, (pic mc sa ka nx ou wl wd), rfl, rfl, Ff1, ⟨hG, _, _, _, _, _, _, _, _, _, _, _, _, _, mf1, rfl, rfl⟩, rfl, Or.inl ⟨Or.inl (none_ix c10), rfl, Rel.rf _⟩⟩
  · obtain ⟨m, em⟩ := some_ix c10
    obtain ⟨hm, zm⟩ := ix_some (by omega) em
    have hAm := hok m hm
    have hsm := hsa m hm
    have hkm := hka m hm
    subst zm
    refine v_aload_n hx d_Mo_least_13 rfl rfl ?_
    refine v_get hx cf_Mo 1 (by decide) k_Mo_57 d_Mo_least_14 mf1.m0 mf1.f0 rfl ?_
    refine v_bipush (v := (nI 12)) hx d_Mo_least_17 rfl ?_
    refine n_icmp_ne (tgt := 24) hx d_Mo_least_19 (by decide) (by omega) (by omega) (fun c19 => ?_) (fun c19 => ?_)
    · have hlt : mc < 12 := by omega
      have hmne : m ≠ mc := by omega
      have hm_ := hm
      refine v_aload_n hx d_Mo_least_24 rfl rfl ?_
      refine v_iload_n hx d_Mo_least_25 rfl rfl ?_
      refine v_callV (as := [.int (nI m)]) (q := (R_Mo, T_Mo, 19)) hx (c_Mo_findParts mf1 m (by omega) hAm) cy_Mo_findParts k_Mo_104 ki_Mo_findParts kl_Mo_findParts d_Mo_least_26 (by decide) (ci := 4) rfl mf1.m0 mf1.f0 (by decide) rfl rfl (Nat.le_of_ble_eq_true rfl) (fun v3 L f9 p3 => ?_)
      obtain ⟨rfl, rfl, hF9, ap9, lo, N, se9, fr9, by9, is9, hM9, hLk, hFL, hE, hQ9, hq9⟩ := p3
      have hF9_ := Ff1.tr hF9
      have hlen : (bout (nNx lo (fun t => nx (160 * m + t))) (ka m) [(lo 0, 0, 0)] N).length = N := hE.len (Nat.le_refl _)
      have hNn : (bout (nNx lo (fun t => nx (160 * m + t))) (ka m) [(lo 0, 0, 0)] N).length ≤ sa m := hq9.len
      have hN1 := hE.pos (Nat.le_refl _)
      have hq40 : qOK (bout (nNx lo (fun t => nx (160 * m + t))) (ka m) [(lo 0, 0, 0)] N) 40 := ⟨hq9.1, fun p hp => Nat.lt_of_lt_of_le (hq9.2.1 p hp) hsm, hq9.2.2⟩
      refine v_aload_n hx d_Mo_least_29 rfl rfl ?_
      refine v_aload_n hx d_Mo_least_30 rfl rfl ?_
      refine v_get hx cf_Mo 9 (by decide) k_Mo_87 d_Mo_least_31 hM9.m0 hM9.f0 rfl ?_
      refine v_aload_n hx d_Mo_least_34 rfl rfl ?_
      refine v_get hx cf_Mo 3 (by decide) k_Mo_13 d_Mo_least_35 hM9.m0 hM9.f0 rfl ?_
      refine v_iload_n hx d_Mo_least_38 rfl rfl ?_
      refine n_iald hx d_Mo_least_39 hM9.m2 hM9.f2 (by omega) (by decide) ?_
      refine v_callV (as := [.int (nI N), .int (nI (ka m))]) (q := (R_Mo, T_Mo, 19)) hx (c_Mo_newMachine hM9 hlt N (ka m)) cy_Mo_newMachine k_Mo_68 ki_Mo_newMachine kl_Mo_newMachine d_Mo_least_40 (by decide) (ci := 4) rfl hM9.m0 hM9.f0 (by decide) rfl rfl (Nat.le_of_ble_eq_true rfl) (fun v4 L f3 p4 => ?_)
      obtain ⟨rfl, rfl, hF3, nx3, ou3, hM3, hold3, -⟩ := p4
      have hF3_ := hF9_.tr hF3
      have hkm_ : va_up ka mc (ka m) m = ka m := va_up_ne _ _ hmne
      refine v_istore_n (lv' := [some (.ref (A 0)), some (.int (nI m)), some (.int (nI mc)), none, none]) hx d_Mo_least_43 rfl (by decide) rfl ?_
      refine v_iconst (v := (nI 0)) hx d_Mo_least_44 rfl ?_
      refine v_istore_n (lv' := [some (.ref (A 0)), some (.int (nI m)), some (.int (nI mc)), some (.int (nI 0)), none]) hx d_Mo_least_45 rfl (by decide) rfl ?_
      have H46 : ∀ (fu : Nat) (a : Nat) (f4 : Nat → va_E) (nx4 : Nat → Nat) (ou4 : Nat → Nat), N - a < fu → (a ≤ N) → (MoAt G L f4 w 100 A 0 (mc + 1) (va_up sa mc N) (va_up ka mc (ka m)) nx4 ou4 wl wd ap9 N se9 fr9 by9 is9 tr my ss tf tb) → (gF w 100 f f4) → (∀ q, (q < 160 * mc ∨ 160 * mc + 160 ≤ q) → nx4 q = nx q ∧ ou4 q = ou q) → (∀ y z, y < a → z < ka m → nx4 (160 * mc + (y * 4 + z)) < N ∧ qP (bout (nNx lo (fun t => nx (160 * m + t))) (ka m) [(lo 0, 0, 0)] N) (nx4 (160 * mc + (y * 4 + z))) = lo (nx (160 * m + (qP (bout (nNx lo (fun t => nx (160 * m + t))) (ka m) [(lo 0, 0, 0)] N) y * 4 + z))) ∧ ou4 (160 * mc + (y * 4 + z)) = ou (160 * m + (qP (bout (nNx lo (fun t => nx (160 * m + t))) (ka m) [(lo 0, 0, 0)] N) y * 4 + z))) → V G { frames := 3, cells := 0, slots := 0, locals := 73 } 5 x L f4 0 0 [some (.ref (A 0)), some (.int (nI m)), some (.int (nI mc)), some (.int (nI a)), none] 46 [] := by
        intro fu
        induction fu with
        | zero => intro a f4 nx4 ou4 hm; exact absurd hm (Nat.not_lt_zero _)
        | succ fu ih =>
          intro a f4 nx4 ou4 hm ha hM4 hF4 hold hv
          have ihO := ih
          refine v_iload_n hx d_Mo_least_46 rfl rfl ?_
          refine v_aload_n hx d_Mo_least_47 rfl rfl ?_
          refine v_get hx cf_Mo 9 (by decide) k_Mo_87 d_Mo_least_48 hM4.m0 hM4.f0 rfl ?_
          refine n_icmp_ge (tgt := 162) hx d_Mo_least_51 (by decide) (by omega) (by omega) (fun c51 => ?_) (fun c51 => ?_)
          · have haN : a = N := by omega
            rw [haN] at hv
            have hA4 : okA (fun t => nx4 (160 * mc + t)) (fun t => ou4 (160 * mc + t)) N (ka m) := ⟨hN1, by omega, hAm.2.2.1, hkm, fun s i hs hi => ⟨(hv s i hs hi).1, by show ou4 (160 * mc + (s * 4 + i)) < 10; rw [(hv s i hs hi).2.2]; exact (hAm.2.2.2.2 _ i (hq9.2.1 _ (qP_mem (show s < (bout (nNx lo (fun t => nx (160 * m + t))) (ka m) [(lo 0, 0, 0)] N).length by omega))) hi).2⟩⟩
            refine v_iload_n hx d_Mo_least_162 rfl rfl ?_
            exact v_iret hx hr d_Mo_least_163 ⟨_, 0, (pic (mc + 1) (va_up sa mc N) (va_up ka mc (ka m)) nx4 ou4 wl wd), rfl, rfl, hF4, ⟨pic_new hG hlt hold hA4, _, _, _, _, _, _, _, _, _, _, _, _, _, hM4, rfl, rfl⟩, rfl, Or.inr ⟨m, lo, N, fun t => nx4 (160 * mc + t), fun t => ou4 (160 * mc + t), em, hlt, hLk, hE, rfl, pic_plus hG hold, hv⟩⟩
          · have haL : a < (bout (nNx lo (fun t => nx (160 * m + t))) (ka m) [(lo 0, 0, 0)] N).length := by omega
            have hpa : se9 a = qP (bout (nNx lo (fun t => nx (160 * m + t))) (ka m) [(lo 0, 0, 0)] N) a := (hQ9.2.1 a (by omega)).1
            have hPa : se9 a < sa m := by rw [hpa]; exact hq9.2.1 _ (qP_mem haL)
            refine v_iconst (v := (nI 0)) hx d_Mo_least_54 rfl ?_
            refine v_istore (lv' := [some (.ref (A 0)), some (.int (nI m)), some (.int (nI mc)), some (.int (nI a)), some (.int (nI 0))]) hx d_Mo_least_55 (by decide) rfl ?_
            have H57 : ∀ (fu : Nat) (i : Nat) (f4 : Nat → va_E) (nx4 : Nat → Nat) (ou4 : Nat → Nat), ka m - i < fu → (i ≤ ka m) → (MoAt G L f4 w 100 A 0 (mc + 1) (va_up sa mc N) (va_up ka mc (ka m)) nx4 ou4 wl wd ap9 N se9 fr9 by9 is9 tr my ss tf tb) → (gF w 100 f f4) → (∀ q, (q < 160 * mc ∨ 160 * mc + 160 ≤ q) → nx4 q = nx q ∧ ou4 q = ou q) → (∀ y z, (y < a ∨ y = a ∧ z < i) → z < ka m → nx4 (160 * mc + (y * 4 + z)) < N ∧ qP (bout (nNx lo (fun t => nx (160 * m + t))) (ka m) [(lo 0, 0, 0)] N) (nx4 (160 * mc + (y * 4 + z))) = lo (nx (160 * m + (qP (bout (nNx lo (fun t => nx (160 * m + t))) (ka m) [(lo 0, 0, 0)] N) y * 4 + z))) ∧ ou4 (160 * mc + (y * 4 + z)) = ou (160 * m + (qP (bout (nNx lo (fun t => nx (160 * m + t))) (ka m) [(lo 0, 0, 0)] N) y * 4 + z))) → V G { frames := 3, cells := 0, slots := 0, locals := 73 } 5 x L f4 0 0 [some (.ref (A 0)), some (.int (nI m)), some (.int (nI mc)), some (.int (nI a)), some (.int (nI i))] 57 [] := by
              intro fu
              induction fu with
              | zero => intro i f4 nx4 ou4 hm; exact absurd hm (Nat.not_lt_zero _)
              | succ fu ih =>
                intro i f4 nx4 ou4 hm hi hM4 hF4 hold hv
                refine v_iload hx d_Mo_least_57 rfl ?_
                refine v_aload_n hx d_Mo_least_59 rfl rfl ?_
                refine v_get hx cf_Mo 3 (by decide) k_Mo_13 d_Mo_least_60 hM4.m0 hM4.f0 rfl ?_
                refine v_iload_n hx d_Mo_least_63 rfl rfl ?_
                refine n_iald hx d_Mo_least_64 hM4.m2 hM4.f2 (by omega) (by decide) ?_
                rw [hkm_]
                refine n_icmp_ge (tgt := 156) hx d_Mo_least_65 (by decide) (by omega) (by omega) (fun c65 => ?_) (fun c65 => ?_)
                · refine n_iinc (lv' := [some (.ref (A 0)), some (.int (nI m)), some (.int (nI mc)), some (.int (nI (a + 1))), some (.int (nI i))]) hx d_Mo_least_156 rfl (by decide) rfl ?_
                  refine v_goto (tgt := 46) hx d_Mo_least_159 (by decide) ?_
                  exact v_weak (by simp [vsub]) (ihO (a + 1) f4 nx4 ou4 (by omega) (by omega) hM4 hF4 hold (fun y z h1 h2 => hv y z (by omega) h2))
                · have hxa : nx (160 * m + 4 * se9 a + i) < sa m ∧ ou (160 * m + 4 * se9 a + i) < 10 := by rw [pic_ix]; exact hAm.2.2.2.2 (se9 a) i hPa (by omega)
                  have hoa := hold (160 * m + 4 * se9 a + i) (by omega)
                  refine v_aload_n hx d_Mo_least_68 rfl rfl ?_
                  refine v_get hx cf_Mo 4 (by decide) k_Mo_16 d_Mo_least_69 hM4.m0 hM4.f0 rfl ?_
                  refine v_sipush (v := (nI 160)) hx d_Mo_least_72 rfl ?_
                  refine v_iload_n hx d_Mo_least_75 rfl rfl ?_
                  refine n_imul hx d_Mo_least_76 ?_
                  refine v_iconst (v := (nI 4)) hx d_Mo_least_77 rfl ?_
                  refine v_iload_n hx d_Mo_least_78 rfl rfl ?_
                  refine n_imul hx d_Mo_least_79 ?_
                  refine n_iadd hx d_Mo_least_80 ?_
                  refine v_iload hx d_Mo_least_81 rfl ?_
                  refine n_iadd hx d_Mo_least_83 ?_
                  refine v_aload_n hx d_Mo_least_84 rfl rfl ?_
                  refine v_aload_n hx d_Mo_least_85 rfl rfl ?_
                  refine v_get hx cf_Mo 4 (by decide) k_Mo_16 d_Mo_least_86 hM4.m0 hM4.f0 rfl ?_
                  refine v_sipush (v := (nI 160)) hx d_Mo_least_89 rfl ?_
                  refine v_iload_n hx d_Mo_least_92 rfl rfl ?_
                  refine n_imul hx d_Mo_least_93 ?_
                  refine v_iconst (v := (nI 4)) hx d_Mo_least_94 rfl ?_
                  refine v_aload_n hx d_Mo_least_95 rfl rfl ?_
                  refine v_get hx cf_Mo 10 (by decide) k_Mo_29 d_Mo_least_96 hM4.m0 hM4.f0 rfl ?_
                  refine v_iload_n hx d_Mo_least_99 rfl rfl ?_
                  refine n_iald hx d_Mo_least_100 hM4.m7 hM4.f7 (by omega) (by decide) ?_
                  refine n_imul hx d_Mo_least_101 ?_
                  refine n_iadd hx d_Mo_least_102 ?_
                  refine v_iload hx d_Mo_least_103 rfl ?_
                  refine n_iadd hx d_Mo_least_105 ?_
                  refine n_iald hx d_Mo_least_106 hM4.m3 hM4.f3 (by omega) (by decide) ?_
                  rw [hoa.1]
                  refine v_callV (as := [.int (nI (nx (160 * m + 4 * se9 a + i)))]) (q := (R_Mo, T_Mo, 19)) hx (c_Mo_partOf hM4 hQ9 hq40 (sa m) lo hsm hFL (nx (160 * m + 4 * se9 a + i)) hxa.1) cy_Mo_partOf k_Mo_107 ki_Mo_partOf kl_Mo_partOf d_Mo_least_107 (by decide) (ci := 4) rfl hM4.m0 hM4.f0 (by decide) rfl rfl (Nat.le_of_ble_eq_true rfl) (fun v5 L f4 p5 => ?_)
                  obtain ⟨hpo, rfl, rfl⟩ := p5
                  obtain ⟨z, hz1, hz2, rfl⟩ := hpo.resolve_right (fun z => z.1 (by have := hE.closed (a := a) (i := i) (by omega) (by omega); rw [pic_ix, hpa]; exact this))
                  refine nn_iast hx d_Mo_least_110 hM4.m3 hM4.f3 (by omega) (by decide) (fun f6 hf6 => ?_)
                  have mf6 := hM4.up3 hf6
                  have Ff6 := hF4.up hf6 hM4.o3
                  refine v_aload_n hx d_Mo_least_111 rfl rfl ?_
                  refine v_get hx cf_Mo 5 (by decide) k_Mo_19 d_Mo_least_112 mf6.m0 mf6.f0 rfl ?_
                  refine v_sipush (v := (nI 160)) hx d_Mo_least_115 rfl ?_
                  refine v_iload_n hx d_Mo_least_118 rfl rfl ?_
                  refine n_imul hx d_Mo_least_119 ?_
                  refine v_iconst (v := (nI 4)) hx d_Mo_least_120 rfl ?_
                  refine v_iload_n hx d_Mo_least_121 rfl rfl ?_
                  refine n_imul hx d_Mo_least_122 ?_
                  refine n_iadd hx d_Mo_least_123 ?_
                  refine v_iload hx d_Mo_least_124 rfl ?_
                  refine n_iadd hx d_Mo_least_126 ?_
                  refine v_aload_n hx d_Mo_least_127 rfl rfl ?_
                  refine v_get hx cf_Mo 5 (by decide) k_Mo_19 d_Mo_least_128 mf6.m0 mf6.f0 rfl ?_
                  refine v_sipush (v := (nI 160)) hx d_Mo_least_131 rfl ?_
                  refine v_iload_n hx d_Mo_least_134 rfl rfl ?_
                  refine n_imul hx d_Mo_least_135 ?_
                  refine v_iconst (v := (nI 4)) hx d_Mo_least_136 rfl ?_
                  refine v_aload_n hx d_Mo_least_137 rfl rfl ?_
                  refine v_get hx cf_Mo 10 (by decide) k_Mo_29 d_Mo_least_138 mf6.m0 mf6.f0 rfl ?_
                  refine v_iload_n hx d_Mo_least_141 rfl rfl ?_
                  refine n_iald hx d_Mo_least_142 mf6.m7 mf6.f7 (by omega) (by decide) ?_
                  refine n_imul hx d_Mo_least_143 ?_
                  refine n_iadd hx d_Mo_least_144 ?_
                  refine v_iload hx d_Mo_least_145 rfl ?_
                  refine n_iadd hx d_Mo_least_147 ?_
                  refine n_iald hx d_Mo_least_148 mf6.m4 mf6.f4 (by omega) (by decide) ?_
                  rw [hoa.2]
                  refine nn_iast hx d_Mo_least_149 mf6.m4 mf6.f4 (by omega) (by decide) (fun f7 hf7 => ?_)
                  have mf7 := mf6.up4 hf7
                  have Ff7 := Ff6.up hf7 mf6.o4
                  refine n_iinc (lv' := [some (.ref (A 0)), some (.int (nI m)), some (.int (nI mc)), some (.int (nI a)), some (.int (nI (i + 1)))]) hx d_Mo_least_150 rfl (by decide) rfl ?_
                  refine v_goto (tgt := 57) hx d_Mo_least_153 (by decide) ?_
                  refine ih (i + 1) f7 _ _ (by omega) (by omega) mf7 Ff7 (fun q hq => ?_) (fun y y2 h1 h2 => ?_)
                  · rw [va_up_ne _ _ (by omega), va_up_ne _ _ (by omega)]; exact hold q hq
                  · by_cases e9 : y * 4 + y2 = a * 4 + i
                    · obtain ⟨rfl, rfl⟩ : y = a ∧ y2 = i := ⟨by omega, by omega⟩
                      rw [← pic_ix, va_up_self, va_up_self]; rw [pic_ix m] at hz2; rw [pic_ix m, ← hpa]; exact ⟨by omega, hz2, rfl⟩
                    · rw [va_up_ne _ _ (by omega), va_up_ne _ _ (by omega)]; exact hv y y2 (by omega) h2
            exact H57 _ 0 f4 nx4 ou4 (Nat.lt_succ_self _) (Nat.zero_le _) hM4 hF4 hold (fun y z h1 h2 => hv y z (by omega) h2)
      exact v_weak (by simp [vsub]) (H46 _ 0 f3 nx3 ou3 (Nat.lt_succ_self _) (Nat.zero_le _) hM3 hF3_ hold3 (fun y z h1 _ => absurd h1 (Nat.not_lt_zero _)))
    · have h12 : 12 ≤ mc := by omega
      refine v_iconst (v := (-1)) hx d_Mo_least_22 rfl ?_
      exact v_iret hx hr d_Mo_least_23 ⟨_, 0, (pic mc sa ka nx ou wl wd), rfl, rfl, Ff1, ⟨hG, _, _, _, _, _, _, _, _, _, _, _, _, _, mf1, rfl, rfl⟩, rfl, Or.inl ⟨Or.inr h12, rfl, Rel.rf _⟩⟩
