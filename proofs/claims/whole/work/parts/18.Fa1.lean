set_option maxHeartbeats 4000000 in
set_option maxRecDepth 100000 in
theorem c_Fa_keepOpenOne {G : GT} {L : List Nat} {f : Nat → va_E} {w : Nat → Nat} {id : Nat} {A : Nat → Nat} {ss sz bo : Nat → Nat} {c : Nat} (hM : FaAt G L f w id A ss sz bo c) : Con G y_Fa_keepOpenOne (.code y_Fa_keepOpenOne b_Fa_keepOpenOne 1 none :: BIG) 0 0 0 0 [.ref (A 0)] L f (fun v L' f' => v = none ∧ L' = L ∧ FaAt G L f' w id A ss sz bo (c + 1) ∧ gF w id f f') := by
  refine con_of (cc := b_Fa_keepOpenOne) (mL := 1) (lv := [some (.ref (A 0))]) (by decide) (by intro w hw; simp at hw; rcases hw with rfl <;> rfl) (by first | exact Nat.le_of_ble_eq_true rfl | decide) rfl ?_
  intro x hx hr hin
  refine v_aload_n hx d_Fa_keepOpenOne_0 rfl rfl ?_
  refine v_dup hx d_Fa_keepOpenOne_1 rfl ?_
  refine v_get hx cf_Fa 3 (by decide) k_Fa_21 d_Fa_keepOpenOne_2 hM.m0 hM.f0 rfl ?_
  refine v_iconst (v := (nI 1)) hx d_Fa_keepOpenOne_5 rfl ?_
  refine n_iadd hx d_Fa_keepOpenOne_6 ?_
  refine v_put hx cf_Fa 3 (by decide) k_Fa_21 rfl rfl rfl d_Fa_keepOpenOne_7 hM.m0 hM.f0 (Nat.le_of_ble_eq_true rfl) (fun f1 hf1 => ?_)
  have hF := gF.up (gF.rf (w := w) (id := id) (f := f)) hf1 hM.o0
  have hM := hM.up0 hf1
  exact v_vret hx hr d_Fa_keepOpenOne_10 ⟨rfl, rfl, hM, hF⟩
set_option maxHeartbeats 4000000 in
set_option maxRecDepth 100000 in
theorem c_Fa_liesInOne {G : GT} {L : List Nat} {f : Nat → va_E} {w : Nat → Nat} {id : Nat} {A : Nat → Nat} {ss sz bo : Nat → Nat} {c : Nat} (hM : FaAt G L f w id A ss sz bo c) {l : List Nat} (hR : rowAt ss sz c l) (hO : fOK l 12) (hc : c < 300) (s : Nat) (hs : s < 4096) : Con G y_Fa_liesInOne (.code y_Fa_liesInOne b_Fa_liesInOne 3 (some .boolean) :: BIG) 0 0 0 0 [.ref (A 0), .int (nI s)] L f (fun v L' f' => v = some (.int (bI (l.any (fun o => inn s o)))) ∧ L' = L ∧ f' = f) := by
  refine con_of (cc := b_Fa_liesInOne) (mL := 3) (lv := [some (.ref (A 0)), some (.int (nI s)), none]) (by decide) (by intro w hw; simp at hw; rcases hw with rfl | rfl <;> rfl) (by first | exact Nat.le_of_ble_eq_true rfl | decide) rfl ?_
  intro x hx hr hin
  have hll := hO.len
  have hsz := hR.1
  refine v_iconst (v := (nI 0)) hx d_Fa_liesInOne_0 rfl ?_
  refine v_istore_n (lv' := [some (.ref (A 0)), some (.int (nI s)), some (.int (nI 0))]) hx d_Fa_liesInOne_1 rfl (by decide) rfl ?_
  have H2 : ∀ (fu : Nat) (i : Nat), l.length - i < fu → (i ≤ l.length) → (∀ j, j < i → inn s (l.getD j 0) = false) → V G { frames := 0, cells := 0, slots := 0, locals := 0 } 3 x L f 0 0 [some (.ref (A 0)), some (.int (nI s)), some (.int (nI i))] 2 [] := by
    intro fu
    induction fu with
    | zero => intro i hm; exact absurd hm (Nat.not_lt_zero _)
    | succ fu ih =>
      intro i hm hi hj
      refine v_iload_n hx d_Fa_liesInOne_2 rfl rfl ?_
      refine v_aload_n hx d_Fa_liesInOne_3 rfl rfl ?_
      refine v_get hx cf_Fa 1 (by decide) k_Fa_15 d_Fa_liesInOne_4 hM.m0 hM.f0 rfl ?_
      refine v_aload_n hx d_Fa_liesInOne_7 rfl rfl ?_
      refine v_get hx cf_Fa 3 (by decide) k_Fa_21 d_Fa_liesInOne_8 hM.m0 hM.f0 rfl ?_
      refine n_iald hx d_Fa_liesInOne_11 hM.m2 hM.f2 (by omega) (by decide) ?_
      refine n_icmp_ge (tgt := 44) hx d_Fa_liesInOne_12 (by decide) (by omega) (by omega) (fun c12 => ?_) (fun c12 => ?_)
      · refine v_iconst (v := (nI 0)) hx d_Fa_liesInOne_44 rfl ?_
        exact v_zret hx hr d_Fa_liesInOne_45 rfl ⟨by rw [any_false (fun j hj2 => hj j (by omega))]; rfl, rfl, rfl⟩
      · have hg := hR.get (i := i) (by omega)
        have hlt := (hR.lt hO (i := i) (by omega)).2
        refine v_iload_n hx d_Fa_liesInOne_15 rfl rfl ?_
        refine v_aload_n hx d_Fa_liesInOne_16 rfl rfl ?_
        refine v_get hx cf_Fa 0 (by decide) k_Fa_9 d_Fa_liesInOne_17 hM.m0 hM.f0 rfl ?_
        refine v_aload_n hx d_Fa_liesInOne_20 rfl rfl ?_
        refine v_get hx cf_Fa 3 (by decide) k_Fa_21 d_Fa_liesInOne_21 hM.m0 hM.f0 rfl ?_
        refine v_bipush (v := (nI 12)) hx d_Fa_liesInOne_24 rfl ?_
        refine n_imul hx d_Fa_liesInOne_26 ?_
        refine v_iload_n hx d_Fa_liesInOne_27 rfl rfl ?_
        refine n_iadd hx d_Fa_liesInOne_28 ?_
        refine n_iald hx d_Fa_liesInOne_29 hM.m1 hM.f1 (by omega) (by decide) ?_
        refine v_iconst (v := (-1)) hx d_Fa_liesInOne_30 rfl ?_
        refine v_ixor hx d_Fa_liesInOne_31 rfl ?_
        refine v_iand hx d_Fa_liesInOne_32 rfl ?_
        refine v_if_ne (tgt := 38) hx d_Fa_liesInOne_33 (by decide) (fun c33 => ?_) (fun c33 => ?_)
        · refine n_iinc (lv' := [some (.ref (A 0)), some (.int (nI s)), some (.int (nI (i + 1)))]) hx d_Fa_liesInOne_38 rfl (by decide) rfl ?_
          refine v_goto (tgt := 2) hx d_Fa_liesInOne_41 (by decide) ?_
          exact ih (i + 1) (by omega) (by omega) (lt_s hj (by rw [← hg]; exact Bool.eq_false_iff.mpr (fun z => c33 ((inn_iff hs hlt).mpr z))))
        · refine v_iconst (v := (nI 1)) hx d_Fa_liesInOne_36 rfl ?_
          exact v_zret hx hr d_Fa_liesInOne_37 rfl ⟨by rw [any_true (i := i) (by omega) (by rw [← hg]; exact (inn_iff hs hlt).mp c33)]; rfl, rfl, rfl⟩
  exact H2 _ 0 (Nat.lt_succ_self _) (Nat.zero_le _) (fun _ h => absurd h (Nat.not_lt_zero _))
set_option maxHeartbeats 4000000 in
set_option maxRecDepth 100000 in
theorem c_Fa_leaveOutThoseIn {G : GT} {L : List Nat} {f : Nat → va_E} {w : Nat → Nat} {id : Nat} {A : Nat → Nat} {ss sz bo : Nat → Nat} {c : Nat} (hM : FaAt G L f w id A ss sz bo c) {l : List Nat} (hR : rowAt ss sz c l) (hO : fOK l 12) (hc : c < 300) (s : Nat) (hs : s < 4096) : Con G y_Fa_leaveOutThoseIn (.code y_Fa_leaveOutThoseIn b_Fa_leaveOutThoseIn 6 none :: BIG) 0 0 0 0 [.ref (A 0), .int (nI s)] L f (fun v L' f' => v = none ∧ L' = L ∧ (∃ ss' sz' : Nat → Nat, FaAt G L f' w id A ss' sz' bo c ∧ rowAt ss' sz' c (l.filter (fun o => !inn o s)) ∧ (∀ j, j < c * 12 → ss' j = ss j) ∧ ∀ t, t ≠ c → sz' t = sz t) ∧ gF w id f f') := by
  refine con_of (cc := b_Fa_leaveOutThoseIn) (mL := 6) (lv := [some (.ref (A 0)), some (.int (nI s)), none, none, none, none]) (by decide) (by intro w hw; simp at hw; rcases hw with rfl | rfl <;> rfl) (by first | exact Nat.le_of_ble_eq_true rfl | decide) rfl ?_
  intro x hx hr hin
  have hll := hO.len
  have hsz := hR.1
  refine v_aload_n hx d_Fa_leaveOutThoseIn_0 rfl rfl ?_
  refine v_get hx cf_Fa 3 (by decide) k_Fa_21 d_Fa_leaveOutThoseIn_1 hM.m0 hM.f0 rfl ?_
  refine v_bipush (v := (nI 12)) hx d_Fa_leaveOutThoseIn_4 rfl ?_
  refine n_imul hx d_Fa_leaveOutThoseIn_6 ?_
  refine v_istore_n (lv' := [some (.ref (A 0)), some (.int (nI s)), some (.int (nI (c * 12))), none, none, none]) hx d_Fa_leaveOutThoseIn_7 rfl (by decide) rfl ?_
  refine v_iconst (v := (nI 0)) hx d_Fa_leaveOutThoseIn_8 rfl ?_
  refine v_istore_n (lv' := [some (.ref (A 0)), some (.int (nI s)), some (.int (nI (c * 12))), some (.int (nI 0)), none, none]) hx d_Fa_leaveOutThoseIn_9 rfl (by decide) rfl ?_
  refine v_iconst (v := (nI 0)) hx d_Fa_leaveOutThoseIn_10 rfl ?_
  refine v_istore (lv' := [some (.ref (A 0)), some (.int (nI s)), some (.int (nI (c * 12))), some (.int (nI 0)), some (.int (nI 0)), none]) hx d_Fa_leaveOutThoseIn_11 (by decide) rfl ?_
  have H13 : ∀ (fu : Nat) (left : Nat) (i : Nat) (f1 : Nat → va_E) (ss1 : Nat → Nat), l.length - i < fu → (i ≤ l.length) → (left ≤ i) → (FaAt G L f1 w id A ss1 sz bo c) → (gF w id f f1) → (left = ((l.take i).filter (fun o => !inn o s)).length) → (∀ j, j < left → ss1 (c * 12 + j) = ((l.take i).filter (fun o => !inn o s)).getD j 0) → (∀ j, i ≤ j → j < l.length → ss1 (c * 12 + j) = l.getD j 0) → (∀ j, j < c * 12 → ss1 j = ss j) → V G { frames := 0, cells := 0, slots := 0, locals := 0 } 6 x L f1 0 0 [some (.ref (A 0)), some (.int (nI s)), some (.int (nI (c * 12))), some (.int (nI left)), some (.int (nI i)), none] 13 [] := by
    intro fu
    induction fu with
    | zero => intro left i f1 ss1 hm; exact absurd hm (Nat.not_lt_zero _)
    | succ fu ih =>
      intro left i f1 ss1 hm hi hle hM hF hlf h1 h2 h3
      refine v_iload hx d_Fa_leaveOutThoseIn_13 rfl ?_
      refine v_aload_n hx d_Fa_leaveOutThoseIn_15 rfl rfl ?_
      refine v_get hx cf_Fa 1 (by decide) k_Fa_15 d_Fa_leaveOutThoseIn_16 hM.m0 hM.f0 rfl ?_
      refine v_aload_n hx d_Fa_leaveOutThoseIn_19 rfl rfl ?_
      refine v_get hx cf_Fa 3 (by decide) k_Fa_21 d_Fa_leaveOutThoseIn_20 hM.m0 hM.f0 rfl ?_
      refine n_iald hx d_Fa_leaveOutThoseIn_23 hM.m2 hM.f2 (by omega) (by decide) ?_
      refine n_icmp_ge (tgt := 66) hx d_Fa_leaveOutThoseIn_24 (by decide) (by omega) (by omega) (fun c24 => ?_) (fun c24 => ?_)
      · have hil : i = l.length := by omega
        rw [hil, List.take_length] at hlf h1
        refine v_aload_n hx d_Fa_leaveOutThoseIn_66 rfl rfl ?_
        refine v_get hx cf_Fa 1 (by decide) k_Fa_15 d_Fa_leaveOutThoseIn_67 hM.m0 hM.f0 rfl ?_
        refine v_aload_n hx d_Fa_leaveOutThoseIn_70 rfl rfl ?_
        refine v_get hx cf_Fa 3 (by decide) k_Fa_21 d_Fa_leaveOutThoseIn_71 hM.m0 hM.f0 rfl ?_
        refine v_iload_n hx d_Fa_leaveOutThoseIn_74 rfl rfl ?_
        refine nn_iast hx d_Fa_leaveOutThoseIn_75 hM.m2 hM.f2 (by omega) (by decide) (fun f2 hf2 => ?_)
        have hF := hF.up hf2 hM.o2
        have hM := hM.up2 hf2
        exact v_vret hx hr d_Fa_leaveOutThoseIn_76 ⟨rfl, rfl, ⟨ss1, _, hM, ⟨by rw [va_up_self, ← hlf], fun j hj => h1 j (by omega)⟩, h3, fun t ht => va_up_ne _ _ ht⟩, hF⟩
      · have hg := h2 i (Nat.le_refl _) (by omega)
        have hlt : ss1 (c * 12 + i) < 4096 := by rw [hg]; exact (hO.1 _ (getD_mem (by omega))).2
        have hts := take_s (l := l) (i := i) (by omega)
        refine v_aload_n hx d_Fa_leaveOutThoseIn_27 rfl rfl ?_
        refine v_get hx cf_Fa 0 (by decide) k_Fa_9 d_Fa_leaveOutThoseIn_28 hM.m0 hM.f0 rfl ?_
        refine v_iload_n hx d_Fa_leaveOutThoseIn_31 rfl rfl ?_
        refine v_iload hx d_Fa_leaveOutThoseIn_32 rfl ?_
        refine n_iadd hx d_Fa_leaveOutThoseIn_34 ?_
        refine n_iald hx d_Fa_leaveOutThoseIn_35 hM.m1 hM.f1 (by omega) (by decide) ?_
        refine v_istore (lv' := [some (.ref (A 0)), some (.int (nI s)), some (.int (nI (c * 12))), some (.int (nI left)), some (.int (nI i)), some (.int (nI (ss1 ((c * 12) + i))))]) hx d_Fa_leaveOutThoseIn_36 (by decide) rfl ?_
        refine v_iload hx d_Fa_leaveOutThoseIn_38 rfl ?_
        refine v_iload_n hx d_Fa_leaveOutThoseIn_40 rfl rfl ?_
        refine v_iconst (v := (-1)) hx d_Fa_leaveOutThoseIn_41 rfl ?_
        refine v_ixor hx d_Fa_leaveOutThoseIn_42 rfl ?_
        refine v_iand hx d_Fa_leaveOutThoseIn_43 rfl ?_
        refine v_if_eq (tgt := 60) hx d_Fa_leaveOutThoseIn_44 (by decide) (fun c44 => ?_) (fun c44 => ?_)
        · refine n_iinc (lv' := [some (.ref (A 0)), some (.int (nI s)), some (.int (nI (c * 12))), some (.int (nI left)), some (.int (nI (i + 1))), some (.int (nI (ss1 ((c * 12) + i))))]) hx d_Fa_leaveOutThoseIn_60 rfl (by decide) rfl ?_
          refine v_goto (tgt := 13) hx d_Fa_leaveOutThoseIn_63 (by decide) ?_
          have hno : inn (l.getD i 0) s = true := by rw [← hg]; exact (inn_iff hlt hs).mp c44
          have hT : (l.take (i + 1)).filter (fun o => !inn o s) = ((l.take i).filter (fun o => !inn o s)) := by rw [hts, List.filter_append, List.filter_cons_of_neg (by rw [hno]; decide), List.filter_nil, List.append_nil]
          exact v_weak (by simp [vsub]) (ih left (i + 1) f1 ss1 (by omega) (by omega) (by omega) hM hF (by rw [hT]; exact hlf) (fun j hj => by rw [hT]; exact h1 j hj) (fun j q1 q2 => h2 j (by omega) q2) h3)
        · refine v_aload_n hx d_Fa_leaveOutThoseIn_47 rfl rfl ?_
          refine v_get hx cf_Fa 0 (by decide) k_Fa_9 d_Fa_leaveOutThoseIn_48 hM.m0 hM.f0 rfl ?_
          refine v_iload_n hx d_Fa_leaveOutThoseIn_51 rfl rfl ?_
          refine v_iload_n hx d_Fa_leaveOutThoseIn_52 rfl rfl ?_
          refine n_iadd hx d_Fa_leaveOutThoseIn_53 ?_
          refine v_iload hx d_Fa_leaveOutThoseIn_54 rfl ?_
          refine nn_iast hx d_Fa_leaveOutThoseIn_56 hM.m1 hM.f1 (by omega) (by decide) (fun f3 hf3 => ?_)
          have hF := hF.up hf3 hM.o1
          have hM := hM.up1 hf3
          refine n_iinc (lv' := [some (.ref (A 0)), some (.int (nI s)), some (.int (nI (c * 12))), some (.int (nI (left + 1))), some (.int (nI i)), some (.int (nI (ss1 ((c * 12) + i))))]) hx d_Fa_leaveOutThoseIn_57 rfl (by decide) rfl ?_
          refine n_iinc (lv' := [some (.ref (A 0)), some (.int (nI s)), some (.int (nI (c * 12))), some (.int (nI (left + 1))), some (.int (nI (i + 1))), some (.int (nI (ss1 ((c * 12) + i))))]) hx d_Fa_leaveOutThoseIn_60 rfl (by decide) rfl ?_
          refine v_goto (tgt := 13) hx d_Fa_leaveOutThoseIn_63 (by decide) ?_
          have hno : inn (l.getD i 0) s = false := by rw [← hg]; exact Bool.eq_false_iff.mpr (fun z => c44 ((inn_iff hlt hs).mpr z))
          have hT : (l.take (i + 1)).filter (fun o => !inn o s) = ((l.take i).filter (fun o => !inn o s)) ++ [l.getD i 0] := by rw [hts, List.filter_append, List.filter_cons_of_pos (by rw [hno]; rfl), List.filter_nil]
          refine v_weak (by simp [vsub]) (ih (left + 1) (i + 1) f3 _ (by omega) (by omega) (by omega) hM hF (by rw [hT, List.length_append, ← hlf]; rfl) (fun j hj => ?_) (fun j q1 q2 => ?_) (fun j hj => ?_))
          · rw [hT]
            by_cases e : j = left
            · subst e
              rw [va_up_self, hg, hlf]
              exact getD_mid.symm
            · rw [va_up_ne _ _ (by omega), h1 j (by omega), getD_app1 (by omega)]
          · rw [va_up_ne _ _ (by omega)]; exact h2 j (by omega) q2
          · rw [va_up_ne _ _ (by omega)]; exact h3 j hj
  exact H13 _ 0 0 f ss (Nat.lt_succ_self _) (Nat.zero_le _) (Nat.le_refl _) hM gF.rf rfl (fun _ h => absurd h (Nat.not_lt_zero _)) (fun j _ h => hR.get h) (fun _ _ => rfl)
set_option maxHeartbeats 4000000 in
set_option maxRecDepth 100000 in
theorem c_Fa_put {G : GT} {L : List Nat} {f : Nat → va_E} {w : Nat → Nat} {id : Nat} {A : Nat → Nat} {ss sz bo : Nat → Nat} {c : Nat} (hM : FaAt G L f w id A ss sz bo c) {l : List Nat} (hR : rowAt ss sz c l) (hO : fOK l 12) (hc : c < 300) (s : Nat) (hs : s < 4096) (hs0 : 0 < s) (hsum : fsum l + pcn s 12 ≤ 12) : Con G y_Fa_put (.code y_Fa_put b_Fa_put 4 none :: BIG) 1 25 0 0 [.ref (A 0), .int (nI s)] L f (fun v L' f' => v = none ∧ L' = L ∧ (∃ ss' sz' : Nat → Nat, FaAt G L f' w id A ss' sz' bo c ∧ rowAt ss' sz' c (fput l s) ∧ (∀ j, j < c * 12 → ss' j = ss j) ∧ ∀ t, t ≠ c → sz' t = sz t) ∧ gF w id f f') := by
  refine con_of (cc := b_Fa_put) (mL := 4) (lv := [some (.ref (A 0)), some (.int (nI s)), none, none]) (by decide) (by intro w hw; simp at hw; rcases hw with rfl | rfl <;> rfl) (by first | exact Nat.le_of_ble_eq_true rfl | decide) rfl ?_
  intro x hx hr hin
  have hll := hO.len
  have hsz := hR.1
  refine v_aload_n hx d_Fa_put_0 rfl rfl ?_
  refine v_iload_n hx d_Fa_put_1 rfl rfl ?_
  refine v_callV (as := [.int (nI s)]) (q := (R_Fa, T_Fa, 4)) hx (c_Fa_liesInOne hM hR hO hc s hs) cy_Fa_liesInOne k_Fa_55 ki_Fa_liesInOne kl_Fa_liesInOne d_Fa_put_2 (by decide) (ci := 0) rfl hM.m0 hM.f0 (by decide) rfl rfl (Nat.le_of_ble_eq_true rfl) (fun v1 L f p1 => ?_)
  obtain ⟨rfl, rfl, rfl⟩ := p1
  refine v_if_eq (tgt := 9) hx d_Fa_put_5 (by decide) (fun c5 => ?_) (fun c5 => ?_)
  · have hany : l.any (fun o => inn s o) = false := (bI_0 _).mp c5
    refine v_aload_n hx d_Fa_put_9 rfl rfl ?_
    refine v_iload_n hx d_Fa_put_10 rfl rfl ?_
    refine v_callV (as := [.int (nI s)]) (q := (R_Fa, T_Fa, 4)) hx (c_Fa_leaveOutThoseIn hM hR hO hc s hs) cy_Fa_leaveOutThoseIn k_Fa_59 ki_Fa_leaveOutThoseIn kl_Fa_leaveOutThoseIn d_Fa_put_11 (by decide) (ci := 0) rfl hM.m0 hM.f0 (by decide) rfl rfl (Nat.le_of_ble_eq_true rfl) (fun v2 L f1 p2 => ?_)
    obtain ⟨rfl, rfl, ⟨ss1, sz1, hM1, hR1, hj1, ht1⟩, hF⟩ := p2
    have hM := hM1
    generalize hl2 : l.filter (fun o => !inn o s) = l2 at hR1
    have hsum2 : fsum l2 + pcn s 12 ≤ 12 := by rw [← hl2]; have := sum_le_of_sub (l := l) (p := (fun o => !inn o s)); omega
    have hO2 : fOK l2 (12 - pcn s 12) := ⟨fun z hz => hO.1 z (by rw [← hl2] at hz; exact (List.mem_filter.mp hz).1), by omega⟩
    have hp0 := pcn_pos 12 hs0 (by simpa using hs)
    have hl2l := hO2.len
    have hsz1 := hR1.1
    refine v_aload_n hx d_Fa_put_14 rfl rfl ?_
    refine v_get hx cf_Fa 3 (by decide) k_Fa_21 d_Fa_put_15 hM.m0 hM.f0 rfl ?_
    refine v_bipush (v := (nI 12)) hx d_Fa_put_18 rfl ?_
    refine n_imul hx d_Fa_put_20 ?_
    refine v_istore_n (lv' := [some (.ref (A 0)), some (.int (nI s)), some (.int (nI (c * 12))), none]) hx d_Fa_put_21 rfl (by decide) rfl ?_
    refine v_aload_n hx d_Fa_put_22 rfl rfl ?_
    refine v_get hx cf_Fa 1 (by decide) k_Fa_15 d_Fa_put_23 hM.m0 hM.f0 rfl ?_
    refine v_aload_n hx d_Fa_put_26 rfl rfl ?_
    refine v_get hx cf_Fa 3 (by decide) k_Fa_21 d_Fa_put_27 hM.m0 hM.f0 rfl ?_
    refine n_iald hx d_Fa_put_30 hM.m2 hM.f2 (by omega) (by decide) ?_
    refine v_istore_n (lv' := [some (.ref (A 0)), some (.int (nI s)), some (.int (nI (c * 12))), some (.int (nI (sz1 c)))]) hx d_Fa_put_31 rfl (by decide) rfl ?_
    have H32 : ∀ (fu : Nat) (m : Nat) (f2 : Nat → va_E) (ss2 : Nat → Nat), m < fu → (m ≤ l2.length) → (FaAt G L f2 w id A ss2 sz1 bo c) → (gF w id f f2) → (ip (fun i => l2.getD i 0) s l2.length = ip (fun i => l2.getD i 0) s m) → (∀ j, j < m → ss2 (c * 12 + j) = l2.getD j 0) → (∀ j, m < j → j ≤ l2.length → ss2 (c * 12 + j) = l2.getD (j - 1) 0) → (∀ j, j < c * 12 → ss2 j = ss j) → V G { frames := 1, cells := 0, slots := 0, locals := 25 } 4 x L f2 0 0 [some (.ref (A 0)), some (.int (nI s)), some (.int (nI (c * 12))), some (.int (nI m))] 32 [] := by
      intro fu
      induction fu with
      | zero => intro m f2 ss2 hm; exact absurd hm (Nat.not_lt_zero _)
      | succ fu ih =>
        intro m f2 ss2 hm hml hM hF hip h1 h2 h3
        refine v_iload_n hx d_Fa_put_32 rfl rfl ?_
        refine n_if_le (tgt := 74) hx d_Fa_put_33 (by decide) (by omega) (fun c33 => ?_) (fun c33 => ?_)
        · have hpm : ip (fun i => l2.getD i 0) s l2.length = m := by
            rw [hip]
            first
            | (rw [c33]; rfl)
            | (rw [show m = m - 1 + 1 by omega]; exact (if_neg (by show ¬ s < l2.getD (m - 1) 0; omega)))
          refine v_aload_n hx d_Fa_put_74 rfl rfl ?_
          refine v_get hx cf_Fa 0 (by decide) k_Fa_9 d_Fa_put_75 hM.m0 hM.f0 rfl ?_
          refine v_iload_n hx d_Fa_put_78 rfl rfl ?_
          refine v_iload_n hx d_Fa_put_79 rfl rfl ?_
          refine n_iadd hx d_Fa_put_80 ?_
          refine v_iload_n hx d_Fa_put_81 rfl rfl ?_
          refine nn_iast hx d_Fa_put_82 hM.m1 hM.f1 (by omega) (by decide) (fun f3 hf3 => ?_)
          have hF := hF.up hf3 hM.o1
          have hM := hM.up1 hf3
          refine v_aload_n hx d_Fa_put_83 rfl rfl ?_
          refine v_get hx cf_Fa 1 (by decide) k_Fa_15 d_Fa_put_84 hM.m0 hM.f0 rfl ?_
          refine v_aload_n hx d_Fa_put_87 rfl rfl ?_
          refine v_get hx cf_Fa 3 (by decide) k_Fa_21 d_Fa_put_88 hM.m0 hM.f0 rfl ?_
          refine v_dup2 hx d_Fa_put_91 rfl rfl ?_
          refine n_iald hx d_Fa_put_92 hM.m2 hM.f2 (by omega) (by decide) ?_
          refine v_iconst (v := (nI 1)) hx d_Fa_put_93 rfl ?_
          refine n_iadd hx d_Fa_put_94 ?_
          refine nn_iast hx d_Fa_put_95 hM.m2 hM.f2 (by omega) (by decide) (fun f4 hf4 => ?_)
          have hF := hF.up hf4 hM.o2
          have hM := hM.up2 hf4
          have hfp : fput l s = insr s l2 := by unfold fput; rw [if_neg (by rw [hany]; decide), hl2]
          have hrow : ∀ j, j < (insr s l2).length → va_up ss2 (c * 12 + m) s (c * 12 + j) = (insr s l2).getD j 0 := by
            intro j hj
            rw [insr_len] at hj
            rcases Nat.lt_trichotomy j m with e | e | e
            · rw [va_up_ne _ _ (by omega), insr_lo (by omega)]; exact h1 j e
            · rw [e, va_up_self, ← hpm, insr_at]
            · rw [va_up_ne _ _ (by omega), insr_hi (by omega) (by omega)]; exact h2 j e (by omega)
          exact v_vret hx hr d_Fa_put_96 ⟨rfl, rfl, ⟨_, _, hM, ⟨by rw [va_up_self, hsz1, hfp, insr_len], by rw [hfp]; exact hrow⟩, fun j hj => by rw [va_up_ne _ _ (by omega)]; exact h3 j hj, fun t ht => by rw [va_up_ne _ _ ht]; exact ht1 t ht⟩, hF⟩
        · have hg : ss2 (c * 12 + m - 1) = l2.getD (m - 1) 0 := by rw [show c * 12 + m - 1 = c * 12 + (m - 1) by omega]; exact h1 _ (by omega)
          have hlt : ss2 (c * 12 + m - 1) < 4096 := by rw [hg]; exact (hO2.1 _ (getD_mem (by omega))).2
          refine v_aload_n hx d_Fa_put_36 rfl rfl ?_
          refine v_get hx cf_Fa 0 (by decide) k_Fa_9 d_Fa_put_37 hM.m0 hM.f0 rfl ?_
          refine v_iload_n hx d_Fa_put_40 rfl rfl ?_
          refine v_iload_n hx d_Fa_put_41 rfl rfl ?_
          refine n_iadd hx d_Fa_put_42 ?_
          refine v_iconst (v := (nI 1)) hx d_Fa_put_43 rfl ?_
          refine n_isub hx d_Fa_put_44 (by omega) ?_
          refine n_iald hx d_Fa_put_45 hM.m1 hM.f1 (by omega) (by decide) ?_
          refine v_iload_n hx d_Fa_put_46 rfl rfl ?_
          refine n_icmp_le (tgt := 74) hx d_Fa_put_47 (by decide) (by omega) (by omega) (fun c47 => ?_) (fun c47 => ?_)
          · have hpm : ip (fun i => l2.getD i 0) s l2.length = m := by
              rw [hip]
              first
              | (rw [c33]; rfl)
              | (rw [show m = m - 1 + 1 by omega]; exact (if_neg (by show ¬ s < l2.getD (m - 1) 0; omega)))
            refine v_aload_n hx d_Fa_put_74 rfl rfl ?_
            refine v_get hx cf_Fa 0 (by decide) k_Fa_9 d_Fa_put_75 hM.m0 hM.f0 rfl ?_
            refine v_iload_n hx d_Fa_put_78 rfl rfl ?_
            refine v_iload_n hx d_Fa_put_79 rfl rfl ?_
            refine n_iadd hx d_Fa_put_80 ?_
            refine v_iload_n hx d_Fa_put_81 rfl rfl ?_
            refine nn_iast hx d_Fa_put_82 hM.m1 hM.f1 (by omega) (by decide) (fun f5 hf5 => ?_)
            have hF := hF.up hf5 hM.o1
            have hM := hM.up1 hf5
            refine v_aload_n hx d_Fa_put_83 rfl rfl ?_
            refine v_get hx cf_Fa 1 (by decide) k_Fa_15 d_Fa_put_84 hM.m0 hM.f0 rfl ?_
            refine v_aload_n hx d_Fa_put_87 rfl rfl ?_
            refine v_get hx cf_Fa 3 (by decide) k_Fa_21 d_Fa_put_88 hM.m0 hM.f0 rfl ?_
            refine v_dup2 hx d_Fa_put_91 rfl rfl ?_
            refine n_iald hx d_Fa_put_92 hM.m2 hM.f2 (by omega) (by decide) ?_
            refine v_iconst (v := (nI 1)) hx d_Fa_put_93 rfl ?_
            refine n_iadd hx d_Fa_put_94 ?_
            refine nn_iast hx d_Fa_put_95 hM.m2 hM.f2 (by omega) (by decide) (fun f6 hf6 => ?_)
            have hF := hF.up hf6 hM.o2
            have hM := hM.up2 hf6
            have hfp : fput l s = insr s l2 := by unfold fput; rw [if_neg (by rw [hany]; decide), hl2]
            have hrow : ∀ j, j < (insr s l2).length → va_up ss2 (c * 12 + m) s (c * 12 + j) = (insr s l2).getD j 0 := by
              intro j hj
              rw [insr_len] at hj
              rcases Nat.lt_trichotomy j m with e | e | e
              · rw [va_up_ne _ _ (by omega), insr_lo (by omega)]; exact h1 j e
              · rw [e, va_up_self, ← hpm, insr_at]
              · rw [va_up_ne _ _ (by omega), insr_hi (by omega) (by omega)]; exact h2 j e (by omega)
            exact v_vret hx hr d_Fa_put_96 ⟨rfl, rfl, ⟨_, _, hM, ⟨by rw [va_up_self, hsz1, hfp, insr_len], by rw [hfp]; exact hrow⟩, fun j hj => by rw [va_up_ne _ _ (by omega)]; exact h3 j hj, fun t ht => by rw [va_up_ne _ _ ht]; exact ht1 t ht⟩, hF⟩
          · refine v_aload_n hx d_Fa_put_50 rfl rfl ?_
            refine v_get hx cf_Fa 0 (by decide) k_Fa_9 d_Fa_put_51 hM.m0 hM.f0 rfl ?_
            refine v_iload_n hx d_Fa_put_54 rfl rfl ?_
            refine v_iload_n hx d_Fa_put_55 rfl rfl ?_
            refine n_iadd hx d_Fa_put_56 ?_
            refine v_aload_n hx d_Fa_put_57 rfl rfl ?_
            refine v_get hx cf_Fa 0 (by decide) k_Fa_9 d_Fa_put_58 hM.m0 hM.f0 rfl ?_
            refine v_iload_n hx d_Fa_put_61 rfl rfl ?_
            refine v_iload_n hx d_Fa_put_62 rfl rfl ?_
            refine n_iadd hx d_Fa_put_63 ?_
            refine v_iconst (v := (nI 1)) hx d_Fa_put_64 rfl ?_
            refine n_isub hx d_Fa_put_65 (by omega) ?_
            refine n_iald hx d_Fa_put_66 hM.m1 hM.f1 (by omega) (by decide) ?_
            refine nn_iast hx d_Fa_put_67 hM.m1 hM.f1 (by omega) (by decide) (fun f7 hf7 => ?_)
            have hF := hF.up hf7 hM.o1
            have hM := hM.up1 hf7
            refine n_idec (lv' := [some (.ref (A 0)), some (.int (nI s)), some (.int (nI (c * 12))), some (.int (nI (m - 1)))]) hx d_Fa_put_68 rfl (by omega) (by decide) rfl ?_
            refine v_goto (tgt := 32) hx d_Fa_put_71 (by decide) ?_
            have hips : ip (fun i => l2.getD i 0) s m = ip (fun i => l2.getD i 0) s (m - 1) := by
              rw [show m = m - 1 + 1 by omega]
              exact if_pos (by show s < l2.getD (m - 1) 0; omega)
            refine ih (m - 1) f7 _ (by omega) (by omega) hM hF (hip.trans hips) (fun j hj => ?_) (fun j q1 q2 => ?_) (fun j hj => ?_)
            · rw [va_up_ne _ _ (by omega)]; exact h1 j (by omega)
            · by_cases e : j = m
              · subst e; rw [va_up_self, hg]
              · rw [va_up_ne _ _ (by omega)]; exact h2 j (by omega) q2
            · rw [va_up_ne _ _ (by omega)]; exact h3 j hj
    rw [hsz1]
    exact H32 _ l2.length f1 ss1 (Nat.lt_succ_self _) (Nat.le_refl _) hM hF rfl (fun j hj => hR1.get hj) (fun j q1 q2 => absurd q1 (by omega)) hj1
  · have hany : l.any (fun o => inn s o) = true := Bool.of_not_eq_false (fun z => c5 ((bI_0 _).mpr z))
    exact v_vret hx hr d_Fa_put_8 ⟨rfl, rfl, ⟨ss, sz, hM, by unfold fput; rw [if_pos hany]; exact hR, fun _ _ => rfl, fun _ _ => rfl⟩, gF.rf⟩
