set_option maxHeartbeats 4000000 in
set_option maxRecDepth 100000 in
theorem c_Mo_in {G : GT} {L : List Nat} {f : Nat → va_E} (a lo hi : Int32) : Con G y_Mo_in (.code y_Mo_in b_Mo_in 3 (some .boolean) :: BIG) 0 0 0 0 [.int a, .int lo, .int hi] L f (fun v L' f' => v = some (.int (bI (decide (lo ≤ a) && decide (a ≤ hi)))) ∧ L' = L ∧ f' = f) := by
  refine con_of (cc := b_Mo_in) (mL := 3) (lv := [some (.int a), some (.int lo), some (.int hi)]) (by decide) (by intro w hw; simp at hw; rcases hw with rfl | rfl | rfl <;> rfl) (by first | exact Nat.le_of_ble_eq_true rfl | decide) rfl ?_
  intro x hx hr hin
  refine v_iload_n hx d_Mo_in_0 rfl rfl ?_
  refine v_iload_n hx d_Mo_in_1 rfl rfl ?_
  refine v_icmp_lt (tgt := 14) hx d_Mo_in_2 (by decide) (fun c2 => ?_) (fun c2 => ?_)
  · refine v_iconst (v := (nI 0)) hx d_Mo_in_14 rfl ?_
    exact v_zret hx hr d_Mo_in_15 rfl ⟨by rw [decide_eq_false (Int32.not_le.mpr c2)]; rfl, rfl, rfl⟩
  · refine v_iload_n hx d_Mo_in_5 rfl rfl ?_
    refine v_iload_n hx d_Mo_in_6 rfl rfl ?_
    refine v_icmp_gt (tgt := 14) hx d_Mo_in_7 (by decide) (fun c7 => ?_) (fun c7 => ?_)
    · refine v_iconst (v := (nI 0)) hx d_Mo_in_14 rfl ?_
      exact v_zret hx hr d_Mo_in_15 rfl ⟨by rw [decide_eq_false (show ¬ a ≤ hi from Int32.not_le.mpr c7), Bool.and_false]; rfl, rfl, rfl⟩
    · refine v_iconst (v := (nI 1)) hx d_Mo_in_10 rfl ?_
      refine v_goto (tgt := 15) hx d_Mo_in_11 (by decide) ?_
      exact v_zret hx hr d_Mo_in_15 rfl ⟨by rw [decide_eq_true (Int32.not_lt.mp c2), decide_eq_true (Int32.not_lt.mp c7)]; rfl, rfl, rfl⟩
set_option maxHeartbeats 4000000 in
set_option maxRecDepth 100000 in
theorem c_Mo_isMachine {G : GT} {L : List Nat} {f : Nat → va_E} {w A : Nat → Nat} {th : Nat} {mc : Nat} {sa : Nat → Nat} {ka : Nat → Nat} {nx : Nat → Nat} {ou : Nat → Nat} {wl : Nat} {wd : Nat → Nat} {ap : Nat → Bool} {fo : Nat} {se : Nat → Nat} {fr : Nat → Option Nat} {by_ : Nat → Nat} {is : Nat → Bool} {tr : Nat} {my : Nat → Nat} {ss : Nat → Nat} {tf : Nat → Option Nat} {tb : Nat → Nat} (hM : MoAt G L f w 100 A th mc sa ka nx ou wl wd ap fo se fr by_ is tr my ss tf tb) (hmc : mc ≤ 12) (p : Int32) : Con G y_Mo_isMachine (.code y_Mo_isMachine b_Mo_isMachine 2 (some .boolean) :: BIG) 1 22 0 0 [.ref (A 0), .int p] L f (fun v L' f' => v = some (.int (bI (ix p mc).isSome)) ∧ L' = L ∧ f' = f) := by
  refine con_of (cc := b_Mo_isMachine) (mL := 2) (lv := [some (.ref (A 0)), some (.int p)]) (by decide) (by intro w hw; simp at hw; rcases hw with rfl | rfl <;> rfl) (by first | exact Nat.le_of_ble_eq_true rfl | decide) rfl ?_
  intro x hx hr hin
  have hF0 := gF.rf (w := w) (id := 100) (f := f)
  refine v_iload_n hx d_Mo_isMachine_0 rfl rfl ?_
  refine v_iconst (v := (nI 0)) hx d_Mo_isMachine_1 rfl ?_
  refine v_aload_n hx d_Mo_isMachine_2 rfl rfl ?_
  refine v_get hx cf_Mo 1 (by decide) k_Mo_57 d_Mo_isMachine_3 hM.m0 hM.f0 rfl ?_
  refine v_iconst (v := (nI 1)) hx d_Mo_isMachine_6 rfl ?_
  refine v_isub hx d_Mo_isMachine_7 rfl ?_
  refine v_callS (as := [.int p, .int (nI 0), .int ((nI mc) - (nI 1))]) hx (c_Mo_in p (nI 0) (nI mc - nI 1)) cy_Mo_in k_Mo_60 ks_Mo_in d_Mo_isMachine_8 (by decide) (by decide) rfl rfl (Nat.le_of_ble_eq_true rfl) (fun v1 L f p1 => ?_)
  obtain ⟨rfl, rfl, rfl⟩ := p1
  rw [in_ix (by omega)]
  exact v_zret hx hr d_Mo_isMachine_11 (by cases (ix p mc).isSome <;> rfl) ⟨rfl, rfl, rfl⟩
set_option maxHeartbeats 4000000 in
set_option maxRecDepth 100000 in
theorem c_Mo_isState {G : GT} {L : List Nat} {f : Nat → va_E} {w A : Nat → Nat} {th : Nat} {mc : Nat} {sa : Nat → Nat} {ka : Nat → Nat} {nx : Nat → Nat} {ou : Nat → Nat} {wl : Nat} {wd : Nat → Nat} {ap : Nat → Bool} {fo : Nat} {se : Nat → Nat} {fr : Nat → Option Nat} {by_ : Nat → Nat} {is : Nat → Bool} {tr : Nat} {my : Nat → Nat} {ss : Nat → Nat} {tf : Nat → Option Nat} {tb : Nat → Nat} (hM : MoAt G L f w 100 A th mc sa ka nx ou wl wd ap fo se fr by_ is tr my ss tf tb) (hmc : mc ≤ 12) (hsa : ∀ j, j < mc → sa j ≤ 40) (p q : Int32) : Con G y_Mo_isState (.code y_Mo_isState b_Mo_isState 3 (some .boolean) :: BIG) 2 43 0 0 [.ref (A 0), .int p, .int q] L f (fun v L' f' => v = some (.int (bI (ixS p q mc sa))) ∧ L' = L ∧ f' = f) := by
  refine con_of (cc := b_Mo_isState) (mL := 3) (lv := [some (.ref (A 0)), some (.int p), some (.int q)]) (by decide) (by intro w hw; simp at hw; rcases hw with rfl | rfl | rfl <;> rfl) (by first | exact Nat.le_of_ble_eq_true rfl | decide) rfl ?_
  intro x hx hr hin
  have hF0 := gF.rf (w := w) (id := 100) (f := f)
  refine v_aload_n hx d_Mo_isState_0 rfl rfl ?_
  refine v_iload_n hx d_Mo_isState_1 rfl rfl ?_
  refine v_callV (as := [.int p]) (q := (R_Mo, T_Mo, 19)) hx (c_Mo_isMachine hM hmc p) cy_Mo_isMachine k_Mo_64 ki_Mo_isMachine kl_Mo_isMachine d_Mo_isState_2 (by decide) (ci := 4) rfl hM.m0 hM.f0 (by decide) rfl rfl (Nat.le_of_ble_eq_true rfl) (fun v1 L f p1 => ?_)
  obtain ⟨rfl, rfl, rfl⟩ := p1
  refine v_if_eq (tgt := 28) hx d_Mo_isState_5 (by decide) (fun c5 => ?_) (fun c5 => ?_)
  · refine v_iconst (v := (nI 0)) hx d_Mo_isState_28 rfl ?_
    exact v_zret hx hr d_Mo_isState_29 rfl ⟨by simp only [ixS, none_ix c5]; rfl, rfl, rfl⟩
  · obtain ⟨m, em⟩ := some_ix c5
    obtain ⟨hm, e⟩ := ix_some (by omega) em
    subst e
    have hsm := hsa m hm
    refine v_iload_n hx d_Mo_isState_8 rfl rfl ?_
    refine v_iconst (v := (nI 0)) hx d_Mo_isState_9 rfl ?_
    refine v_aload_n hx d_Mo_isState_10 rfl rfl ?_
    refine v_get hx cf_Mo 2 (by decide) k_Mo_7 d_Mo_isState_11 hM.m0 hM.f0 rfl ?_
    refine v_iload_n hx d_Mo_isState_14 rfl rfl ?_
    refine n_iald hx d_Mo_isState_15 hM.m1 hM.f1 (by omega) (by decide) ?_
    refine v_iconst (v := (nI 1)) hx d_Mo_isState_16 rfl ?_
    refine v_isub hx d_Mo_isState_17 rfl ?_
    refine v_callS (as := [.int q, .int (nI 0), .int ((nI (sa m)) - (nI 1))]) hx (c_Mo_in q (nI 0) (nI (sa m) - nI 1)) cy_Mo_in k_Mo_60 ks_Mo_in d_Mo_isState_18 (by decide) (by decide) rfl rfl (Nat.le_of_ble_eq_true rfl) (fun v2 L f p2 => ?_)
    obtain ⟨rfl, rfl, rfl⟩ := p2
    rw [in_ix (by omega)]
    refine v_if_eq (tgt := 28) hx d_Mo_isState_21 (by decide) (fun c21 => ?_) (fun c21 => ?_)
    · refine v_iconst (v := (nI 0)) hx d_Mo_isState_28 rfl ?_
      exact v_zret hx hr d_Mo_isState_29 rfl ⟨by simp only [ixS, em, none_ix c21]; rfl, rfl, rfl⟩
    · refine v_iconst (v := (nI 1)) hx d_Mo_isState_24 rfl ?_
      refine v_goto (tgt := 29) hx d_Mo_isState_25 (by decide) ?_
      exact v_zret hx hr d_Mo_isState_29 rfl ⟨by obtain ⟨s, es⟩ := some_ix c21; simp only [ixS, em, es]; rfl, rfl, rfl⟩
set_option maxHeartbeats 4000000 in
set_option maxRecDepth 100000 in
theorem c_Mo_thrown {G : GT} {L : List Nat} {f : Nat → va_E} {w A : Nat → Nat} {th : Nat} {mc : Nat} {sa : Nat → Nat} {ka : Nat → Nat} {nx : Nat → Nat} {ou : Nat → Nat} {wl : Nat} {wd : Nat → Nat} {ap : Nat → Bool} {fo : Nat} {se : Nat → Nat} {fr : Nat → Option Nat} {by_ : Nat → Nat} {is : Nat → Bool} {tr : Nat} {my : Nat → Nat} {ss : Nat → Nat} {tf : Nat → Option Nat} {tb : Nat → Nat} (hM : MoAt G L f w 100 A th mc sa ka nx ou wl wd ap fo se fr by_ is tr my ss tf tb)  : Con G y_Mo_thrown (.code y_Mo_thrown b_Mo_thrown 1 (some .int) :: BIG) 0 0 0 0 [.ref (A 0)] L f (fun v L' f' => v = some (.int (nI th)) ∧ L' = L ∧ f' = f) := by
  refine con_of (cc := b_Mo_thrown) (mL := 1) (lv := [some (.ref (A 0))]) (by decide) (by intro w hw; simp at hw; rcases hw with rfl <;> rfl) (by first | exact Nat.le_of_ble_eq_true rfl | decide) rfl ?_
  intro x hx hr hin
  have hF0 := gF.rf (w := w) (id := 100) (f := f)
  refine v_aload_n hx d_Mo_thrown_0 rfl rfl ?_
  refine v_get hx cf_Mo 0 (by decide) k_Mo_53 d_Mo_thrown_1 hM.m0 hM.f0 rfl ?_
  exact v_iret hx hr d_Mo_thrown_4 ⟨rfl, rfl, rfl⟩
set_option maxHeartbeats 4000000 in
set_option maxRecDepth 100000 in
theorem c_Mo_raise {G : GT} {L : List Nat} {f : Nat → va_E} {w A : Nat → Nat} {th : Nat} {mc : Nat} {sa : Nat → Nat} {ka : Nat → Nat} {nx : Nat → Nat} {ou : Nat → Nat} {wl : Nat} {wd : Nat → Nat} {ap : Nat → Bool} {fo : Nat} {se : Nat → Nat} {fr : Nat → Option Nat} {by_ : Nat → Nat} {is : Nat → Bool} {tr : Nat} {my : Nat → Nat} {ss : Nat → Nat} {tf : Nat → Option Nat} {tb : Nat → Nat} (hM : MoAt G L f w 100 A th mc sa ka nx ou wl wd ap fo se fr by_ is tr my ss tf tb)  : Con G y_Mo_raise (.code y_Mo_raise b_Mo_raise 1 (some .int) :: BIG) 0 0 0 0 [.ref (A 0)] L f (fun v L' f' => v = some (.int (nI 0)) ∧ L' = L ∧ gF w 100 f f' ∧ MoAt G L f' w 100 A 1 mc sa ka nx ou wl wd ap fo se fr by_ is tr my ss tf tb) := by
  refine con_of (cc := b_Mo_raise) (mL := 1) (lv := [some (.ref (A 0))]) (by decide) (by intro w hw; simp at hw; rcases hw with rfl <;> rfl) (by first | exact Nat.le_of_ble_eq_true rfl | decide) rfl ?_
  intro x hx hr hin
  have hF0 := gF.rf (w := w) (id := 100) (f := f)
  refine v_aload_n hx d_Mo_raise_0 rfl rfl ?_
  refine v_iconst (v := (nI 1)) hx d_Mo_raise_1 rfl ?_
  refine v_put hx cf_Mo 0 (by decide) k_Mo_53 rfl rfl rfl d_Mo_raise_2 hM.m0 hM.f0 (Nat.le_of_ble_eq_true rfl) (fun f1 hf1 => ?_)
  have mf1 := hM.up0 hf1
  have Ff1 := hF0.up hf1 hM.o0
  refine v_iconst (v := (nI 0)) hx d_Mo_raise_5 rfl ?_
  exact v_iret hx hr d_Mo_raise_6 ⟨rfl, rfl, Ff1, mf1⟩
set_option maxHeartbeats 4000000 in
set_option maxRecDepth 100000 in
theorem c_Mo_newMachine {G : GT} {L : List Nat} {f : Nat → va_E} {w A : Nat → Nat} {th : Nat} {mc : Nat} {sa : Nat → Nat} {ka : Nat → Nat} {nx : Nat → Nat} {ou : Nat → Nat} {wl : Nat} {wd : Nat → Nat} {ap : Nat → Bool} {fo : Nat} {se : Nat → Nat} {fr : Nat → Option Nat} {by_ : Nat → Nat} {is : Nat → Bool} {tr : Nat} {my : Nat → Nat} {ss : Nat → Nat} {tf : Nat → Option Nat} {tb : Nat → Nat} (hM : MoAt G L f w 100 A th mc sa ka nx ou wl wd ap fo se fr by_ is tr my ss tf tb) (hmc : mc < 12) (n' k' : Nat) : Con G y_Mo_newMachine (.code y_Mo_newMachine b_Mo_newMachine 5 (some .int) :: BIG) 0 0 0 0 [.ref (A 0), .int (nI n'), .int (nI k')] L f (fun v L' f' => v = some (.int (nI mc)) ∧ L' = L ∧ gF w 100 f f' ∧ ∃ (nx' ou' : Nat → Nat), MoAt G L f' w 100 A th (mc + 1) (va_up sa mc n') (va_up ka mc k') nx' ou' wl wd ap fo se fr by_ is tr my ss tf tb ∧ (∀ q, (q < 160 * mc ∨ 160 * mc + 160 ≤ q) → nx' q = nx q ∧ ou' q = ou q) ∧ ∀ q, q < 160 → nx' (160 * mc + q) = q / 4 ∧ ou' (160 * mc + q) = 0) := by
  refine con_of (cc := b_Mo_newMachine) (mL := 5) (lv := [some (.ref (A 0)), some (.int (nI n')), some (.int (nI k')), none, none]) (by decide) (by intro w hw; simp at hw; rcases hw with rfl | rfl | rfl <;> rfl) (by first | exact Nat.le_of_ble_eq_true rfl | decide) rfl ?_
  intro x hx hr hin
  have hF0 := gF.rf (w := w) (id := 100) (f := f)
  refine v_aload_n hx d_Mo_newMachine_0 rfl rfl ?_
  refine v_get hx cf_Mo 2 (by decide) k_Mo_7 d_Mo_newMachine_1 hM.m0 hM.f0 rfl ?_
  refine v_aload_n hx d_Mo_newMachine_4 rfl rfl ?_
  refine v_get hx cf_Mo 1 (by decide) k_Mo_57 d_Mo_newMachine_5 hM.m0 hM.f0 rfl ?_
  refine v_iload_n hx d_Mo_newMachine_8 rfl rfl ?_
  refine nn_iast hx d_Mo_newMachine_9 hM.m1 hM.f1 (by omega) (by decide) (fun f1 hf1 => ?_)
  have mf1 := hM.up1 hf1
  have Ff1 := hF0.up hf1 hM.o1
  refine v_aload_n hx d_Mo_newMachine_10 rfl rfl ?_
  refine v_get hx cf_Mo 3 (by decide) k_Mo_13 d_Mo_newMachine_11 mf1.m0 mf1.f0 rfl ?_
  refine v_aload_n hx d_Mo_newMachine_14 rfl rfl ?_
  refine v_get hx cf_Mo 1 (by decide) k_Mo_57 d_Mo_newMachine_15 mf1.m0 mf1.f0 rfl ?_
  refine v_iload_n hx d_Mo_newMachine_18 rfl rfl ?_
  refine nn_iast hx d_Mo_newMachine_19 mf1.m2 mf1.f2 (by omega) (by decide) (fun f2 hf2 => ?_)
  have mf2 := mf1.up2 hf2
  have Ff2 := Ff1.up hf2 mf1.o2
  refine v_iconst (v := (nI 0)) hx d_Mo_newMachine_20 rfl ?_
  refine v_istore_n (lv' := [some (.ref (A 0)), some (.int (nI n')), some (.int (nI k')), some (.int (nI 0)), none]) hx d_Mo_newMachine_21 rfl (by decide) rfl ?_
  have H22 : ∀ (fu : Nat) (s : Nat) (f1 : Nat → va_E) (nx1 : Nat → Nat) (ou1 : Nat → Nat), 40 - s < fu → (s ≤ 40) → (MoAt G L f1 w 100 A th mc (va_up sa mc n') (va_up ka mc k') nx1 ou1 wl wd ap fo se fr by_ is tr my ss tf tb) → (gF w 100 f f1) → (∀ q, (q < 160 * mc ∨ 160 * mc + 4 * s ≤ q) → nx1 q = nx q ∧ ou1 q = ou q) → (∀ q, q < 4 * s → nx1 (160 * mc + q) = q / 4 ∧ ou1 (160 * mc + q) = 0) → V G { frames := 0, cells := 0, slots := 0, locals := 0 } 5 x L f1 0 0 [some (.ref (A 0)), some (.int (nI n')), some (.int (nI k')), some (.int (nI s)), none] 22 [] := by
    intro fu
    induction fu with
    | zero => intro s f1 nx1 ou1 hm; exact absurd hm (Nat.not_lt_zero _)
    | succ fu ih =>
      intro s f1 nx1 ou1 hm hs hM1 hF1 hold hnew
      have ihO := ih
      refine v_iload_n hx d_Mo_newMachine_22 rfl rfl ?_
      refine v_bipush (v := (nI 40)) hx d_Mo_newMachine_23 rfl ?_
      refine n_icmp_ge (tgt := 91) hx d_Mo_newMachine_25 (by decide) (by omega) (by omega) (fun c25 => ?_) (fun c25 => ?_)
      · have e40 : s = 40 := by omega
        refine v_aload_n hx d_Mo_newMachine_91 rfl rfl ?_
        refine v_dup hx d_Mo_newMachine_92 rfl ?_
        refine v_get hx cf_Mo 1 (by decide) k_Mo_57 d_Mo_newMachine_93 hM1.m0 hM1.f0 rfl ?_
        refine v_iconst (v := (nI 1)) hx d_Mo_newMachine_96 rfl ?_
        refine n_iadd hx d_Mo_newMachine_97 ?_
        refine v_put hx cf_Mo 1 (by decide) k_Mo_57 rfl rfl rfl d_Mo_newMachine_98 hM1.m0 hM1.f0 (Nat.le_of_ble_eq_true rfl) (fun f3 hf3 => ?_)
        have mf3 := hM1.up0 hf3
        have Ff3 := hF1.up hf3 hM1.o0
        refine v_aload_n hx d_Mo_newMachine_101 rfl rfl ?_
        refine v_get hx cf_Mo 1 (by decide) k_Mo_57 d_Mo_newMachine_102 mf3.m0 mf3.f0 rfl ?_
        refine v_iconst (v := (nI 1)) hx d_Mo_newMachine_105 rfl ?_
        refine n_isub hx d_Mo_newMachine_106 (by omega) ?_
        exact v_iret hx hr d_Mo_newMachine_107 ⟨by rw [Nat.add_sub_cancel], rfl, Ff3, nx1, ou1, mf3, fun q hq => hold q (by omega), fun q hq => hnew q (by omega)⟩
      · refine v_iconst (v := (nI 0)) hx d_Mo_newMachine_28 rfl ?_
        refine v_istore (lv' := [some (.ref (A 0)), some (.int (nI n')), some (.int (nI k')), some (.int (nI s)), some (.int (nI 0))]) hx d_Mo_newMachine_29 (by decide) rfl ?_
        have H31 : ∀ (fu : Nat) (i : Nat) (f1 : Nat → va_E) (nx1 : Nat → Nat) (ou1 : Nat → Nat), 4 - i < fu → (i ≤ 4) → (MoAt G L f1 w 100 A th mc (va_up sa mc n') (va_up ka mc k') nx1 ou1 wl wd ap fo se fr by_ is tr my ss tf tb) → (gF w 100 f f1) → (∀ q, (q < 160 * mc ∨ 160 * mc + (4 * s + i) ≤ q) → nx1 q = nx q ∧ ou1 q = ou q) → (∀ q, q < (4 * s + i) → nx1 (160 * mc + q) = q / 4 ∧ ou1 (160 * mc + q) = 0) → V G { frames := 0, cells := 0, slots := 0, locals := 0 } 5 x L f1 0 0 [some (.ref (A 0)), some (.int (nI n')), some (.int (nI k')), some (.int (nI s)), some (.int (nI i))] 31 [] := by
          intro fu
          induction fu with
          | zero => intro i f1 nx1 ou1 hm; exact absurd hm (Nat.not_lt_zero _)
          | succ fu ih =>
            intro i f1 nx1 ou1 hm hi hM1 hF1 hold hnew
            refine v_iload hx d_Mo_newMachine_31 rfl ?_
            refine v_iconst (v := (nI 4)) hx d_Mo_newMachine_33 rfl ?_
            refine n_icmp_ge (tgt := 85) hx d_Mo_newMachine_34 (by decide) (by omega) (by omega) (fun c34 => ?_) (fun c34 => ?_)
            · refine n_iinc (lv' := [some (.ref (A 0)), some (.int (nI n')), some (.int (nI k')), some (.int (nI (s + 1))), some (.int (nI i))]) hx d_Mo_newMachine_85 rfl (by decide) rfl ?_
              refine v_goto (tgt := 22) hx d_Mo_newMachine_88 (by decide) ?_
              have e4 : i = 4 := by omega
              exact v_weak (by simp [vsub]) (ihO (s + 1) f1 nx1 ou1 (by omega) (by omega) hM1 hF1 (fun q hq => hold q (by omega)) (fun q hq => hnew q (by omega)))
            · refine v_aload_n hx d_Mo_newMachine_37 rfl rfl ?_
              refine v_get hx cf_Mo 4 (by decide) k_Mo_16 d_Mo_newMachine_38 hM1.m0 hM1.f0 rfl ?_
              refine v_sipush (v := (nI 160)) hx d_Mo_newMachine_41 rfl ?_
              refine v_aload_n hx d_Mo_newMachine_44 rfl rfl ?_
              refine v_get hx cf_Mo 1 (by decide) k_Mo_57 d_Mo_newMachine_45 hM1.m0 hM1.f0 rfl ?_
              refine n_imul hx d_Mo_newMachine_48 ?_
              refine v_iconst (v := (nI 4)) hx d_Mo_newMachine_49 rfl ?_
              refine v_iload_n hx d_Mo_newMachine_50 rfl rfl ?_
              refine n_imul hx d_Mo_newMachine_51 ?_
              refine n_iadd hx d_Mo_newMachine_52 ?_
              refine v_iload hx d_Mo_newMachine_53 rfl ?_
              refine n_iadd hx d_Mo_newMachine_55 ?_
              refine v_iload_n hx d_Mo_newMachine_56 rfl rfl ?_
              refine nn_iast hx d_Mo_newMachine_57 hM1.m3 hM1.f3 (by omega) (by decide) (fun f3 hf3 => ?_)
              have mf3 := hM1.up3 hf3
              have Ff3 := hF1.up hf3 hM1.o3
              refine v_aload_n hx d_Mo_newMachine_58 rfl rfl ?_
              refine v_get hx cf_Mo 5 (by decide) k_Mo_19 d_Mo_newMachine_59 mf3.m0 mf3.f0 rfl ?_
              refine v_sipush (v := (nI 160)) hx d_Mo_newMachine_62 rfl ?_
              refine v_aload_n hx d_Mo_newMachine_65 rfl rfl ?_
              refine v_get hx cf_Mo 1 (by decide) k_Mo_57 d_Mo_newMachine_66 mf3.m0 mf3.f0 rfl ?_
              refine n_imul hx d_Mo_newMachine_69 ?_
              refine v_iconst (v := (nI 4)) hx d_Mo_newMachine_70 rfl ?_
              refine v_iload_n hx d_Mo_newMachine_71 rfl rfl ?_
              refine n_imul hx d_Mo_newMachine_72 ?_
              refine n_iadd hx d_Mo_newMachine_73 ?_
              refine v_iload hx d_Mo_newMachine_74 rfl ?_
              refine n_iadd hx d_Mo_newMachine_76 ?_
              refine v_iconst (v := (nI 0)) hx d_Mo_newMachine_77 rfl ?_
              refine nn_iast hx d_Mo_newMachine_78 mf3.m4 mf3.f4 (by omega) (by decide) (fun f4 hf4 => ?_)
              have mf4 := mf3.up4 hf4
              have Ff4 := Ff3.up hf4 mf3.o4
              refine n_iinc (lv' := [some (.ref (A 0)), some (.int (nI n')), some (.int (nI k')), some (.int (nI s)), some (.int (nI (i + 1)))]) hx d_Mo_newMachine_79 rfl (by decide) rfl ?_
              refine v_goto (tgt := 31) hx d_Mo_newMachine_82 (by decide) ?_
              refine ih (i + 1) f4 _ _ (by omega) (by omega) mf4 Ff4 (fun q hq => ?_) (fun q hq => ?_)
              · rw [va_up_ne _ _ (by omega), va_up_ne _ _ (by omega)]; exact hold q (by omega)
              · by_cases e : q = 4 * s + i
                · subst e
                  rw [show 160 * mc + 4 * s + i = 160 * mc + (4 * s + i) by omega, va_up_self, va_up_self]; exact ⟨by omega, rfl⟩
                · rw [va_up_ne _ _ (by omega), va_up_ne _ _ (by omega)]; exact hnew q (by omega)
        exact H31 _ 0 f1 nx1 ou1 (Nat.lt_succ_self _) (Nat.zero_le _) hM1 hF1 (fun q hq => hold q (by omega)) (fun q hq => hnew q (by omega))
  exact v_weak (by simp [vsub]) (H22 _ 0 f2 nx ou (Nat.lt_succ_self _) (Nat.zero_le _) mf2 Ff2 (fun _ _ => ⟨rfl, rfl⟩) (fun _ hq => absurd hq (by omega)))
