set_option maxHeartbeats 4000000 in
set_option maxRecDepth 100000 in
theorem c_Se_placeAt {G : GT} {L : List Nat} {f : Nat → va_E} {w : Nat → Nat} {id : Nat} {A : Nat → Nat} {nm : Nat → Option Nat} {pl st : Nat → Nat} {c : Nat} (hM : SeAt G L f w id A nm pl st c) (i : Nat) (hi : i < 4096) : Con G y_Se_placeAt (.code y_Se_placeAt b_Se_placeAt 2 (some .int) :: BIG) 0 0 0 0 [.ref (A 0), .int (nI i)] L f (fun v L' f' => v = some (.int (nI (pl i))) ∧ L' = L ∧ f' = f) := by
  refine con_of (cc := b_Se_placeAt) (mL := 2) (lv := [some (.ref (A 0)), some (.int (nI i))]) (by decide) (by intro w hw; simp at hw; rcases hw with rfl | rfl <;> rfl) (by first | exact Nat.le_of_ble_eq_true rfl | decide) rfl ?_
  intro x hx hr hin
  refine v_aload_n hx d_Se_placeAt_0 rfl rfl ?_
  refine v_get hx cf_Se 1 (by decide) k_Se_15 d_Se_placeAt_1 hM.m0 hM.f0 rfl ?_
  refine v_iload_n hx d_Se_placeAt_4 rfl rfl ?_
  refine n_iald hx d_Se_placeAt_5 hM.m2 hM.f2 (by omega) (by decide) ?_
  exact v_iret hx hr d_Se_placeAt_6 ⟨rfl, rfl, rfl⟩
set_option maxHeartbeats 4000000 in
set_option maxRecDepth 100000 in
theorem c_Se_numberOf {G : GT} {L : List Nat} {f : Nat → va_E} {w : Nat → Nat} {id : Nat} {A : Nat → Nat} {nm : Nat → Option Nat} {pl st : Nat → Nat} {c : Nat} (hM : SeAt G L f w id A nm pl st c) (i : Nat) (hi : i < 4096) : Con G y_Se_numberOf (.code y_Se_numberOf b_Se_numberOf 2 (some .int) :: BIG) 0 0 0 0 [.ref (A 0), .int (nI i)] L f (fun v L' f' => v = some (.int (oI (nm i))) ∧ L' = L ∧ f' = f) := by
  refine con_of (cc := b_Se_numberOf) (mL := 2) (lv := [some (.ref (A 0)), some (.int (nI i))]) (by decide) (by intro w hw; simp at hw; rcases hw with rfl | rfl <;> rfl) (by first | exact Nat.le_of_ble_eq_true rfl | decide) rfl ?_
  intro x hx hr hin
  refine v_aload_n hx d_Se_numberOf_0 rfl rfl ?_
  refine v_get hx cf_Se 0 (by decide) k_Se_9 d_Se_numberOf_1 hM.m0 hM.f0 rfl ?_
  refine v_iload_n hx d_Se_numberOf_4 rfl rfl ?_
  refine n_iald hx d_Se_numberOf_5 hM.m1 hM.f1 (by omega) (by decide) ?_
  exact v_iret hx hr d_Se_numberOf_6 ⟨rfl, rfl, rfl⟩
set_option maxHeartbeats 4000000 in
set_option maxRecDepth 100000 in
theorem c_Se_note {G : GT} {L : List Nat} {f : Nat → va_E} {w : Nat → Nat} {id : Nat} {A : Nat → Nat} {nm : Nat → Option Nat} {pl st : Nat → Nat} {c : Nat} (hM : SeAt G L f w id A nm pl st c) (fr i : Nat) (hc : c < 4096) : Con G y_Se_note (.code y_Se_note b_Se_note 3 (some .int) :: BIG) 0 0 0 0 [.ref (A 0), .int (nI fr), .int (nI i)] L f (fun v L' f' => v = some (.int (nI c)) ∧ L' = L ∧ SeAt G L f' w id A nm pl (va_up st c (fr * 4 + i)) (c + 1) ∧ gF w id f f') := by
  refine con_of (cc := b_Se_note) (mL := 3) (lv := [some (.ref (A 0)), some (.int (nI fr)), some (.int (nI i))]) (by decide) (by intro w hw; simp at hw; rcases hw with rfl | rfl | rfl <;> rfl) (by first | exact Nat.le_of_ble_eq_true rfl | decide) rfl ?_
  intro x hx hr hin
  refine v_aload_n hx d_Se_note_0 rfl rfl ?_
  refine v_get hx cf_Se 2 (by decide) k_Se_18 d_Se_note_1 hM.m0 hM.f0 rfl ?_
  refine v_aload_n hx d_Se_note_4 rfl rfl ?_
  refine v_get hx cf_Se 3 (by decide) k_Se_27 d_Se_note_5 hM.m0 hM.f0 rfl ?_
  refine v_iload_n hx d_Se_note_8 rfl rfl ?_
  refine v_iconst (v := (nI 4)) hx d_Se_note_9 rfl ?_
  refine n_imul hx d_Se_note_10 ?_
  refine v_iload_n hx d_Se_note_11 rfl rfl ?_
  refine n_iadd hx d_Se_note_12 ?_
  refine nn_iast hx d_Se_note_13 hM.m3 hM.f3 (by omega) (by decide) (fun f1 hf1 => ?_)
  have hF := gF.up (gF.rf (w := w) (id := id) (f := f)) hf1 hM.o3
  have hM := hM.up3 hf1
  refine v_aload_n hx d_Se_note_14 rfl rfl ?_
  refine v_dup hx d_Se_note_15 rfl ?_
  refine v_get hx cf_Se 3 (by decide) k_Se_27 d_Se_note_16 hM.m0 hM.f0 rfl ?_
  refine v_iconst (v := (nI 1)) hx d_Se_note_19 rfl ?_
  refine n_iadd hx d_Se_note_20 ?_
  refine v_put hx cf_Se 3 (by decide) k_Se_27 rfl rfl rfl d_Se_note_21 hM.m0 hM.f0 (Nat.le_of_ble_eq_true rfl) (fun f2 hf2 => ?_)
  have hF := hF.up hf2 hM.o0
  have hM := hM.up0 hf2
  refine v_aload_n hx d_Se_note_24 rfl rfl ?_
  refine v_get hx cf_Se 3 (by decide) k_Se_27 d_Se_note_25 hM.m0 hM.f0 rfl ?_
  refine v_iconst (v := (nI 1)) hx d_Se_note_28 rfl ?_
  refine n_isub hx d_Se_note_29 (by omega) ?_
  exact v_iret hx hr d_Se_note_30 ⟨by rw [Nat.add_sub_cancel], rfl, hM, hF⟩
theorem fil_oI (g : Nat → Option Nat) (a b : Nat) : fil (fun k => oI (g k)) a b (-1) = fun k => oI (if a ≤ k ∧ k < b then none else g k) := by
  funext j
  simp only [fil]
  split <;> rfl
set_option maxHeartbeats 4000000 in
set_option maxRecDepth 100000 in
theorem c_Se_begin {G : GT} {L : List Nat} {f : Nat → va_E} {w : Nat → Nat} {id : Nat} {A : Nat → Nat} {nm : Nat → Option Nat} {pl st : Nat → Nat} {c : Nat} (hM : SeAt G L f w id A nm pl st c) (D : Nat) (hD : D ≤ 4096) : Con G y_Se_begin (.code y_Se_begin b_Se_begin 2 none :: BIG) 2 46 0 0 [.ref (A 0), .int (nI D)] L f (fun v L' f' => v = none ∧ L' = L ∧ (∃ nm' : Nat → Option Nat, SeAt G L f' w id A nm' pl st 0 ∧ SeQ nm' pl st 0 D []) ∧ gF w id f f') := by
  refine con_of (cc := b_Se_begin) (mL := 2) (lv := [some (.ref (A 0)), some (.int (nI D))]) (by decide) (by intro w hw; simp at hw; rcases hw with rfl | rfl <;> rfl) (by first | exact Nat.le_of_ble_eq_true rfl | decide) rfl ?_
  intro x hx hr hin
  refine v_aload_n hx d_Se_begin_0 rfl rfl ?_
  refine v_get hx cf_Se 0 (by decide) k_Se_9 d_Se_begin_1 hM.m0 hM.f0 rfl ?_
  refine v_iconst (v := (nI 0)) hx d_Se_begin_4 rfl ?_
  refine v_iload_n hx d_Se_begin_5 rfl rfl ?_
  refine v_iconst (v := (-1)) hx d_Se_begin_6 rfl ?_
  refine v_callS (as := [.ref (A 1), .int (nI 0), .int (nI D), .int (-1)]) hx (c_Ar_fill hM.m1 hM.f1 (by decide) 0 D (-1) (Nat.zero_le _) hD) cy_Ar_fill k_Se_21 ks_Ar_fill d_Se_begin_7 (by decide) (by decide) rfl rfl (Nat.le_of_ble_eq_true rfl) (fun v1 L f1 p1 => ?_)
  obtain ⟨rfl, rfl, e7⟩ := p1
  rw [fil_oI] at e7
  have hF := gF.up (gF.rf (w := w) (id := id) (f := f)) e7 hM.o1
  have hM := hM.up1 e7
  refine v_aload_n hx d_Se_begin_10 rfl rfl ?_
  refine v_iconst (v := (nI 0)) hx d_Se_begin_11 rfl ?_
  refine v_put hx cf_Se 3 (by decide) k_Se_27 rfl rfl rfl d_Se_begin_12 hM.m0 hM.f0 (Nat.le_of_ble_eq_true rfl) (fun f2 hf2 => ?_)
  have hF := hF.up hf2 hM.o0
  have hM := hM.up0 hf2
  exact v_vret hx hr d_Se_begin_15 ⟨rfl, rfl, ⟨_, hM, rfl, fun i hi => absurd hi (Nat.not_lt_zero _), fun p hp _ => if_pos ⟨Nat.zero_le _, hp⟩⟩, hF⟩
set_option maxHeartbeats 4000000 in
set_option maxRecDepth 100000 in
theorem c_Se_reach {G : GT} {L : List Nat} {f : Nat → va_E} {w : Nat → Nat} {id : Nat} {A : Nat → Nat} {nm : Nat → Option Nat} {pl st : Nat → Nat} {c : Nat} (hM : SeAt G L f w id A nm pl st c) {D : Nat} {q : Qu} (hQ : SeQ nm pl st c D q) (hO : qOK q D) (p fr i : Nat) (hD : D ≤ 4096) (hp : p < D) (hfr : fr < q.length ∨ q.length = 0 ∧ fr = 0) (hi : i < 4) : Con G y_Se_reach (.code y_Se_reach b_Se_reach 4 none :: BIG) 1 22 0 0 [.ref (A 0), .int (nI p), .int (nI fr), .int (nI i)] L f (fun v L' f' => v = none ∧ L' = L ∧ (∃ (nm' : Nat → Option Nat) (pl' st' : Nat → Nat), SeAt G L f' w id A nm' pl' st' (qr q p fr i).length ∧ SeQ nm' pl' st' (qr q p fr i).length D (qr q p fr i)) ∧ gF w id f f') := by
  refine con_of (cc := b_Se_reach) (mL := 4) (lv := [some (.ref (A 0)), some (.int (nI p)), some (.int (nI fr)), some (.int (nI i))]) (by decide) (by intro w hw; simp at hw; rcases hw with rfl | rfl | rfl | rfl <;> rfl) (by first | exact Nat.le_of_ble_eq_true rfl | decide) rfl ?_
  intro x hx hr hin
  have hcl := hO.len
  have hce := hQ.1
  have hnk : ∀ k, nm p = some k → k < 2 ^ 31 := by
    intro k hk
    by_cases hm : p ∈ qPs q
    · obtain ⟨j, hj, e⟩ := qP_ex hm
      have := (hQ.2.1 j (by omega)).2.2
      rw [e, hk] at this; cases this; omega
    · rw [hQ.2.2 p hp hm] at hk; cases hk
  refine v_aload_n hx d_Se_reach_0 rfl rfl ?_
  refine v_get hx cf_Se 0 (by decide) k_Se_9 d_Se_reach_1 hM.m0 hM.f0 rfl ?_
  refine v_iload_n hx d_Se_reach_4 rfl rfl ?_
  refine n_iald hx d_Se_reach_5 hM.m1 hM.f1 (by omega) (by decide) ?_
  refine v_iconst (v := (-1)) hx d_Se_reach_6 rfl ?_
  refine v_icmp_ne (tgt := 32) hx d_Se_reach_7 (by decide) (fun c7 => ?_) (fun c7 => ?_)
  · have hm : p ∈ qPs q := Classical.not_not.mp (fun z => c7 (by rw [(hQ.none_iff hp).mpr z]; rfl))
    have e7 : qr q p fr i = q := if_pos hm
    exact v_vret hx hr d_Se_reach_32 ⟨rfl, rfl, ⟨nm, pl, st, by rw [e7, ← hce]; exact hM, by rw [e7, ← hce]; exact hQ⟩, gF.rf⟩
  · have hno : nm p = none := (oI_m1 hnk).mp c7
    have hnm := (hQ.none_iff hp).mp hno
    have hO2 := (hO.add hp hfr hi hnm).len
    have hcc : c < 4096 := by simp at hO2; omega
    refine v_aload_n hx d_Se_reach_10 rfl rfl ?_
    refine v_get hx cf_Se 1 (by decide) k_Se_15 d_Se_reach_11 hM.m0 hM.f0 rfl ?_
    refine v_aload_n hx d_Se_reach_14 rfl rfl ?_
    refine v_get hx cf_Se 3 (by decide) k_Se_27 d_Se_reach_15 hM.m0 hM.f0 rfl ?_
    refine v_iload_n hx d_Se_reach_18 rfl rfl ?_
    refine nn_iast hx d_Se_reach_19 hM.m2 hM.f2 (by omega) (by decide) (fun f1 hf1 => ?_)
    have hF := gF.up (gF.rf (w := w) (id := id) (f := f)) hf1 hM.o2
    have hM := hM.up2 hf1
    refine v_aload_n hx d_Se_reach_20 rfl rfl ?_
    refine v_get hx cf_Se 0 (by decide) k_Se_9 d_Se_reach_21 hM.m0 hM.f0 rfl ?_
    refine v_iload_n hx d_Se_reach_24 rfl rfl ?_
    refine v_aload_n hx d_Se_reach_25 rfl rfl ?_
    refine v_iload_n hx d_Se_reach_26 rfl rfl ?_
    refine v_iload_n hx d_Se_reach_27 rfl rfl ?_
    refine v_callV (as := [.int (nI fr), .int (nI i)]) (q := (R_Se, T_Se, 4)) hx (c_Se_note hM fr i hcc) cy_Se_note k_Se_31 ki_Se_note kl_Se_note d_Se_reach_28 (by decide) (ci := 2) rfl hM.m0 hM.f0 (by decide) rfl rfl (Nat.le_of_ble_eq_true rfl) (fun v2 L f5 p2 => ?_)
    obtain ⟨rfl, rfl, hM5, hF5⟩ := p2
    have hF := hF.tr hF5
    have hM := hM5
    refine no_iast (v := some c) hx d_Se_reach_31 hM.m1 hM.f1 (by omega) (by decide) (fun f3 hf3 => ?_)
    have hF := hF.up hf3 hM.o1
    have hM := hM.up1 hf3
    have e9 : qr q p fr i = q ++ [(p, fr, i)] := if_neg hnm
    have e8 : (q ++ [(p, fr, i)]).length = c + 1 := by simp; omega
    exact v_vret hx hr d_Se_reach_32 ⟨rfl, rfl, ⟨_, _, _, by rw [e9, e8]; exact hM, by rw [e9, e8]; exact hQ.add hp hnm⟩, hF⟩
set_option maxHeartbeats 4000000 in
set_option maxRecDepth 100000 in
/-- a new search -/
theorem c_Se_init {G : GT} {L : List Nat} {f : Nat → va_E} {w : Nat → Nat} {id o : Nat} (ho : o ∈ L) (hw : w o = id) (hf : f o = .inr (2, [.null, .null, .null, .int 0])) : Con G y_Se_init (.code y_Se_init b_Se_init 1 none :: BIG) 1 12 3 12288 [.ref o] L f (fun v L' f' => v = none ∧ ∃ (A w' : Nat → Nat), A 0 = o ∧ (∀ q, q ∈ L → q ∈ L') ∧ (∀ q, q ∈ L → w' q = w q) ∧ (∀ q, q ∉ L → w' q = id) ∧ SeAt G L' f' w' id A (fun _ => some 0) (fun _ => 0) (fun _ => 0) 0 ∧ ∀ q, q ∈ L → q ≠ o → f' q = f q) := by
  refine con_of (cc := b_Se_init) (mL := 1) (lv := [some (.ref o)]) (by decide) (by intro w hw; simp at hw; rcases hw with rfl <;> rfl) (by first | exact Nat.le_of_ble_eq_true rfl | decide) rfl ?_
  intro x hx hr hin
  refine v_aload_n hx d_Se_init_0 rfl rfl ?_
  refine v_objInit hx k_Se_3 ki_Ob_init kc_Ob_init d_Se_init_1 (by decide) ?_
  refine v_aload_n hx d_Se_init_4 rfl rfl ?_
  refine v_sipush (v := (nI 4096)) hx d_Se_init_5 rfl ?_
  refine m_newa hx d_Se_init_8 (by decide) (by decide) (by decide) (fun q1 g1 hq1 eq1 => ?_)
  have mo1 := List.mem_append_left [q1] ho
  have z1 : o ≠ q1 := fun z => hq1 (z ▸ ho)
  have po1 := (congrFun eq1 o).trans ((va_up_ne _ _ z1).trans hf)
  refine v_putF hx cf_Se 0 (by decide) k_Se_9 rfl hin rfl rfl rfl d_Se_init_10 mo1 po1 (Nat.le_of_ble_eq_true rfl) (fun k1 hk1 => ?_)
  have ho1 := (congrFun hk1 o).trans (va_up_self _ _ _)
  refine v_aload_n hx d_Se_init_13 rfl rfl ?_
  refine v_sipush (v := (nI 4096)) hx d_Se_init_14 rfl ?_
  refine m_newa hx d_Se_init_17 (by decide) (by decide) (by decide) (fun q2 g2 hq2 eq2 => ?_)
  have mo2 := List.mem_append_left [q2] mo1
  have z2 : o ≠ q2 := fun z => hq2 (z ▸ mo1)
  have po2 := (congrFun eq2 o).trans ((va_up_ne _ _ z2).trans ho1)
  refine v_putF hx cf_Se 1 (by decide) k_Se_15 rfl hin rfl rfl rfl d_Se_init_19 mo2 po2 (Nat.le_of_ble_eq_true rfl) (fun k2 hk2 => ?_)
  have ho2 := (congrFun hk2 o).trans (va_up_self _ _ _)
  refine v_aload_n hx d_Se_init_22 rfl rfl ?_
  refine v_sipush (v := (nI 4096)) hx d_Se_init_23 rfl ?_
  refine m_newa hx d_Se_init_26 (by decide) (by decide) (by decide) (fun q3 g3 hq3 eq3 => ?_)
  have mo3 := List.mem_append_left [q3] mo2
  have z3 : o ≠ q3 := fun z => hq3 (z ▸ mo2)
  have po3 := (congrFun eq3 o).trans ((va_up_ne _ _ z3).trans ho2)
  refine v_putF hx cf_Se 2 (by decide) k_Se_18 rfl hin rfl rfl rfl d_Se_init_28 mo3 po3 (Nat.le_of_ble_eq_true rfl) (fun k3 hk3 => ?_)
  have ho3 := (congrFun hk3 o).trans (va_up_self _ _ _)
  have hL : L ++ [q1] ++ [q2] ++ [q3] = L ++ [q1, q2, q3] := by simp
  have n1 : q1 ≠ o := Ne.symm z1
  have n2 : q2 ≠ o := Ne.symm z2
  have n3 : q3 ≠ o := Ne.symm z3
  simp only [List.mem_append, List.mem_singleton, not_or] at hq1 hq2 hq3
  have hO := own_of (L := L) (w := w) (id := id) (o := o) [q1, q2, q3] ho hw (by simp [Ne.symm hq2.2, Ne.symm hq3.1.2, Ne.symm hq3.2]) (by simp [hq1, hq2, hq3])
  rw [hL]
  refine v_vret hx hr d_Se_init_31 ⟨rfl, _, _, rfl, fun q h => List.mem_append_left _ h, fun q h => if_pos h, fun q h => if_neg h, ⟨hO, ho3, ?_, ?_, ?_⟩, fun q h1 h2 => ?_⟩
  · show k3 q1 = _; rw [hk3, va_up_ne _ _ n1, eq3, va_up_ne _ _ (Ne.symm hq3.1.2), hk2, va_up_ne _ _ n1, eq2, va_up_ne _ _ (Ne.symm hq2.2), hk1, va_up_ne _ _ n1, eq1, va_up_self]; first | done | rfl
  · show k3 q2 = _; rw [hk3, va_up_ne _ _ n2, eq3, va_up_ne _ _ (Ne.symm hq3.2), hk2, va_up_ne _ _ n2, eq2, va_up_self]; first | done | rfl
  · show k3 q3 = _; rw [hk3, va_up_ne _ _ n3, eq3, va_up_self]; first | done | rfl
  · rw [hk3, va_up_ne _ _ h2, eq3, va_up_ne _ _ (show q ≠ q3 from fun z => hq3.1.1 (z ▸ h1)), hk2, va_up_ne _ _ h2, eq2, va_up_ne _ _ (show q ≠ q2 from fun z => hq2.1 (z ▸ h1)), hk1, va_up_ne _ _ h2, eq1, va_up_ne _ _ (show q ≠ q1 from fun z => hq1 (z ▸ h1))]
set_option maxHeartbeats 4000000 in
set_option maxRecDepth 100000 in
/-- new families -/
theorem c_Fa_init {G : GT} {L : List Nat} {f : Nat → va_E} {w : Nat → Nat} {id o : Nat} (ho : o ∈ L) (hw : w o = id) (hf : f o = .inr (0, [.null, .null, .null, .int 0])) : Con G y_Fa_init (.code y_Fa_init b_Fa_init 1 none :: BIG) 1 12 3 3910 [.ref o] L f (fun v L' f' => v = none ∧ ∃ (A w' : Nat → Nat), A 0 = o ∧ (∀ q, q ∈ L → q ∈ L') ∧ (∀ q, q ∈ L → w' q = w q) ∧ (∀ q, q ∉ L → w' q = id) ∧ FaAt G L' f' w' id A (fun _ => 0) (fun _ => 0) (fun _ => 0) 0 ∧ ∀ q, q ∈ L → q ≠ o → f' q = f q) := by
  refine con_of (cc := b_Fa_init) (mL := 1) (lv := [some (.ref o)]) (by decide) (by intro w hw; simp at hw; rcases hw with rfl <;> rfl) (by first | exact Nat.le_of_ble_eq_true rfl | decide) rfl ?_
  intro x hx hr hin
  refine v_aload_n hx d_Fa_init_0 rfl rfl ?_
  refine v_objInit hx k_Fa_3 ki_Ob_init kc_Ob_init d_Fa_init_1 (by decide) ?_
  refine v_aload_n hx d_Fa_init_4 rfl rfl ?_
  refine v_sipush (v := (nI 3600)) hx d_Fa_init_5 rfl ?_
  refine m_newa hx d_Fa_init_8 (by decide) (by decide) (by decide) (fun q1 g1 hq1 eq1 => ?_)
  have mo1 := List.mem_append_left [q1] ho
  have z1 : o ≠ q1 := fun z => hq1 (z ▸ ho)
  have po1 := (congrFun eq1 o).trans ((va_up_ne _ _ z1).trans hf)
  refine v_putF hx cf_Fa 0 (by decide) k_Fa_9 rfl hin rfl rfl rfl d_Fa_init_10 mo1 po1 (Nat.le_of_ble_eq_true rfl) (fun k1 hk1 => ?_)
  have ho1 := (congrFun hk1 o).trans (va_up_self _ _ _)
  refine v_aload_n hx d_Fa_init_13 rfl rfl ?_
  refine v_sipush (v := (nI 300)) hx d_Fa_init_14 rfl ?_
  refine m_newa hx d_Fa_init_17 (by decide) (by decide) (by decide) (fun q2 g2 hq2 eq2 => ?_)
  have mo2 := List.mem_append_left [q2] mo1
  have z2 : o ≠ q2 := fun z => hq2 (z ▸ mo1)
  have po2 := (congrFun eq2 o).trans ((va_up_ne _ _ z2).trans ho1)
  refine v_putF hx cf_Fa 1 (by decide) k_Fa_15 rfl hin rfl rfl rfl d_Fa_init_19 mo2 po2 (Nat.le_of_ble_eq_true rfl) (fun k2 hk2 => ?_)
  have ho2 := (congrFun hk2 o).trans (va_up_self _ _ _)
  refine v_aload_n hx d_Fa_init_22 rfl rfl ?_
  refine v_bipush (v := (nI 10)) hx d_Fa_init_23 rfl ?_
  refine m_newa hx d_Fa_init_25 (by decide) (by decide) (by decide) (fun q3 g3 hq3 eq3 => ?_)
  have mo3 := List.mem_append_left [q3] mo2
  have z3 : o ≠ q3 := fun z => hq3 (z ▸ mo2)
  have po3 := (congrFun eq3 o).trans ((va_up_ne _ _ z3).trans ho2)
  refine v_putF hx cf_Fa 2 (by decide) k_Fa_18 rfl hin rfl rfl rfl d_Fa_init_27 mo3 po3 (Nat.le_of_ble_eq_true rfl) (fun k3 hk3 => ?_)
  have ho3 := (congrFun hk3 o).trans (va_up_self _ _ _)
  have hL : L ++ [q1] ++ [q2] ++ [q3] = L ++ [q1, q2, q3] := by simp
  have n1 : q1 ≠ o := Ne.symm z1
  have n2 : q2 ≠ o := Ne.symm z2
  have n3 : q3 ≠ o := Ne.symm z3
  simp only [List.mem_append, List.mem_singleton, not_or] at hq1 hq2 hq3
  have hO := own_of (L := L) (w := w) (id := id) (o := o) [q1, q2, q3] ho hw (by simp [Ne.symm hq2.2, Ne.symm hq3.1.2, Ne.symm hq3.2]) (by simp [hq1, hq2, hq3])
  rw [hL]
  refine v_vret hx hr d_Fa_init_30 ⟨rfl, _, _, rfl, fun q h => List.mem_append_left _ h, fun q h => if_pos h, fun q h => if_neg h, ⟨hO, ho3, ?_, ?_, ?_⟩, fun q h1 h2 => ?_⟩
  · show k3 q1 = _; rw [hk3, va_up_ne _ _ n1, eq3, va_up_ne _ _ (Ne.symm hq3.1.2), hk2, va_up_ne _ _ n1, eq2, va_up_ne _ _ (Ne.symm hq2.2), hk1, va_up_ne _ _ n1, eq1, va_up_self]; first | done | rfl
  · show k3 q2 = _; rw [hk3, va_up_ne _ _ n2, eq3, va_up_ne _ _ (Ne.symm hq3.2), hk2, va_up_ne _ _ n2, eq2, va_up_self]; first | done | rfl
  · show k3 q3 = _; rw [hk3, va_up_ne _ _ n3, eq3, va_up_self]; first | done | rfl
  · rw [hk3, va_up_ne _ _ h2, eq3, va_up_ne _ _ (show q ≠ q3 from fun z => hq3.1.1 (z ▸ h1)), hk2, va_up_ne _ _ h2, eq2, va_up_ne _ _ (show q ≠ q2 from fun z => hq2.1 (z ▸ h1)), hk1, va_up_ne _ _ h2, eq1, va_up_ne _ _ (show q ≠ q1 from fun z => hq1 (z ▸ h1))]
