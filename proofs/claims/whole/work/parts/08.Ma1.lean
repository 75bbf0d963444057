set_option maxHeartbeats 4000000 in
set_option maxRecDepth 100000 in
/-- whether there is such a number -/
theorem c_Ma_hasState {G : GT} {L : List Nat} {f : Nat → va_E} {w : Nat → Nat} {id : Nat} {A : Nat → Nat} {nx ou lo fi : Nat → Nat} {n k b : Nat} (hM : MaAt G L f w id A nx ou lo fi n k b) (hn : n < 2 ^ 31) (p : Int32) : Con G y_Ma_hasState (.code y_Ma_hasState b_Ma_hasState 2 (some .boolean) :: BIG) 0 0 0 0 [.ref (A 0), .int p] L f (fun v L' f' => v = some (.int (bI (ix p n).isSome)) ∧ L' = L ∧ f' = f) := by
  refine con_of (cc := b_Ma_hasState) (mL := 2) (lv := [some (.ref (A 0)), some (.int p)]) (by decide) (by intro w hw; simp at hw; rcases hw with rfl | rfl <;> rfl) (by first | exact Nat.le_of_ble_eq_true rfl | decide) rfl ?_
  intro x hx hr hin
  refine v_iload_n hx d_Ma_hasState_0 rfl rfl ?_
  refine v_if_lt (tgt := 16) hx d_Ma_hasState_1 (by decide) (fun c1 => ?_) (fun c1 => ?_)
  · refine v_iconst (v := (nI 0)) hx d_Ma_hasState_16 rfl ?_
    exact v_zret hx hr d_Ma_hasState_17 rfl ⟨by rw [ix_neg c1]; rfl, rfl, rfl⟩
  · refine v_iload_n hx d_Ma_hasState_4 rfl rfl ?_
    refine v_aload_n hx d_Ma_hasState_5 rfl rfl ?_
    refine v_get hx cf_Ma 4 (by decide) k_Ma_24 d_Ma_hasState_6 hM.m0 hM.f0 rfl ?_
    refine v_icmp_ge (tgt := 16) hx d_Ma_hasState_9 (by decide) (fun c9 => ?_) (fun c9 => ?_)
    · refine v_iconst (v := (nI 0)) hx d_Ma_hasState_16 rfl ?_
      exact v_zret hx hr d_Ma_hasState_17 rfl ⟨by rw [ix_ge hn c9]; rfl, rfl, rfl⟩
    · refine v_iconst (v := (nI 1)) hx d_Ma_hasState_12 rfl ?_
      refine v_goto (tgt := 17) hx d_Ma_hasState_13 (by decide) ?_
      exact v_zret hx hr d_Ma_hasState_17 rfl ⟨by obtain ⟨j, e, -, -⟩ := ix_in hn c1 c9; rw [e]; rfl, rfl, rfl⟩
set_option maxHeartbeats 4000000 in
set_option maxRecDepth 100000 in
/-- whether there is such a number -/
theorem c_Ma_hasInput {G : GT} {L : List Nat} {f : Nat → va_E} {w : Nat → Nat} {id : Nat} {A : Nat → Nat} {nx ou lo fi : Nat → Nat} {n k b : Nat} (hM : MaAt G L f w id A nx ou lo fi n k b) (hn : k < 2 ^ 31) (p : Int32) : Con G y_Ma_hasInput (.code y_Ma_hasInput b_Ma_hasInput 2 (some .boolean) :: BIG) 0 0 0 0 [.ref (A 0), .int p] L f (fun v L' f' => v = some (.int (bI (ix p k).isSome)) ∧ L' = L ∧ f' = f) := by
  refine con_of (cc := b_Ma_hasInput) (mL := 2) (lv := [some (.ref (A 0)), some (.int p)]) (by decide) (by intro w hw; simp at hw; rcases hw with rfl | rfl <;> rfl) (by first | exact Nat.le_of_ble_eq_true rfl | decide) rfl ?_
  intro x hx hr hin
  refine v_iload_n hx d_Ma_hasInput_0 rfl rfl ?_
  refine v_if_lt (tgt := 16) hx d_Ma_hasInput_1 (by decide) (fun c1 => ?_) (fun c1 => ?_)
  · refine v_iconst (v := (nI 0)) hx d_Ma_hasInput_16 rfl ?_
    exact v_zret hx hr d_Ma_hasInput_17 rfl ⟨by rw [ix_neg c1]; rfl, rfl, rfl⟩
  · refine v_iload_n hx d_Ma_hasInput_4 rfl rfl ?_
    refine v_aload_n hx d_Ma_hasInput_5 rfl rfl ?_
    refine v_get hx cf_Ma 5 (by decide) k_Ma_28 d_Ma_hasInput_6 hM.m0 hM.f0 rfl ?_
    refine v_icmp_ge (tgt := 16) hx d_Ma_hasInput_9 (by decide) (fun c9 => ?_) (fun c9 => ?_)
    · refine v_iconst (v := (nI 0)) hx d_Ma_hasInput_16 rfl ?_
      exact v_zret hx hr d_Ma_hasInput_17 rfl ⟨by rw [ix_ge hn c9]; rfl, rfl, rfl⟩
    · refine v_iconst (v := (nI 1)) hx d_Ma_hasInput_12 rfl ?_
      refine v_goto (tgt := 17) hx d_Ma_hasInput_13 (by decide) ?_
      exact v_zret hx hr d_Ma_hasInput_17 rfl ⟨by obtain ⟨j, e, -, -⟩ := ix_in hn c1 c9; rw [e]; rfl, rfl, rfl⟩
set_option maxHeartbeats 4000000 in
set_option maxRecDepth 100000 in
/-- an arrow's half -/
theorem c_Ma_nextOf {G : GT} {L : List Nat} {f : Nat → va_E} {w : Nat → Nat} {id : Nat} {A : Nat → Nat} {nx ou lo fi : Nat → Nat} {n k b : Nat} (hM : MaAt G L f w id A nx ou lo fi n k b) (s i : Nat) (hs : s < 40) (hi : i < 4) : Con G y_Ma_nextOf (.code y_Ma_nextOf b_Ma_nextOf 3 (some .int) :: BIG) 0 0 0 0 [.ref (A 0), .int (nI s), .int (nI i)] L f (fun v L' f' => v = some (.int (nI (nx (s * 4 + i)))) ∧ L' = L ∧ f' = f) := by
  refine con_of (cc := b_Ma_nextOf) (mL := 3) (lv := [some (.ref (A 0)), some (.int (nI s)), some (.int (nI i))]) (by decide) (by intro w hw; simp at hw; rcases hw with rfl | rfl | rfl <;> rfl) (by first | exact Nat.le_of_ble_eq_true rfl | decide) rfl ?_
  intro x hx hr hin
  refine v_aload_n hx d_Ma_nextOf_0 rfl rfl ?_
  refine v_get hx cf_Ma 0 (by decide) k_Ma_9 d_Ma_nextOf_1 hM.m0 hM.f0 rfl ?_
  refine v_iload_n hx d_Ma_nextOf_4 rfl rfl ?_
  refine v_iconst (v := (nI 4)) hx d_Ma_nextOf_5 rfl ?_
  refine n_imul hx d_Ma_nextOf_6 ?_
  refine v_iload_n hx d_Ma_nextOf_7 rfl rfl ?_
  refine n_iadd hx d_Ma_nextOf_8 ?_
  refine n_iald hx d_Ma_nextOf_9 hM.m1 hM.f1 (by omega) (by decide) ?_
  exact v_iret hx hr d_Ma_nextOf_10 ⟨rfl, rfl, rfl⟩
set_option maxHeartbeats 4000000 in
set_option maxRecDepth 100000 in
/-- an arrow's half -/
theorem c_Ma_outputOf {G : GT} {L : List Nat} {f : Nat → va_E} {w : Nat → Nat} {id : Nat} {A : Nat → Nat} {nx ou lo fi : Nat → Nat} {n k b : Nat} (hM : MaAt G L f w id A nx ou lo fi n k b) (s i : Nat) (hs : s < 40) (hi : i < 4) : Con G y_Ma_outputOf (.code y_Ma_outputOf b_Ma_outputOf 3 (some .int) :: BIG) 0 0 0 0 [.ref (A 0), .int (nI s), .int (nI i)] L f (fun v L' f' => v = some (.int (nI (ou (s * 4 + i)))) ∧ L' = L ∧ f' = f) := by
  refine con_of (cc := b_Ma_outputOf) (mL := 3) (lv := [some (.ref (A 0)), some (.int (nI s)), some (.int (nI i))]) (by decide) (by intro w hw; simp at hw; rcases hw with rfl | rfl | rfl <;> rfl) (by first | exact Nat.le_of_ble_eq_true rfl | decide) rfl ?_
  intro x hx hr hin
  refine v_aload_n hx d_Ma_outputOf_0 rfl rfl ?_
  refine v_get hx cf_Ma 1 (by decide) k_Ma_15 d_Ma_outputOf_1 hM.m0 hM.f0 rfl ?_
  refine v_iload_n hx d_Ma_outputOf_4 rfl rfl ?_
  refine v_iconst (v := (nI 4)) hx d_Ma_outputOf_5 rfl ?_
  refine n_imul hx d_Ma_outputOf_6 ?_
  refine v_iload_n hx d_Ma_outputOf_7 rfl rfl ?_
  refine n_iadd hx d_Ma_outputOf_8 ?_
  refine n_iald hx d_Ma_outputOf_9 hM.m2 hM.f2 (by omega) (by decide) ?_
  exact v_iret hx hr d_Ma_outputOf_10 ⟨rfl, rfl, rfl⟩
set_option maxHeartbeats 4000000 in
set_option maxRecDepth 100000 in
/-- the least that is like -/
theorem c_Ma_leastLike {G : GT} {L : List Nat} {f : Nat → va_E} {w : Nat → Nat} {id : Nat} {A : Nat → Nat} {nx ou lo fi : Nat → Nat} {n k b : Nat} (hM : MaAt G L f w id A nx ou lo fi n k b) (s : Nat) (hs : s < 40) : Con G y_Ma_leastLike (.code y_Ma_leastLike b_Ma_leastLike 2 (some .int) :: BIG) 0 0 0 0 [.ref (A 0), .int (nI s)] L f (fun v L' f' => v = some (.int (nI (lo s))) ∧ L' = L ∧ f' = f) := by
  refine con_of (cc := b_Ma_leastLike) (mL := 2) (lv := [some (.ref (A 0)), some (.int (nI s))]) (by decide) (by intro w hw; simp at hw; rcases hw with rfl | rfl <;> rfl) (by first | exact Nat.le_of_ble_eq_true rfl | decide) rfl ?_
  intro x hx hr hin
  refine v_aload_n hx d_Ma_leastLike_0 rfl rfl ?_
  refine v_get hx cf_Ma 2 (by decide) k_Ma_18 d_Ma_leastLike_1 hM.m0 hM.f0 rfl ?_
  refine v_iload_n hx d_Ma_leastLike_4 rfl rfl ?_
  refine n_iald hx d_Ma_leastLike_5 hM.m3 hM.f3 (by omega) (by decide) ?_
  exact v_iret hx hr d_Ma_leastLike_6 ⟨rfl, rfl, rfl⟩
set_option maxHeartbeats 4000000 in
set_option maxRecDepth 100000 in
/-- one arrow is written; nothing is settled then -/
theorem c_Ma_setArrow {G : GT} {L : List Nat} {f : Nat → va_E} {w : Nat → Nat} {id : Nat} {A : Nat → Nat} {nx ou lo fi : Nat → Nat} {n k b : Nat} (hM : MaAt G L f w id A nx ou lo fi n k b) (s i t o : Nat) (hs : s < 40) (hi : i < 4) : Con G y_Ma_setArrow (.code y_Ma_setArrow b_Ma_setArrow 5 none :: BIG) 0 0 0 0 [.ref (A 0), .int (nI s), .int (nI i), .int (nI t), .int (nI o)] L f (fun v L' f' => v = none ∧ L' = L ∧ MaAt G L f' w id A (va_up nx (s * 4 + i) t) (va_up ou (s * 4 + i) o) lo fi n k 0 ∧ gF w id f f') := by
  refine con_of (cc := b_Ma_setArrow) (mL := 5) (lv := [some (.ref (A 0)), some (.int (nI s)), some (.int (nI i)), some (.int (nI t)), some (.int (nI o))]) (by decide) (by intro w hw; simp at hw; rcases hw with rfl | rfl | rfl | rfl | rfl <;> rfl) (by first | exact Nat.le_of_ble_eq_true rfl | decide) rfl ?_
  intro x hx hr hin
  refine v_aload_n hx d_Ma_setArrow_0 rfl rfl ?_
  refine v_get hx cf_Ma 0 (by decide) k_Ma_9 d_Ma_setArrow_1 hM.m0 hM.f0 rfl ?_
  refine v_iload_n hx d_Ma_setArrow_4 rfl rfl ?_
  refine v_iconst (v := (nI 4)) hx d_Ma_setArrow_5 rfl ?_
  refine n_imul hx d_Ma_setArrow_6 ?_
  refine v_iload_n hx d_Ma_setArrow_7 rfl rfl ?_
  refine n_iadd hx d_Ma_setArrow_8 ?_
  refine v_iload_n hx d_Ma_setArrow_9 rfl rfl ?_
  refine nn_iast hx d_Ma_setArrow_10 hM.m1 hM.f1 (by omega) (by decide) (fun f1 hf1 => ?_)
  have hF := gF.up (gF.rf (w := w) (id := id) (f := f)) hf1 hM.o1
  have hM := hM.up1 hf1
  refine v_aload_n hx d_Ma_setArrow_11 rfl rfl ?_
  refine v_get hx cf_Ma 1 (by decide) k_Ma_15 d_Ma_setArrow_12 hM.m0 hM.f0 rfl ?_
  refine v_iload_n hx d_Ma_setArrow_15 rfl rfl ?_
  refine v_iconst (v := (nI 4)) hx d_Ma_setArrow_16 rfl ?_
  refine n_imul hx d_Ma_setArrow_17 ?_
  refine v_iload_n hx d_Ma_setArrow_18 rfl rfl ?_
  refine n_iadd hx d_Ma_setArrow_19 ?_
  refine v_iload hx d_Ma_setArrow_20 rfl ?_
  refine nn_iast hx d_Ma_setArrow_22 hM.m2 hM.f2 (by omega) (by decide) (fun f2 hf2 => ?_)
  have hF := hF.up hf2 hM.o2
  have hM := hM.up2 hf2
  refine v_aload_n hx d_Ma_setArrow_23 rfl rfl ?_
  refine v_iconst (v := (nI 0)) hx d_Ma_setArrow_24 rfl ?_
  refine v_put hx cf_Ma 6 (by decide) k_Ma_35 rfl rfl rfl d_Ma_setArrow_25 hM.m0 hM.f0 (Nat.le_of_ble_eq_true rfl) (fun f3 hf3 => ?_)
  have hF := hF.up hf3 hM.o0
  have hM := hM.up0 hf3
  exact v_vret hx hr d_Ma_setArrow_28 ⟨rfl, rfl, hM, hF⟩
