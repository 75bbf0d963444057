set_option maxHeartbeats 4000000 in
set_option maxRecDepth 100000 in
theorem c_MT_pairOf {G : GT} {L : List Nat} {f : Nat → va_E} (a b : Nat) : Con G y_MT_pairOf (.code y_MT_pairOf b_MT_pairOf 2 (some .int) :: BIG) 0 0 0 0 [.int (nI a), .int (nI b)] L f (fun v L' f' => v = some (.int (nI (a * 40 + b))) ∧ L' = L ∧ f' = f) := by
  refine con_of (cc := b_MT_pairOf) (mL := 2) (lv := [some (.int (nI a)), some (.int (nI b))]) (by decide) (by intro w hw; simp at hw; rcases hw with rfl | rfl <;> rfl) (by first | exact Nat.le_of_ble_eq_true rfl | decide) rfl ?_
  intro x hx hr hin
  refine v_iload_n hx d_MT_pairOf_0 rfl rfl ?_
  refine v_bipush (v := (nI 40)) hx d_MT_pairOf_1 rfl ?_
  refine n_imul hx d_MT_pairOf_3 ?_
  refine v_iload_n hx d_MT_pairOf_4 rfl rfl ?_
  refine n_iadd hx d_MT_pairOf_5 ?_
  exact v_iret hx hr d_MT_pairOf_6 ⟨rfl, rfl, rfl⟩
set_option maxHeartbeats 4000000 in
set_option maxRecDepth 100000 in
theorem c_MT_firstOf {G : GT} {L : List Nat} {f : Nat → va_E} (p : Nat) (hp : p < 2 ^ 31) : Con G y_MT_firstOf (.code y_MT_firstOf b_MT_firstOf 1 (some .int) :: BIG) 0 0 0 0 [.int (nI p)] L f (fun v L' f' => v = some (.int (nI (p / 40))) ∧ L' = L ∧ f' = f) := by
  refine con_of (cc := b_MT_firstOf) (mL := 1) (lv := [some (.int (nI p))]) (by decide) (by intro w hw; simp at hw; rcases hw with rfl <;> rfl) (by first | exact Nat.le_of_ble_eq_true rfl | decide) rfl ?_
  intro x hx hr hin
  refine v_iload_n hx d_MT_firstOf_0 rfl rfl ?_
  refine v_bipush (v := (nI 40)) hx d_MT_firstOf_1 rfl ?_
  refine n_idiv hx d_MT_firstOf_3 hp (by decide) (by decide) ?_
  exact v_iret hx hr d_MT_firstOf_4 ⟨rfl, rfl, rfl⟩
set_option maxHeartbeats 4000000 in
set_option maxRecDepth 100000 in
theorem c_MT_secondOf {G : GT} {L : List Nat} {f : Nat → va_E} (p : Nat) (hp : p < 2 ^ 31) : Con G y_MT_secondOf (.code y_MT_secondOf b_MT_secondOf 1 (some .int) :: BIG) 0 0 0 0 [.int (nI p)] L f (fun v L' f' => v = some (.int (nI (p % 40))) ∧ L' = L ∧ f' = f) := by
  refine con_of (cc := b_MT_secondOf) (mL := 1) (lv := [some (.int (nI p))]) (by decide) (by intro w hw; simp at hw; rcases hw with rfl <;> rfl) (by first | exact Nat.le_of_ble_eq_true rfl | decide) rfl ?_
  intro x hx hr hin
  refine v_iload_n hx d_MT_secondOf_0 rfl rfl ?_
  refine v_bipush (v := (nI 40)) hx d_MT_secondOf_1 rfl ?_
  refine n_irem hx d_MT_secondOf_3 hp (by decide) (by decide) ?_
  exact v_iret hx hr d_MT_secondOf_4 ⟨rfl, rfl, rfl⟩
set_option maxHeartbeats 4000000 in
set_option maxRecDepth 100000 in
theorem c_MT_isFull {G : GT} {L : List Nat} {f : Nat → va_E} {w : Nat → Nat} {A S Fm : Nat → Nat} {c wa : Nat} {mp : Nat → Option Nat} (hT : TbAt G L f w 0 A (S 0) (Fm 0) c wa mp) (hc : c ≤ 12) : Con G y_MT_isFull (.code y_MT_isFull b_MT_isFull 1 (some .boolean) :: BIG) 0 0 0 0 [.ref (A 0)] L f (fun v L' f' => v = some (.int (bI (decide (12 ≤ c)))) ∧ L' = L ∧ f' = f) := by
  refine con_of (cc := b_MT_isFull) (mL := 1) (lv := [some (.ref (A 0))]) (by decide) (by intro w hw; simp at hw; rcases hw with rfl <;> rfl) (by first | exact Nat.le_of_ble_eq_true rfl | decide) rfl ?_
  intro x hx hr hin
  refine v_aload_n hx d_MT_isFull_0 rfl rfl ?_
  refine v_get hx cf_MT 3 (by decide) k_MT_29 d_MT_isFull_1 hT.m0 hT.f0 rfl ?_
  refine v_bipush (v := (nI 12)) hx d_MT_isFull_4 rfl ?_
  refine n_icmp_lt (tgt := 13) hx d_MT_isFull_6 (by decide) (by omega) (by omega) (fun c6 => ?_) (fun c6 => ?_)
  · refine v_iconst (v := (nI 0)) hx d_MT_isFull_13 rfl ?_
    exact v_zret hx hr d_MT_isFull_14 rfl ⟨by rw [decide_eq_false (by omega)]; rfl, rfl, rfl⟩
  · refine v_iconst (v := (nI 1)) hx d_MT_isFull_9 rfl ?_
    refine v_goto (tgt := 14) hx d_MT_isFull_10 (by decide) ?_
    exact v_zret hx hr d_MT_isFull_14 rfl ⟨by rw [decide_eq_true c6]; rfl, rfl, rfl⟩
set_option maxHeartbeats 4000000 in
set_option maxRecDepth 100000 in
theorem c_MT_find {G : GT} {L : List Nat} {f : Nat → va_E} {w : Nat → Nat} {A S Fm : Nat → Nat} {c wa : Nat} {mp : Nat → Option Nat} (hT : TbAt G L f w 0 A (S 0) (Fm 0) c wa mp) {M nx ou lo fi : Nat → Nat → Nat} {n k b : Nat → Nat} (hMs : ∀ j, j < c → mp j = some (M j 0) ∧ MaAt G L f w (10 + j) (M j) (nx j) (ou j) (lo j) (fi j) (n j) (k j) (b j)) (hc : c ≤ 12) (p : Int32) : Con G y_MT_find (.code y_MT_find b_MT_find 2 (some (.object "MachineTables$Machine")) :: BIG) 0 0 0 0 [.ref (A 0), .int p] L f (fun v L' f' => (ix p c = none ∧ v = some .null ∨ ∃ j, ix p c = some j ∧ j < c ∧ v = some (.ref (M j 0))) ∧ L' = L ∧ f' = f) := by
  refine con_of (cc := b_MT_find) (mL := 2) (lv := [some (.ref (A 0)), some (.int p)]) (by decide) (by intro w hw; simp at hw; rcases hw with rfl | rfl <;> rfl) (by first | exact Nat.le_of_ble_eq_true rfl | decide) rfl ?_
  intro x hx hr hin
  refine v_iload_n hx d_MT_find_0 rfl rfl ?_
  refine v_if_lt (tgt := 21) hx d_MT_find_1 (by decide) (fun c1 => ?_) (fun c1 => ?_)
  · refine v_null hx d_MT_find_21 ?_
    exact v_aret hx hr (Or.inl ⟨_, rfl⟩) (Or.inl rfl) d_MT_find_22 ⟨Or.inl ⟨ix_neg c1, rfl⟩, rfl, rfl⟩
  · refine v_iload_n hx d_MT_find_4 rfl rfl ?_
    refine v_aload_n hx d_MT_find_5 rfl rfl ?_
    refine v_get hx cf_MT 3 (by decide) k_MT_29 d_MT_find_6 hT.m0 hT.f0 rfl ?_
    refine v_icmp_ge (tgt := 21) hx d_MT_find_9 (by decide) (fun c9 => ?_) (fun c9 => ?_)
    · refine v_null hx d_MT_find_21 ?_
      exact v_aret hx hr (Or.inl ⟨_, rfl⟩) (Or.inl rfl) d_MT_find_22 ⟨Or.inl ⟨ix_ge (by omega) c9, rfl⟩, rfl, rfl⟩
    · obtain ⟨j, ej, hj, e⟩ := ix_in (by omega) c1 c9
      subst e
      refine v_aload_n hx d_MT_find_12 rfl rfl ?_
      refine v_get hx cf_MT 0 (by decide) k_MT_11 d_MT_find_13 hT.m0 hT.f0 rfl ?_
      refine v_iload_n hx d_MT_find_16 rfl rfl ?_
      refine n_aaldS hx d_MT_find_17 hT.m1 hT.f1 (by omega) (by decide) (hMs j hj).1 ?_
      refine v_goto (tgt := 22) hx d_MT_find_18 (by decide) ?_
      exact v_aret hx hr (Or.inl ⟨_, rfl⟩) (Or.inr ⟨_, rfl⟩) d_MT_find_22 ⟨Or.inr ⟨j, ej, hj, rfl⟩, rfl, rfl⟩
set_option maxHeartbeats 4000000 in
set_option maxRecDepth 100000 in
theorem c_MT_findSmall {G : GT} {L : List Nat} {f : Nat → va_E} {w : Nat → Nat} {A S Fm : Nat → Nat} {c wa : Nat} {mp : Nat → Option Nat} (hT : TbAt G L f w 0 A (S 0) (Fm 0) c wa mp) {M nx ou lo fi : Nat → Nat → Nat} {n k b : Nat → Nat} (hMs : ∀ j, j < c → mp j = some (M j 0) ∧ MaAt G L f w (10 + j) (M j) (nx j) (ou j) (lo j) (fi j) (n j) (k j) (b j)) (hc : c ≤ 12) (hn : ∀ j, j < c → n j ≤ 40) (p : Int32) : Con G y_MT_findSmall (.code y_MT_findSmall b_MT_findSmall 3 (some (.object "MachineTables$Machine")) :: BIG) 1 21 0 0 [.ref (A 0), .int p] L f (fun v L' f' => ((ix p c = none ∨ ∃ j, ix p c = some j ∧ 12 < n j) ∧ v = some .null ∨ ∃ j, ix p c = some j ∧ j < c ∧ n j ≤ 12 ∧ v = some (.ref (M j 0))) ∧ L' = L ∧ f' = f) := by
  refine con_of (cc := b_MT_findSmall) (mL := 3) (lv := [some (.ref (A 0)), some (.int p), none]) (by decide) (by intro w hw; simp at hw; rcases hw with rfl | rfl <;> rfl) (by first | exact Nat.le_of_ble_eq_true rfl | decide) rfl ?_
  intro x hx hr hin
  refine v_aload_n hx d_MT_findSmall_0 rfl rfl ?_
  refine v_iload_n hx d_MT_findSmall_1 rfl rfl ?_
  refine v_callV (as := [.int p]) (q := (R_MT, T_MT, 5)) hx (c_MT_find hT hMs hc p) cy_MT_find k_MT_45 ki_MT_find kl_MT_find d_MT_findSmall_2 (by decide) (ci := 3) rfl hT.m0 hT.f0 (by decide) rfl rfl (Nat.le_of_ble_eq_true rfl) (fun v1 L f p1 => ?_)
  obtain ⟨(⟨e, rfl⟩ | ⟨j, e, hj, rfl⟩), rfl, rfl⟩ := p1
  · refine v_astore_nN (lv' := [some (.ref (A 0)), some (.int p), some (.null)]) hx d_MT_findSmall_5 rfl (by decide) rfl ?_
    refine v_aload_nN hx d_MT_findSmall_6 rfl rfl ?_
    refine v_ifnullN (tgt := 19) hx d_MT_findSmall_7 (by decide) ?_
    refine v_null hx d_MT_findSmall_19 ?_
    refine v_goto (tgt := 24) hx d_MT_findSmall_20 (by decide) ?_
    exact v_aret hx hr (Or.inl ⟨_, rfl⟩) (Or.inl rfl) d_MT_findSmall_24 ⟨Or.inl ⟨Or.inl e, rfl⟩, rfl, rfl⟩
  · have hnj := hn j hj
    refine v_astore_n (lv' := [some (.ref (A 0)), some (.int p), some (.ref (M j 0))]) hx d_MT_findSmall_5 rfl (by decide) rfl ?_
    refine v_aload_n hx d_MT_findSmall_6 rfl rfl ?_
    refine v_ifnull hx d_MT_findSmall_7 ?_
    refine v_aload_n hx d_MT_findSmall_10 rfl rfl ?_
    refine v_getN hx cf_Ma 4 (by decide) kN_MT_102 d_MT_findSmall_11 (hMs j hj).2.m0 (hMs j hj).2.f0 rfl ?_
    refine v_bipush (v := (nI 12)) hx d_MT_findSmall_14 rfl ?_
    refine n_icmp_le (tgt := 23) hx d_MT_findSmall_16 (by decide) (by omega) (by omega) (fun c16 => ?_) (fun c16 => ?_)
    · refine v_aload_n hx d_MT_findSmall_23 rfl rfl ?_
      exact v_aret hx hr (Or.inl ⟨_, rfl⟩) (Or.inr ⟨_, rfl⟩) d_MT_findSmall_24 ⟨Or.inr ⟨j, e, hj, c16, rfl⟩, rfl, rfl⟩
    · refine v_null hx d_MT_findSmall_19 ?_
      refine v_goto (tgt := 24) hx d_MT_findSmall_20 (by decide) ?_
      exact v_aret hx hr (Or.inl ⟨_, rfl⟩) (Or.inl rfl) d_MT_findSmall_24 ⟨Or.inl ⟨Or.inr ⟨j, e, c16⟩, rfl⟩, rfl, rfl⟩
set_option maxHeartbeats 4000000 in
set_option maxRecDepth 100000 in
theorem c_MT_pairBehind {G : GT} {L : List Nat} {f : Nat → va_E} {w : Nat → Nat} {id1 : Nat} {Ba nx1 ou1 lo1 fi1 : Nat → Nat} {n1 k1 b1 : Nat} (hM1 : MaAt G L f w id1 Ba nx1 ou1 lo1 fi1 n1 k1 b1) {id2 : Nat} {Bb nx2 ou2 lo2 fi2 : Nat → Nat} {n2 k2 b2 : Nat} (hM2 : MaAt G L f w id2 Bb nx2 ou2 lo2 fi2 n2 k2 b2) (hA1 : okA nx1 ou1 n1 k1) (hA2 : okA nx2 ou2 n2 k2) (p i : Nat) (h1 : p / 40 < n1) (h2 : p % 40 < n2) (hp : p < 1600) (hi : i < k1) : Con G y_MT_pairBehind (.code y_MT_pairBehind b_MT_pairBehind 5 (some .int) :: BIG) 1 22 0 0 [.ref (Ba 0), .ref (Bb 0), .int (nI p), .int (nI i)] L f (fun v L' f' => (ou1 (p / 40 * 4 + i) < k2 ∧ v = some (.int (nI (nx1 (p / 40 * 4 + i) * 40 + nx2 (p % 40 * 4 + ou1 (p / 40 * 4 + i))))) ∨ k2 ≤ ou1 (p / 40 * 4 + i) ∧ v = some (.int (-1))) ∧ L' = L ∧ f' = f) := by
  refine con_of (cc := b_MT_pairBehind) (mL := 5) (lv := [some (.ref (Ba 0)), some (.ref (Bb 0)), some (.int (nI p)), some (.int (nI i)), none]) (by decide) (by intro w hw; simp at hw; rcases hw with rfl | rfl | rfl | rfl <;> rfl) (by first | exact Nat.le_of_ble_eq_true rfl | decide) rfl ?_
  intro x hx hr hin
  obtain ⟨a1, a2, a3, a4, a5⟩ := hA1
  obtain ⟨d1, d2, d3, d4, d5⟩ := hA2
  have hx1 := a5 (p / 40) i h1 hi
  refine v_aload_n hx d_MT_pairBehind_0 rfl rfl ?_
  refine v_iload_n hx d_MT_pairBehind_1 rfl rfl ?_
  refine v_callS (as := [.int (nI p)]) hx (c_MT_firstOf p (by omega)) cy_MT_firstOf k_MT_132 ks_MT_firstOf d_MT_pairBehind_2 (by decide) (by decide) rfl rfl (Nat.le_of_ble_eq_true rfl) (fun v1 L f p1 => ?_)
  obtain ⟨rfl, rfl, rfl⟩ := p1
  refine v_iload_n hx d_MT_pairBehind_5 rfl rfl ?_
  refine v_callV (as := [.int (nI (p / 40)), .int (nI i)]) (q := (R_Ma, T_Ma, 7)) hx (c_Ma_outputOf hM1 (p / 40) i (by omega) (by omega)) cy_Ma_outputOf k_MT_64 ki_Ma_outputOf kl_Ma_outputOf d_MT_pairBehind_6 (by decide) (ci := 1) rfl hM1.m0 hM1.f0 (by decide) rfl rfl (Nat.le_of_ble_eq_true rfl) (fun v2 L f p2 => ?_)
  obtain ⟨rfl, rfl, rfl⟩ := p2
  refine v_istore (lv' := [some (.ref (Ba 0)), some (.ref (Bb 0)), some (.int (nI p)), some (.int (nI i)), some (.int (nI (ou1 (p / 40 * 4 + i))))]) hx d_MT_pairBehind_9 (by decide) rfl ?_
  refine v_aload_n hx d_MT_pairBehind_11 rfl rfl ?_
  refine v_iload hx d_MT_pairBehind_12 rfl ?_
  refine v_callV (as := [.int (nI (ou1 (p / 40 * 4 + i)))]) (q := (R_Ma, T_Ma, 7)) hx (c_Ma_hasInput hM2 (by omega) (nI (ou1 (p / 40 * 4 + i)))) cy_Ma_hasInput k_MT_53 ki_Ma_hasInput kl_Ma_hasInput d_MT_pairBehind_14 (by decide) (ci := 1) rfl hM2.m0 hM2.f0 (by decide) rfl rfl (Nat.le_of_ble_eq_true rfl) (fun v3 L f p3 => ?_)
  obtain ⟨rfl, rfl, rfl⟩ := p3
  rw [ix_isSome (by omega) (by omega)]
  refine v_if_ne (tgt := 22) hx d_MT_pairBehind_17 (by decide) (fun c17 => ?_) (fun c17 => ?_)
  · have hk : ou1 (p / 40 * 4 + i) < k2 := of_decide_eq_true (Bool.of_not_eq_false (fun z => c17 ((bI_0 _).mpr z)))
    refine v_aload_n hx d_MT_pairBehind_22 rfl rfl ?_
    refine v_iload_n hx d_MT_pairBehind_23 rfl rfl ?_
    refine v_callS (as := [.int (nI p)]) hx (c_MT_firstOf p (by omega)) cy_MT_firstOf k_MT_132 ks_MT_firstOf d_MT_pairBehind_24 (by decide) (by decide) rfl rfl (Nat.le_of_ble_eq_true rfl) (fun v4 L f p4 => ?_)
    obtain ⟨rfl, rfl, rfl⟩ := p4
    refine v_iload_n hx d_MT_pairBehind_27 rfl rfl ?_
    refine v_callV (as := [.int (nI (p / 40)), .int (nI i)]) (q := (R_Ma, T_Ma, 7)) hx (c_Ma_nextOf hM1 (p / 40) i (by omega) (by omega)) cy_Ma_nextOf k_MT_60 ki_Ma_nextOf kl_Ma_nextOf d_MT_pairBehind_28 (by decide) (ci := 1) rfl hM1.m0 hM1.f0 (by decide) rfl rfl (Nat.le_of_ble_eq_true rfl) (fun v5 L f p5 => ?_)
    obtain ⟨rfl, rfl, rfl⟩ := p5
    refine v_aload_n hx d_MT_pairBehind_31 rfl rfl ?_
    refine v_iload_n hx d_MT_pairBehind_32 rfl rfl ?_
    refine v_callS (as := [.int (nI p)]) hx (c_MT_secondOf p (by omega)) cy_MT_secondOf k_MT_139 ks_MT_secondOf d_MT_pairBehind_33 (by decide) (by decide) rfl rfl (Nat.le_of_ble_eq_true rfl) (fun v6 L f p6 => ?_)
    obtain ⟨rfl, rfl, rfl⟩ := p6
    refine v_iload hx d_MT_pairBehind_36 rfl ?_
    refine v_callV (as := [.int (nI (p % 40)), .int (nI (ou1 (p / 40 * 4 + i)))]) (q := (R_Ma, T_Ma, 7)) hx (c_Ma_nextOf hM2 (p % 40) (ou1 (p / 40 * 4 + i)) (by omega) (by omega)) cy_Ma_nextOf k_MT_60 ki_Ma_nextOf kl_Ma_nextOf d_MT_pairBehind_38 (by decide) (ci := 1) rfl hM2.m0 hM2.f0 (by decide) rfl rfl (Nat.le_of_ble_eq_true rfl) (fun v7 L f p7 => ?_)
    obtain ⟨rfl, rfl, rfl⟩ := p7
    refine v_callS (as := [.int (nI (nx1 (p / 40 * 4 + i))), .int (nI (nx2 (p % 40 * 4 + ou1 (p / 40 * 4 + i))))]) hx (c_MT_pairOf _ _) cy_MT_pairOf k_MT_159 ks_MT_pairOf d_MT_pairBehind_41 (by decide) (by decide) rfl rfl (Nat.le_of_ble_eq_true rfl) (fun v8 L f p8 => ?_)
    obtain ⟨rfl, rfl, rfl⟩ := p8
    exact v_iret hx hr d_MT_pairBehind_44 ⟨Or.inl ⟨hk, rfl⟩, rfl, rfl⟩
  · refine v_iconst (v := (-1)) hx d_MT_pairBehind_20 rfl ?_
    exact v_iret hx hr d_MT_pairBehind_21 ⟨Or.inr ⟨Nat.le_of_not_lt (of_decide_eq_false ((bI_0 _).mp c17)), rfl⟩, rfl, rfl⟩
