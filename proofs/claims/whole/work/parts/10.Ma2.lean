def bcX (S : Nat) : Int32 := ((((((((nI S) - (((((nI S)).toUInt32 >>> (((nI 1)).toUInt32 &&& Int32.toUInt32 31)).toInt32) &&& (1431655765))) &&& (858993459)) + ((((((nI S) - (((((nI S)).toUInt32 >>> (((nI 1)).toUInt32 &&& Int32.toUInt32 31)).toInt32) &&& (1431655765)))).toUInt32 >>> (((nI 2)).toUInt32 &&& Int32.toUInt32 31)).toInt32) &&& (858993459))) + (((((((nI S) - (((((nI S)).toUInt32 >>> (((nI 1)).toUInt32 &&& Int32.toUInt32 31)).toInt32) &&& (1431655765))) &&& (858993459)) + ((((((nI S) - (((((nI S)).toUInt32 >>> (((nI 1)).toUInt32 &&& Int32.toUInt32 31)).toInt32) &&& (1431655765)))).toUInt32 >>> (((nI 2)).toUInt32 &&& Int32.toUInt32 31)).toInt32) &&& (858993459)))).toUInt32 >>> (((nI 4)).toUInt32 &&& Int32.toUInt32 31)).toInt32)) &&& (252645135)) + (((((((((nI S) - (((((nI S)).toUInt32 >>> (((nI 1)).toUInt32 &&& Int32.toUInt32 31)).toInt32) &&& (1431655765))) &&& (858993459)) + ((((((nI S) - (((((nI S)).toUInt32 >>> (((nI 1)).toUInt32 &&& Int32.toUInt32 31)).toInt32) &&& (1431655765)))).toUInt32 >>> (((nI 2)).toUInt32 &&& Int32.toUInt32 31)).toInt32) &&& (858993459))) + (((((((nI S) - (((((nI S)).toUInt32 >>> (((nI 1)).toUInt32 &&& Int32.toUInt32 31)).toInt32) &&& (1431655765))) &&& (858993459)) + ((((((nI S) - (((((nI S)).toUInt32 >>> (((nI 1)).toUInt32 &&& Int32.toUInt32 31)).toInt32) &&& (1431655765)))).toUInt32 >>> (((nI 2)).toUInt32 &&& Int32.toUInt32 31)).toInt32) &&& (858993459)))).toUInt32 >>> (((nI 4)).toUInt32 &&& Int32.toUInt32 31)).toInt32)) &&& (252645135))).toUInt32 >>> (((nI 8)).toUInt32 &&& Int32.toUInt32 31)).toInt32)) + ((((((((((nI S) - (((((nI S)).toUInt32 >>> (((nI 1)).toUInt32 &&& Int32.toUInt32 31)).toInt32) &&& (1431655765))) &&& (858993459)) + ((((((nI S) - (((((nI S)).toUInt32 >>> (((nI 1)).toUInt32 &&& Int32.toUInt32 31)).toInt32) &&& (1431655765)))).toUInt32 >>> (((nI 2)).toUInt32 &&& Int32.toUInt32 31)).toInt32) &&& (858993459))) + (((((((nI S) - (((((nI S)).toUInt32 >>> (((nI 1)).toUInt32 &&& Int32.toUInt32 31)).toInt32) &&& (1431655765))) &&& (858993459)) + ((((((nI S) - (((((nI S)).toUInt32 >>> (((nI 1)).toUInt32 &&& Int32.toUInt32 31)).toInt32) &&& (1431655765)))).toUInt32 >>> (((nI 2)).toUInt32 &&& Int32.toUInt32 31)).toInt32) &&& (858993459)))).toUInt32 >>> (((nI 4)).toUInt32 &&& Int32.toUInt32 31)).toInt32)) &&& (252645135)) + (((((((((nI S) - (((((nI S)).toUInt32 >>> (((nI 1)).toUInt32 &&& Int32.toUInt32 31)).toInt32) &&& (1431655765))) &&& (858993459)) + ((((((nI S) - (((((nI S)).toUInt32 >>> (((nI 1)).toUInt32 &&& Int32.toUInt32 31)).toInt32) &&& (1431655765)))).toUInt32 >>> (((nI 2)).toUInt32 &&& Int32.toUInt32 31)).toInt32) &&& (858993459))) + (((((((nI S) - (((((nI S)).toUInt32 >>> (((nI 1)).toUInt32 &&& Int32.toUInt32 31)).toInt32) &&& (1431655765))) &&& (858993459)) + ((((((nI S) - (((((nI S)).toUInt32 >>> (((nI 1)).toUInt32 &&& Int32.toUInt32 31)).toInt32) &&& (1431655765)))).toUInt32 >>> (((nI 2)).toUInt32 &&& Int32.toUInt32 31)).toInt32) &&& (858993459)))).toUInt32 >>> (((nI 4)).toUInt32 &&& Int32.toUInt32 31)).toInt32)) &&& (252645135))).toUInt32 >>> (((nI 8)).toUInt32 &&& Int32.toUInt32 31)).toInt32))).toUInt32 >>> (((nI 16)).toUInt32 &&& Int32.toUInt32 31)).toInt32)) &&& (nI 63)
set_option maxRecDepth 100000 in
theorem bitc0 : ∀ a, a < 64 → ∀ b, b < 64 → bcX (64 * a + b) = nI (pcn (64 * a + b) 12) := by decide +kernel
theorem bitc (S : Nat) (h : S < 4096) : bcX S = nI (pcn S 12) := by
  have q := bitc0 (S / 64) (by omega) (S % 64) (by omega)
  rw [show 64 * (S / 64) + S % 64 = S by omega] at q
  exact q
set_option maxHeartbeats 4000000 in
set_option maxRecDepth 100000 in
/-- how many ones -/
theorem c_In_bitCount {G : GT} {L : List Nat} {f : Nat → va_E} (S : Nat) (hS : S < 4096) : Con G y_In_bitCount (.code y_In_bitCount b_In_bitCount 1 (some .int) :: BIG) 0 0 0 0 [.int (nI S)] L f (fun v L' f' => v = some (.int (nI (pcn S 12))) ∧ L' = L ∧ f' = f) := by
  refine con_of (cc := b_In_bitCount) (mL := 1) (lv := [some (.int (nI S))]) (by decide) (by intro w hw; simp at hw; rcases hw with rfl <;> rfl) (by first | exact Nat.le_of_ble_eq_true rfl | decide) rfl ?_
  intro x hx hr hin
  refine v_iload_n hx d_In_bitCount_0 rfl rfl ?_
  refine v_iload_n hx d_In_bitCount_1 rfl rfl ?_
  refine v_iconst (v := (nI 1)) hx d_In_bitCount_2 rfl ?_
  refine v_iushr hx d_In_bitCount_3 rfl ?_
  refine v_ldcw hx k_In_265 d_In_bitCount_4 ?_
  refine v_iand hx d_In_bitCount_7 rfl ?_
  refine v_isub hx d_In_bitCount_8 rfl ?_
  refine v_istore_n (lv' := [some (.int ((nI S) - (((((nI S)).toUInt32 >>> (((nI 1)).toUInt32 &&& Int32.toUInt32 31)).toInt32) &&& (1431655765))))]) hx d_In_bitCount_9 rfl (by decide) rfl ?_
  refine v_iload_n hx d_In_bitCount_10 rfl rfl ?_
  refine v_ldcw hx k_In_266 d_In_bitCount_11 ?_
  refine v_iand hx d_In_bitCount_14 rfl ?_
  refine v_iload_n hx d_In_bitCount_15 rfl rfl ?_
  refine v_iconst (v := (nI 2)) hx d_In_bitCount_16 rfl ?_
  refine v_iushr hx d_In_bitCount_17 rfl ?_
  refine v_ldcw hx k_In_266 d_In_bitCount_18 ?_
  refine v_iand hx d_In_bitCount_21 rfl ?_
  refine v_iadd hx d_In_bitCount_22 rfl ?_
  refine v_istore_n (lv' := [some (.int ((((nI S) - (((((nI S)).toUInt32 >>> (((nI 1)).toUInt32 &&& Int32.toUInt32 31)).toInt32) &&& (1431655765))) &&& (858993459)) + ((((((nI S) - (((((nI S)).toUInt32 >>> (((nI 1)).toUInt32 &&& Int32.toUInt32 31)).toInt32) &&& (1431655765)))).toUInt32 >>> (((nI 2)).toUInt32 &&& Int32.toUInt32 31)).toInt32) &&& (858993459))))]) hx d_In_bitCount_23 rfl (by decide) rfl ?_
  refine v_iload_n hx d_In_bitCount_24 rfl rfl ?_
  refine v_iload_n hx d_In_bitCount_25 rfl rfl ?_
  refine v_iconst (v := (nI 4)) hx d_In_bitCount_26 rfl ?_
  refine v_iushr hx d_In_bitCount_27 rfl ?_
  refine v_iadd hx d_In_bitCount_28 rfl ?_
  refine v_ldcw hx k_In_267 d_In_bitCount_29 ?_
  refine v_iand hx d_In_bitCount_32 rfl ?_
  refine v_istore_n (lv' := [some (.int ((((((nI S) - (((((nI S)).toUInt32 >>> (((nI 1)).toUInt32 &&& Int32.toUInt32 31)).toInt32) &&& (1431655765))) &&& (858993459)) + ((((((nI S) - (((((nI S)).toUInt32 >>> (((nI 1)).toUInt32 &&& Int32.toUInt32 31)).toInt32) &&& (1431655765)))).toUInt32 >>> (((nI 2)).toUInt32 &&& Int32.toUInt32 31)).toInt32) &&& (858993459))) + (((((((nI S) - (((((nI S)).toUInt32 >>> (((nI 1)).toUInt32 &&& Int32.toUInt32 31)).toInt32) &&& (1431655765))) &&& (858993459)) + ((((((nI S) - (((((nI S)).toUInt32 >>> (((nI 1)).toUInt32 &&& Int32.toUInt32 31)).toInt32) &&& (1431655765)))).toUInt32 >>> (((nI 2)).toUInt32 &&& Int32.toUInt32 31)).toInt32) &&& (858993459)))).toUInt32 >>> (((nI 4)).toUInt32 &&& Int32.toUInt32 31)).toInt32)) &&& (252645135)))]) hx d_In_bitCount_33 rfl (by decide) rfl ?_
  refine v_iload_n hx d_In_bitCount_34 rfl rfl ?_
  refine v_iload_n hx d_In_bitCount_35 rfl rfl ?_
  refine v_bipush (v := (nI 8)) hx d_In_bitCount_36 rfl ?_
  refine v_iushr hx d_In_bitCount_38 rfl ?_
  refine v_iadd hx d_In_bitCount_39 rfl ?_
  refine v_istore_n (lv' := [some (.int (((((((nI S) - (((((nI S)).toUInt32 >>> (((nI 1)).toUInt32 &&& Int32.toUInt32 31)).toInt32) &&& (1431655765))) &&& (858993459)) + ((((((nI S) - (((((nI S)).toUInt32 >>> (((nI 1)).toUInt32 &&& Int32.toUInt32 31)).toInt32) &&& (1431655765)))).toUInt32 >>> (((nI 2)).toUInt32 &&& Int32.toUInt32 31)).toInt32) &&& (858993459))) + (((((((nI S) - (((((nI S)).toUInt32 >>> (((nI 1)).toUInt32 &&& Int32.toUInt32 31)).toInt32) &&& (1431655765))) &&& (858993459)) + ((((((nI S) - (((((nI S)).toUInt32 >>> (((nI 1)).toUInt32 &&& Int32.toUInt32 31)).toInt32) &&& (1431655765)))).toUInt32 >>> (((nI 2)).toUInt32 &&& Int32.toUInt32 31)).toInt32) &&& (858993459)))).toUInt32 >>> (((nI 4)).toUInt32 &&& Int32.toUInt32 31)).toInt32)) &&& (252645135)) + (((((((((nI S) - (((((nI S)).toUInt32 >>> (((nI 1)).toUInt32 &&& Int32.toUInt32 31)).toInt32) &&& (1431655765))) &&& (858993459)) + ((((((nI S) - (((((nI S)).toUInt32 >>> (((nI 1)).toUInt32 &&& Int32.toUInt32 31)).toInt32) &&& (1431655765)))).toUInt32 >>> (((nI 2)).toUInt32 &&& Int32.toUInt32 31)).toInt32) &&& (858993459))) + (((((((nI S) - (((((nI S)).toUInt32 >>> (((nI 1)).toUInt32 &&& Int32.toUInt32 31)).toInt32) &&& (1431655765))) &&& (858993459)) + ((((((nI S) - (((((nI S)).toUInt32 >>> (((nI 1)).toUInt32 &&& Int32.toUInt32 31)).toInt32) &&& (1431655765)))).toUInt32 >>> (((nI 2)).toUInt32 &&& Int32.toUInt32 31)).toInt32) &&& (858993459)))).toUInt32 >>> (((nI 4)).toUInt32 &&& Int32.toUInt32 31)).toInt32)) &&& (252645135))).toUInt32 >>> (((nI 8)).toUInt32 &&& Int32.toUInt32 31)).toInt32)))]) hx d_In_bitCount_40 rfl (by decide) rfl ?_
  refine v_iload_n hx d_In_bitCount_41 rfl rfl ?_
  refine v_iload_n hx d_In_bitCount_42 rfl rfl ?_
  refine v_bipush (v := (nI 16)) hx d_In_bitCount_43 rfl ?_
  refine v_iushr hx d_In_bitCount_45 rfl ?_
  refine v_iadd hx d_In_bitCount_46 rfl ?_
  refine v_istore_n (lv' := [some (.int ((((((((nI S) - (((((nI S)).toUInt32 >>> (((nI 1)).toUInt32 &&& Int32.toUInt32 31)).toInt32) &&& (1431655765))) &&& (858993459)) + ((((((nI S) - (((((nI S)).toUInt32 >>> (((nI 1)).toUInt32 &&& Int32.toUInt32 31)).toInt32) &&& (1431655765)))).toUInt32 >>> (((nI 2)).toUInt32 &&& Int32.toUInt32 31)).toInt32) &&& (858993459))) + (((((((nI S) - (((((nI S)).toUInt32 >>> (((nI 1)).toUInt32 &&& Int32.toUInt32 31)).toInt32) &&& (1431655765))) &&& (858993459)) + ((((((nI S) - (((((nI S)).toUInt32 >>> (((nI 1)).toUInt32 &&& Int32.toUInt32 31)).toInt32) &&& (1431655765)))).toUInt32 >>> (((nI 2)).toUInt32 &&& Int32.toUInt32 31)).toInt32) &&& (858993459)))).toUInt32 >>> (((nI 4)).toUInt32 &&& Int32.toUInt32 31)).toInt32)) &&& (252645135)) + (((((((((nI S) - (((((nI S)).toUInt32 >>> (((nI 1)).toUInt32 &&& Int32.toUInt32 31)).toInt32) &&& (1431655765))) &&& (858993459)) + ((((((nI S) - (((((nI S)).toUInt32 >>> (((nI 1)).toUInt32 &&& Int32.toUInt32 31)).toInt32) &&& (1431655765)))).toUInt32 >>> (((nI 2)).toUInt32 &&& Int32.toUInt32 31)).toInt32) &&& (858993459))) + (((((((nI S) - (((((nI S)).toUInt32 >>> (((nI 1)).toUInt32 &&& Int32.toUInt32 31)).toInt32) &&& (1431655765))) &&& (858993459)) + ((((((nI S) - (((((nI S)).toUInt32 >>> (((nI 1)).toUInt32 &&& Int32.toUInt32 31)).toInt32) &&& (1431655765)))).toUInt32 >>> (((nI 2)).toUInt32 &&& Int32.toUInt32 31)).toInt32) &&& (858993459)))).toUInt32 >>> (((nI 4)).toUInt32 &&& Int32.toUInt32 31)).toInt32)) &&& (252645135))).toUInt32 >>> (((nI 8)).toUInt32 &&& Int32.toUInt32 31)).toInt32)) + ((((((((((nI S) - (((((nI S)).toUInt32 >>> (((nI 1)).toUInt32 &&& Int32.toUInt32 31)).toInt32) &&& (1431655765))) &&& (858993459)) + ((((((nI S) - (((((nI S)).toUInt32 >>> (((nI 1)).toUInt32 &&& Int32.toUInt32 31)).toInt32) &&& (1431655765)))).toUInt32 >>> (((nI 2)).toUInt32 &&& Int32.toUInt32 31)).toInt32) &&& (858993459))) + (((((((nI S) - (((((nI S)).toUInt32 >>> (((nI 1)).toUInt32 &&& Int32.toUInt32 31)).toInt32) &&& (1431655765))) &&& (858993459)) + ((((((nI S) - (((((nI S)).toUInt32 >>> (((nI 1)).toUInt32 &&& Int32.toUInt32 31)).toInt32) &&& (1431655765)))).toUInt32 >>> (((nI 2)).toUInt32 &&& Int32.toUInt32 31)).toInt32) &&& (858993459)))).toUInt32 >>> (((nI 4)).toUInt32 &&& Int32.toUInt32 31)).toInt32)) &&& (252645135)) + (((((((((nI S) - (((((nI S)).toUInt32 >>> (((nI 1)).toUInt32 &&& Int32.toUInt32 31)).toInt32) &&& (1431655765))) &&& (858993459)) + ((((((nI S) - (((((nI S)).toUInt32 >>> (((nI 1)).toUInt32 &&& Int32.toUInt32 31)).toInt32) &&& (1431655765)))).toUInt32 >>> (((nI 2)).toUInt32 &&& Int32.toUInt32 31)).toInt32) &&& (858993459))) + (((((((nI S) - (((((nI S)).toUInt32 >>> (((nI 1)).toUInt32 &&& Int32.toUInt32 31)).toInt32) &&& (1431655765))) &&& (858993459)) + ((((((nI S) - (((((nI S)).toUInt32 >>> (((nI 1)).toUInt32 &&& Int32.toUInt32 31)).toInt32) &&& (1431655765)))).toUInt32 >>> (((nI 2)).toUInt32 &&& Int32.toUInt32 31)).toInt32) &&& (858993459)))).toUInt32 >>> (((nI 4)).toUInt32 &&& Int32.toUInt32 31)).toInt32)) &&& (252645135))).toUInt32 >>> (((nI 8)).toUInt32 &&& Int32.toUInt32 31)).toInt32))).toUInt32 >>> (((nI 16)).toUInt32 &&& Int32.toUInt32 31)).toInt32)))]) hx d_In_bitCount_47 rfl (by decide) rfl ?_
  refine v_iload_n hx d_In_bitCount_48 rfl rfl ?_
  refine v_bipush (v := (nI 63)) hx d_In_bitCount_49 rfl ?_
  refine v_iand hx d_In_bitCount_51 rfl ?_
  exact v_iret hx hr d_In_bitCount_52 ⟨by rw [← bitc S hS]; rfl, rfl, rfl⟩
set_option maxHeartbeats 4000000 in
set_option maxRecDepth 100000 in
/-- the states, as a mask, that one comes to -/
theorem c_Ma_reachedFrom {G : GT} {L : List Nat} {f : Nat → va_E} {w : Nat → Nat} {id : Nat} {A : Nat → Nat} {nx ou lo fi : Nat → Nat} {n k b : Nat} (hM : MaAt G L f w id A nx ou lo fi n k b) (S i : Nat) (hS : S < 2 ^ 12) (hi : i < 4) (hn : n ≤ 12) (hN : ∀ s, s < n → nx (s * 4 + i) < 12) : Con G y_Ma_reachedFrom (.code y_Ma_reachedFrom b_Ma_reachedFrom 5 (some .int) :: BIG) 1 22 0 0 [.ref (A 0), .int (nI S), .int (nI i)] L f (fun v L' f' => v = some (.int (nI (mv (fun s => nx (s * 4 + i)) S n))) ∧ L' = L ∧ f' = f) := by
  refine con_of (cc := b_Ma_reachedFrom) (mL := 5) (lv := [some (.ref (A 0)), some (.int (nI S)), some (.int (nI i)), none, none]) (by decide) (by intro w hw; simp at hw; rcases hw with rfl | rfl | rfl <;> rfl) (by first | exact Nat.le_of_ble_eq_true rfl | decide) rfl ?_
  intro x hx hr hin
  refine v_iconst (v := (nI 0)) hx d_Ma_reachedFrom_0 rfl ?_
  refine v_istore_n (lv' := [some (.ref (A 0)), some (.int (nI S)), some (.int (nI i)), some (.int (nI 0)), none]) hx d_Ma_reachedFrom_1 rfl (by decide) rfl ?_
  refine v_iconst (v := (nI 0)) hx d_Ma_reachedFrom_2 rfl ?_
  refine v_istore (lv' := [some (.ref (A 0)), some (.int (nI S)), some (.int (nI i)), some (.int (nI 0)), some (.int (nI 0))]) hx d_Ma_reachedFrom_3 (by decide) rfl ?_
  have H5 : ∀ (m : Nat) (s : Nat), n - s < m → s ≤ n → V G { frames := 1, cells := 0, slots := 0, locals := 22 } 5 x L f 0 0 [some (.ref (A 0)), some (.int (nI S)), some (.int (nI i)), some (.int (nI (mv (fun s => nx (s * 4 + i)) S s))), some (.int (nI s))] 5 [] := by
    intro m
    induction m with
    | zero => intro s hm; exact absurd hm (Nat.not_lt_zero _)
    | succ m ih =>
      intro s hm hs
      refine v_iload hx d_Ma_reachedFrom_5 rfl ?_
      refine v_aload_n hx d_Ma_reachedFrom_7 rfl rfl ?_
      refine v_get hx cf_Ma 4 (by decide) k_Ma_24 d_Ma_reachedFrom_8 hM.m0 hM.f0 rfl ?_
      refine n_icmp_ge (tgt := 41) hx d_Ma_reachedFrom_11 (by decide) (by omega) (by omega) (fun c11 => ?_) (fun c11 => ?_)
      · have e : s = n := by omega
        rw [e]
        refine v_iload_n hx d_Ma_reachedFrom_41 rfl rfl ?_
        exact v_iret hx hr d_Ma_reachedFrom_42 ⟨rfl, rfl, rfl⟩
      · refine v_iload_n hx d_Ma_reachedFrom_14 rfl rfl ?_
        refine v_iload hx d_Ma_reachedFrom_15 rfl ?_
        refine v_ishr (v := (nI (S / 2 ^ s))) hx d_Ma_reachedFrom_17 (bit_shr hS (by omega)) ?_
        refine v_iconst (v := (nI 1)) hx d_Ma_reachedFrom_18 rfl ?_
        refine v_iand (v := (nI (S / 2 ^ s % 2))) hx d_Ma_reachedFrom_19 (bit_and1 _ (Nat.lt_of_le_of_lt (Nat.div_le_self _ _) (by omega))) ?_
        refine n_if_eq (tgt := 35) hx d_Ma_reachedFrom_20 (by decide) (by omega) (fun c20 => ?_) (fun c20 => ?_)
        · refine n_iinc (lv' := [some (.ref (A 0)), some (.int (nI S)), some (.int (nI i)), some (.int (nI (mv (fun s => nx (s * 4 + i)) S s))), some (.int (nI (s + 1)))]) hx d_Ma_reachedFrom_35 rfl (by decide) rfl ?_
          refine v_goto (tgt := 5) hx d_Ma_reachedFrom_38 (by decide) ?_
          have q := ih (s + 1) (by omega) (by omega)
          have e : mv (fun s => nx (s * 4 + i)) S (s + 1) = mv (fun s => nx (s * 4 + i)) S s := if_neg (by omega)
          rw [e] at q
          exact q
        · refine v_iload_n hx d_Ma_reachedFrom_23 rfl rfl ?_
          refine v_iconst (v := (nI 1)) hx d_Ma_reachedFrom_24 rfl ?_
          refine v_aload_n hx d_Ma_reachedFrom_25 rfl rfl ?_
          refine v_iload hx d_Ma_reachedFrom_26 rfl ?_
          refine v_iload_n hx d_Ma_reachedFrom_28 rfl rfl ?_
          refine v_callV (as := [.int (nI s), .int (nI i)]) (q := (R_Ma, T_Ma, 7)) hx (c_Ma_nextOf hM s i (by omega) hi) cy_Ma_nextOf k_Ma_39 ki_Ma_nextOf kl_Ma_nextOf d_Ma_reachedFrom_29 (by decide) (ci := 1) rfl hM.m0 hM.f0 (by decide) rfl rfl (Nat.le_of_ble_eq_true rfl) (fun v1 L f p1 => ?_)
          obtain ⟨rfl, rfl, rfl⟩ := p1
          refine v_ishl hx d_Ma_reachedFrom_32 rfl ?_
          refine v_ior (v := (nI (mv (fun s => nx (s * 4 + i)) S s ||| 2 ^ nx (s * 4 + i)))) hx d_Ma_reachedFrom_33 (bit_or (mv_lt hN s (by omega)) (hN s (by omega))) ?_
          refine v_istore_n (lv' := [some (.ref (A 0)), some (.int (nI S)), some (.int (nI i)), some (.int (nI (mv (fun s => nx (s * 4 + i)) S s ||| 2 ^ nx (s * 4 + i)))), some (.int (nI s))]) hx d_Ma_reachedFrom_34 rfl (by decide) rfl ?_
          refine n_iinc (lv' := [some (.ref (A 0)), some (.int (nI S)), some (.int (nI i)), some (.int (nI (mv (fun s => nx (s * 4 + i)) S s ||| 2 ^ nx (s * 4 + i)))), some (.int (nI (s + 1)))]) hx d_Ma_reachedFrom_35 rfl (by decide) rfl ?_
          refine v_goto (tgt := 5) hx d_Ma_reachedFrom_38 (by decide) ?_
          have q := ih (s + 1) (by omega) (by omega)
          have e : mv (fun s => nx (s * 4 + i)) S (s + 1) = mv (fun s => nx (s * 4 + i)) S s ||| 2 ^ nx (s * 4 + i) := if_pos (by omega)
          rw [e] at q
          exact q
  exact H5 _ 0 (Nat.lt_succ_self _) (Nat.zero_le _)
set_option maxHeartbeats 4000000 in
set_option maxRecDepth 100000 in
/-- how many sets -/
theorem c_Ma_countSets {G : GT} {L : List Nat} {f : Nat → va_E} {w : Nat → Nat} {id : Nat} {A : Nat → Nat} {nx ou lo fi : Nat → Nat} {n k b : Nat} (hM : MaAt G L f w id A nx ou lo fi n k b) (hn : n ≤ 40) (hlo : ∀ s, s < n → lo s < 40) : Con G y_Ma_countSets (.code y_Ma_countSets b_Ma_countSets 3 (some .int) :: BIG) 0 0 0 0 [.ref (A 0)] L f (fun v L' f' => v = some (.int (nI (cn lo n))) ∧ L' = L ∧ f' = f) := by
  refine con_of (cc := b_Ma_countSets) (mL := 3) (lv := [some (.ref (A 0)), none, none]) (by decide) (by intro w hw; simp at hw; rcases hw with rfl <;> rfl) (by first | exact Nat.le_of_ble_eq_true rfl | decide) rfl ?_
  intro x hx hr hin
  refine v_iconst (v := (nI 0)) hx d_Ma_countSets_0 rfl ?_
  refine v_istore_n (lv' := [some (.ref (A 0)), some (.int (nI 0)), none]) hx d_Ma_countSets_1 rfl (by decide) rfl ?_
  refine v_iconst (v := (nI 0)) hx d_Ma_countSets_2 rfl ?_
  refine v_istore_n (lv' := [some (.ref (A 0)), some (.int (nI 0)), some (.int (nI 0))]) hx d_Ma_countSets_3 rfl (by decide) rfl ?_
  have H4 : ∀ (m : Nat) (s : Nat), n - s < m → s ≤ n → V G { frames := 0, cells := 0, slots := 0, locals := 0 } 3 x L f 0 0 [some (.ref (A 0)), some (.int (nI (cn lo s))), some (.int (nI s))] 4 [] := by
    intro m
    induction m with
    | zero => intro s hm; exact absurd hm (Nat.not_lt_zero _)
    | succ m ih =>
      intro s hm hs
      refine v_iload_n hx d_Ma_countSets_4 rfl rfl ?_
      refine v_aload_n hx d_Ma_countSets_5 rfl rfl ?_
      refine v_get hx cf_Ma 4 (by decide) k_Ma_24 d_Ma_countSets_6 hM.m0 hM.f0 rfl ?_
      refine n_icmp_ge (tgt := 31) hx d_Ma_countSets_9 (by decide) (by omega) (by omega) (fun c9 => ?_) (fun c9 => ?_)
      · have e : s = n := by omega
        rw [e]
        refine v_iload_n hx d_Ma_countSets_31 rfl rfl ?_
        exact v_iret hx hr d_Ma_countSets_32 ⟨rfl, rfl, rfl⟩
      · refine v_aload_n hx d_Ma_countSets_12 rfl rfl ?_
        refine v_get hx cf_Ma 2 (by decide) k_Ma_18 d_Ma_countSets_13 hM.m0 hM.f0 rfl ?_
        refine v_iload_n hx d_Ma_countSets_16 rfl rfl ?_
        refine n_iald hx d_Ma_countSets_17 hM.m3 hM.f3 (by omega) (by decide) ?_
        refine v_iload_n hx d_Ma_countSets_18 rfl rfl ?_
        have hb1 := hlo s (by omega)
        refine n_icmp_ne (tgt := 25) hx d_Ma_countSets_19 (by decide) (by omega) (by omega) (fun c19 => ?_) (fun c19 => ?_)
        · refine n_iinc (lv' := [some (.ref (A 0)), some (.int (nI (cn lo s))), some (.int (nI (s + 1)))]) hx d_Ma_countSets_25 rfl (by decide) rfl ?_
          refine v_goto (tgt := 4) hx d_Ma_countSets_28 (by decide) ?_
          have q := ih (s + 1) (by omega) (by omega)
          have e : cn lo (s + 1) = cn lo s := if_neg c19
          rw [e] at q
          exact q
        · refine n_iinc (lv' := [some (.ref (A 0)), some (.int (nI (cn lo s + 1))), some (.int (nI s))]) hx d_Ma_countSets_22 rfl (by decide) rfl ?_
          refine n_iinc (lv' := [some (.ref (A 0)), some (.int (nI (cn lo s + 1))), some (.int (nI (s + 1)))]) hx d_Ma_countSets_25 rfl (by decide) rfl ?_
          refine v_goto (tgt := 4) hx d_Ma_countSets_28 (by decide) ?_
          have q := ih (s + 1) (by omega) (by omega)
          have e : cn lo (s + 1) = cn lo s + 1 := if_pos c19
          rw [e] at q
          exact q
  exact H4 _ 0 (Nat.lt_succ_self _) (Nat.zero_le _)
