theorem or0 (a : Nat) : nI a ||| nI 0 = nI a := Int32.or_zero
theorem or_p {a j : Nat} (ha : a < 2 ^ 12) (hj : j < 12) : nI a ||| nI (2 ^ j) = nI (a ||| 2 ^ j) := by
  rw [← shl1 j (by omega)]
  exact bit_or ha hj
set_option maxHeartbeats 4000000 in
set_option maxRecDepth 100000 in
theorem c_Mo_ones {G : GT} {L : List Nat} {f : Nat → va_E} (S : Nat) (hS : S < 2 ^ 12) : Con G y_Mo_ones (.code y_Mo_ones b_Mo_ones 3 (some .int) :: BIG) 0 0 0 0 [.int (nI S)] L f (fun v L' f' => v = some (.int (nI (pcn S 12))) ∧ L' = L ∧ f' = f) := by
  refine con_of (cc := b_Mo_ones) (mL := 3) (lv := [some (.int (nI S)), none, none]) (by decide) (by intro w hw; simp at hw; rcases hw with rfl <;> rfl) (by first | exact Nat.le_of_ble_eq_true rfl | decide) rfl ?_
  intro x hx hr hin
  refine v_iconst (v := (nI 0)) hx d_Mo_ones_0 rfl ?_
  refine v_istore_n (lv' := [some (.int (nI S)), some (.int (nI 0)), none]) hx d_Mo_ones_1 rfl (by decide) rfl ?_
  refine v_iconst (v := (nI 0)) hx d_Mo_ones_2 rfl ?_
  refine v_istore_n (lv' := [some (.int (nI S)), some (.int (nI 0)), some (.int (nI 0))]) hx d_Mo_ones_3 rfl (by decide) rfl ?_
  have H4 : ∀ (fu : Nat) (k : Nat), 12 - k < fu → (k ≤ 12) → V G { frames := 0, cells := 0, slots := 0, locals := 0 } 3 x L f 0 0 [some (.int (nI S)), some (.int (nI (pcn S k))), some (.int (nI k))] 4 [] := by
    intro fu
    induction fu with
    | zero => intro k hm; exact absurd hm (Nat.not_lt_zero _)
    | succ fu ih =>
      intro k hm hk
      refine v_iload_n hx d_Mo_ones_4 rfl rfl ?_
      refine v_bipush (v := (nI 12)) hx d_Mo_ones_5 rfl ?_
      refine n_icmp_ge (tgt := 24) hx d_Mo_ones_7 (by decide) (by omega) (by omega) (fun c7 => ?_) (fun c7 => ?_)
      · have e : k = 12 := by omega
        subst e
        refine v_iload_n hx d_Mo_ones_24 rfl rfl ?_
        exact v_iret hx hr d_Mo_ones_25 ⟨rfl, rfl, rfl⟩
      · refine v_iload_n hx d_Mo_ones_10 rfl rfl ?_
        refine v_iload_n hx d_Mo_ones_11 rfl rfl ?_
        refine v_iload_n hx d_Mo_ones_12 rfl rfl ?_
        refine v_ishr (v := (nI (S / 2 ^ k))) hx d_Mo_ones_13 (bit_shr hS (by omega)) ?_
        refine v_iconst (v := (nI 1)) hx d_Mo_ones_14 rfl ?_
        refine v_iand (v := (nI (S / 2 ^ k % 2))) hx d_Mo_ones_15 (bit_and1 _ (Nat.lt_of_le_of_lt (Nat.div_le_self _ _) (by omega))) ?_
        refine n_iadd hx d_Mo_ones_16 ?_
        refine v_istore_n (lv' := [some (.int (nI S)), some (.int (nI ((pcn S k) + (S / 2 ^ k % 2)))), some (.int (nI k))]) hx d_Mo_ones_17 rfl (by decide) rfl ?_
        refine n_iinc (lv' := [some (.int (nI S)), some (.int (nI ((pcn S k) + (S / 2 ^ k % 2)))), some (.int (nI (k + 1)))]) hx d_Mo_ones_18 rfl (by decide) rfl ?_
        refine v_goto (tgt := 4) hx d_Mo_ones_21 (by decide) ?_
        exact ih (k + 1) (by omega) (by omega)
  exact H4 _ 0 (Nat.lt_succ_self _) (Nat.zero_le _)
set_option maxHeartbeats 4000000 in
set_option maxRecDepth 100000 in
theorem c_Mo_moved {G : GT} {L : List Nat} {f : Nat → va_E} {w A : Nat → Nat} {th : Nat} {mc : Nat} {sa : Nat → Nat} {ka : Nat → Nat} {nx : Nat → Nat} {ou : Nat → Nat} {wl : Nat} {wd : Nat → Nat} {ap : Nat → Bool} {fo : Nat} {se : Nat → Nat} {fr : Nat → Option Nat} {by_ : Nat → Nat} {is : Nat → Bool} {tr : Nat} {my : Nat → Nat} {ss : Nat → Nat} {tf : Nat → Option Nat} {tb : Nat → Nat} (hM : MoAt G L f w 100 A th mc sa ka nx ou wl wd ap fo se fr by_ is tr my ss tf tb) (m : Nat) (hm12 : m < 12) (hsm : sa m ≤ 12) (S i : Nat) (hS : S < 2 ^ 12) (hi : i < 4) (hN : ∀ s, s < sa m → nx (160 * m + (s * 4 + i)) < 12) : Con G y_Mo_moved (.code y_Mo_moved b_Mo_moved 6 (some .int) :: BIG) 0 0 0 0 [.ref (A 0), .int (nI m), .int (nI S), .int (nI i)] L f (fun v L' f' => v = some (.int (nI (mv (fun s => nx (160 * m + (s * 4 + i))) S (sa m)))) ∧ L' = L ∧ f' = f) := by
  refine con_of (cc := b_Mo_moved) (mL := 6) (lv := [some (.ref (A 0)), some (.int (nI m)), some (.int (nI S)), some (.int (nI i)), none, none]) (by decide) (by intro w hw; simp at hw; rcases hw with rfl | rfl | rfl | rfl <;> rfl) (by first | exact Nat.le_of_ble_eq_true rfl | decide) rfl ?_
  intro x hx hr hin
  have hF0 := gF.rf (w := w) (id := 100) (f := f)
  refine v_iconst (v := (nI 0)) hx d_Mo_moved_0 rfl ?_
  refine v_istore (lv' := [some (.ref (A 0)), some (.int (nI m)), some (.int (nI S)), some (.int (nI i)), some (.int (nI 0)), none]) hx d_Mo_moved_1 (by decide) rfl ?_
  refine v_iconst (v := (nI 0)) hx d_Mo_moved_3 rfl ?_
  refine v_istore (lv' := [some (.ref (A 0)), some (.int (nI m)), some (.int (nI S)), some (.int (nI i)), some (.int (nI 0)), some (.int (nI 0))]) hx d_Mo_moved_4 (by decide) rfl ?_
  have H6 : ∀ (fu : Nat) (s : Nat), sa m - s < fu → (s ≤ sa m) → V G { frames := 0, cells := 0, slots := 0, locals := 0 } 6 x L f 0 0 [some (.ref (A 0)), some (.int (nI m)), some (.int (nI S)), some (.int (nI i)), some (.int (nI (mv (fun s => nx (160 * m + (s * 4 + i))) S s))), some (.int (nI s))] 6 [] := by
    intro fu
    induction fu with
    | zero => intro s hm; exact absurd hm (Nat.not_lt_zero _)
    | succ fu ih =>
      intro s hm hs
      refine v_iload hx d_Mo_moved_6 rfl ?_
      refine v_aload_n hx d_Mo_moved_8 rfl rfl ?_
      refine v_get hx cf_Mo 2 (by decide) k_Mo_7 d_Mo_moved_9 hM.m0 hM.f0 rfl ?_
      refine v_iload_n hx d_Mo_moved_12 rfl rfl ?_
      refine n_iald hx d_Mo_moved_13 hM.m1 hM.f1 (by omega) (by decide) ?_
      refine n_icmp_ge (tgt := 61) hx d_Mo_moved_14 (by decide) (by omega) (by omega) (fun c14 => ?_) (fun c14 => ?_)
      · have e : s = sa m := by omega
        subst e
        refine v_iload hx d_Mo_moved_61 rfl ?_
        exact v_iret hx hr d_Mo_moved_63 ⟨rfl, rfl, rfl⟩
      · refine v_iload hx d_Mo_moved_17 rfl ?_
        refine v_iload_n hx d_Mo_moved_19 rfl rfl ?_
        refine v_iload hx d_Mo_moved_20 rfl ?_
        refine v_ishr (v := (nI (S / 2 ^ s))) hx d_Mo_moved_22 (bit_shr hS (by omega)) ?_
        refine v_iconst (v := (nI 1)) hx d_Mo_moved_23 rfl ?_
        refine v_iand (v := (nI (S / 2 ^ s % 2))) hx d_Mo_moved_24 (bit_and1 _ (Nat.lt_of_le_of_lt (Nat.div_le_self _ _) (by omega))) ?_
        refine v_iconst (v := (nI 1)) hx d_Mo_moved_25 rfl ?_
        refine n_icmp_ne (tgt := 51) hx d_Mo_moved_26 (by decide) (by omega) (by omega) (fun c26 => ?_) (fun c26 => ?_)
        · refine v_iconst (v := (nI 0)) hx d_Mo_moved_51 rfl ?_
          refine v_ior (v := (nI (mv (fun s => nx (160 * m + (s * 4 + i))) S s))) hx d_Mo_moved_52 (or0 _) ?_
          refine v_istore (lv' := [some (.ref (A 0)), some (.int (nI m)), some (.int (nI S)), some (.int (nI i)), some (.int (nI (mv (fun s => nx (160 * m + (s * 4 + i))) S s))), some (.int (nI s))]) hx d_Mo_moved_53 (by decide) rfl ?_
          refine n_iinc (lv' := [some (.ref (A 0)), some (.int (nI m)), some (.int (nI S)), some (.int (nI i)), some (.int (nI (mv (fun s => nx (160 * m + (s * 4 + i))) S s))), some (.int (nI (s + 1)))]) hx d_Mo_moved_55 rfl (by decide) rfl ?_
          refine v_goto (tgt := 6) hx d_Mo_moved_58 (by decide) ?_
          have q := ih (s + 1) (by omega) (by omega)
          have e : mv (fun s => nx (160 * m + (s * 4 + i))) S (s + 1) = mv (fun s => nx (160 * m + (s * 4 + i))) S s := if_neg (by omega)
          rw [e] at q
          exact q
        · refine v_iconst (v := (nI 1)) hx d_Mo_moved_29 rfl ?_
          refine v_aload_n hx d_Mo_moved_30 rfl rfl ?_
          refine v_get hx cf_Mo 4 (by decide) k_Mo_16 d_Mo_moved_31 hM.m0 hM.f0 rfl ?_
          refine v_sipush (v := (nI 160)) hx d_Mo_moved_34 rfl ?_
          refine v_iload_n hx d_Mo_moved_37 rfl rfl ?_
          refine n_imul hx d_Mo_moved_38 ?_
          refine v_iconst (v := (nI 4)) hx d_Mo_moved_39 rfl ?_
          refine v_iload hx d_Mo_moved_40 rfl ?_
          refine n_imul hx d_Mo_moved_42 ?_
          refine n_iadd hx d_Mo_moved_43 ?_
          refine v_iload_n hx d_Mo_moved_44 rfl rfl ?_
          refine n_iadd hx d_Mo_moved_45 ?_
          refine n_iald hx d_Mo_moved_46 hM.m3 hM.f3 (by omega) (by decide) ?_
          rw [pic_ix]
          refine v_ishl (v := (nI (2 ^ nx (160 * m + (s * 4 + i))))) hx d_Mo_moved_47 (shl1 _ (by have := hN s (by omega); omega)) ?_
          refine v_goto (tgt := 52) hx d_Mo_moved_48 (by decide) ?_
          refine v_ior (v := (nI (mv (fun s => nx (160 * m + (s * 4 + i))) S s ||| 2 ^ nx (160 * m + (s * 4 + i))))) hx d_Mo_moved_52 (or_p (mv_lt hN s (by omega)) (hN s (by omega))) ?_
          refine v_istore (lv' := [some (.ref (A 0)), some (.int (nI m)), some (.int (nI S)), some (.int (nI i)), some (.int (nI (mv (fun s => nx (160 * m + (s * 4 + i))) S s ||| 2 ^ nx (160 * m + (s * 4 + i))))), some (.int (nI s))]) hx d_Mo_moved_53 (by decide) rfl ?_
          refine n_iinc (lv' := [some (.ref (A 0)), some (.int (nI m)), some (.int (nI S)), some (.int (nI i)), some (.int (nI (mv (fun s => nx (160 * m + (s * 4 + i))) S s ||| 2 ^ nx (160 * m + (s * 4 + i))))), some (.int (nI (s + 1)))]) hx d_Mo_moved_55 rfl (by decide) rfl ?_
          refine v_goto (tgt := 6) hx d_Mo_moved_58 (by decide) ?_
          have q := ih (s + 1) (by omega) (by omega)
          have e : mv (fun s => nx (160 * m + (s * 4 + i))) S (s + 1) = mv (fun s => nx (160 * m + (s * 4 + i))) S s ||| 2 ^ nx (160 * m + (s * 4 + i)) := if_pos (by omega)
          rw [e] at q
          exact q
  exact H6 _ 0 (Nat.lt_succ_self _) (Nat.zero_le _)
set_option maxHeartbeats 4000000 in
set_option maxRecDepth 100000 in
theorem c_Mo_reset {G : GT} {L : List Nat} {f : Nat → va_E} {w A : Nat → Nat} {th : Nat} {mc : Nat} {sa : Nat → Nat} {ka : Nat → Nat} {nx : Nat → Nat} {ou : Nat → Nat} {wl : Nat} {wd : Nat → Nat} {ap : Nat → Bool} {fo : Nat} {se : Nat → Nat} {fr : Nat → Option Nat} {by_ : Nat → Nat} {is : Nat → Bool} {tr : Nat} {my : Nat → Nat} {ss : Nat → Nat} {tf : Nat → Option Nat} {tb : Nat → Nat} (hM : MoAt G L f w 100 A th mc sa ka nx ou wl wd ap fo se fr by_ is tr my ss tf tb) (hG : okG (pic mc sa ka nx ou wl wd)) (p : Int32) : Con G y_Mo_reset (.code y_Mo_reset b_Mo_reset 4 (some .int) :: BIG) 2 45 0 0 [.ref (A 0), .int p] L f (fun v L' f' => ∃ (vi : Int32) (th' : Nat) (σ' : SG), v = some (.int vi) ∧ L' = L ∧ gF w 100 f f' ∧ MoS G L f' w A th' σ' ∧ th' = 0 ∧ rReset (pic mc sa ka nx ou wl wd) p vi σ') := by
  refine con_of (cc := b_Mo_reset) (mL := 4) (lv := [some (.ref (A 0)), some (.int p), none, none]) (by decide) (by intro w hw; simp at hw; rcases hw with rfl | rfl <;> rfl) (by first | exact Nat.le_of_ble_eq_true rfl | decide) rfl ?_
  intro x hx hr hin
  have hF0 := gF.rf (w := w) (id := 100) (f := f)
  obtain ⟨hmc, hok, hwl, hwd⟩ := id hG
  have hmc : mc ≤ 12 := hmc
  have hok : ∀ j, j < mc → okA (fun t => nx (160 * j + t)) (fun t => ou (160 * j + t)) (sa j) (ka j) := hok
  have hwl : wl ≤ 4096 := hwl
  have hwd : ∀ j, j < wl → wd j < 4 := hwd
  have hsa : ∀ j, j < mc → sa j ≤ 40 := fun j hj => (hok j hj).2.1
  have hka : ∀ j, j < mc → ka j ≤ 4 := fun j hj => (hok j hj).2.2.2.1
  refine v_aload_n hx d_Mo_reset_0 rfl rfl ?_
  refine v_iconst (v := (nI 0)) hx d_Mo_reset_1 rfl ?_
  refine v_put hx cf_Mo 0 (by decide) k_Mo_53 rfl rfl rfl d_Mo_reset_2 hM.m0 hM.f0 (Nat.le_of_ble_eq_true rfl) (fun f1 hf1 => ?_)
  have mf1 := hM.up0 hf1
  have Ff1 := hF0.up hf1 hM.o0
  refine v_aload_n hx d_Mo_reset_5 rfl rfl ?_
  refine v_iload_n hx d_Mo_reset_6 rfl rfl ?_
  refine v_callV (as := [.int p]) (q := (R_Mo, T_Mo, 19)) hx (c_Mo_isMachine mf1 hmc p) cy_Mo_isMachine k_Mo_64 ki_Mo_isMachine kl_Mo_isMachine d_Mo_reset_7 (by decide) (ci := 4) rfl mf1.m0 mf1.f0 (by decide) rfl rfl (Nat.le_of_ble_eq_true rfl) (fun v2 L f1 p2 => ?_)
  obtain ⟨rfl, rfl, rfl⟩ := p2
  refine v_if_eq (tgt := 24) hx d_Mo_reset_10 (by decide) (fun c10 => ?_) (fun c10 => ?_)
  · refine v_iconst (v := (-1)) hx d_Mo_reset_24 rfl ?_
    exact v_iret hx hr d_Mo_reset_25 ⟨_, 0, (pic mc sa ka nx ou wl wd), rfl, rfl, Ff1, ⟨hG, _, _, _, _, _, _, _, _, _, _, _, _, _, mf1, rfl, rfl⟩, rfl, Or.inl ⟨fun m_ hx => (by rw [none_ix c10] at hx; cases hx), rfl, Rel.rf _⟩⟩
  · obtain ⟨m, em⟩ := some_ix c10
    obtain ⟨hm, zm⟩ := ix_some (by omega) em
    have hAm := hok m hm
    have hsm := hsa m hm
    have hkm := hka m hm
    subst zm
    refine v_aload_n hx d_Mo_reset_13 rfl rfl ?_
    refine v_get hx cf_Mo 2 (by decide) k_Mo_7 d_Mo_reset_14 mf1.m0 mf1.f0 rfl ?_
    refine v_iload_n hx d_Mo_reset_17 rfl rfl ?_
    refine n_iald hx d_Mo_reset_18 mf1.m1 mf1.f1 (by omega) (by decide) ?_
    refine v_bipush (v := (nI 12)) hx d_Mo_reset_19 rfl ?_
    refine n_icmp_le (tgt := 26) hx d_Mo_reset_21 (by decide) (by omega) (by omega) (fun c21 => ?_) (fun c21 => ?_)
    · have hpw : 2 ^ sa m ≤ 4096 := by have := Nat.pow_le_pow_right (show 0 < 2 by decide) c21; simpa using this
      have hpp := Nat.two_pow_pos (sa m)
      have hlt : ∀ p, rP (sa m) p → p < 2 ^ sa m := fun _ h => h
      have hnP := rP_nx hAm c21
      have hP0 : rP (sa m) (2 ^ sa m - 1) := by show 2 ^ sa m - 1 < 2 ^ sa m; omega
      have hq0 : qOK (rQ (sa m)) (2 ^ sa m) := q0_ok (hlt _ hP0)
      have hI0 : qI (rP (sa m)) (rQ (sa m)) := q0_I hP0
      have hm_ := hm
      refine v_aload_n hx d_Mo_reset_26 rfl rfl ?_
      refine v_iconst (v := (nI 1)) hx d_Mo_reset_27 rfl ?_
      refine v_aload_n hx d_Mo_reset_28 rfl rfl ?_
      refine v_get hx cf_Mo 2 (by decide) k_Mo_7 d_Mo_reset_29 mf1.m0 mf1.f0 rfl ?_
      refine v_iload_n hx d_Mo_reset_32 rfl rfl ?_
      refine n_iald hx d_Mo_reset_33 mf1.m1 mf1.f1 (by omega) (by decide) ?_
      refine v_ishl (v := (nI (2 ^ sa m))) hx d_Mo_reset_34 (shl1 (sa m) c21) ?_
      refine v_iconst (v := (nI 1)) hx d_Mo_reset_35 rfl ?_
      refine n_isub hx d_Mo_reset_36 (by omega) ?_
      refine v_callV (as := [.int (nI ((2 ^ sa m) - 1))]) (q := (R_Mo, T_Mo, 19)) hx (c_Mo_begin mf1 (2 ^ sa m - 1) (by omega)) cy_Mo_begin k_Mo_97 ki_Mo_begin kl_Mo_begin d_Mo_reset_37 (by decide) (ci := 4) rfl mf1.m0 mf1.f0 (by decide) rfl rfl (Nat.le_of_ble_eq_true rfl) (fun v3 L f1 p3 => ?_)
      obtain ⟨rfl, rfl, hF1, fo1, se1, fr1, by1, is1, hM1, hQ1⟩ := p3
      have hF1_ := Ff1.tr hF1
      refine v_iconst (v := (nI 0)) hx d_Mo_reset_40 rfl ?_
      refine v_istore_n (lv' := [some (.ref (A 0)), some (.int (nI m)), some (.int (nI 0)), none]) hx d_Mo_reset_41 rfl (by decide) rfl ?_
      have H42 : ∀ (fu : Nat) (a : Nat) (f1 : Nat → va_E) (fo1 : Nat) (se1 : Nat → Nat) (fr1 : Nat → Option Nat) (by1 : Nat → Nat) (is1 : Nat → Bool), 2 ^ sa m - a < fu → (a ≤ 2 ^ sa m) → (∀ b, b < a → b < (bout (rNx (fun t => nx (160 * m + t)) (sa m)) (ka m) (rQ (sa m)) b).length) → (∀ b, b < a → ¬ (fun p => pcn p 12 = 1) (qP (bout (rNx (fun t => nx (160 * m + t)) (sa m)) (ka m) (rQ (sa m)) b) b)) → (MoAt G L f1 w 100 A 0 mc sa ka nx ou wl wd ap fo1 se1 fr1 by1 is1 tr my ss tf tb) → (ReQ fo1 se1 fr1 by1 is1 (bout (rNx (fun t => nx (160 * m + t)) (sa m)) (ka m) (rQ (sa m)) a)) → (gF w 100 f f1) → V G { frames := 2, cells := 0, slots := 0, locals := 45 } 4 x L f1 0 0 [some (.ref (A 0)), some (.int (nI m)), some (.int (nI a)), none] 42 [] := by
        intro fu
        induction fu with
        | zero => intro a f1 fo1 se1 fr1 by1 is1 hm; exact absurd hm (Nat.not_lt_zero _)
        | succ fu ih =>
          intro a f1 fo1 se1 fr1 by1 is1 hm ha0 hr1 hg1 hM1 hQ hF1_
          have ihO := ih
          have hok := bout_ok hq0 hI0 hkm hlt hnP a hr1
          have hlen := hok.1.len
          have hce := hQ.1
          refine v_iload_n hx d_Mo_reset_42 rfl rfl ?_
          refine v_aload_n hx d_Mo_reset_43 rfl rfl ?_
          refine v_get hx cf_Mo 9 (by decide) k_Mo_87 d_Mo_reset_44 hM1.m0 hM1.f0 rfl ?_
          refine n_icmp_ge (tgt := 116) hx d_Mo_reset_47 (by decide) (by omega) (by omega) (fun c47 => ?_) (fun c47 => ?_)
          · refine v_iconst (v := (-1)) hx d_Mo_reset_116 rfl ?_
            have hBE : BEnd (rNx (fun t => nx (160 * m + t)) (sa m)) (ka m) (rQ (sa m)) a := ⟨by omega, hr1⟩
            exact v_iret hx hr d_Mo_reset_117 ⟨_, 0, (pic mc sa ka nx ou wl wd), rfl, rfl, hF1_, ⟨hG, _, _, _, _, _, _, _, _, _, _, _, _, _, hM1, rfl, rfl⟩, rfl, Or.inr ⟨m, none, em, c21, ⟨a, hBE, hg1⟩, rfl, Rel.rf _⟩⟩
          · have haL : a < (bout (rNx (fun t => nx (160 * m + t)) (sa m)) (ka m) (rQ (sa m)) a).length := by omega
            have hpa : se1 a = qP (bout (rNx (fun t => nx (160 * m + t)) (sa m)) (ka m) (rQ (sa m)) a) a := (hQ.2.1 a (by omega)).1
            have hPa : rP (sa m) (se1 a) := by rw [hpa]; exact hok.2 _ (qP_mem haL)
            have hPa2 : se1 a < 2 ^ sa m := hPa
            have hps := pcn_small (se1 a)
            refine v_aload_n hx d_Mo_reset_50 rfl rfl ?_
            refine v_get hx cf_Mo 10 (by decide) k_Mo_29 d_Mo_reset_51 hM1.m0 hM1.f0 rfl ?_
            refine v_iload_n hx d_Mo_reset_54 rfl rfl ?_
            refine n_iald hx d_Mo_reset_55 hM1.m7 hM1.f7 (by omega) (by decide) ?_
            refine v_callS (as := [.int (nI (se1 a))]) hx (c_Mo_ones (se1 a) (by omega)) cy_Mo_ones k_Mo_110 ks_Mo_ones d_Mo_reset_56 (by decide) (by decide) rfl rfl (Nat.le_of_ble_eq_true rfl) (fun v4 L f1 p4 => ?_)
            obtain ⟨rfl, rfl, rfl⟩ := p4
            refine v_iconst (v := (nI 1)) hx d_Mo_reset_59 rfl ?_
            refine n_icmp_ne (tgt := 74) hx d_Mo_reset_60 (by decide) (by omega) (by omega) (fun c60 => ?_) (fun c60 => ?_)
            · refine v_iconst (v := (nI 0)) hx d_Mo_reset_74 rfl ?_
              refine v_istore_n (lv' := [some (.ref (A 0)), some (.int (nI m)), some (.int (nI a)), some (.int (nI 0))]) hx d_Mo_reset_75 rfl (by decide) rfl ?_
              have H76 : ∀ (fu : Nat) (i : Nat) (f2 : Nat → va_E) (fo2 : Nat) (se2 : Nat → Nat) (fr2 : Nat → Option Nat) (by2 : Nat → Nat) (is2 : Nat → Bool), ka m - i < fu → (i ≤ ka m) → (MoAt G L f2 w 100 A 0 mc sa ka nx ou wl wd ap fo2 se2 fr2 by2 is2 tr my ss tf tb) → (ReQ fo2 se2 fr2 by2 is2 (bin (rNx (fun t => nx (160 * m + t)) (sa m)) (bout (rNx (fun t => nx (160 * m + t)) (sa m)) (ka m) (rQ (sa m)) a) a i)) → (gF w 100 f f2) → V G { frames := 2, cells := 0, slots := 0, locals := 45 } 4 x L f2 0 0 [some (.ref (A 0)), some (.int (nI m)), some (.int (nI a)), some (.int (nI i))] 76 [] := by
                intro fu
                induction fu with
                | zero => intro i f2 fo2 se2 fr2 by2 is2 hm; exact absurd hm (Nat.not_lt_zero _)
                | succ fu ih =>
                  intro i f2 fo2 se2 fr2 by2 is2 hm hi hM2_ hQ2_ hF2
                  have hoki := bin_ok hok.1 hok.2 haL hkm hlt hnP i hi
                  have hlen2 := hoki.1.len
                  have hce2 := hQ2_.1
                  have hbl := bin_len (rNx (fun t => nx (160 * m + t)) (sa m)) (bout (rNx (fun t => nx (160 * m + t)) (sa m)) (ka m) (rQ (sa m)) a) a i
                  have hsub := bin_sub (rNx (fun t => nx (160 * m + t)) (sa m)) (bout (rNx (fun t => nx (160 * m + t)) (sa m)) (ka m) (rQ (sa m)) a) a i
                  have hse2 : se2 a = se1 a := by rw [(hQ2_.2.1 a (by omega)).1, hpa, (hsub.2 a haL).1]
                  refine v_iload_n hx d_Mo_reset_76 rfl rfl ?_
                  refine v_aload_n hx d_Mo_reset_77 rfl rfl ?_
                  refine v_get hx cf_Mo 3 (by decide) k_Mo_13 d_Mo_reset_78 hM2_.m0 hM2_.f0 rfl ?_
                  refine v_iload_n hx d_Mo_reset_81 rfl rfl ?_
                  refine n_iald hx d_Mo_reset_82 hM2_.m2 hM2_.f2 (by omega) (by decide) ?_
                  refine n_icmp_ge (tgt := 110) hx d_Mo_reset_83 (by decide) (by omega) (by omega) (fun c83 => ?_) (fun c83 => ?_)
                  · refine n_iinc (lv' := [some (.ref (A 0)), some (.int (nI m)), some (.int (nI (a + 1))), some (.int (nI i))]) hx d_Mo_reset_110 rfl (by decide) rfl ?_
                    refine v_goto (tgt := 42) hx d_Mo_reset_113 (by decide) ?_
                    have e6 : i = ka m := by omega
                    refine v_weak (by simp [vsub]) (ihO (a + 1) f2 fo2 se2 fr2 by2 is2 (by omega) (by omega) (lt_s hr1 haL) (lt_s hg1 (by rw [← hpa]; exact c60)) hM2_ (by rw [e6] at hQ2_; exact hQ2_) hF2)
                  · refine v_aload_n hx d_Mo_reset_86 rfl rfl ?_
                    refine v_aload_n hx d_Mo_reset_87 rfl rfl ?_
                    refine v_iload_n hx d_Mo_reset_88 rfl rfl ?_
                    refine v_aload_n hx d_Mo_reset_89 rfl rfl ?_
                    refine v_get hx cf_Mo 10 (by decide) k_Mo_29 d_Mo_reset_90 hM2_.m0 hM2_.f0 rfl ?_
                    refine v_iload_n hx d_Mo_reset_93 rfl rfl ?_
                    refine n_iald hx d_Mo_reset_94 hM2_.m7 hM2_.f7 (by omega) (by decide) ?_
                    rw [hse2]
                    refine v_iload_n hx d_Mo_reset_95 rfl rfl ?_
                    refine v_callV (as := [.int (nI m), .int (nI (se1 a)), .int (nI i)]) (q := (R_Mo, T_Mo, 19)) hx (c_Mo_moved hM2_ m (by omega) c21 (se1 a) i (by omega) (by omega) (fun s hs => by have := (hAm.2.2.2.2 s i hs (by omega)).1; exact Nat.lt_of_lt_of_le this c21)) cy_Mo_moved k_Mo_113 ki_Mo_moved kl_Mo_moved d_Mo_reset_96 (by decide) (ci := 4) rfl hM2_.m0 hM2_.f0 (by decide) rfl rfl (Nat.le_of_ble_eq_true rfl) (fun v4 L f2 p4 => ?_)
                    obtain ⟨rfl, rfl, rfl⟩ := p4
                    rw [show mv (fun s => nx (160 * m + (s * 4 + i))) (se1 a) (sa m) = (rNx (fun t => nx (160 * m + t)) (sa m)) (se1 a) i from rfl]
                    refine v_iload_n hx d_Mo_reset_99 rfl rfl ?_
                    refine v_iload_n hx d_Mo_reset_100 rfl rfl ?_
                    refine v_callV (as := [.int (nI ((rNx (fun t => nx (160 * m + t)) (sa m)) (se1 a) i)), .int (nI a), .int (nI i)]) (q := (R_Mo, T_Mo, 19)) hx (c_Mo_come hM2_ hQ2_ ⟨hoki.1.1, fun p hp => Nat.lt_of_lt_of_le (hoki.1.2.1 p hp) hpw, hoki.1.2.2⟩ a i (some a) ((rNx (fun t => nx (160 * m + t)) (sa m)) (se1 a) i) (Nat.lt_of_lt_of_le (hlt _ (hnP _ i hPa (by omega))) hpw) (by rw [if_neg (by omega)]) (Or.inl (by omega)) (by omega)) cy_Mo_come k_Mo_90 ki_Mo_come kl_Mo_come d_Mo_reset_101 (by decide) (ci := 4) rfl hM2_.m0 hM2_.f0 (by decide) rfl rfl (Nat.le_of_ble_eq_true rfl) (fun v5 L f5 p5 => ?_)
                    obtain ⟨rfl, rfl, hF5, fo5, se5, fr5, by5, is5, hM5, hQ5⟩ := p5
                    refine n_iinc (lv' := [some (.ref (A 0)), some (.int (nI m)), some (.int (nI a)), some (.int (nI (i + 1)))]) hx d_Mo_reset_104 rfl (by decide) rfl ?_
                    refine v_goto (tgt := 76) hx d_Mo_reset_107 (by decide) ?_
                    have e5 : (bin (rNx (fun t => nx (160 * m + t)) (sa m)) (bout (rNx (fun t => nx (160 * m + t)) (sa m)) (ka m) (rQ (sa m)) a) a (i + 1)) = qr (bin (rNx (fun t => nx (160 * m + t)) (sa m)) (bout (rNx (fun t => nx (160 * m + t)) (sa m)) (ka m) (rQ (sa m)) a) a i) ((rNx (fun t => nx (160 * m + t)) (sa m)) (se1 a) i) a i := by rw [hpa]; rfl
                    refine ih (i + 1) f5 fo5 se5 fr5 by5 is5 (by omega) (by omega) hM5 ?_ (hF2.tr hF5)
                    rw [e5]
                    exact hQ5
              exact H76 _ 0 f1 fo1 se1 fr1 by1 is1 (Nat.lt_succ_self _) (Nat.zero_le _) hM1 hQ hF1_
            · have hTl := hQ.tl hok.1 hpw haL
              have hFs : Fst (rNx (fun t => nx (160 * m + t)) (sa m)) (fun p => pcn p 12 = 1) (ka m) (rQ (sa m)) (some a) := ⟨lt_le hr1 haL, hg1, by rw [← hpa]; exact c60⟩
              generalize hWW : qW (bout (rNx (fun t => nx (160 * m + t)) (sa m)) (ka m) (rQ (sa m)) a) a = W at hTl
              have hWok := hTl.ok
              refine v_aload_n hx d_Mo_reset_63 rfl rfl ?_
              refine v_iload_n hx d_Mo_reset_64 rfl rfl ?_
              refine v_iconst (v := (-1)) hx d_Mo_reset_65 rfl ?_
              refine v_callV (as := [.int (nI a), .int (-1)]) (q := (R_Mo, T_Mo, 19)) hx (c_Mo_tellN hM1 a hTl) cy_Mo_tell k_Mo_100 ki_Mo_tell kl_Mo_tell d_Mo_reset_66 (by decide) (ci := 4) rfl hM1.m0 hM1.f0 (by decide) rfl rfl (Nat.le_of_ble_eq_true rfl) (fun v5 L f6 p5 => ?_)
              obtain ⟨rfl, rfl, hF6, wd6, hM6, hwd6⟩ := p5
              have hF6_ := hF1_.tr hF6
              refine v_aload_n hx d_Mo_reset_69 rfl rfl ?_
              refine v_get hx cf_Mo 6 (by decide) k_Mo_94 d_Mo_reset_70 hM6.m0 hM6.f0 rfl ?_
              exact v_iret hx hr d_Mo_reset_73 ⟨_, 0, (pic mc sa ka nx ou W.length wd6), rfl, rfl, hF6_, ⟨okG_word hG (by have := hWok.1; omega) hWok.2 hwd6, _, _, _, _, _, _, _, _, _, _, _, _, _, hM6, rfl, rfl⟩, rfl, Or.inr ⟨m, some a, em, c21, hFs, by rw [hWW], relT.rf _, by rw [hWW], by rw [hWW]; exact hwd6⟩⟩
      exact v_weak (by simp [vsub]) (H42 _ 0 f1 fo1 se1 fr1 by1 is1 (Nat.lt_succ_self _) (Nat.zero_le _) (fun _ h => absurd h (Nat.not_lt_zero _)) (fun _ h => absurd h (Nat.not_lt_zero _)) hM1 hQ1 hF1_)
    · have h12 : 12 < sa m := by omega
      refine v_iconst (v := (-1)) hx d_Mo_reset_24 rfl ?_
      exact v_iret hx hr d_Mo_reset_25 ⟨_, 0, (pic mc sa ka nx ou wl wd), rfl, rfl, Ff1, ⟨hG, _, _, _, _, _, _, _, _, _, _, _, _, _, mf1, rfl, rfl⟩, rfl, Or.inl ⟨fun m_ hx => (by have h1 : some m = some m_ := em.symm.trans hx; cases h1; exact h12), rfl, Rel.rf _⟩⟩
set_option maxHeartbeats 4000000 in
set_option maxRecDepth 100000 in
theorem c_Mo_chains {G : GT} {L : List Nat} {f : Nat → va_E} {w A : Nat → Nat} {th : Nat} {mc : Nat} {sa : Nat → Nat} {ka : Nat → Nat} {nx : Nat → Nat} {ou : Nat → Nat} {wl : Nat} {wd : Nat → Nat} {ap : Nat → Bool} {fo : Nat} {se : Nat → Nat} {fr : Nat → Option Nat} {by_ : Nat → Nat} {is : Nat → Bool} {tr : Nat} {my : Nat → Nat} {ss : Nat → Nat} {tf : Nat → Option Nat} {tb : Nat → Nat} (hM : MoAt G L f w 100 A th mc sa ka nx ou wl wd ap fo se fr by_ is tr my ss tf tb) (m m2 : Nat) (hm12 : m < 12) (hm22 : m2 < 12) (hA : okA (fun t => nx (160 * m + t)) (fun t => ou (160 * m + t)) (sa m) (ka m)) (hB : okA (fun t => nx (160 * m2 + t)) (fun t => ou (160 * m2 + t)) (sa m2) (ka m2)) : Con G y_Mo_chains (.code y_Mo_chains b_Mo_chains 6 (some .boolean) :: BIG) 2 45 0 0 [.ref (A 0), .int (nI m), .int (nI m2)] L f (fun v L' f' => L' = L ∧ gF w 100 f f' ∧ ∃ (fo' : Nat) (se' : Nat → Nat) (fr' : Nat → Option Nat) (by' : Nat → Nat) (is' : Nat → Bool), MoAt G L f' w 100 A th mc sa ka nx ou wl wd ap fo' se' fr' by' is' tr my ss tf tb ∧ (BEnd (cNx (fun t => nx (160 * m + t)) (fun t => ou (160 * m + t)) (fun t => nx (160 * m2 + t)) (ka m2)) (ka m) [(0, 0, 0)] fo' ∧ (∀ a, a < fo' → ∀ i, i < ka m → ¬ (cBad (fun t => ou (160 * m + t)) (ka m2)) (qP (bout (cNx (fun t => nx (160 * m + t)) (fun t => ou (160 * m + t)) (fun t => nx (160 * m2 + t)) (ka m2)) (ka m) [(0, 0, 0)] a) a) i) ∧ fo' ≤ 40 ∧ v = some (.int (nI 1)) ∧ ReQ fo' se' fr' by' is' (bout (cNx (fun t => nx (160 * m + t)) (fun t => ou (160 * m + t)) (fun t => nx (160 * m2 + t)) (ka m2)) (ka m) [(0, 0, 0)] fo') ∧ qOK (bout (cNx (fun t => nx (160 * m + t)) (fun t => ou (160 * m + t)) (fun t => nx (160 * m2 + t)) (ka m2)) (ka m) [(0, 0, 0)] fo') 1600 ∧ qI (wP (sa m) (sa m2)) (bout (cNx (fun t => nx (160 * m + t)) (fun t => ou (160 * m + t)) (fun t => nx (160 * m2 + t)) (ka m2)) (ka m) [(0, 0, 0)] fo') ∨ ¬ ChOK (cNx (fun t => nx (160 * m + t)) (fun t => ou (160 * m + t)) (fun t => nx (160 * m2 + t)) (ka m2)) (cBad (fun t => ou (160 * m + t)) (ka m2)) (ka m) [(0, 0, 0)] ∧ v = some (.int (nI 0)))) := by
  refine con_of (cc := b_Mo_chains) (mL := 6) (lv := [some (.ref (A 0)), some (.int (nI m)), some (.int (nI m2)), none, none, none]) (by decide) (by intro w hw; simp at hw; rcases hw with rfl | rfl | rfl <;> rfl) (by first | exact Nat.le_of_ble_eq_true rfl | decide) rfl ?_
  intro x hx hr hin
  have hF0 := gF.rf (w := w) (id := 100) (f := f)
  obtain ⟨hn1, hn2, hk1, hk2, hnx⟩ := id hA
  obtain ⟨gn1, gn2, gk1, gk2, gnx⟩ := id hB
  have hlt := wP_lt hA hB
  have hnP := cP_nx hA hB
  have hP0 : wP (sa m) (sa m2) 0 := wP_mk (a := 0) (b := 0) (by omega) (by omega) gn2
  have hq0 : qOK [(0, 0, 0)] 1600 := q0_ok (by decide)
  have hI0 : qI (wP (sa m) (sa m2)) [(0, 0, 0)] := q0_I hP0
  refine v_aload_n hx d_Mo_chains_0 rfl rfl ?_
  refine v_iconst (v := (nI 0)) hx d_Mo_chains_1 rfl ?_
  refine v_callV (as := [.int (nI 0)]) (q := (R_Mo, T_Mo, 19)) hx (c_Mo_begin hM 0 (by decide)) cy_Mo_begin k_Mo_97 ki_Mo_begin kl_Mo_begin d_Mo_chains_2 (by decide) (ci := 4) rfl hM.m0 hM.f0 (by decide) rfl rfl (Nat.le_of_ble_eq_true rfl) (fun v1 L f1 p1 => ?_)
  obtain ⟨rfl, rfl, hF1, fo1, se1, fr1, by1, is1, hM1, hQ1⟩ := p1
  have hF1_ := hF0.tr hF1
  refine v_iconst (v := (nI 0)) hx d_Mo_chains_5 rfl ?_
  refine v_istore_n (lv' := [some (.ref (A 0)), some (.int (nI m)), some (.int (nI m2)), some (.int (nI 0)), none, none]) hx d_Mo_chains_6 rfl (by decide) rfl ?_
  have H7 : ∀ (fu : Nat) (a : Nat) (f1 : Nat → va_E) (fo1 : Nat) (se1 : Nat → Nat) (fr1 : Nat → Option Nat) (by1 : Nat → Nat) (is1 : Nat → Bool), 41 - a < fu → (a ≤ 40) → (fo1 ≤ 40) → (∀ b, b < a → b < (bout (cNx (fun t => nx (160 * m + t)) (fun t => ou (160 * m + t)) (fun t => nx (160 * m2 + t)) (ka m2)) (ka m) [(0, 0, 0)] b).length) → (∀ b, b < a → ∀ j, j < ka m → ¬ (cBad (fun t => ou (160 * m + t)) (ka m2)) (qP (bout (cNx (fun t => nx (160 * m + t)) (fun t => ou (160 * m + t)) (fun t => nx (160 * m2 + t)) (ka m2)) (ka m) [(0, 0, 0)] b) b) j) → (MoAt G L f1 w 100 A th mc sa ka nx ou wl wd ap fo1 se1 fr1 by1 is1 tr my ss tf tb) → (ReQ fo1 se1 fr1 by1 is1 (bout (cNx (fun t => nx (160 * m + t)) (fun t => ou (160 * m + t)) (fun t => nx (160 * m2 + t)) (ka m2)) (ka m) [(0, 0, 0)] a)) → (gF w 100 f f1) → V G { frames := 2, cells := 0, slots := 0, locals := 45 } 6 x L f1 0 0 [some (.ref (A 0)), some (.int (nI m)), some (.int (nI m2)), some (.int (nI a)), none, none] 7 [] := by
    intro fu
    induction fu with
    | zero => intro a f1 fo1 se1 fr1 by1 is1 hm; exact absurd hm (Nat.not_lt_zero _)
    | succ fu ih =>
      intro a f1 fo1 se1 fr1 by1 is1 hm ha0 h40 hr1 hg1 hM1 hQ hF1_
      have ihO := ih
      have hok := bout_ok hq0 hI0 hk2 hlt hnP a hr1
      have hlen := hok.1.len
      have hce := hQ.1
      refine v_iload_n hx d_Mo_chains_7 rfl rfl ?_
      refine v_aload_n hx d_Mo_chains_8 rfl rfl ?_
      refine v_get hx cf_Mo 9 (by decide) k_Mo_87 d_Mo_chains_9 hM1.m0 hM1.f0 rfl ?_
      refine n_icmp_ge (tgt := 140) hx d_Mo_chains_12 (by decide) (by omega) (by omega) (fun c12 => ?_) (fun c12 => ?_)
      · refine v_iconst (v := (nI 1)) hx d_Mo_chains_140 rfl ?_
        have hE : BEnd (cNx (fun t => nx (160 * m + t)) (fun t => ou (160 * m + t)) (fun t => nx (160 * m2 + t)) (ka m2)) (ka m) [(0, 0, 0)] a := ⟨by omega, hr1⟩
        have hfa : fo1 = a := by rw [hce]; exact hE.len (Nat.le_refl _)
        subst hfa
        exact v_zret hx hr d_Mo_chains_141 rfl ⟨rfl, hF1_, _, _, _, _, _, hM1, Or.inl ⟨hE, hg1, h40, rfl, hQ, hok.1, hok.2⟩⟩
      · have haL : a < (bout (cNx (fun t => nx (160 * m + t)) (fun t => ou (160 * m + t)) (fun t => nx (160 * m2 + t)) (ka m2)) (ka m) [(0, 0, 0)] a).length := by omega
        have hpa : se1 a = qP (bout (cNx (fun t => nx (160 * m + t)) (fun t => ou (160 * m + t)) (fun t => nx (160 * m2 + t)) (ka m2)) (ka m) [(0, 0, 0)] a) a := (hQ.2.1 a (by omega)).1
        have hPa : wP (sa m) (sa m2) (se1 a) := by rw [hpa]; exact hok.2 _ (qP_mem haL)
        have hPa1 := hPa.1
        have hPa2 := hPa.2
        have hpl := hlt _ hPa
        refine v_iconst (v := (nI 0)) hx d_Mo_chains_15 rfl ?_
        refine v_istore (lv' := [some (.ref (A 0)), some (.int (nI m)), some (.int (nI m2)), some (.int (nI a)), some (.int (nI 0)), none]) hx d_Mo_chains_16 (by decide) rfl ?_
        have H18 : ∀ (fu : Nat) (i : Nat) (f2 : Nat → va_E) (fo2 : Nat) (se2 : Nat → Nat) (fr2 : Nat → Option Nat) (by2 : Nat → Nat) (is2 : Nat → Bool), ka m - i < fu → (i ≤ ka m) → (fo2 ≤ 40) → (∀ j, j < i → ¬ (cBad (fun t => ou (160 * m + t)) (ka m2)) (qP (bout (cNx (fun t => nx (160 * m + t)) (fun t => ou (160 * m + t)) (fun t => nx (160 * m2 + t)) (ka m2)) (ka m) [(0, 0, 0)] a) a) j) → (MoAt G L f2 w 100 A th mc sa ka nx ou wl wd ap fo2 se2 fr2 by2 is2 tr my ss tf tb) → (ReQ fo2 se2 fr2 by2 is2 (bin (cNx (fun t => nx (160 * m + t)) (fun t => ou (160 * m + t)) (fun t => nx (160 * m2 + t)) (ka m2)) (bout (cNx (fun t => nx (160 * m + t)) (fun t => ou (160 * m + t)) (fun t => nx (160 * m2 + t)) (ka m2)) (ka m) [(0, 0, 0)] a) a i)) → (gF w 100 f f2) → V G { frames := 2, cells := 0, slots := 0, locals := 45 } 6 x L f2 0 0 [some (.ref (A 0)), some (.int (nI m)), some (.int (nI m2)), some (.int (nI a)), some (.int (nI i)), none] 18 [] := by
          intro fu
          induction fu with
          | zero => intro i f2 fo2 se2 fr2 by2 is2 hm; exact absurd hm (Nat.not_lt_zero _)
          | succ fu ih =>
            intro i f2 fo2 se2 fr2 by2 is2 hm hi h40b hgi hM2_ hQ2_ hF2
            have hoki := bin_ok hok.1 hok.2 haL hk2 hlt hnP i hi
            have hlen2 := hoki.1.len
            have hce2 := hQ2_.1
            have hbl := bin_len (cNx (fun t => nx (160 * m + t)) (fun t => ou (160 * m + t)) (fun t => nx (160 * m2 + t)) (ka m2)) (bout (cNx (fun t => nx (160 * m + t)) (fun t => ou (160 * m + t)) (fun t => nx (160 * m2 + t)) (ka m2)) (ka m) [(0, 0, 0)] a) a i
            have hsub := bin_sub (cNx (fun t => nx (160 * m + t)) (fun t => ou (160 * m + t)) (fun t => nx (160 * m2 + t)) (ka m2)) (bout (cNx (fun t => nx (160 * m + t)) (fun t => ou (160 * m + t)) (fun t => nx (160 * m2 + t)) (ka m2)) (ka m) [(0, 0, 0)] a) a i
            have hse2 : se2 a = se1 a := by rw [(hQ2_.2.1 a (by omega)).1, hpa, (hsub.2 a haL).1]
            refine v_iload hx d_Mo_chains_18 rfl ?_
            refine v_aload_n hx d_Mo_chains_20 rfl rfl ?_
            refine v_get hx cf_Mo 3 (by decide) k_Mo_13 d_Mo_chains_21 hM2_.m0 hM2_.f0 rfl ?_
            refine v_iload_n hx d_Mo_chains_24 rfl rfl ?_
            refine n_iald hx d_Mo_chains_25 hM2_.m2 hM2_.f2 (by omega) (by decide) ?_
            refine n_icmp_ge (tgt := 134) hx d_Mo_chains_26 (by decide) (by omega) (by omega) (fun c26 => ?_) (fun c26 => ?_)
            · refine n_iinc (lv' := [some (.ref (A 0)), some (.int (nI m)), some (.int (nI m2)), some (.int (nI (a + 1))), some (.int (nI i)), none]) hx d_Mo_chains_134 rfl (by decide) rfl ?_
              refine v_goto (tgt := 7) hx d_Mo_chains_137 (by decide) ?_
              have e6 : i = ka m := by omega
              refine v_weak (by simp [vsub]) (ihO (a + 1) f2 fo2 se2 fr2 by2 is2 (by omega) (by omega) h40b (lt_s hr1 haL) (lt_s hg1 (fun j hj => hgi j (by omega))) hM2_ (by rw [e6] at hQ2_; exact hQ2_) hF2)
            · refine v_sipush (v := (nI 160)) hx d_Mo_chains_29 rfl ?_
              refine v_iload_n hx d_Mo_chains_32 rfl rfl ?_
              refine n_imul hx d_Mo_chains_33 ?_
              refine v_iconst (v := (nI 4)) hx d_Mo_chains_34 rfl ?_
              refine v_aload_n hx d_Mo_chains_35 rfl rfl ?_
              refine v_get hx cf_Mo 10 (by decide) k_Mo_29 d_Mo_chains_36 hM2_.m0 hM2_.f0 rfl ?_
              refine v_iload_n hx d_Mo_chains_39 rfl rfl ?_
              refine n_iald hx d_Mo_chains_40 hM2_.m7 hM2_.f7 (by omega) (by decide) ?_
              rw [hse2]
              refine v_bipush (v := (nI 40)) hx d_Mo_chains_41 rfl ?_
              refine n_idiv hx d_Mo_chains_43 (by omega) (by decide) (by decide) ?_
              refine n_imul hx d_Mo_chains_44 ?_
              refine n_iadd hx d_Mo_chains_45 ?_
              refine v_iload hx d_Mo_chains_46 rfl ?_
              refine n_iadd hx d_Mo_chains_48 ?_
              refine v_istore (lv' := [some (.ref (A 0)), some (.int (nI m)), some (.int (nI m2)), some (.int (nI a)), some (.int (nI i)), some (.int (nI (((160 * m) + (4 * ((se1 a) / 40))) + i)))]) hx d_Mo_chains_49 (by decide) rfl ?_
              have hxa : nx (160 * m + 4 * (se1 a / 40) + i) < sa m ∧ ou (160 * m + 4 * (se1 a / 40) + i) < 10 := by rw [pic_ix]; exact hnx (se1 a / 40) i hPa1 (by omega)
              have hbe : (cBad (fun t => ou (160 * m + t)) (ka m2)) (se1 a) i ↔ ka m2 ≤ ou (160 * m + 4 * (se1 a / 40) + i) := by rw [pic_ix]; exact Iff.rfl
              refine v_aload_n hx d_Mo_chains_51 rfl rfl ?_
              refine v_get hx cf_Mo 5 (by decide) k_Mo_19 d_Mo_chains_52 hM2_.m0 hM2_.f0 rfl ?_
              refine v_iload hx d_Mo_chains_55 rfl ?_
              refine n_iald hx d_Mo_chains_57 hM2_.m4 hM2_.f4 (by omega) (by decide) ?_
              refine v_aload_n hx d_Mo_chains_58 rfl rfl ?_
              refine v_get hx cf_Mo 3 (by decide) k_Mo_13 d_Mo_chains_59 hM2_.m0 hM2_.f0 rfl ?_
              refine v_iload_n hx d_Mo_chains_62 rfl rfl ?_
              refine n_iald hx d_Mo_chains_63 hM2_.m2 hM2_.f2 (by omega) (by decide) ?_
              refine n_icmp_lt (tgt := 69) hx d_Mo_chains_64 (by decide) (by omega) (by omega) (fun c64 => ?_) (fun c64 => ?_)
              · have hng : ou (160 * m + 4 * (se1 a / 40) + i) < ka m2 := by omega
                have hxb : nx (160 * m2 + 4 * (se1 a % 40) + ou (160 * m + 4 * (se1 a / 40) + i)) < sa m2 := by rw [pic_ix m2]; exact (gnx (se1 a % 40) (ou (160 * m + 4 * (se1 a / 40) + i)) hPa2 hng).1
                have hcn : (cNx (fun t => nx (160 * m + t)) (fun t => ou (160 * m + t)) (fun t => nx (160 * m2 + t)) (ka m2)) (se1 a) i = 40 * nx (160 * m + 4 * (se1 a / 40) + i) + nx (160 * m2 + 4 * (se1 a % 40) + ou (160 * m + 4 * (se1 a / 40) + i)) := by rw [pic_ix m2]; rw [pic_ix m] at hng ⊢; exact (if_pos hng).trans (congrArg (· + _) (Nat.mul_comm _ _))
                refine v_aload_n hx d_Mo_chains_69 rfl rfl ?_
                refine v_bipush (v := (nI 40)) hx d_Mo_chains_70 rfl ?_
                refine v_aload_n hx d_Mo_chains_72 rfl rfl ?_
                refine v_get hx cf_Mo 4 (by decide) k_Mo_16 d_Mo_chains_73 hM2_.m0 hM2_.f0 rfl ?_
                refine v_iload hx d_Mo_chains_76 rfl ?_
                refine n_iald hx d_Mo_chains_78 hM2_.m3 hM2_.f3 (by omega) (by decide) ?_
                refine n_imul hx d_Mo_chains_79 ?_
                refine v_aload_n hx d_Mo_chains_80 rfl rfl ?_
                refine v_get hx cf_Mo 4 (by decide) k_Mo_16 d_Mo_chains_81 hM2_.m0 hM2_.f0 rfl ?_
                refine v_sipush (v := (nI 160)) hx d_Mo_chains_84 rfl ?_
                refine v_iload_n hx d_Mo_chains_87 rfl rfl ?_
                refine n_imul hx d_Mo_chains_88 ?_
                refine v_iconst (v := (nI 4)) hx d_Mo_chains_89 rfl ?_
                refine v_aload_n hx d_Mo_chains_90 rfl rfl ?_
                refine v_get hx cf_Mo 10 (by decide) k_Mo_29 d_Mo_chains_91 hM2_.m0 hM2_.f0 rfl ?_
                refine v_iload_n hx d_Mo_chains_94 rfl rfl ?_
                refine n_iald hx d_Mo_chains_95 hM2_.m7 hM2_.f7 (by omega) (by decide) ?_
                rw [hse2]
                refine v_bipush (v := (nI 40)) hx d_Mo_chains_96 rfl ?_
                refine n_irem hx d_Mo_chains_98 (by omega) (by decide) (by decide) ?_
                refine n_imul hx d_Mo_chains_99 ?_
                refine n_iadd hx d_Mo_chains_100 ?_
                refine v_aload_n hx d_Mo_chains_101 rfl rfl ?_
                refine v_get hx cf_Mo 5 (by decide) k_Mo_19 d_Mo_chains_102 hM2_.m0 hM2_.f0 rfl ?_
                refine v_iload hx d_Mo_chains_105 rfl ?_
                refine n_iald hx d_Mo_chains_107 hM2_.m4 hM2_.f4 (by omega) (by decide) ?_
                refine n_iadd hx d_Mo_chains_108 ?_
                refine n_iald hx d_Mo_chains_109 hM2_.m3 hM2_.f3 (by omega) (by decide) ?_
                refine n_iadd hx d_Mo_chains_110 ?_
                rw [← hcn]
                refine v_iload_n hx d_Mo_chains_111 rfl rfl ?_
                refine v_iload hx d_Mo_chains_112 rfl ?_
                refine v_callV (as := [.int (nI ((cNx (fun t => nx (160 * m + t)) (fun t => ou (160 * m + t)) (fun t => nx (160 * m2 + t)) (ka m2)) (se1 a) i)), .int (nI a), .int (nI i)]) (q := (R_Mo, T_Mo, 19)) hx (c_Mo_come hM2_ hQ2_ ⟨hoki.1.1, fun p hp => Nat.lt_of_lt_of_le (hoki.1.2.1 p hp) (by decide), hoki.1.2.2⟩ a i (some a) ((cNx (fun t => nx (160 * m + t)) (fun t => ou (160 * m + t)) (fun t => nx (160 * m2 + t)) (ka m2)) (se1 a) i) (Nat.lt_of_lt_of_le (hlt _ (hnP _ i hPa (by omega))) (by decide)) (by rw [if_neg (by omega)]) (Or.inl (by omega)) (by omega)) cy_Mo_come k_Mo_90 ki_Mo_come kl_Mo_come d_Mo_chains_114 (by decide) (ci := 4) rfl hM2_.m0 hM2_.f0 (by decide) rfl rfl (Nat.le_of_ble_eq_true rfl) (fun v2 L f5 p2 => ?_)
                obtain ⟨rfl, rfl, hF5, fo5, se5, fr5, by5, is5, hM5, hQ5⟩ := p2
                have hF5_ := hF2.tr hF5
                have e5 : (bin (cNx (fun t => nx (160 * m + t)) (fun t => ou (160 * m + t)) (fun t => nx (160 * m2 + t)) (ka m2)) (bout (cNx (fun t => nx (160 * m + t)) (fun t => ou (160 * m + t)) (fun t => nx (160 * m2 + t)) (ka m2)) (ka m) [(0, 0, 0)] a) a (i + 1)) = qr (bin (cNx (fun t => nx (160 * m + t)) (fun t => ou (160 * m + t)) (fun t => nx (160 * m2 + t)) (ka m2)) (bout (cNx (fun t => nx (160 * m + t)) (fun t => ou (160 * m + t)) (fun t => nx (160 * m2 + t)) (ka m2)) (ka m) [(0, 0, 0)] a) a i) ((cNx (fun t => nx (160 * m + t)) (fun t => ou (160 * m + t)) (fun t => nx (160 * m2 + t)) (ka m2)) (se1 a) i) a i := by rw [hpa]; rfl
                rw [← e5] at hQ5
                have hce5 := hQ5.1
                have hoki5 := (bin_ok hok.1 hok.2 haL hk2 hlt hnP (i + 1) (by omega)).1.len
                refine v_aload_n hx d_Mo_chains_117 rfl rfl ?_
                refine v_get hx cf_Mo 9 (by decide) k_Mo_87 d_Mo_chains_118 hM5.m0 hM5.f0 rfl ?_
                refine v_bipush (v := (nI 40)) hx d_Mo_chains_121 rfl ?_
                refine n_icmp_le (tgt := 128) hx d_Mo_chains_123 (by decide) (by omega) (by omega) (fun c123 => ?_) (fun c123 => ?_)
                · refine n_iinc (lv' := [some (.ref (A 0)), some (.int (nI m)), some (.int (nI m2)), some (.int (nI a)), some (.int (nI (i + 1))), some (.int (nI (((160 * m) + (4 * ((se1 a) / 40))) + i)))]) hx d_Mo_chains_128 rfl (by decide) rfl ?_
                  refine v_goto (tgt := 18) hx d_Mo_chains_131 (by decide) ?_
                  refine v_weak (by simp [vsub]) (ih (i + 1) f5 fo5 se5 fr5 by5 is5 (by omega) (by omega) c123 (lt_s hgi (by rw [← hpa]; exact fun z => absurd (hbe.mp z) (by omega))) hM5 hQ5 hF5_)
                · refine v_iconst (v := (nI 0)) hx d_Mo_chains_126 rfl ?_
                  have hbad : ¬ ChOK (cNx (fun t => nx (160 * m + t)) (fun t => ou (160 * m + t)) (fun t => nx (160 * m2 + t)) (ka m2)) (cBad (fun t => ou (160 * m + t)) (ka m2)) (ka m) [(0, 0, 0)] := fun ⟨N, hN, _, h40n⟩ => by
                    have h1 := hN.lt (lt_le hr1 haL)
                    have h2 := (bin_sub2 (cNx (fun t => nx (160 * m + t)) (fun t => ou (160 * m + t)) (fun t => nx (160 * m2 + t)) (ka m2)) (bout (cNx (fun t => nx (160 * m + t)) (fun t => ou (160 * m + t)) (fun t => nx (160 * m2 + t)) (ka m2)) (ka m) [(0, 0, 0)] a) a (i := i + 1) (j := ka m) (by omega)).1
                    have h3 := (bout_sub (cNx (fun t => nx (160 * m + t)) (fun t => ou (160 * m + t)) (fun t => nx (160 * m2 + t)) (ka m2)) (ka m) [(0, 0, 0)] (a := a + 1) (b := N) (by omega)).1
                    have h3 : (bin (cNx (fun t => nx (160 * m + t)) (fun t => ou (160 * m + t)) (fun t => nx (160 * m2 + t)) (ka m2)) (bout (cNx (fun t => nx (160 * m + t)) (fun t => ou (160 * m + t)) (fun t => nx (160 * m2 + t)) (ka m2)) (ka m) [(0, 0, 0)] a) a (ka m)).length ≤ (bout (cNx (fun t => nx (160 * m + t)) (fun t => ou (160 * m + t)) (fun t => nx (160 * m2 + t)) (ka m2)) (ka m) [(0, 0, 0)] N).length := h3
                    omega
                  exact v_zret hx hr d_Mo_chains_127 rfl ⟨rfl, hF5_, _, _, _, _, _, hM5, Or.inr ⟨hbad, rfl⟩⟩
              · refine v_iconst (v := (nI 0)) hx d_Mo_chains_67 rfl ?_
                exact v_zret hx hr d_Mo_chains_68 rfl ⟨rfl, hF2, _, _, _, _, _, hM2_, Or.inr ⟨fun ⟨N, hN, hg, _⟩ => hg a (hN.lt (lt_le hr1 haL)) i (by omega) (by rw [← hpa]; exact hbe.mpr (by omega)), rfl⟩⟩
        exact v_weak (by simp [vsub]) (H18 _ 0 f1 fo1 se1 fr1 by1 is1 (Nat.lt_succ_self _) (Nat.zero_le _) h40 (fun _ h => absurd h (Nat.not_lt_zero _)) hM1 hQ hF1_)
  exact v_weak (by simp [vsub]) (H7 _ 0 f1 fo1 se1 fr1 by1 is1 (Nat.lt_succ_self _) (Nat.zero_le _) (by rw [hQ1.1]; decide) (fun _ h => absurd h (Nat.not_lt_zero _)) (fun _ h => absurd h (Nat.not_lt_zero _)) hM1 hQ1 hF1_)
set_option maxHeartbeats 4000000 in
set_option maxRecDepth 100000 in
theorem c_Mo_placeOf {G : GT} {L : List Nat} {f : Nat → va_E} {w A : Nat → Nat} {th : Nat} {mc : Nat} {sa : Nat → Nat} {ka : Nat → Nat} {nx : Nat → Nat} {ou : Nat → Nat} {wl : Nat} {wd : Nat → Nat} {ap : Nat → Bool} {fo : Nat} {se : Nat → Nat} {fr : Nat → Option Nat} {by_ : Nat → Nat} {is : Nat → Bool} {tr : Nat} {my : Nat → Nat} {ss : Nat → Nat} {tf : Nat → Option Nat} {tb : Nat → Nat} (hM : MoAt G L f w 100 A th mc sa ka nx ou wl wd ap fo se fr by_ is tr my ss tf tb) {q : Qu} (hQ : ReQ fo se fr by_ is q) (hq : qOK q 1600) (x1 : Nat) (hx1 : x1 ∈ qPs q) : Con G y_Mo_placeOf (.code y_Mo_placeOf b_Mo_placeOf 3 (some .int) :: BIG) 0 0 0 0 [.ref (A 0), .int (nI x1)] L f (fun v L' f' => (∃ r, r < q.length ∧ qP q r = x1 ∧ v = some (.int (nI r))) ∧ L' = L ∧ f' = f) := by
  refine con_of (cc := b_Mo_placeOf) (mL := 3) (lv := [some (.ref (A 0)), some (.int (nI x1)), none]) (by decide) (by intro w hw; simp at hw; rcases hw with rfl | rfl <;> rfl) (by first | exact Nat.le_of_ble_eq_true rfl | decide) rfl ?_
  intro x hx hr hin
  have hF0 := gF.rf (w := w) (id := 100) (f := f)
  obtain ⟨r0, hr0, he0⟩ := qP_ex hx1
  have hlen := hq.len
  have hfo := hQ.1
  have hx16 := hq.2.1 x1 hx1
  refine v_iconst (v := (nI 0)) hx d_Mo_placeOf_0 rfl ?_
  refine v_istore_n (lv' := [some (.ref (A 0)), some (.int (nI x1)), some (.int (nI 0))]) hx d_Mo_placeOf_1 rfl (by decide) rfl ?_
  have H2 : ∀ (fu : Nat) (j : Nat), r0 - j < fu → (j ≤ r0) → V G { frames := 0, cells := 0, slots := 0, locals := 0 } 3 x L f 0 0 [some (.ref (A 0)), some (.int (nI x1)), some (.int (nI j))] 2 [] := by
    intro fu
    induction fu with
    | zero => intro j hm; exact absurd hm (Nat.not_lt_zero _)
    | succ fu ih =>
      intro j hm hj
      have hse := (hQ.2.1 j (by omega)).1
      have hse16 : se j < 1600 := by rw [hse]; exact hq.2.1 _ (qP_mem (by omega))
      refine v_aload_n hx d_Mo_placeOf_2 rfl rfl ?_
      refine v_get hx cf_Mo 10 (by decide) k_Mo_29 d_Mo_placeOf_3 hM.m0 hM.f0 rfl ?_
      refine v_iload_n hx d_Mo_placeOf_6 rfl rfl ?_
      refine n_iald hx d_Mo_placeOf_7 hM.m7 hM.f7 (by omega) (by decide) ?_
      refine v_iload_n hx d_Mo_placeOf_8 rfl rfl ?_
      refine n_icmp_eq (tgt := 18) hx d_Mo_placeOf_9 (by decide) (by omega) (by omega) (fun c9 => ?_) (fun c9 => ?_)
      · refine v_iload_n hx d_Mo_placeOf_18 rfl rfl ?_
        exact v_iret hx hr d_Mo_placeOf_19 ⟨⟨j, by omega, by rw [← hse]; exact c9, rfl⟩, rfl, rfl⟩
      · refine n_iinc (lv' := [some (.ref (A 0)), some (.int (nI x1)), some (.int (nI (j + 1)))]) hx d_Mo_placeOf_12 rfl (by decide) rfl ?_
        refine v_goto (tgt := 2) hx d_Mo_placeOf_15 (by decide) ?_
        have hne : j ≠ r0 := fun z => c9 (by rw [hse, z]; exact he0)
        exact ih (j + 1) (by omega) (by omega)
  exact H2 _ 0 (Nat.lt_succ_self _) (Nat.zero_le _)
set_option maxHeartbeats 4000000 in
set_option maxRecDepth 100000 in
theorem c_Mo_chain {G : GT} {L : List Nat} {f : Nat → va_E} {w A : Nat → Nat} {th : Nat} {mc : Nat} {sa : Nat → Nat} {ka : Nat → Nat} {nx : Nat → Nat} {ou : Nat → Nat} {wl : Nat} {wd : Nat → Nat} {ap : Nat → Bool} {fo : Nat} {se : Nat → Nat} {fr : Nat → Option Nat} {by_ : Nat → Nat} {is : Nat → Bool} {tr : Nat} {my : Nat → Nat} {ss : Nat → Nat} {tf : Nat → Option Nat} {tb : Nat → Nat} (hM : MoAt G L f w 100 A th mc sa ka nx ou wl wd ap fo se fr by_ is tr my ss tf tb) (hG : okG (pic mc sa ka nx ou wl wd)) (p q : Int32) : Con G y_Mo_chain (.code y_Mo_chain b_Mo_chain 8 (some .int) :: BIG) 3 70 0 0 [.ref (A 0), .int p, .int q] L f (fun v L' f' => ∃ (vi : Int32) (th' : Nat) (σ' : SG), v = some (.int vi) ∧ L' = L ∧ gF w 100 f f' ∧ MoS G L f' w A th' σ' ∧ (th' = 0 ∧ rChain (pic mc sa ka nx ou wl wd) p q (some vi) σ' ∨ th' = 1 ∧ rChain (pic mc sa ka nx ou wl wd) p q none σ')) := by
  refine con_of (cc := b_Mo_chain) (mL := 8) (lv := [some (.ref (A 0)), some (.int p), some (.int q), none, none, none, none, none]) (by decide) (by intro w hw; simp at hw; rcases hw with rfl | rfl | rfl <;> rfl) (by first | exact Nat.le_of_ble_eq_true rfl | decide) rfl ?_
  intro x hx hr hin
  have hF0 := gF.rf (w := w) (id := 100) (f := f)
  obtain ⟨hmc, hok, hwl, hwd⟩ := id hG
  have hmc : mc ≤ 12 := hmc
  have hok : ∀ j, j < mc → okA (fun t => nx (160 * j + t)) (fun t => ou (160 * j + t)) (sa j) (ka j) := hok
  have hwl : wl ≤ 4096 := hwl
  have hwd : ∀ j, j < wl → wd j < 4 := hwd
  have hsa : ∀ j, j < mc → sa j ≤ 40 := fun j hj => (hok j hj).2.1
  have hka : ∀ j, j < mc → ka j ≤ 4 := fun j hj => (hok j hj).2.2.2.1
  refine v_aload_n hx d_Mo_chain_0 rfl rfl ?_
  refine v_iconst (v := (nI 0)) hx d_Mo_chain_1 rfl ?_
  refine v_put hx cf_Mo 0 (by decide) k_Mo_53 rfl rfl rfl d_Mo_chain_2 hM.m0 hM.f0 (Nat.le_of_ble_eq_true rfl) (fun f1 hf1 => ?_)
  have mf1 := hM.up0 hf1
  have Ff1 := hF0.up hf1 hM.o0
  refine v_aload_n hx d_Mo_chain_5 rfl rfl ?_
  refine v_iload_n hx d_Mo_chain_6 rfl rfl ?_
  refine v_callV (as := [.int p]) (q := (R_Mo, T_Mo, 19)) hx (c_Mo_isMachine mf1 hmc p) cy_Mo_isMachine k_Mo_64 ki_Mo_isMachine kl_Mo_isMachine d_Mo_chain_7 (by decide) (ci := 4) rfl mf1.m0 mf1.f0 (by decide) rfl rfl (Nat.le_of_ble_eq_true rfl) (fun v2 L f1 p2 => ?_)
  obtain ⟨rfl, rfl, rfl⟩ := p2
  refine v_if_eq (tgt := 30) hx d_Mo_chain_10 (by decide) (fun c10 => ?_) (fun c10 => ?_)
  · refine v_iconst (v := (-1)) hx d_Mo_chain_30 rfl ?_
    exact v_iret hx hr d_Mo_chain_31 ⟨_, 0, (pic mc sa ka nx ou wl wd), rfl, rfl, Ff1, ⟨hG, _, _, _, _, _, _, _, _, _, _, _, _, _, mf1, rfl, rfl⟩, Or.inl ⟨rfl, Or.inl ⟨Or.inl (none_ix c10), rfl, Rel.rf _⟩⟩⟩
  · obtain ⟨m, em⟩ := some_ix c10
    obtain ⟨hm, zm⟩ := ix_some (by omega) em
    have hAm := hok m hm
    have hsm := hsa m hm
    have hkm := hka m hm
    subst zm
    refine v_aload_n hx d_Mo_chain_13 rfl rfl ?_
    refine v_iload_n hx d_Mo_chain_14 rfl rfl ?_
    refine v_callV (as := [.int q]) (q := (R_Mo, T_Mo, 19)) hx (c_Mo_isMachine mf1 hmc q) cy_Mo_isMachine k_Mo_64 ki_Mo_isMachine kl_Mo_isMachine d_Mo_chain_15 (by decide) (ci := 4) rfl mf1.m0 mf1.f0 (by decide) rfl rfl (Nat.le_of_ble_eq_true rfl) (fun v3 L f1 p3 => ?_)
    obtain ⟨rfl, rfl, rfl⟩ := p3
    refine v_if_eq (tgt := 30) hx d_Mo_chain_18 (by decide) (fun c18 => ?_) (fun c18 => ?_)
    · refine v_iconst (v := (-1)) hx d_Mo_chain_30 rfl ?_
      exact v_iret hx hr d_Mo_chain_31 ⟨_, 0, (pic mc sa ka nx ou wl wd), rfl, rfl, Ff1, ⟨hG, _, _, _, _, _, _, _, _, _, _, _, _, _, mf1, rfl, rfl⟩, Or.inl ⟨rfl, Or.inl ⟨Or.inr (Or.inl (none_ix c18)), rfl, Rel.rf _⟩⟩⟩
    · obtain ⟨m2, em2⟩ := some_ix c18
      obtain ⟨hm2, zm2⟩ := ix_some (by omega) em2
      have hAm2 := hok m2 hm2
      have hsm2 := hsa m2 hm2
      have hkm2 := hka m2 hm2
      subst zm2
      refine v_aload_n hx d_Mo_chain_21 rfl rfl ?_
      refine v_get hx cf_Mo 1 (by decide) k_Mo_57 d_Mo_chain_22 mf1.m0 mf1.f0 rfl ?_
      refine v_bipush (v := (nI 12)) hx d_Mo_chain_25 rfl ?_
      refine n_icmp_ne (tgt := 32) hx d_Mo_chain_27 (by decide) (by omega) (by omega) (fun c27 => ?_) (fun c27 => ?_)
      · have hlt : mc < 12 := by omega
        have hmne : m ≠ mc := by omega
        have hm_ := hm
        have hm2_ := hm2
        refine v_aload_n hx d_Mo_chain_32 rfl rfl ?_
        refine v_iload_n hx d_Mo_chain_33 rfl rfl ?_
        refine v_iload_n hx d_Mo_chain_34 rfl rfl ?_
        refine v_callV (as := [.int (nI m), .int (nI m2)]) (q := (R_Mo, T_Mo, 19)) hx (c_Mo_chains mf1 m m2 (by omega) (by omega) hAm hAm2) cy_Mo_chains k_Mo_140 ki_Mo_chains kl_Mo_chains d_Mo_chain_35 (by decide) (ci := 4) rfl mf1.m0 mf1.f0 (by decide) rfl rfl (Nat.le_of_ble_eq_true rfl) (fun v4 L f9 p4 => ?_)
        obtain ⟨rfl, hF9, N, se9, fr9, by9, is9, hM9, (⟨hE, hgood, h40, rfl, hQ9, hq9, hI9⟩ | ⟨hbad, rfl⟩)⟩ := p4
        · have hF9_ := Ff1.tr hF9
          have hlen : (bout (cNx (fun t => nx (160 * m + t)) (fun t => ou (160 * m + t)) (fun t => nx (160 * m2 + t)) (ka m2)) (ka m) [(0, 0, 0)] N).length = N := hE.len (Nat.le_refl _)
          have hN1 := hE.pos (Nat.le_refl _)
          refine v_if_ne (tgt := 46) hx d_Mo_chain_38 (by decide) (fun c38 => ?_) (fun c38 => ?_)
          · refine v_aload_n hx d_Mo_chain_46 rfl rfl ?_
            refine v_aload_n hx d_Mo_chain_47 rfl rfl ?_
            refine v_get hx cf_Mo 9 (by decide) k_Mo_87 d_Mo_chain_48 hM9.m0 hM9.f0 rfl ?_
            refine v_aload_n hx d_Mo_chain_51 rfl rfl ?_
            refine v_get hx cf_Mo 3 (by decide) k_Mo_13 d_Mo_chain_52 hM9.m0 hM9.f0 rfl ?_
            refine v_iload_n hx d_Mo_chain_55 rfl rfl ?_
            refine n_iald hx d_Mo_chain_56 hM9.m2 hM9.f2 (by omega) (by decide) ?_
            refine v_callV (as := [.int (nI N), .int (nI (ka m))]) (q := (R_Mo, T_Mo, 19)) hx (c_Mo_newMachine hM9 hlt N (ka m)) cy_Mo_newMachine k_Mo_68 ki_Mo_newMachine kl_Mo_newMachine d_Mo_chain_57 (by decide) (ci := 4) rfl hM9.m0 hM9.f0 (by decide) rfl rfl (Nat.le_of_ble_eq_true rfl) (fun v5 L f3 p5 => ?_)
            obtain ⟨rfl, rfl, hF3, nx3, ou3, hM3, hold3, -⟩ := p5
            have hF3_ := hF9_.tr hF3
            have hkm_ : va_up ka mc (ka m) m = ka m := va_up_ne _ _ hmne
            refine v_istore_n (lv' := [some (.ref (A 0)), some (.int (nI m)), some (.int (nI m2)), some (.int (nI mc)), none, none, none, none]) hx d_Mo_chain_60 rfl (by decide) rfl ?_
            refine v_iconst (v := (nI 0)) hx d_Mo_chain_61 rfl ?_
            refine v_istore (lv' := [some (.ref (A 0)), some (.int (nI m)), some (.int (nI m2)), some (.int (nI mc)), some (.int (nI 0)), none, none, none]) hx d_Mo_chain_62 (by decide) rfl ?_
            have H64 : ∀ (fu : Nat) (a : Nat) (f4 : Nat → va_E) (nx4 : Nat → Nat) (ou4 : Nat → Nat), N - a < fu → (a ≤ N) → (MoAt G L f4 w 100 A 0 (mc + 1) (va_up sa mc N) (va_up ka mc (ka m)) nx4 ou4 wl wd ap N se9 fr9 by9 is9 tr my ss tf tb) → (gF w 100 f f4) → (∀ q, (q < 160 * mc ∨ 160 * mc + 160 ≤ q) → nx4 q = nx q ∧ ou4 q = ou q) → (∀ y z, y < a → z < ka m → nx4 (160 * mc + (y * 4 + z)) < N ∧ qP (bout (cNx (fun t => nx (160 * m + t)) (fun t => ou (160 * m + t)) (fun t => nx (160 * m2 + t)) (ka m2)) (ka m) [(0, 0, 0)] N) (nx4 (160 * mc + (y * 4 + z))) = (cNx (fun t => nx (160 * m + t)) (fun t => ou (160 * m + t)) (fun t => nx (160 * m2 + t)) (ka m2)) (qP (bout (cNx (fun t => nx (160 * m + t)) (fun t => ou (160 * m + t)) (fun t => nx (160 * m2 + t)) (ka m2)) (ka m) [(0, 0, 0)] N) y) z ∧ ou4 (160 * mc + (y * 4 + z)) = ou (160 * m2 + (qP (bout (cNx (fun t => nx (160 * m + t)) (fun t => ou (160 * m + t)) (fun t => nx (160 * m2 + t)) (ka m2)) (ka m) [(0, 0, 0)] N) y % 40 * 4 + ou (160 * m + (qP (bout (cNx (fun t => nx (160 * m + t)) (fun t => ou (160 * m + t)) (fun t => nx (160 * m2 + t)) (ka m2)) (ka m) [(0, 0, 0)] N) y / 40 * 4 + z))))) → V G { frames := 3, cells := 0, slots := 0, locals := 70 } 8 x L f4 0 0 [some (.ref (A 0)), some (.int (nI m)), some (.int (nI m2)), some (.int (nI mc)), some (.int (nI a)), none, none, none] 64 [] := by
              intro fu
              induction fu with
              | zero => intro a f4 nx4 ou4 hm; exact absurd hm (Nat.not_lt_zero _)
              | succ fu ih =>
                intro a f4 nx4 ou4 hm ha hM4 hF4 hold hv
                have ihO := ih
                refine v_iload hx d_Mo_chain_64 rfl ?_
                refine v_aload_n hx d_Mo_chain_66 rfl rfl ?_
                refine v_get hx cf_Mo 9 (by decide) k_Mo_87 d_Mo_chain_67 hM4.m0 hM4.f0 rfl ?_
                refine n_icmp_ge (tgt := 215) hx d_Mo_chain_70 (by decide) (by omega) (by omega) (fun c70 => ?_) (fun c70 => ?_)
                · have haN : a = N := by omega
                  rw [haN] at hv
                  have hA4 : okA (fun t => nx4 (160 * mc + t)) (fun t => ou4 (160 * mc + t)) N (ka m) := ⟨hN1, h40, hAm.2.2.1, hkm, fun s i hs hi => ⟨(hv s i hs hi).1, by
                    have hIs : wP (sa m) (sa m2) (qP (bout (cNx (fun t => nx (160 * m + t)) (fun t => ou (160 * m + t)) (fun t => nx (160 * m2 + t)) (ka m2)) (ka m) [(0, 0, 0)] N) s) := hI9 _ (qP_mem (show s < (bout (cNx (fun t => nx (160 * m + t)) (fun t => ou (160 * m + t)) (fun t => nx (160 * m2 + t)) (ka m2)) (ka m) [(0, 0, 0)] N).length by omega))
                    have hgs : ou (160 * m + (qP (bout (cNx (fun t => nx (160 * m + t)) (fun t => ou (160 * m + t)) (fun t => nx (160 * m2 + t)) (ka m2)) (ka m) [(0, 0, 0)] N) s / 40 * 4 + i)) < ka m2 := by
                      have e7 : qP (bout (cNx (fun t => nx (160 * m + t)) (fun t => ou (160 * m + t)) (fun t => nx (160 * m2 + t)) (ka m2)) (ka m) [(0, 0, 0)] s) s = qP (bout (cNx (fun t => nx (160 * m + t)) (fun t => ou (160 * m + t)) (fun t => nx (160 * m2 + t)) (ka m2)) (ka m) [(0, 0, 0)] N) s := (((bout_sub (cNx (fun t => nx (160 * m + t)) (fun t => ou (160 * m + t)) (fun t => nx (160 * m2 + t)) (ka m2)) (ka m) [(0, 0, 0)] (a := s) (b := N) (by omega)).2 s (hE.2 s hs)).1).symm
                      have h7 := hgood s hs i hi
                      rw [e7] at h7
                      exact Nat.lt_of_not_le h7
                    show ou4 (160 * mc + (s * 4 + i)) < 10
                    rw [(hv s i hs hi).2.2]; exact (hAm2.2.2.2.2 _ _ hIs.2 hgs).2⟩⟩
                  refine v_iload_n hx d_Mo_chain_215 rfl rfl ?_
                  exact v_iret hx hr d_Mo_chain_216 ⟨_, 0, (pic (mc + 1) (va_up sa mc N) (va_up ka mc (ka m)) nx4 ou4 wl wd), rfl, rfl, hF4, ⟨pic_new hG hlt hold hA4, _, _, _, _, _, _, _, _, _, _, _, _, _, hM4, rfl, rfl⟩, Or.inl ⟨rfl, Or.inr ⟨m, m2, em, em2, hlt, Or.inr ⟨N, fun t => nx4 (160 * mc + t), fun t => ou4 (160 * mc + t), hE, hgood, h40, rfl, pic_plus hG hold, hv⟩⟩⟩⟩
                · have haL : a < (bout (cNx (fun t => nx (160 * m + t)) (fun t => ou (160 * m + t)) (fun t => nx (160 * m2 + t)) (ka m2)) (ka m) [(0, 0, 0)] N).length := by omega
                  have hpa : se9 a = qP (bout (cNx (fun t => nx (160 * m + t)) (fun t => ou (160 * m + t)) (fun t => nx (160 * m2 + t)) (ka m2)) (ka m) [(0, 0, 0)] N) a := (hQ9.2.1 a (by omega)).1
                  have hPa : wP (sa m) (sa m2) (se9 a) := by rw [hpa]; exact hI9 _ (qP_mem haL)
                  have hPa1 := hPa.1
                  have hPa2 := hPa.2
                  have hpl := wP_lt hAm hAm2 _ hPa
                  refine v_iconst (v := (nI 0)) hx d_Mo_chain_73 rfl ?_
                  refine v_istore (lv' := [some (.ref (A 0)), some (.int (nI m)), some (.int (nI m2)), some (.int (nI mc)), some (.int (nI a)), some (.int (nI 0)), none, none]) hx d_Mo_chain_74 (by decide) rfl ?_
                  have H76 : ∀ (fu : Nat) (i : Nat) (f4 : Nat → va_E) (nx4 : Nat → Nat) (ou4 : Nat → Nat), ka m - i < fu → (i ≤ ka m) → (MoAt G L f4 w 100 A 0 (mc + 1) (va_up sa mc N) (va_up ka mc (ka m)) nx4 ou4 wl wd ap N se9 fr9 by9 is9 tr my ss tf tb) → (gF w 100 f f4) → (∀ q, (q < 160 * mc ∨ 160 * mc + 160 ≤ q) → nx4 q = nx q ∧ ou4 q = ou q) → (∀ y z, (y < a ∨ y = a ∧ z < i) → z < ka m → nx4 (160 * mc + (y * 4 + z)) < N ∧ qP (bout (cNx (fun t => nx (160 * m + t)) (fun t => ou (160 * m + t)) (fun t => nx (160 * m2 + t)) (ka m2)) (ka m) [(0, 0, 0)] N) (nx4 (160 * mc + (y * 4 + z))) = (cNx (fun t => nx (160 * m + t)) (fun t => ou (160 * m + t)) (fun t => nx (160 * m2 + t)) (ka m2)) (qP (bout (cNx (fun t => nx (160 * m + t)) (fun t => ou (160 * m + t)) (fun t => nx (160 * m2 + t)) (ka m2)) (ka m) [(0, 0, 0)] N) y) z ∧ ou4 (160 * mc + (y * 4 + z)) = ou (160 * m2 + (qP (bout (cNx (fun t => nx (160 * m + t)) (fun t => ou (160 * m + t)) (fun t => nx (160 * m2 + t)) (ka m2)) (ka m) [(0, 0, 0)] N) y % 40 * 4 + ou (160 * m + (qP (bout (cNx (fun t => nx (160 * m + t)) (fun t => ou (160 * m + t)) (fun t => nx (160 * m2 + t)) (ka m2)) (ka m) [(0, 0, 0)] N) y / 40 * 4 + z))))) → V G { frames := 3, cells := 0, slots := 0, locals := 70 } 8 x L f4 0 0 [some (.ref (A 0)), some (.int (nI m)), some (.int (nI m2)), some (.int (nI mc)), some (.int (nI a)), some (.int (nI i)), none, none] 76 [] := by
                    intro fu
                    induction fu with
                    | zero => intro i f4 nx4 ou4 hm; exact absurd hm (Nat.not_lt_zero _)
                    | succ fu ih =>
                      intro i f4 nx4 ou4 hm hi hM4 hF4 hold hv
                      refine v_iload hx d_Mo_chain_76 rfl ?_
                      refine v_aload_n hx d_Mo_chain_78 rfl rfl ?_
                      refine v_get hx cf_Mo 3 (by decide) k_Mo_13 d_Mo_chain_79 hM4.m0 hM4.f0 rfl ?_
                      refine v_iload_n hx d_Mo_chain_82 rfl rfl ?_
                      refine n_iald hx d_Mo_chain_83 hM4.m2 hM4.f2 (by omega) (by decide) ?_
                      rw [hkm_]
                      refine n_icmp_ge (tgt := 209) hx d_Mo_chain_84 (by decide) (by omega) (by omega) (fun c84 => ?_) (fun c84 => ?_)
                      · refine n_iinc (lv' := [some (.ref (A 0)), some (.int (nI m)), some (.int (nI m2)), some (.int (nI mc)), some (.int (nI (a + 1))), some (.int (nI i)), none, none]) hx d_Mo_chain_209 rfl (by decide) rfl ?_
                        refine v_goto (tgt := 64) hx d_Mo_chain_212 (by decide) ?_
                        exact v_weak (by simp [vsub]) (ihO (a + 1) f4 nx4 ou4 (by omega) (by omega) hM4 hF4 hold (fun y z h1 h2 => hv y z (by omega) h2))
                      · have hxa : nx (160 * m + 4 * (se9 a / 40) + i) < sa m ∧ ou (160 * m + 4 * (se9 a / 40) + i) < 10 := by rw [pic_ix]; exact hAm.2.2.2.2 (se9 a / 40) i hPa1 (by omega)
                        have hoa := hold (160 * m + 4 * (se9 a / 40) + i) (by omega)
                        have hng : ou (160 * m + 4 * (se9 a / 40) + i) < ka m2 := by
                          have e7 : qP (bout (cNx (fun t => nx (160 * m + t)) (fun t => ou (160 * m + t)) (fun t => nx (160 * m2 + t)) (ka m2)) (ka m) [(0, 0, 0)] a) a = se9 a := by rw [hpa]; exact (((bout_sub (cNx (fun t => nx (160 * m + t)) (fun t => ou (160 * m + t)) (fun t => nx (160 * m2 + t)) (ka m2)) (ka m) [(0, 0, 0)] (a := a) (b := N) (by omega)).2 a (hE.2 a (by omega))).1).symm
                          have h7 := hgood a (by omega) i (by omega)
                          rw [e7] at h7
                          rw [pic_ix]
                          exact Nat.lt_of_not_le h7
                        have hxb : nx (160 * m2 + 4 * (se9 a % 40) + ou (160 * m + 4 * (se9 a / 40) + i)) < sa m2 ∧ ou (160 * m2 + 4 * (se9 a % 40) + ou (160 * m + 4 * (se9 a / 40) + i)) < 10 := by rw [pic_ix m2]; exact hAm2.2.2.2.2 (se9 a % 40) (ou (160 * m + 4 * (se9 a / 40) + i)) hPa2 hng
                        have hob := hold (160 * m2 + 4 * (se9 a % 40) + ou (160 * m + 4 * (se9 a / 40) + i)) (by omega)
                        have hcn : (cNx (fun t => nx (160 * m + t)) (fun t => ou (160 * m + t)) (fun t => nx (160 * m2 + t)) (ka m2)) (se9 a) i = 40 * nx (160 * m + 4 * (se9 a / 40) + i) + nx (160 * m2 + 4 * (se9 a % 40) + ou (160 * m + 4 * (se9 a / 40) + i)) := by rw [pic_ix m2]; rw [pic_ix m] at hng ⊢; exact (if_pos hng).trans (congrArg (· + _) (Nat.mul_comm _ _))
                        have hcl : (cNx (fun t => nx (160 * m + t)) (fun t => ou (160 * m + t)) (fun t => nx (160 * m2 + t)) (ka m2)) (se9 a) i ∈ qPs (bout (cNx (fun t => nx (160 * m + t)) (fun t => ou (160 * m + t)) (fun t => nx (160 * m2 + t)) (ka m2)) (ka m) [(0, 0, 0)] N) := by rw [hpa]; exact hE.closed (a := a) (i := i) (by omega) (by omega)
                        refine v_sipush (v := (nI 160)) hx d_Mo_chain_87 rfl ?_
                        refine v_iload_n hx d_Mo_chain_90 rfl rfl ?_
                        refine n_imul hx d_Mo_chain_91 ?_
                        refine v_iconst (v := (nI 4)) hx d_Mo_chain_92 rfl ?_
                        refine v_aload_n hx d_Mo_chain_93 rfl rfl ?_
                        refine v_get hx cf_Mo 10 (by decide) k_Mo_29 d_Mo_chain_94 hM4.m0 hM4.f0 rfl ?_
                        refine v_iload hx d_Mo_chain_97 rfl ?_
                        refine n_iald hx d_Mo_chain_99 hM4.m7 hM4.f7 (by omega) (by decide) ?_
                        refine v_bipush (v := (nI 40)) hx d_Mo_chain_100 rfl ?_
                        refine n_idiv hx d_Mo_chain_102 (by omega) (by decide) (by decide) ?_
                        refine n_imul hx d_Mo_chain_103 ?_
                        refine n_iadd hx d_Mo_chain_104 ?_
                        refine v_iload hx d_Mo_chain_105 rfl ?_
                        refine n_iadd hx d_Mo_chain_107 ?_
                        refine v_istore (lv' := [some (.ref (A 0)), some (.int (nI m)), some (.int (nI m2)), some (.int (nI mc)), some (.int (nI a)), some (.int (nI i)), some (.int (nI (((160 * m) + (4 * ((se9 a) / 40))) + i))), none]) hx d_Mo_chain_108 (by decide) rfl ?_
                        refine v_sipush (v := (nI 160)) hx d_Mo_chain_110 rfl ?_
                        refine v_iload_n hx d_Mo_chain_113 rfl rfl ?_
                        refine n_imul hx d_Mo_chain_114 ?_
                        refine v_iconst (v := (nI 4)) hx d_Mo_chain_115 rfl ?_
                        refine v_aload_n hx d_Mo_chain_116 rfl rfl ?_
                        refine v_get hx cf_Mo 10 (by decide) k_Mo_29 d_Mo_chain_117 hM4.m0 hM4.f0 rfl ?_
                        refine v_iload hx d_Mo_chain_120 rfl ?_
                        refine n_iald hx d_Mo_chain_122 hM4.m7 hM4.f7 (by omega) (by decide) ?_
                        refine v_bipush (v := (nI 40)) hx d_Mo_chain_123 rfl ?_
                        refine n_irem hx d_Mo_chain_125 (by omega) (by decide) (by decide) ?_
                        refine n_imul hx d_Mo_chain_126 ?_
                        refine n_iadd hx d_Mo_chain_127 ?_
                        refine v_aload_n hx d_Mo_chain_128 rfl rfl ?_
                        refine v_get hx cf_Mo 5 (by decide) k_Mo_19 d_Mo_chain_129 hM4.m0 hM4.f0 rfl ?_
                        refine v_iload hx d_Mo_chain_132 rfl ?_
                        refine n_iald hx d_Mo_chain_134 hM4.m4 hM4.f4 (by omega) (by decide) ?_
                        rw [hoa.2]
                        refine n_iadd hx d_Mo_chain_135 ?_
                        refine v_istore (lv' := [some (.ref (A 0)), some (.int (nI m)), some (.int (nI m2)), some (.int (nI mc)), some (.int (nI a)), some (.int (nI i)), some (.int (nI (((160 * m) + (4 * ((se9 a) / 40))) + i))), some (.int (nI (((160 * m2) + (4 * ((se9 a) % 40))) + (ou (160 * m + 4 * (se9 a / 40) + i)))))]) hx d_Mo_chain_136 (by decide) rfl ?_
                        refine v_aload_n hx d_Mo_chain_138 rfl rfl ?_
                        refine v_get hx cf_Mo 4 (by decide) k_Mo_16 d_Mo_chain_139 hM4.m0 hM4.f0 rfl ?_
                        refine v_sipush (v := (nI 160)) hx d_Mo_chain_142 rfl ?_
                        refine v_iload_n hx d_Mo_chain_145 rfl rfl ?_
                        refine n_imul hx d_Mo_chain_146 ?_
                        refine v_iconst (v := (nI 4)) hx d_Mo_chain_147 rfl ?_
                        refine v_iload hx d_Mo_chain_148 rfl ?_
                        refine n_imul hx d_Mo_chain_150 ?_
                        refine n_iadd hx d_Mo_chain_151 ?_
                        refine v_iload hx d_Mo_chain_152 rfl ?_
                        refine n_iadd hx d_Mo_chain_154 ?_
                        refine v_aload_n hx d_Mo_chain_155 rfl rfl ?_
                        refine v_bipush (v := (nI 40)) hx d_Mo_chain_156 rfl ?_
                        refine v_aload_n hx d_Mo_chain_158 rfl rfl ?_
                        refine v_get hx cf_Mo 4 (by decide) k_Mo_16 d_Mo_chain_159 hM4.m0 hM4.f0 rfl ?_
                        refine v_iload hx d_Mo_chain_162 rfl ?_
                        refine n_iald hx d_Mo_chain_164 hM4.m3 hM4.f3 (by omega) (by decide) ?_
                        rw [hoa.1]
                        refine n_imul hx d_Mo_chain_165 ?_
                        refine v_aload_n hx d_Mo_chain_166 rfl rfl ?_
                        refine v_get hx cf_Mo 4 (by decide) k_Mo_16 d_Mo_chain_167 hM4.m0 hM4.f0 rfl ?_
                        refine v_iload hx d_Mo_chain_170 rfl ?_
                        refine n_iald hx d_Mo_chain_172 hM4.m3 hM4.f3 (by omega) (by decide) ?_
                        rw [hob.1]
                        refine n_iadd hx d_Mo_chain_173 ?_
                        rw [← hcn]
                        refine v_callV (as := [.int (nI ((cNx (fun t => nx (160 * m + t)) (fun t => ou (160 * m + t)) (fun t => nx (160 * m2 + t)) (ka m2)) (se9 a) i))]) (q := (R_Mo, T_Mo, 19)) hx (c_Mo_placeOf hM4 hQ9 hq9 ((cNx (fun t => nx (160 * m + t)) (fun t => ou (160 * m + t)) (fun t => nx (160 * m2 + t)) (ka m2)) (se9 a) i) hcl) cy_Mo_placeOf k_Mo_143 ki_Mo_placeOf kl_Mo_placeOf d_Mo_chain_174 (by decide) (ci := 4) rfl hM4.m0 hM4.f0 (by decide) rfl rfl (Nat.le_of_ble_eq_true rfl) (fun v6 L f4 p6 => ?_)
                        obtain ⟨⟨z, hz1, hz2, rfl⟩, rfl, rfl⟩ := p6
                        refine nn_iast hx d_Mo_chain_177 hM4.m3 hM4.f3 (by omega) (by decide) (fun f7 hf7 => ?_)
                        have mf7 := hM4.up3 hf7
                        have Ff7 := hF4.up hf7 hM4.o3
                        refine v_aload_n hx d_Mo_chain_178 rfl rfl ?_
                        refine v_get hx cf_Mo 5 (by decide) k_Mo_19 d_Mo_chain_179 mf7.m0 mf7.f0 rfl ?_
                        refine v_sipush (v := (nI 160)) hx d_Mo_chain_182 rfl ?_
                        refine v_iload_n hx d_Mo_chain_185 rfl rfl ?_
                        refine n_imul hx d_Mo_chain_186 ?_
                        refine v_iconst (v := (nI 4)) hx d_Mo_chain_187 rfl ?_
                        refine v_iload hx d_Mo_chain_188 rfl ?_
                        refine n_imul hx d_Mo_chain_190 ?_
                        refine n_iadd hx d_Mo_chain_191 ?_
                        refine v_iload hx d_Mo_chain_192 rfl ?_
                        refine n_iadd hx d_Mo_chain_194 ?_
                        refine v_aload_n hx d_Mo_chain_195 rfl rfl ?_
                        refine v_get hx cf_Mo 5 (by decide) k_Mo_19 d_Mo_chain_196 mf7.m0 mf7.f0 rfl ?_
                        refine v_iload hx d_Mo_chain_199 rfl ?_
                        refine n_iald hx d_Mo_chain_201 mf7.m4 mf7.f4 (by omega) (by decide) ?_
                        rw [hob.2]
                        refine nn_iast hx d_Mo_chain_202 mf7.m4 mf7.f4 (by omega) (by decide) (fun f8 hf8 => ?_)
                        have mf8 := mf7.up4 hf8
                        have Ff8 := Ff7.up hf8 mf7.o4
                        refine n_iinc (lv' := [some (.ref (A 0)), some (.int (nI m)), some (.int (nI m2)), some (.int (nI mc)), some (.int (nI a)), some (.int (nI (i + 1))), some (.int (nI (((160 * m) + (4 * ((se9 a) / 40))) + i))), some (.int (nI (((160 * m2) + (4 * ((se9 a) % 40))) + (ou (160 * m + 4 * (se9 a / 40) + i)))))]) hx d_Mo_chain_203 rfl (by decide) rfl ?_
                        refine v_goto (tgt := 76) hx d_Mo_chain_206 (by decide) ?_
                        refine v_weak (by simp [vsub]) (ih (i + 1) f8 _ _ (by omega) (by omega) mf8 Ff8 (fun q hq => ?_) (fun y y2 h1 h2 => ?_))
                        · rw [va_up_ne _ _ (by omega), va_up_ne _ _ (by omega)]; exact hold q hq
                        · by_cases e9 : y * 4 + y2 = a * 4 + i
                          · obtain ⟨rfl, rfl⟩ : y = a ∧ y2 = i := ⟨by omega, by omega⟩
                            rw [← pic_ix mc, va_up_self, va_up_self, ← hpa]; exact ⟨by omega, hz2, by rw [pic_ix m2, pic_ix m]⟩
                          · rw [va_up_ne _ _ (by omega), va_up_ne _ _ (by omega)]; exact hv y y2 (by omega) h2
                  exact v_weak (by simp [vsub]) (H76 _ 0 f4 nx4 ou4 (Nat.lt_succ_self _) (Nat.zero_le _) hM4 hF4 hold (fun y z h1 h2 => hv y z (by omega) h2))
            exact v_weak (by simp [vsub]) (H64 _ 0 f3 nx3 ou3 (Nat.lt_succ_self _) (Nat.zero_le _) hM3 hF3_ hold3 (fun y z h1 _ => absurd h1 (Nat.not_lt_zero _)))
          · exact absurd c38 (show ¬ nI 1 = 0 by decide)
        · have hF9_ := Ff1.tr hF9
          refine v_if_ne (tgt := 46) hx d_Mo_chain_38 (by decide) (fun c38 => ?_) (fun c38 => ?_)
          · exact absurd rfl c38
          · refine v_aload_n hx d_Mo_chain_41 rfl rfl ?_
            refine v_callV (as := []) (q := (R_Mo, T_Mo, 19)) hx (c_Mo_raise hM9) cy_Mo_raise k_Mo_136 ki_Mo_raise kl_Mo_raise d_Mo_chain_42 (by decide) (ci := 4) rfl hM9.m0 hM9.f0 (by decide) rfl rfl (Nat.le_of_ble_eq_true rfl) (fun v6 L f7 p6 => ?_)
            obtain ⟨rfl, rfl, hF7, hM7⟩ := p6
            have hF7_ := hF9_.tr hF7
            exact v_iret hx hr d_Mo_chain_45 ⟨_, 1, (pic mc sa ka nx ou wl wd), rfl, rfl, hF7_, ⟨hG, _, _, _, _, _, _, _, _, _, _, _, _, _, hM7, rfl, rfl⟩, Or.inr ⟨rfl, Or.inr ⟨m, m2, em, em2, hlt, Or.inl ⟨hbad, rfl, Rel.rf _⟩⟩⟩⟩
      · have h12 : 12 ≤ mc := by omega
        refine v_iconst (v := (-1)) hx d_Mo_chain_30 rfl ?_
        exact v_iret hx hr d_Mo_chain_31 ⟨_, 0, (pic mc sa ka nx ou wl wd), rfl, rfl, Ff1, ⟨hG, _, _, _, _, _, _, _, _, _, _, _, _, _, mf1, rfl, rfl⟩, Or.inl ⟨rfl, Or.inl ⟨Or.inr (Or.inr h12), rfl, Rel.rf _⟩⟩⟩
