set_option maxHeartbeats 4000000 in
set_option maxRecDepth 100000 in
/-- whether two agree -/
theorem c_Ma_isAgreed {G : GT} {L : List Nat} {f : Nat → va_E} {w : Nat → Nat} {id : Nat} {A : Nat → Nat} {nx ou lo fi : Nat → Nat} {n k b : Nat} (hM : MaAt G L f w id A nx ou lo fi n k b) (hA : okA nx ou n k) (hlo : ∀ s, s < n → lo s < 40) (a b_ : Nat) (ha : a < n) (hb : b_ < n) : Con G y_Ma_isAgreed (.code y_Ma_isAgreed b_Ma_isAgreed 4 (some .boolean) :: BIG) 1 22 0 0 [.ref (A 0), .int (nI a), .int (nI b_)] L f (fun v L' f' => (v = some (.int (nI 1)) ∧ agr lo nx ou k a b_ ∨ v = some (.int (nI 0)) ∧ ¬ agr lo nx ou k a b_) ∧ L' = L ∧ f' = f) := by
  refine con_of (cc := b_Ma_isAgreed) (mL := 4) (lv := [some (.ref (A 0)), some (.int (nI a)), some (.int (nI b_)), none]) (by decide) (by intro w hw; simp at hw; rcases hw with rfl | rfl | rfl <;> rfl) (by first | exact Nat.le_of_ble_eq_true rfl | decide) rfl ?_
  intro x hx hr hin
  have hA_ := hA
  obtain ⟨hn1, hn2, hk1, hk2, hnx⟩ := hA_
  have ha4 := hlo a ha
  have hb4 := hlo b_ hb
  refine v_aload_n hx d_Ma_isAgreed_0 rfl rfl ?_
  refine v_get hx cf_Ma 2 (by decide) k_Ma_18 d_Ma_isAgreed_1 hM.m0 hM.f0 rfl ?_
  refine v_iload_n hx d_Ma_isAgreed_4 rfl rfl ?_
  refine n_iald hx d_Ma_isAgreed_5 hM.m3 hM.f3 (by omega) (by decide) ?_
  refine v_aload_n hx d_Ma_isAgreed_6 rfl rfl ?_
  refine v_get hx cf_Ma 2 (by decide) k_Ma_18 d_Ma_isAgreed_7 hM.m0 hM.f0 rfl ?_
  refine v_iload_n hx d_Ma_isAgreed_10 rfl rfl ?_
  refine n_iald hx d_Ma_isAgreed_11 hM.m3 hM.f3 (by omega) (by decide) ?_
  refine n_icmp_eq (tgt := 17) hx d_Ma_isAgreed_12 (by decide) (by omega) (by omega) (fun c12 => ?_) (fun c12 => ?_)
  · refine v_iconst (v := (nI 0)) hx d_Ma_isAgreed_17 rfl ?_
    refine v_istore_n (lv' := [some (.ref (A 0)), some (.int (nI a)), some (.int (nI b_)), some (.int (nI 0))]) hx d_Ma_isAgreed_18 rfl (by decide) rfl ?_
    have H19 : ∀ (m : Nat) (i : Nat), k - i < m → (i ≤ k) → (∀ j, j < i → ou (a * 4 + j) = ou (b_ * 4 + j) ∧ lo (nx (a * 4 + j)) = lo (nx (b_ * 4 + j))) → V G { frames := 1, cells := 0, slots := 0, locals := 22 } 4 x L f 0 0 [some (.ref (A 0)), some (.int (nI a)), some (.int (nI b_)), some (.int (nI i))] 19 [] := by
      intro m
      induction m with
      | zero => intro i hm; exact absurd hm (Nat.not_lt_zero _)
      | succ m ih =>
        intro i hm hi hj
        refine v_iload_n hx d_Ma_isAgreed_19 rfl rfl ?_
        refine v_aload_n hx d_Ma_isAgreed_20 rfl rfl ?_
        refine v_get hx cf_Ma 5 (by decide) k_Ma_28 d_Ma_isAgreed_21 hM.m0 hM.f0 rfl ?_
        refine n_icmp_ge (tgt := 77) hx d_Ma_isAgreed_24 (by decide) (by omega) (by omega) (fun c24 => ?_) (fun c24 => ?_)
        · refine v_iconst (v := (nI 1)) hx d_Ma_isAgreed_77 rfl ?_
          exact v_zret hx hr d_Ma_isAgreed_78 rfl ⟨Or.inl ⟨rfl, c12, fun j hj2 => hj j (by omega)⟩, rfl, rfl⟩
        · have hxa := hnx a i ha (by omega)
          have hxb := hnx b_ i hb (by omega)
          have hla := hlo _ hxa.1
          have hlb := hlo _ hxb.1
          refine v_aload_n hx d_Ma_isAgreed_27 rfl rfl ?_
          refine v_iload_n hx d_Ma_isAgreed_28 rfl rfl ?_
          refine v_iload_n hx d_Ma_isAgreed_29 rfl rfl ?_
          refine v_callV (as := [.int (nI a), .int (nI i)]) (q := (R_Ma, T_Ma, 7)) hx (c_Ma_outputOf hM a i (by omega) (by omega)) cy_Ma_outputOf k_Ma_67 ki_Ma_outputOf kl_Ma_outputOf d_Ma_isAgreed_30 (by decide) (ci := 1) rfl hM.m0 hM.f0 (by decide) rfl rfl (Nat.le_of_ble_eq_true rfl) (fun v1 L f p1 => ?_)
          obtain ⟨rfl, rfl, rfl⟩ := p1
          refine v_aload_n hx d_Ma_isAgreed_33 rfl rfl ?_
          refine v_iload_n hx d_Ma_isAgreed_34 rfl rfl ?_
          refine v_iload_n hx d_Ma_isAgreed_35 rfl rfl ?_
          refine v_callV (as := [.int (nI b_), .int (nI i)]) (q := (R_Ma, T_Ma, 7)) hx (c_Ma_outputOf hM b_ i (by omega) (by omega)) cy_Ma_outputOf k_Ma_67 ki_Ma_outputOf kl_Ma_outputOf d_Ma_isAgreed_36 (by decide) (ci := 1) rfl hM.m0 hM.f0 (by decide) rfl rfl (Nat.le_of_ble_eq_true rfl) (fun v2 L f p2 => ?_)
          obtain ⟨rfl, rfl, rfl⟩ := p2
          refine n_icmp_eq (tgt := 44) hx d_Ma_isAgreed_39 (by decide) (by omega) (by omega) (fun c39 => ?_) (fun c39 => ?_)
          · refine v_aload_n hx d_Ma_isAgreed_44 rfl rfl ?_
            refine v_get hx cf_Ma 2 (by decide) k_Ma_18 d_Ma_isAgreed_45 hM.m0 hM.f0 rfl ?_
            refine v_aload_n hx d_Ma_isAgreed_48 rfl rfl ?_
            refine v_iload_n hx d_Ma_isAgreed_49 rfl rfl ?_
            refine v_iload_n hx d_Ma_isAgreed_50 rfl rfl ?_
            refine v_callV (as := [.int (nI a), .int (nI i)]) (q := (R_Ma, T_Ma, 7)) hx (c_Ma_nextOf hM a i (by omega) (by omega)) cy_Ma_nextOf k_Ma_39 ki_Ma_nextOf kl_Ma_nextOf d_Ma_isAgreed_51 (by decide) (ci := 1) rfl hM.m0 hM.f0 (by decide) rfl rfl (Nat.le_of_ble_eq_true rfl) (fun v3 L f p3 => ?_)
            obtain ⟨rfl, rfl, rfl⟩ := p3
            refine n_iald hx d_Ma_isAgreed_54 hM.m3 hM.f3 (by omega) (by decide) ?_
            refine v_aload_n hx d_Ma_isAgreed_55 rfl rfl ?_
            refine v_get hx cf_Ma 2 (by decide) k_Ma_18 d_Ma_isAgreed_56 hM.m0 hM.f0 rfl ?_
            refine v_aload_n hx d_Ma_isAgreed_59 rfl rfl ?_
            refine v_iload_n hx d_Ma_isAgreed_60 rfl rfl ?_
            refine v_iload_n hx d_Ma_isAgreed_61 rfl rfl ?_
            refine v_callV (as := [.int (nI b_), .int (nI i)]) (q := (R_Ma, T_Ma, 7)) hx (c_Ma_nextOf hM b_ i (by omega) (by omega)) cy_Ma_nextOf k_Ma_39 ki_Ma_nextOf kl_Ma_nextOf d_Ma_isAgreed_62 (by decide) (ci := 1) rfl hM.m0 hM.f0 (by decide) rfl rfl (Nat.le_of_ble_eq_true rfl) (fun v4 L f p4 => ?_)
            obtain ⟨rfl, rfl, rfl⟩ := p4
            refine n_iald hx d_Ma_isAgreed_65 hM.m3 hM.f3 (by omega) (by decide) ?_
            refine n_icmp_eq (tgt := 71) hx d_Ma_isAgreed_66 (by decide) (by omega) (by omega) (fun c66 => ?_) (fun c66 => ?_)
            · refine n_iinc (lv' := [some (.ref (A 0)), some (.int (nI a)), some (.int (nI b_)), some (.int (nI (i + 1)))]) hx d_Ma_isAgreed_71 rfl (by decide) rfl ?_
              refine v_goto (tgt := 19) hx d_Ma_isAgreed_74 (by decide) ?_
              exact ih (i + 1) (by omega) (by omega) (lt_s hj ⟨c39, c66⟩)
            · refine v_iconst (v := (nI 0)) hx d_Ma_isAgreed_69 rfl ?_
              exact v_zret hx hr d_Ma_isAgreed_70 rfl ⟨Or.inr ⟨rfl, fun h => c66 (h.2 i c24).2⟩, rfl, rfl⟩
          · refine v_iconst (v := (nI 0)) hx d_Ma_isAgreed_42 rfl ?_
            exact v_zret hx hr d_Ma_isAgreed_43 rfl ⟨Or.inr ⟨rfl, fun h => c39 (h.2 i c24).1⟩, rfl, rfl⟩
    exact H19 _ 0 (Nat.lt_succ_self _) (Nat.zero_le _) (fun _ h => absurd h (Nat.not_lt_zero _))
  · refine v_iconst (v := (nI 0)) hx d_Ma_isAgreed_15 rfl ?_
    exact v_zret hx hr d_Ma_isAgreed_16 rfl ⟨Or.inr ⟨rfl, fun h => c12 h.1⟩, rfl, rfl⟩
set_option maxHeartbeats 4000000 in
set_option maxRecDepth 100000 in
/-- the least one that agrees -/
theorem c_Ma_leastThatAgrees {G : GT} {L : List Nat} {f : Nat → va_E} {w : Nat → Nat} {id : Nat} {A : Nat → Nat} {nx ou lo fi : Nat → Nat} {n k b : Nat} (hM : MaAt G L f w id A nx ou lo fi n k b) (hA : okA nx ou n k) (hlo : ∀ s, s < n → lo s < 40) (s : Nat) (hs : s < n) (hfi : ∀ o, o < s → lag lo nx ou k o (fi o)) : Con G y_Ma_leastThatAgrees (.code y_Ma_leastThatAgrees b_Ma_leastThatAgrees 3 (some .int) :: BIG) 2 45 0 0 [.ref (A 0), .int (nI s)] L f (fun v L' f' => (∃ z, v = some (.int (nI z)) ∧ lag lo nx ou k s z) ∧ L' = L ∧ f' = f) := by
  refine con_of (cc := b_Ma_leastThatAgrees) (mL := 3) (lv := [some (.ref (A 0)), some (.int (nI s)), none]) (by decide) (by intro w hw; simp at hw; rcases hw with rfl | rfl <;> rfl) (by first | exact Nat.le_of_ble_eq_true rfl | decide) rfl ?_
  intro x hx hr hin
  have hA_ := hA
  obtain ⟨hn1, hn2, hk1, hk2, hnx⟩ := hA_
  refine v_iconst (v := (nI 0)) hx d_Ma_leastThatAgrees_0 rfl ?_
  refine v_istore_n (lv' := [some (.ref (A 0)), some (.int (nI s)), some (.int (nI 0))]) hx d_Ma_leastThatAgrees_1 rfl (by decide) rfl ?_
  have H2 : ∀ (m : Nat) (o : Nat), s - o < m → (o ≤ s) → (∀ o2, o2 < o → ¬ agr lo nx ou k o2 s) → V G { frames := 2, cells := 0, slots := 0, locals := 45 } 3 x L f 0 0 [some (.ref (A 0)), some (.int (nI s)), some (.int (nI o))] 2 [] := by
    intro m
    induction m with
    | zero => intro o hm; exact absurd hm (Nat.not_lt_zero _)
    | succ m ih =>
      intro o hm ho hj
      refine v_iload_n hx d_Ma_leastThatAgrees_2 rfl rfl ?_
      refine v_iload_n hx d_Ma_leastThatAgrees_3 rfl rfl ?_
      refine n_icmp_ge (tgt := 34) hx d_Ma_leastThatAgrees_4 (by decide) (by omega) (by omega) (fun c4 => ?_) (fun c4 => ?_)
      · refine v_iload_n hx d_Ma_leastThatAgrees_34 rfl rfl ?_
        exact v_iret hx hr d_Ma_leastThatAgrees_35 ⟨⟨s, rfl, Nat.le_refl _, agr.rf, fun o2 h2 => hj o2 (by omega)⟩, rfl, rfl⟩
      · have hf := hfi o c4
        refine v_aload_n hx d_Ma_leastThatAgrees_7 rfl rfl ?_
        refine v_get hx cf_Ma 3 (by decide) k_Ma_21 d_Ma_leastThatAgrees_8 hM.m0 hM.f0 rfl ?_
        refine v_iload_n hx d_Ma_leastThatAgrees_11 rfl rfl ?_
        refine n_iald hx d_Ma_leastThatAgrees_12 hM.m4 hM.f4 (by omega) (by decide) ?_
        refine v_iload_n hx d_Ma_leastThatAgrees_13 rfl rfl ?_
        refine n_icmp_ne (tgt := 28) hx d_Ma_leastThatAgrees_14 (by decide) (by have := hf.1; omega) (by have := hf.1; omega) (fun c14 => ?_) (fun c14 => ?_)
        · refine n_iinc (lv' := [some (.ref (A 0)), some (.int (nI s)), some (.int (nI (o + 1)))]) hx d_Ma_leastThatAgrees_28 rfl (by decide) rfl ?_
          refine v_goto (tgt := 2) hx d_Ma_leastThatAgrees_31 (by decide) ?_
          refine ih (o + 1) (by omega) (by omega) (lt_s hj ?_)
          first | exact hq | (intro hq2; exact c14 (hf.uniq ⟨Nat.le_refl _, agr.rf, fun o2 ho2 h2 => hj o2 ho2 (h2.tr hq2)⟩))
        · refine v_aload_n hx d_Ma_leastThatAgrees_17 rfl rfl ?_
          refine v_iload_n hx d_Ma_leastThatAgrees_18 rfl rfl ?_
          refine v_iload_n hx d_Ma_leastThatAgrees_19 rfl rfl ?_
          refine v_callV (as := [.int (nI o), .int (nI s)]) (q := (R_Ma, T_Ma, 7)) hx (c_Ma_isAgreed hM hA hlo o s (by omega) hs) cy_Ma_isAgreed k_Ma_63 ki_Ma_isAgreed kl_Ma_isAgreed d_Ma_leastThatAgrees_20 (by decide) (ci := 1) rfl hM.m0 hM.f0 (by decide) rfl rfl (Nat.le_of_ble_eq_true rfl) (fun v1 L f p1 => ?_)
          obtain ⟨(⟨rfl, hq⟩ | ⟨rfl, hq⟩), rfl, rfl⟩ := p1
          · refine n_if_eq (tgt := 28) hx d_Ma_leastThatAgrees_23 (by decide) (by omega) (fun c23 => ?_) (fun c23 => ?_)
            · exact absurd c23 (by omega)
            · refine v_iload_n hx d_Ma_leastThatAgrees_26 rfl rfl ?_
              exact v_iret hx hr d_Ma_leastThatAgrees_27 ⟨⟨o, rfl, by omega, hq, hj⟩, rfl, rfl⟩
          · refine n_if_eq (tgt := 28) hx d_Ma_leastThatAgrees_23 (by decide) (by omega) (fun c23 => ?_) (fun c23 => ?_)
            · refine n_iinc (lv' := [some (.ref (A 0)), some (.int (nI s)), some (.int (nI (o + 1)))]) hx d_Ma_leastThatAgrees_28 rfl (by decide) rfl ?_
              refine v_goto (tgt := 2) hx d_Ma_leastThatAgrees_31 (by decide) ?_
              refine ih (o + 1) (by omega) (by omega) (lt_s hj ?_)
              first | exact hq | (intro hq2; exact c14 (hf.uniq ⟨Nat.le_refl _, agr.rf, fun o2 ho2 h2 => hj o2 ho2 (h2.tr hq2)⟩))
            · exact absurd c23 (by omega)
  exact H2 _ 0 (Nat.lt_succ_self _) (Nat.zero_le _) (fun _ h => absurd h (Nat.not_lt_zero _))
def spk (sp : Bool) (s : Nat) (fi lo : Nat → Nat) : Prop := (sp = true ↔ ∃ o, o < s ∧ fi o ≠ lo o)
set_option maxHeartbeats 4000000 in
set_option maxRecDepth 100000 in
/-- one round -/
theorem c_Ma_splitSets {G : GT} {L : List Nat} {f : Nat → va_E} {w : Nat → Nat} {id : Nat} {A : Nat → Nat} {nx ou lo fi : Nat → Nat} {n k b : Nat} (hM : MaAt G L f w id A nx ou lo fi n k b) (hA : okA nx ou n k) (hlo : ∀ s, s < n → lo s < 40) : Con G y_Ma_splitSets (.code y_Ma_splitSets b_Ma_splitSets 3 (some .boolean) :: BIG) 3 67 0 0 [.ref (A 0)] L f (fun v L' f' => ∃ fi' lo' : Nat → Nat, ∃ sp : Bool, v = some (.int (bI sp)) ∧ L' = L ∧ MaAt G L f' w id A nx ou lo' fi' n k b ∧ gF w id f f' ∧ (∀ s, s < n → lag lo nx ou k s (lo' s)) ∧ (sp = true ↔ ∃ s, s < n ∧ lo' s ≠ lo s)) := by
  refine con_of (cc := b_Ma_splitSets) (mL := 3) (lv := [some (.ref (A 0)), none, none]) (by decide) (by intro w hw; simp at hw; rcases hw with rfl <;> rfl) (by first | exact Nat.le_of_ble_eq_true rfl | decide) rfl ?_
  intro x hx hr hin
  have hA_ := hA
  obtain ⟨hn1, hn2, hk1, hk2, hnx⟩ := hA_
  refine v_iconst (v := (nI 0)) hx d_Ma_splitSets_0 rfl ?_
  refine v_istore_n (lv' := [some (.ref (A 0)), some (.int (nI 0)), none]) hx d_Ma_splitSets_1 rfl (by decide) rfl ?_
  refine v_iconst (v := (nI 0)) hx d_Ma_splitSets_2 rfl ?_
  refine v_istore_n (lv' := [some (.ref (A 0)), some (.int (nI 0)), some (.int (nI 0))]) hx d_Ma_splitSets_3 rfl (by decide) rfl ?_
  have hF0 := gF.rf (w := w) (id := id) (f := f)
  generalize hf0 : f = f0 at hF0 hr
  have H4 : ∀ (m : Nat) (s : Nat) (sp : Bool) (f : Nat → va_E) (fi : Nat → Nat), n - s < m → (s ≤ n) → (MaAt G L f w id A nx ou lo fi n k b) → (gF w id f0 f) → (∀ o, o < s → lag lo nx ou k o (fi o)) → (spk sp s fi lo) → V G { frames := 3, cells := 0, slots := 0, locals := 67 } 3 x L f 0 0 [some (.ref (A 0)), some (.int (bI sp)), some (.int (nI s))] 4 [] := by
    intro m
    induction m with
    | zero => intro s sp f fi hm; exact absurd hm (Nat.not_lt_zero _)
    | succ m ih =>
      intro s sp f fi hm hs hM hF hfi hsp
      refine v_iload_n hx d_Ma_splitSets_4 rfl rfl ?_
      refine v_aload_n hx d_Ma_splitSets_5 rfl rfl ?_
      refine v_get hx cf_Ma 4 (by decide) k_Ma_24 d_Ma_splitSets_6 hM.m0 hM.f0 rfl ?_
      refine n_icmp_ge (tgt := 52) hx d_Ma_splitSets_9 (by decide) (by omega) (by omega) (fun c9 => ?_) (fun c9 => ?_)
      · refine v_aload_n hx d_Ma_splitSets_52 rfl rfl ?_
        refine v_get hx cf_Ma 3 (by decide) k_Ma_21 d_Ma_splitSets_53 hM.m0 hM.f0 rfl ?_
        refine v_iconst (v := (nI 0)) hx d_Ma_splitSets_56 rfl ?_
        refine v_aload_n hx d_Ma_splitSets_57 rfl rfl ?_
        refine v_get hx cf_Ma 2 (by decide) k_Ma_18 d_Ma_splitSets_58 hM.m0 hM.f0 rfl ?_
        refine v_iconst (v := (nI 0)) hx d_Ma_splitSets_61 rfl ?_
        refine v_aload_n hx d_Ma_splitSets_62 rfl rfl ?_
        refine v_get hx cf_Ma 4 (by decide) k_Ma_24 d_Ma_splitSets_63 hM.m0 hM.f0 rfl ?_
        refine nn_copy hx k_Ma_57 kn_Sy_arraycopy ks_Sy_arraycopy kz_Sy d_Ma_splitSets_66 hM.m4 hM.f4 hM.m3 hM.f3 (by omega) (by omega) (by decide) (by decide) (by decide) (fun f1 hf1 => ?_)
        have hF := hF.up hf1 hM.o3
        have hM := hM.up3 hf1
        refine v_iload_n hx d_Ma_splitSets_69 rfl rfl ?_
        exact v_zret hx hr d_Ma_splitSets_70 (bI_nar sp) ⟨fi, _, sp, rfl, rfl, hM, hF, fun s2 h2 => by rw [if_pos h2]; exact hfi s2 (by omega), by rw [show s = n by omega] at hsp; exact Iff.trans hsp ⟨fun ⟨o, h1, h2⟩ => ⟨o, h1, by rw [if_pos h1]; exact h2⟩, fun ⟨o, h1, h2⟩ => ⟨o, h1, by rw [if_pos h1] at h2; exact h2⟩⟩⟩
      · refine v_aload_n hx d_Ma_splitSets_12 rfl rfl ?_
        refine v_get hx cf_Ma 3 (by decide) k_Ma_21 d_Ma_splitSets_13 hM.m0 hM.f0 rfl ?_
        refine v_iload_n hx d_Ma_splitSets_16 rfl rfl ?_
        refine v_aload_n hx d_Ma_splitSets_17 rfl rfl ?_
        refine v_iload_n hx d_Ma_splitSets_18 rfl rfl ?_
        refine v_callV (as := [.int (nI s)]) (q := (R_Ma, T_Ma, 7)) hx (c_Ma_leastThatAgrees hM hA hlo s (by omega) hfi) cy_Ma_leastThatAgrees k_Ma_53 ki_Ma_leastThatAgrees kl_Ma_leastThatAgrees d_Ma_splitSets_19 (by decide) (ci := 1) rfl hM.m0 hM.f0 (by decide) rfl rfl (Nat.le_of_ble_eq_true rfl) (fun v2 L f p2 => ?_)
        obtain ⟨⟨z, rfl, hz⟩, rfl, rfl⟩ := p2
        refine nn_iast hx d_Ma_splitSets_22 hM.m4 hM.f4 (by omega) (by decide) (fun f3 hf3 => ?_)
        have hF := hF.up hf3 hM.o4
        have hM := hM.up4 hf3
        have ezz : va_up fi s z s = z := va_up_self _ _ _
        have hz40 : z < 40 := by have := hz.1; omega
        have hls := hlo s (by omega)
        refine v_iload_n hx d_Ma_splitSets_23 rfl rfl ?_
        refine v_aload_n hx d_Ma_splitSets_24 rfl rfl ?_
        refine v_get hx cf_Ma 3 (by decide) k_Ma_21 d_Ma_splitSets_25 hM.m0 hM.f0 rfl ?_
        refine v_iload_n hx d_Ma_splitSets_28 rfl rfl ?_
        refine n_iald hx d_Ma_splitSets_29 hM.m4 hM.f4 (by omega) (by decide) ?_
        refine v_aload_n hx d_Ma_splitSets_30 rfl rfl ?_
        refine v_get hx cf_Ma 2 (by decide) k_Ma_18 d_Ma_splitSets_31 hM.m0 hM.f0 rfl ?_
        refine v_iload_n hx d_Ma_splitSets_34 rfl rfl ?_
        refine n_iald hx d_Ma_splitSets_35 hM.m3 hM.f3 (by omega) (by decide) ?_
        refine n_icmp_eq (tgt := 43) hx d_Ma_splitSets_36 (by decide) (by first | omega | (rw [ezz]; omega)) (by first | omega | (rw [ezz]; omega)) (fun c36 => ?_) (fun c36 => ?_)
        · refine v_iconst (v := (nI 0)) hx d_Ma_splitSets_43 rfl ?_
          refine v_ior (v := (bI (sp || false))) hx d_Ma_splitSets_44 (by cases sp <;> rfl) ?_
          refine v_istore_n (lv' := [some (.ref (A 0)), some (.int (bI (sp || false))), some (.int (nI s))]) hx d_Ma_splitSets_45 rfl (by decide) rfl ?_
          refine n_iinc (lv' := [some (.ref (A 0)), some (.int (bI (sp || false))), some (.int (nI (s + 1)))]) hx d_Ma_splitSets_46 rfl (by decide) rfl ?_
          refine v_goto (tgt := 4) hx d_Ma_splitSets_49 (by decide) ?_
          refine ih (s + 1) _ f3 (va_up fi s z) (by omega) (by omega) hM hF ?_ ?_
          · intro o ho
            rcases Nat.lt_succ_iff_lt_or_eq.mp ho with h | h
            · rw [va_up_ne _ _ (Nat.ne_of_lt h)]; exact hfi o h
            · subst h; rw [ezz]; exact hz
          · rw [Bool.or_false]
            refine Iff.trans hsp ⟨fun ⟨o, h1, h2⟩ => ⟨o, Nat.lt_succ_of_lt h1, by rw [va_up_ne _ _ (Nat.ne_of_lt h1)]; exact h2⟩, fun ⟨o, h1, h2⟩ => ?_⟩
            rcases Nat.lt_succ_iff_lt_or_eq.mp h1 with h | h
            · exact ⟨o, h, by rw [va_up_ne _ _ (Nat.ne_of_lt h)] at h2; exact h2⟩
            · subst h; exact absurd c36 h2
        · refine v_iconst (v := (nI 1)) hx d_Ma_splitSets_39 rfl ?_
          refine v_goto (tgt := 44) hx d_Ma_splitSets_40 (by decide) ?_
          refine v_ior (v := (bI (sp || true))) hx d_Ma_splitSets_44 (by cases sp <;> rfl) ?_
          refine v_istore_n (lv' := [some (.ref (A 0)), some (.int (bI (sp || true))), some (.int (nI s))]) hx d_Ma_splitSets_45 rfl (by decide) rfl ?_
          refine n_iinc (lv' := [some (.ref (A 0)), some (.int (bI (sp || true))), some (.int (nI (s + 1)))]) hx d_Ma_splitSets_46 rfl (by decide) rfl ?_
          refine v_goto (tgt := 4) hx d_Ma_splitSets_49 (by decide) ?_
          refine ih (s + 1) _ f3 (va_up fi s z) (by omega) (by omega) hM hF ?_ ?_
          · intro o ho
            rcases Nat.lt_succ_iff_lt_or_eq.mp ho with h | h
            · rw [va_up_ne _ _ (Nat.ne_of_lt h)]; exact hfi o h
            · subst h; rw [ezz]; exact hz
          · rw [Bool.or_true]; exact Iff.intro (fun _ => ⟨s, Nat.lt_succ_self _, c36⟩) (fun _ => rfl)
  exact H4 _ 0 false f0 fi (Nat.lt_succ_self _) (Nat.zero_le _) (hf0 ▸ hM) hF0 (fun _ h => absurd h (Nat.not_lt_zero _)) ⟨fun h => (by cases h), fun ⟨_, h, _⟩ => absurd h (Nat.not_lt_zero _)⟩
