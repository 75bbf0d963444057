theorem cn1 {lo : Nat → Nat} (h : lo 0 = 0) : ∀ {n : Nat}, 1 ≤ n → 0 + 1 ≤ cn lo n
  | 0, h1 => by omega
  | 1, _ => by simp [cn, h]
  | n + 2, _ => by
    have := cn1 h (n := n + 1) (by omega)
    show 0 + 1 ≤ (if lo (n + 1) = n + 1 then cn lo (n + 1) + 1 else cn lo (n + 1))
    split <;> omega
set_option maxHeartbeats 4000000 in
set_option maxRecDepth 100000 in
/-- finds which are like -/
theorem c_Ma_settle {G : GT} {L : List Nat} {f : Nat → va_E} {w : Nat → Nat} {id : Nat} {A : Nat → Nat} {nx ou lo fi : Nat → Nat} {n k b : Nat} (hM : MaAt G L f w id A nx ou lo fi n k b) (hA : okA nx ou n k) (hb : b = 0 ∨ b = 1 ∧ Lk nx ou n k lo) : Con G y_Ma_settle (.code y_Ma_settle b_Ma_settle 3 none :: BIG) 4 89 0 0 [.ref (A 0)] L f (fun v L' f' => v = none ∧ L' = L ∧ ∃ lo' fi' : Nat → Nat, MaAt G L f' w id A nx ou lo' fi' n k 1 ∧ gF w id f f' ∧ Lk nx ou n k lo') := by
  refine con_of (cc := b_Ma_settle) (mL := 3) (lv := [some (.ref (A 0)), none, none]) (by decide) (by intro w hw; simp at hw; rcases hw with rfl <;> rfl) (by first | exact Nat.le_of_ble_eq_true rfl | decide) rfl ?_
  intro x hx hr hin
  have hA_ := hA
  obtain ⟨hn1, hn2, hk1, hk2, hnx⟩ := hA_
  refine v_aload_n hx d_Ma_settle_0 rfl rfl ?_
  refine v_get hx cf_Ma 6 (by decide) k_Ma_35 d_Ma_settle_1 hM.m0 hM.f0 rfl ?_
  refine n_if_eq (tgt := 8) hx d_Ma_settle_4 (by decide) (by rcases hb with h | h <;> omega) (fun c4 => ?_) (fun c4 => ?_)
  · refine v_aload_n hx d_Ma_settle_8 rfl rfl ?_
    refine v_get hx cf_Ma 2 (by decide) k_Ma_18 d_Ma_settle_9 hM.m0 hM.f0 rfl ?_
    refine v_iconst (v := (nI 0)) hx d_Ma_settle_12 rfl ?_
    refine v_aload_n hx d_Ma_settle_13 rfl rfl ?_
    refine v_get hx cf_Ma 4 (by decide) k_Ma_24 d_Ma_settle_14 hM.m0 hM.f0 rfl ?_
    refine v_iconst (v := (nI 0)) hx d_Ma_settle_17 rfl ?_
    refine v_callS (as := [.ref (A 3), .int (nI 0), .int (nI n), .int (nI 0)]) hx (c_Ar_fill hM.m3 hM.f3 (by decide) 0 n (nI 0) (Nat.zero_le _) (by omega)) cy_Ar_fill k_Ma_43 ks_Ar_fill d_Ma_settle_18 (by decide) (by decide) rfl rfl (Nat.le_of_ble_eq_true rfl) (fun v1 L f1 p1 => ?_)
    obtain ⟨rfl, rfl, e18⟩ := p1
    rw [fil_nI] at e18
    have hF := gF.up (gF.rf (w := w) (id := id) (f := f)) e18 hM.o3
    have hM := hM.up3 e18
    refine v_iconst (v := (nI 1)) hx d_Ma_settle_21 rfl ?_
    refine v_istore_n (lv' := [some (.ref (A 0)), some (.int (nI 1)), none]) hx d_Ma_settle_22 rfl (by decide) rfl ?_
    refine v_iconst (v := (nI 0)) hx d_Ma_settle_23 rfl ?_
    refine v_istore_n (lv' := [some (.ref (A 0)), some (.int (nI 1)), some (.int (nI 0))]) hx d_Ma_settle_24 rfl (by decide) rfl ?_
    have H25 : ∀ (m : Nat) (rd : Nat) (sp : Bool) (f1 : Nat → va_E) (lo : Nat → Nat) (fi : Nat → Nat), n - rd < m → (rd ≤ n) → (MaAt G L f1 w id A nx ou lo fi n k b) → (gF w id f f1) → (Lr nx ou n k lo) → (sp = true → rd + 1 ≤ cn lo n) → (sp = false → Lk nx ou n k lo) → V G { frames := 4, cells := 0, slots := 0, locals := 89 } 3 x L f1 0 0 [some (.ref (A 0)), some (.int (bI sp)), some (.int (nI rd))] 25 [] := by
      intro m
      induction m with
      | zero => intro rd sp f1 lo fi hm; exact absurd hm (Nat.not_lt_zero _)
      | succ m ih =>
        intro rd sp f1 lo fi hm hrd hM hF hL hsp hdn
        refine v_iload_n hx d_Ma_settle_25 rfl rfl ?_
        refine v_aload_n hx d_Ma_settle_26 rfl rfl ?_
        refine v_get hx cf_Ma 4 (by decide) k_Ma_24 d_Ma_settle_27 hM.m0 hM.f0 rfl ?_
        refine n_icmp_ge (tgt := 48) hx d_Ma_settle_30 (by decide) (by omega) (by omega) (fun c30 => ?_) (fun c30 => ?_)
        · have hst : sp = false := by first | exact (bI_0 sp).mp c34 | exact Bool.eq_false_iff.mpr (fun hs0 => by have := hsp hs0; have := cn_le lo n; omega)
          have hLk := hdn hst
          refine v_aload_n hx d_Ma_settle_48 rfl rfl ?_
          refine v_iconst (v := (nI 1)) hx d_Ma_settle_49 rfl ?_
          refine v_put hx cf_Ma 6 (by decide) k_Ma_35 rfl rfl rfl d_Ma_settle_50 hM.m0 hM.f0 (Nat.le_of_ble_eq_true rfl) (fun f2 hf2 => ?_)
          have hF := hF.up hf2 hM.o0
          have hM := hM.up0 hf2
          exact v_vret hx hr d_Ma_settle_53 ⟨rfl, rfl, lo, fi, hM, hF, hLk⟩
        · refine v_iload_n hx d_Ma_settle_33 rfl rfl ?_
          refine v_if_eq (tgt := 48) hx d_Ma_settle_34 (by decide) (fun c34 => ?_) (fun c34 => ?_)
          · have hst : sp = false := by first | exact (bI_0 sp).mp c34 | exact Bool.eq_false_iff.mpr (fun hs0 => by have := hsp hs0; have := cn_le lo n; omega)
            have hLk := hdn hst
            refine v_aload_n hx d_Ma_settle_48 rfl rfl ?_
            refine v_iconst (v := (nI 1)) hx d_Ma_settle_49 rfl ?_
            refine v_put hx cf_Ma 6 (by decide) k_Ma_35 rfl rfl rfl d_Ma_settle_50 hM.m0 hM.f0 (Nat.le_of_ble_eq_true rfl) (fun f3 hf3 => ?_)
            have hF := hF.up hf3 hM.o0
            have hM := hM.up0 hf3
            exact v_vret hx hr d_Ma_settle_53 ⟨rfl, rfl, lo, fi, hM, hF, hLk⟩
          · refine v_aload_n hx d_Ma_settle_37 rfl rfl ?_
            refine v_callV (as := []) (q := (R_Ma, T_Ma, 7)) hx (c_Ma_splitSets hM hA (fun s hs => by have := (hL.1 s hs).1; omega)) cy_Ma_splitSets k_Ma_49 ki_Ma_splitSets kl_Ma_splitSets d_Ma_settle_38 (by decide) (ci := 1) rfl hM.m0 hM.f0 (by decide) rfl rfl (Nat.le_of_ble_eq_true rfl) (fun v4 L f2 p4 => ?_)
            obtain ⟨fi2, lo2, sp2, rfl, rfl, hM2, hF2, hlag, hsp2⟩ := p4
            refine v_istore_n (lv' := [some (.ref (A 0)), some (.int (bI sp2)), some (.int (nI rd))]) hx d_Ma_settle_41 rfl (by decide) rfl ?_
            refine n_iinc (lv' := [some (.ref (A 0)), some (.int (bI sp2)), some (.int (nI (rd + 1)))]) hx d_Ma_settle_42 rfl (by decide) rfl ?_
            refine v_goto (tgt := 25) hx d_Ma_settle_45 (by decide) ?_
            refine ih (rd + 1) sp2 f2 lo2 fi2 (by omega) (by omega) hM2 (hF.tr hF2) (hL.next hA hlag) (fun e => ?_) (fun e => ?_)
            · have q := hL.grows hlag (hsp2.mp e)
              have hs1 : sp = true := Bool.of_not_eq_false (fun h => c34 ((bI_0 sp).mpr h))
              have := hsp hs1
              omega
            · refine hL.done hA hlag (fun s hs => ?_)
              rcases Nat.decEq (lo2 s) (lo s) with c | c
              · exact absurd (hsp2.mpr ⟨s, hs, c⟩) (by rw [e]; decide)
              · exact c
    exact H25 _ 0 true _ _ _ (Nat.lt_succ_self _) (Nat.zero_le _) hM hF (Lr.start (fun s hs => if_pos ⟨Nat.zero_le _, hs⟩)) (fun _ => cn1 (lo := fun k => if 0 ≤ k ∧ k < n then 0 else lo k) (if_pos ⟨Nat.zero_le _, by omega⟩) (by omega)) (fun e => by cases e)
  · obtain ⟨hb1, hLk⟩ : b = 1 ∧ Lk nx ou n k lo := hb.resolve_left (by omega)
    subst hb1
    exact v_vret hx hr d_Ma_settle_7 ⟨rfl, rfl, lo, fi, hM, gF.rf, hLk⟩
set_option maxHeartbeats 4000000 in
set_option maxRecDepth 100000 in
/-- a machine afresh -/
theorem c_Ma_begin {G : GT} {L : List Nat} {f : Nat → va_E} {w : Nat → Nat} {id : Nat} {A : Nat → Nat} {nx ou lo fi : Nat → Nat} {n k b : Nat} (hM : MaAt G L f w id A nx ou lo fi n k b) (n' k' : Nat) (hn : 1 ≤ n' ∧ n' ≤ 40) (hk : 1 ≤ k' ∧ k' ≤ 4) : Con G y_Ma_begin (.code y_Ma_begin b_Ma_begin 5 none :: BIG) 1 24 0 0 [.ref (A 0), .int (nI n'), .int (nI k')] L f (fun v L' f' => v = none ∧ L' = L ∧ ∃ nx' ou' : Nat → Nat, MaAt G L f' w id A nx' ou' lo fi n' k' 0 ∧ gF w id f f' ∧ ∀ s i, s < n' → i < k' → nx' (s * 4 + i) = s ∧ ou' (s * 4 + i) = 0) := by
  refine con_of (cc := b_Ma_begin) (mL := 5) (lv := [some (.ref (A 0)), some (.int (nI n')), some (.int (nI k')), none, none]) (by decide) (by intro w hw; simp at hw; rcases hw with rfl | rfl | rfl <;> rfl) (by first | exact Nat.le_of_ble_eq_true rfl | decide) rfl ?_
  intro x hx hr hin
  refine v_aload_n hx d_Ma_begin_0 rfl rfl ?_
  refine v_iload_n hx d_Ma_begin_1 rfl rfl ?_
  refine v_put hx cf_Ma 4 (by decide) k_Ma_24 rfl rfl rfl d_Ma_begin_2 hM.m0 hM.f0 (Nat.le_of_ble_eq_true rfl) (fun f1 hf1 => ?_)
  have hF := gF.up (gF.rf (w := w) (id := id) (f := f)) hf1 hM.o0
  have hM := hM.up0 hf1
  refine v_aload_n hx d_Ma_begin_5 rfl rfl ?_
  refine v_iload_n hx d_Ma_begin_6 rfl rfl ?_
  refine v_put hx cf_Ma 5 (by decide) k_Ma_28 rfl rfl rfl d_Ma_begin_7 hM.m0 hM.f0 (Nat.le_of_ble_eq_true rfl) (fun f2 hf2 => ?_)
  have hF := hF.up hf2 hM.o0
  have hM := hM.up0 hf2
  refine v_iconst (v := (nI 0)) hx d_Ma_begin_10 rfl ?_
  refine v_istore_n (lv' := [some (.ref (A 0)), some (.int (nI n')), some (.int (nI k')), some (.int (nI 0)), none]) hx d_Ma_begin_11 rfl (by decide) rfl ?_
  have H12 : ∀ (m : Nat) (s : Nat) (f1 : Nat → va_E) (nx : Nat → Nat) (ou : Nat → Nat) (b : Nat), n' - s < m → (s ≤ n') → (MaAt G L f1 w id A nx ou lo fi n' k' b) → (gF w id f f1) → (1 ≤ s → b = 0) → (∀ a c, a < s → c < k' → nx (a * 4 + c) = a ∧ ou (a * 4 + c) = 0) → V G { frames := 1, cells := 0, slots := 0, locals := 24 } 5 x L f1 0 0 [some (.ref (A 0)), some (.int (nI n')), some (.int (nI k')), some (.int (nI s)), none] 12 [] := by
    intro m
    induction m with
    | zero => intro s f1 nx ou b hm; exact absurd hm (Nat.not_lt_zero _)
    | succ m ih =>
      intro s f1 nx ou b hm hs hM hF hb hv
      have ihO := ih
      refine v_iload_n hx d_Ma_begin_12 rfl rfl ?_
      refine v_aload_n hx d_Ma_begin_13 rfl rfl ?_
      refine v_get hx cf_Ma 4 (by decide) k_Ma_24 d_Ma_begin_14 hM.m0 hM.f0 rfl ?_
      refine n_icmp_ge (tgt := 53) hx d_Ma_begin_17 (by decide) (by omega) (by omega) (fun c17 => ?_) (fun c17 => ?_)
      · have hs2 : s = n' := by omega
        have hb0 := hb (by omega)
        subst hb0
        exact v_vret hx hr d_Ma_begin_53 ⟨rfl, rfl, nx, ou, hM, hF, fun a c h1 h2 => hv a c (by omega) h2⟩
      · refine v_iconst (v := (nI 0)) hx d_Ma_begin_20 rfl ?_
        refine v_istore (lv' := [some (.ref (A 0)), some (.int (nI n')), some (.int (nI k')), some (.int (nI s)), some (.int (nI 0))]) hx d_Ma_begin_21 (by decide) rfl ?_
        have H23 : ∀ (m : Nat) (i : Nat) (f1 : Nat → va_E) (nx : Nat → Nat) (ou : Nat → Nat) (b : Nat), k' - i < m → (i ≤ k') → (MaAt G L f1 w id A nx ou lo fi n' k' b) → (gF w id f f1) → (1 ≤ s + i → b = 0) → (∀ a c, (a < s ∨ a = s ∧ c < i) → c < k' → nx (a * 4 + c) = a ∧ ou (a * 4 + c) = 0) → V G { frames := 1, cells := 0, slots := 0, locals := 24 } 5 x L f1 0 0 [some (.ref (A 0)), some (.int (nI n')), some (.int (nI k')), some (.int (nI s)), some (.int (nI i))] 23 [] := by
          intro m
          induction m with
          | zero => intro i f1 nx ou b hm; exact absurd hm (Nat.not_lt_zero _)
          | succ m ih =>
            intro i f1 nx ou b hm hi hM hF hb hv
            refine v_iload hx d_Ma_begin_23 rfl ?_
            refine v_aload_n hx d_Ma_begin_25 rfl rfl ?_
            refine v_get hx cf_Ma 5 (by decide) k_Ma_28 d_Ma_begin_26 hM.m0 hM.f0 rfl ?_
            refine n_icmp_ge (tgt := 47) hx d_Ma_begin_29 (by decide) (by omega) (by omega) (fun c29 => ?_) (fun c29 => ?_)
            · refine n_iinc (lv' := [some (.ref (A 0)), some (.int (nI n')), some (.int (nI k')), some (.int (nI (s + 1))), some (.int (nI i))]) hx d_Ma_begin_47 rfl (by decide) rfl ?_
              refine v_goto (tgt := 12) hx d_Ma_begin_50 (by decide) ?_
              exact v_weak (by simp [vsub]) (ihO (s + 1) f1 nx ou b (by omega) (by omega) hM hF (fun _ => hb (by omega)) (fun a c h1 h2 => hv a c (by omega) h2))
            · refine v_aload_n hx d_Ma_begin_32 rfl rfl ?_
              refine v_iload_n hx d_Ma_begin_33 rfl rfl ?_
              refine v_iload hx d_Ma_begin_34 rfl ?_
              refine v_iload_n hx d_Ma_begin_36 rfl rfl ?_
              refine v_iconst (v := (nI 0)) hx d_Ma_begin_37 rfl ?_
              refine v_callV (as := [.int (nI s), .int (nI i), .int (nI s), .int (nI 0)]) (q := (R_Ma, T_Ma, 7)) hx (c_Ma_setArrow hM s i s 0 (by omega) (by omega)) cy_Ma_setArrow k_Ma_31 ki_Ma_setArrow kl_Ma_setArrow d_Ma_begin_38 (by decide) (ci := 1) rfl hM.m0 hM.f0 (by decide) rfl rfl (Nat.le_of_ble_eq_true rfl) (fun v3 L f2 p3 => ?_)
              obtain ⟨rfl, rfl, hM2, hF2⟩ := p3
              refine n_iinc (lv' := [some (.ref (A 0)), some (.int (nI n')), some (.int (nI k')), some (.int (nI s)), some (.int (nI (i + 1)))]) hx d_Ma_begin_41 rfl (by decide) rfl ?_
              refine v_goto (tgt := 23) hx d_Ma_begin_44 (by decide) ?_
              refine ih (i + 1) f2 _ _ _ (by omega) (by omega) hM2 (hF.tr hF2) (fun _ => rfl) (fun a c h1 h2 => ?_)
              by_cases e : a * 4 + c = s * 4 + i
              · rw [e, va_up_self, va_up_self]; exact ⟨by omega, rfl⟩
              · rw [va_up_ne _ _ e, va_up_ne _ _ e]; exact hv a c (by omega) h2
        exact H23 _ 0 f1 nx ou b (Nat.lt_succ_self _) (Nat.zero_le _) hM hF (fun h => hb (by omega)) (fun a c h1 h2 => hv a c (by omega) h2)
  exact H12 _ 0 _ nx ou b (Nat.lt_succ_self _) (Nat.zero_le _) hM hF (fun h => by omega) (fun a c h1 h2 => by omega)
set_option maxHeartbeats 4000000 in
set_option maxRecDepth 100000 in
/-- a new machine object -/
theorem c_Ma_init {G : GT} {L : List Nat} {f : Nat → va_E} {w : Nat → Nat} {id o : Nat} (ho : o ∈ L) (hw : w o = id) (hf : f o = .inr (1, [.null, .null, .null, .null, .int 0, .int 0, .int 0])) : Con G y_Ma_init (.code y_Ma_init b_Ma_init 1 none :: BIG) 1 12 4 400 [.ref o] L f (fun v L' f' => v = none ∧ ∃ (A w' : Nat → Nat), A 0 = o ∧ (∀ q, q ∈ L → q ∈ L') ∧ (∀ q, q ∈ L → w' q = w q) ∧ (∀ q, q ∉ L → w' q = id) ∧ MaAt G L' f' w' id A (fun _ => 0) (fun _ => 0) (fun _ => 0) (fun _ => 0) 0 0 0 ∧ ∀ q, q ∈ L → q ≠ o → f' q = f q) := by
  refine con_of (cc := b_Ma_init) (mL := 1) (lv := [some (.ref o)]) (by decide) (by intro w hw; simp at hw; rcases hw with rfl <;> rfl) (by first | exact Nat.le_of_ble_eq_true rfl | decide) rfl ?_
  intro x hx hr hin
  refine v_aload_n hx d_Ma_init_0 rfl rfl ?_
  refine v_objInit hx k_Ma_3 ki_Ob_init kc_Ob_init d_Ma_init_1 (by decide) ?_
  refine v_aload_n hx d_Ma_init_4 rfl rfl ?_
  refine v_sipush (v := (nI 160)) hx d_Ma_init_5 rfl ?_
  refine m_newa hx d_Ma_init_8 (by decide) (by decide) (by decide) (fun q1 g1 hq1 eq1 => ?_)
  have mo1 := List.mem_append_left [q1] ho
  have z1 : o ≠ q1 := fun z => hq1 (z ▸ ho)
  have po1 := (congrFun eq1 o).trans ((va_up_ne _ _ z1).trans hf)
  refine v_putF hx cf_Ma 0 (by decide) k_Ma_9 rfl hin rfl rfl rfl d_Ma_init_10 mo1 po1 (Nat.le_of_ble_eq_true rfl) (fun k1 hk1 => ?_)
  have ho1 := (congrFun hk1 o).trans (va_up_self _ _ _)
  refine v_aload_n hx d_Ma_init_13 rfl rfl ?_
  refine v_sipush (v := (nI 160)) hx d_Ma_init_14 rfl ?_
  refine m_newa hx d_Ma_init_17 (by decide) (by decide) (by decide) (fun q2 g2 hq2 eq2 => ?_)
  have mo2 := List.mem_append_left [q2] mo1
  have z2 : o ≠ q2 := fun z => hq2 (z ▸ mo1)
  have po2 := (congrFun eq2 o).trans ((va_up_ne _ _ z2).trans ho1)
  refine v_putF hx cf_Ma 1 (by decide) k_Ma_15 rfl hin rfl rfl rfl d_Ma_init_19 mo2 po2 (Nat.le_of_ble_eq_true rfl) (fun k2 hk2 => ?_)
  have ho2 := (congrFun hk2 o).trans (va_up_self _ _ _)
  refine v_aload_n hx d_Ma_init_22 rfl rfl ?_
  refine v_bipush (v := (nI 40)) hx d_Ma_init_23 rfl ?_
  refine m_newa hx d_Ma_init_25 (by decide) (by decide) (by decide) (fun q3 g3 hq3 eq3 => ?_)
  have mo3 := List.mem_append_left [q3] mo2
  have z3 : o ≠ q3 := fun z => hq3 (z ▸ mo2)
  have po3 := (congrFun eq3 o).trans ((va_up_ne _ _ z3).trans ho2)
  refine v_putF hx cf_Ma 2 (by decide) k_Ma_18 rfl hin rfl rfl rfl d_Ma_init_27 mo3 po3 (Nat.le_of_ble_eq_true rfl) (fun k3 hk3 => ?_)
  have ho3 := (congrFun hk3 o).trans (va_up_self _ _ _)
  refine v_aload_n hx d_Ma_init_30 rfl rfl ?_
  refine v_bipush (v := (nI 40)) hx d_Ma_init_31 rfl ?_
  refine m_newa hx d_Ma_init_33 (by decide) (by decide) (by decide) (fun q4 g4 hq4 eq4 => ?_)
  have mo4 := List.mem_append_left [q4] mo3
  have z4 : o ≠ q4 := fun z => hq4 (z ▸ mo3)
  have po4 := (congrFun eq4 o).trans ((va_up_ne _ _ z4).trans ho3)
  refine v_putF hx cf_Ma 3 (by decide) k_Ma_21 rfl hin rfl rfl rfl d_Ma_init_35 mo4 po4 (Nat.le_of_ble_eq_true rfl) (fun k4 hk4 => ?_)
  have ho4 := (congrFun hk4 o).trans (va_up_self _ _ _)
  have hL : L ++ [q1] ++ [q2] ++ [q3] ++ [q4] = L ++ [q1, q2, q3, q4] := by simp
  have n1 : q1 ≠ o := Ne.symm z1
  have n2 : q2 ≠ o := Ne.symm z2
  have n3 : q3 ≠ o := Ne.symm z3
  have n4 : q4 ≠ o := Ne.symm z4
  simp only [List.mem_append, List.mem_singleton, not_or] at hq1 hq2 hq3 hq4
  have hO := own_of (L := L) (w := w) (id := id) (o := o) [q1, q2, q3, q4] ho hw (by simp [Ne.symm hq2.2, Ne.symm hq3.1.2, Ne.symm hq3.2, Ne.symm hq4.1.1.2, Ne.symm hq4.1.2, Ne.symm hq4.2]) (by simp [hq1, hq2, hq3, hq4])
  rw [hL]
  refine v_vret hx hr d_Ma_init_38 ⟨rfl, _, _, rfl, fun q h => List.mem_append_left _ h, fun q h => if_pos h, fun q h => if_neg h, ⟨hO, ho4, ?_, ?_, ?_, ?_⟩, fun q h1 h2 => ?_⟩
  · show k4 q1 = _; rw [hk4, va_up_ne _ _ n1, eq4, va_up_ne _ _ (Ne.symm hq4.1.1.2), hk3, va_up_ne _ _ n1, eq3, va_up_ne _ _ (Ne.symm hq3.1.2), hk2, va_up_ne _ _ n1, eq2, va_up_ne _ _ (Ne.symm hq2.2), hk1, va_up_ne _ _ n1, eq1, va_up_self]
  · show k4 q2 = _; rw [hk4, va_up_ne _ _ n2, eq4, va_up_ne _ _ (Ne.symm hq4.1.2), hk3, va_up_ne _ _ n2, eq3, va_up_ne _ _ (Ne.symm hq3.2), hk2, va_up_ne _ _ n2, eq2, va_up_self]
  · show k4 q3 = _; rw [hk4, va_up_ne _ _ n3, eq4, va_up_ne _ _ (Ne.symm hq4.2), hk3, va_up_ne _ _ n3, eq3, va_up_self]
  · show k4 q4 = _; rw [hk4, va_up_ne _ _ n4, eq4, va_up_self]
  · rw [hk4, va_up_ne _ _ h2, eq4, va_up_ne _ _ (show q ≠ q4 from fun z => hq4.1.1.1 (z ▸ h1)), hk3, va_up_ne _ _ h2, eq3, va_up_ne _ _ (show q ≠ q3 from fun z => hq3.1.1 (z ▸ h1)), hk2, va_up_ne _ _ h2, eq2, va_up_ne _ _ (show q ≠ q2 from fun z => hq2.1 (z ▸ h1)), hk1, va_up_ne _ _ h2, eq1, va_up_ne _ _ (show q ≠ q1 from fun z => hq1 (z ▸ h1))]
