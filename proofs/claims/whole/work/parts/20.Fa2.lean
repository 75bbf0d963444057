set_option maxHeartbeats 4000000 in
set_option maxRecDepth 100000 in
theorem c_Fa_begin {G : GT} {L : List Nat} {f : Nat → va_E} {w : Nat → Nat} {id : Nat} {A : Nat → Nat} {ss sz bo : Nat → Nat} {c : Nat} (hM : FaAt G L f w id A ss sz bo c) {idM : Nat} {B : Nat → Nat} {nx ou lo fi : Nat → Nat} {n k b : Nat} (hMa : MaAt G L f w idM B nx ou lo fi n k b) (hid : idM ≠ id) (hA : okA nx ou n k) (hn12 : n ≤ 12) (hlo : ∀ s, s < n → lo s ≤ s) : Con G y_Fa_begin (.code y_Fa_begin b_Fa_begin 4 none :: BIG) 2 48 0 0 [.ref (A 0), .ref (B 0)] L f (fun v L' f' => v = none ∧ L' = L ∧ (∃ ss' sz' : Nat → Nat, FaAt G L f' w id A ss' sz' bo 0 ∧ rowAt ss' sz' 0 [alm lo n]) ∧ gF w id f f') := by
  refine con_of (cc := b_Fa_begin) (mL := 4) (lv := [some (.ref (A 0)), some (.ref (B 0)), none, none]) (by decide) (by intro w hw; simp at hw; rcases hw with rfl | rfl <;> rfl) (by first | exact Nat.le_of_ble_eq_true rfl | decide) rfl ?_
  intro x hx hr hin
  have hF := gF.rf (w := w) (id := id) (f := f)
  have hA_ := hA
  obtain ⟨hn1, hn2, hk1, hk2, hnx⟩ := hA_
  have hlo12 : ∀ s, s < n → lo s < 12 := fun s hs => by have := hlo s hs; omega
  refine v_aload_n hx d_Fa_begin_0 rfl rfl ?_
  refine v_iconst (v := (nI 0)) hx d_Fa_begin_1 rfl ?_
  refine v_put hx cf_Fa 3 (by decide) k_Fa_21 rfl rfl rfl d_Fa_begin_2 hM.m0 hM.f0 (Nat.le_of_ble_eq_true rfl) (fun f1 hf1 => ?_)
  have hF := hF.up hf1 hM.o0
  have hM := hM.up0 hf1
  refine v_aload_n hx d_Fa_begin_5 rfl rfl ?_
  refine v_get hx cf_Fa 1 (by decide) k_Fa_15 d_Fa_begin_6 hM.m0 hM.f0 rfl ?_
  refine v_iconst (v := (nI 0)) hx d_Fa_begin_9 rfl ?_
  refine v_iconst (v := (nI 0)) hx d_Fa_begin_10 rfl ?_
  refine nn_iast hx d_Fa_begin_11 hM.m2 hM.f2 (by omega) (by decide) (fun f2 hf2 => ?_)
  have hF := hF.up hf2 hM.o2
  have hM := hM.up2 hf2
  refine v_iconst (v := (nI 0)) hx d_Fa_begin_12 rfl ?_
  refine v_istore_n (lv' := [some (.ref (A 0)), some (.ref (B 0)), some (.int (nI 0)), none]) hx d_Fa_begin_13 rfl (by decide) rfl ?_
  refine v_iconst (v := (nI 0)) hx d_Fa_begin_14 rfl ?_
  refine v_istore_n (lv' := [some (.ref (A 0)), some (.ref (B 0)), some (.int (nI 0)), some (.int (nI 0))]) hx d_Fa_begin_15 rfl (by decide) rfl ?_
  have H16 : ∀ (fu : Nat) (s : Nat), n - s < fu → (s ≤ n) → V G { frames := 2, cells := 0, slots := 0, locals := 48 } 4 x L f2 0 0 [some (.ref (A 0)), some (.ref (B 0)), some (.int (nI (alm lo s))), some (.int (nI s))] 16 [] := by
    intro fu
    induction fu with
    | zero => intro s hm; exact absurd hm (Nat.not_lt_zero _)
    | succ fu ih =>
      intro s hm hs
      refine v_iload_n hx d_Fa_begin_16 rfl rfl ?_
      refine v_aload_n hx d_Fa_begin_17 rfl rfl ?_
      refine v_getN hx cf_Ma 4 (by decide) kN_Fa_25 d_Fa_begin_18 (hMa.fr hF hid).m0 (hMa.fr hF hid).f0 rfl ?_
      refine n_icmp_ge (tgt := 40) hx d_Fa_begin_21 (by decide) (by omega) (by omega) (fun c21 => ?_) (fun c21 => ?_)
      · have hsn : s = n := by omega
        refine v_aload_n hx d_Fa_begin_40 rfl rfl ?_
        refine v_iload_n hx d_Fa_begin_41 rfl rfl ?_
        refine v_callV (as := [.int (nI (alm lo s))]) (q := (R_Fa, T_Fa, 4)) hx (c_Fa_put hM (l := []) ⟨va_up_self _ _ _, fun _ h => absurd h (Nat.not_lt_zero _)⟩ ⟨fun _ h => absurd h List.not_mem_nil, Nat.zero_le _⟩ (by decide) (alm lo s) (by have := alm_lt hlo12 s (by omega); simpa using this) (alm_pos (by omega)) (by have := alm_pcn hlo12 s (by omega); simp [fsum]; omega)) cy_Fa_put k_Fa_34 ki_Fa_put kl_Fa_put d_Fa_begin_42 (by decide) (ci := 0) rfl hM.m0 hM.f0 (by decide) rfl rfl (Nat.le_of_ble_eq_true rfl) (fun v3 L f9 p3 => ?_)
        obtain ⟨rfl, rfl, ⟨ss9, sz9, hM9, hR9, -, -⟩, hF9⟩ := p3
        exact v_vret hx hr d_Fa_begin_45 ⟨rfl, rfl, ⟨ss9, sz9, hM9, (by rw [← hsn]; exact hR9)⟩, hF.tr hF9⟩
      · refine v_iload_n hx d_Fa_begin_24 rfl rfl ?_
        refine v_iconst (v := (nI 1)) hx d_Fa_begin_25 rfl ?_
        refine v_aload_n hx d_Fa_begin_26 rfl rfl ?_
        refine v_iload_n hx d_Fa_begin_27 rfl rfl ?_
        refine v_callV (as := [.int (nI s)]) (q := (R_Ma, T_Ma, 7)) hx (c_Ma_leastLike (hMa.fr hF hid) s (by omega)) cy_Ma_leastLike k_Fa_30 ki_Ma_leastLike kl_Ma_leastLike d_Fa_begin_28 (by decide) (ci := 1) rfl (hMa.fr hF hid).m0 (hMa.fr hF hid).f0 (by decide) rfl rfl (Nat.le_of_ble_eq_true rfl) (fun v4 L f2 p4 => ?_)
        obtain ⟨rfl, rfl, rfl⟩ := p4
        refine v_ishl hx d_Fa_begin_31 rfl ?_
        refine v_ior (v := (nI (alm lo s ||| 2 ^ lo s))) hx d_Fa_begin_32 (bit_or (alm_lt hlo12 s (by omega)) (hlo12 s (by omega))) ?_
        refine v_istore_n (lv' := [some (.ref (A 0)), some (.ref (B 0)), some (.int (nI (alm lo s ||| 2 ^ lo s))), some (.int (nI s))]) hx d_Fa_begin_33 rfl (by decide) rfl ?_
        refine n_iinc (lv' := [some (.ref (A 0)), some (.ref (B 0)), some (.int (nI (alm lo s ||| 2 ^ lo s))), some (.int (nI (s + 1)))]) hx d_Fa_begin_34 rfl (by decide) rfl ?_
        refine v_goto (tgt := 16) hx d_Fa_begin_37 (by decide) ?_
        exact ih (s + 1) (by omega) (by omega)
  exact H16 _ 0 (Nat.lt_succ_self _) (Nat.zero_le _)
theorem pcn_le (S : Nat) : ∀ m, pcn S m ≤ m
  | 0 => Nat.le_refl _
  | m + 1 => by have := pcn_le S m; have := Nat.mod_lt (S / 2 ^ m) (show 0 < 2 by decide); simp only [pcn]; omega
theorem pcn_small (S : Nat) : pcn S 12 < 2 ^ 31 := by have := pcn_le S 12; omega
set_option maxHeartbeats 4000000 in
set_option maxRecDepth 100000 in
theorem c_Fa_openOneIsSingles {G : GT} {L : List Nat} {f : Nat → va_E} {w : Nat → Nat} {id : Nat} {A : Nat → Nat} {ss sz bo : Nat → Nat} {c : Nat} (hM : FaAt G L f w id A ss sz bo c) {l : List Nat} (hR : rowAt ss sz c l) (hO : fOK l 12) (hc : c < 300) : Con G y_Fa_openOneIsSingles (.code y_Fa_openOneIsSingles b_Fa_openOneIsSingles 2 (some .boolean) :: BIG) 1 20 0 0 [.ref (A 0)] L f (fun v L' f' => v = some (.int (bI (l.all (fun s => decide (pcn s 12 = 1))))) ∧ L' = L ∧ f' = f) := by
  refine con_of (cc := b_Fa_openOneIsSingles) (mL := 2) (lv := [some (.ref (A 0)), none]) (by decide) (by intro w hw; simp at hw; rcases hw with rfl <;> rfl) (by first | exact Nat.le_of_ble_eq_true rfl | decide) rfl ?_
  intro x hx hr hin
  have hll := hO.len
  have hsz := hR.1
  refine v_iconst (v := (nI 0)) hx d_Fa_openOneIsSingles_0 rfl ?_
  refine v_istore_n (lv' := [some (.ref (A 0)), some (.int (nI 0))]) hx d_Fa_openOneIsSingles_1 rfl (by decide) rfl ?_
  have H2 : ∀ (fu : Nat) (i : Nat), l.length - i < fu → (i ≤ l.length) → (∀ j, j < i → decide (pcn (l.getD j 0) 12 = 1) = true) → V G { frames := 1, cells := 0, slots := 0, locals := 20 } 2 x L f 0 0 [some (.ref (A 0)), some (.int (nI i))] 2 [] := by
    intro fu
    induction fu with
    | zero => intro i hm; exact absurd hm (Nat.not_lt_zero _)
    | succ fu ih =>
      intro i hm hi hj
      refine v_iload_n hx d_Fa_openOneIsSingles_2 rfl rfl ?_
      refine v_aload_n hx d_Fa_openOneIsSingles_3 rfl rfl ?_
      refine v_get hx cf_Fa 1 (by decide) k_Fa_15 d_Fa_openOneIsSingles_4 hM.m0 hM.f0 rfl ?_
      refine v_aload_n hx d_Fa_openOneIsSingles_7 rfl rfl ?_
      refine v_get hx cf_Fa 3 (by decide) k_Fa_21 d_Fa_openOneIsSingles_8 hM.m0 hM.f0 rfl ?_
      refine n_iald hx d_Fa_openOneIsSingles_11 hM.m2 hM.f2 (by omega) (by decide) ?_
      refine n_icmp_ge (tgt := 44) hx d_Fa_openOneIsSingles_12 (by decide) (by omega) (by omega) (fun c12 => ?_) (fun c12 => ?_)
      · refine v_iconst (v := (nI 1)) hx d_Fa_openOneIsSingles_44 rfl ?_
        exact v_zret hx hr d_Fa_openOneIsSingles_45 rfl ⟨by rw [all_true (fun j hj2 => hj j (by omega))]; rfl, rfl, rfl⟩
      · have hg := hR.get (i := i) (by omega)
        have hlt := (hR.lt hO (i := i) (by omega)).2
        have hpl : pcn (ss (c * 12 + i)) 12 < 2 ^ 31 := pcn_small _
        refine v_aload_n hx d_Fa_openOneIsSingles_15 rfl rfl ?_
        refine v_get hx cf_Fa 0 (by decide) k_Fa_9 d_Fa_openOneIsSingles_16 hM.m0 hM.f0 rfl ?_
        refine v_aload_n hx d_Fa_openOneIsSingles_19 rfl rfl ?_
        refine v_get hx cf_Fa 3 (by decide) k_Fa_21 d_Fa_openOneIsSingles_20 hM.m0 hM.f0 rfl ?_
        refine v_bipush (v := (nI 12)) hx d_Fa_openOneIsSingles_23 rfl ?_
        refine n_imul hx d_Fa_openOneIsSingles_25 ?_
        refine v_iload_n hx d_Fa_openOneIsSingles_26 rfl rfl ?_
        refine n_iadd hx d_Fa_openOneIsSingles_27 ?_
        refine n_iald hx d_Fa_openOneIsSingles_28 hM.m1 hM.f1 (by omega) (by decide) ?_
        refine v_callS (as := [.int (nI (ss ((c * 12) + i)))]) hx (c_In_bitCount (ss (c * 12 + i)) hlt) cy_In_bitCount k_Fa_62 ks_In_bitCount d_Fa_openOneIsSingles_29 (by decide) (by decide) rfl rfl (Nat.le_of_ble_eq_true rfl) (fun v1 L f p1 => ?_)
        obtain ⟨rfl, rfl, rfl⟩ := p1
        refine v_iconst (v := (nI 1)) hx d_Fa_openOneIsSingles_32 rfl ?_
        refine n_icmp_eq (tgt := 38) hx d_Fa_openOneIsSingles_33 (by decide) (by omega) (by omega) (fun c33 => ?_) (fun c33 => ?_)
        · refine n_iinc (lv' := [some (.ref (A 0)), some (.int (nI (i + 1)))]) hx d_Fa_openOneIsSingles_38 rfl (by decide) rfl ?_
          refine v_goto (tgt := 2) hx d_Fa_openOneIsSingles_41 (by decide) ?_
          exact ih (i + 1) (by omega) (by omega) (lt_s hj (by rw [← hg]; exact decide_eq_true c33))
        · refine v_iconst (v := (nI 0)) hx d_Fa_openOneIsSingles_36 rfl ?_
          exact v_zret hx hr d_Fa_openOneIsSingles_37 rfl ⟨by rw [all_false (i := i) (by omega) (by rw [← hg]; exact decide_eq_false c33)]; rfl, rfl, rfl⟩
  exact H2 _ 0 (Nat.lt_succ_self _) (Nat.zero_le _) (fun _ h => absurd h (Nat.not_lt_zero _))
set_option maxHeartbeats 4000000 in
set_option maxRecDepth 100000 in
theorem c_Fa_openOneIs {G : GT} {L : List Nat} {f : Nat → va_E} {w : Nat → Nat} {id : Nat} {A : Nat → Nat} {ss sz bo : Nat → Nat} {c : Nat} (hM : FaAt G L f w id A ss sz bo c) {l : List Nat} (hR : rowAt ss sz c l) (hO : fOK l 12) (hc : c < 300) {lk : List Nat} (t : Nat) (ht : t < 300) (hRk : rowAt ss sz t lk) (hOk : fOK lk 12) : Con G y_Fa_openOneIs (.code y_Fa_openOneIs b_Fa_openOneIs 3 (some .boolean) :: BIG) 0 0 0 0 [.ref (A 0), .int (nI t)] L f (fun v L' f' => v = some (.int (bI (decide (lk = l)))) ∧ L' = L ∧ f' = f) := by
  refine con_of (cc := b_Fa_openOneIs) (mL := 3) (lv := [some (.ref (A 0)), some (.int (nI t)), none]) (by decide) (by intro w hw; simp at hw; rcases hw with rfl | rfl <;> rfl) (by first | exact Nat.le_of_ble_eq_true rfl | decide) rfl ?_
  intro x hx hr hin
  have hll := hO.len
  have hsz := hR.1
  have hlk := hOk.len
  have hszk := hRk.1
  refine v_aload_n hx d_Fa_openOneIs_0 rfl rfl ?_
  refine v_get hx cf_Fa 1 (by decide) k_Fa_15 d_Fa_openOneIs_1 hM.m0 hM.f0 rfl ?_
  refine v_iload_n hx d_Fa_openOneIs_4 rfl rfl ?_
  refine n_iald hx d_Fa_openOneIs_5 hM.m2 hM.f2 (by omega) (by decide) ?_
  refine v_aload_n hx d_Fa_openOneIs_6 rfl rfl ?_
  refine v_get hx cf_Fa 1 (by decide) k_Fa_15 d_Fa_openOneIs_7 hM.m0 hM.f0 rfl ?_
  refine v_aload_n hx d_Fa_openOneIs_10 rfl rfl ?_
  refine v_get hx cf_Fa 3 (by decide) k_Fa_21 d_Fa_openOneIs_11 hM.m0 hM.f0 rfl ?_
  refine n_iald hx d_Fa_openOneIs_14 hM.m2 hM.f2 (by omega) (by decide) ?_
  refine n_icmp_eq (tgt := 20) hx d_Fa_openOneIs_15 (by decide) (by omega) (by omega) (fun c15 => ?_) (fun c15 => ?_)
  · refine v_iconst (v := (nI 0)) hx d_Fa_openOneIs_20 rfl ?_
    refine v_istore_n (lv' := [some (.ref (A 0)), some (.int (nI t)), some (.int (nI 0))]) hx d_Fa_openOneIs_21 rfl (by decide) rfl ?_
    have H22 : ∀ (fu : Nat) (i : Nat), l.length - i < fu → (i ≤ l.length) → (∀ j, j < i → lk.getD j 0 = l.getD j 0) → V G { frames := 0, cells := 0, slots := 0, locals := 0 } 3 x L f 0 0 [some (.ref (A 0)), some (.int (nI t)), some (.int (nI i))] 22 [] := by
      intro fu
      induction fu with
      | zero => intro i hm; exact absurd hm (Nat.not_lt_zero _)
      | succ fu ih =>
        intro i hm hi hj
        refine v_iload_n hx d_Fa_openOneIs_22 rfl rfl ?_
        refine v_aload_n hx d_Fa_openOneIs_23 rfl rfl ?_
        refine v_get hx cf_Fa 1 (by decide) k_Fa_15 d_Fa_openOneIs_24 hM.m0 hM.f0 rfl ?_
        refine v_aload_n hx d_Fa_openOneIs_27 rfl rfl ?_
        refine v_get hx cf_Fa 3 (by decide) k_Fa_21 d_Fa_openOneIs_28 hM.m0 hM.f0 rfl ?_
        refine n_iald hx d_Fa_openOneIs_31 hM.m2 hM.f2 (by omega) (by decide) ?_
        refine n_icmp_ge (tgt := 71) hx d_Fa_openOneIs_32 (by decide) (by omega) (by omega) (fun c32 => ?_) (fun c32 => ?_)
        · refine v_iconst (v := (nI 1)) hx d_Fa_openOneIs_71 rfl ?_
          exact v_zret hx hr d_Fa_openOneIs_72 rfl ⟨by rw [decide_eq_true (list_eq (by omega) (fun j hj2 => hj j (by omega)))]; rfl, rfl, rfl⟩
        · have hg := hR.get (i := i) (by omega)
          have hgk := hRk.get (i := i) (by omega)
          have hlt := (hR.lt hO (i := i) (by omega)).2
          have hltk := (hRk.lt hOk (i := i) (by omega)).2
          refine v_aload_n hx d_Fa_openOneIs_35 rfl rfl ?_
          refine v_get hx cf_Fa 0 (by decide) k_Fa_9 d_Fa_openOneIs_36 hM.m0 hM.f0 rfl ?_
          refine v_iload_n hx d_Fa_openOneIs_39 rfl rfl ?_
          refine v_bipush (v := (nI 12)) hx d_Fa_openOneIs_40 rfl ?_
          refine n_imul hx d_Fa_openOneIs_42 ?_
          refine v_iload_n hx d_Fa_openOneIs_43 rfl rfl ?_
          refine n_iadd hx d_Fa_openOneIs_44 ?_
          refine n_iald hx d_Fa_openOneIs_45 hM.m1 hM.f1 (by omega) (by decide) ?_
          refine v_aload_n hx d_Fa_openOneIs_46 rfl rfl ?_
          refine v_get hx cf_Fa 0 (by decide) k_Fa_9 d_Fa_openOneIs_47 hM.m0 hM.f0 rfl ?_
          refine v_aload_n hx d_Fa_openOneIs_50 rfl rfl ?_
          refine v_get hx cf_Fa 3 (by decide) k_Fa_21 d_Fa_openOneIs_51 hM.m0 hM.f0 rfl ?_
          refine v_bipush (v := (nI 12)) hx d_Fa_openOneIs_54 rfl ?_
          refine n_imul hx d_Fa_openOneIs_56 ?_
          refine v_iload_n hx d_Fa_openOneIs_57 rfl rfl ?_
          refine n_iadd hx d_Fa_openOneIs_58 ?_
          refine n_iald hx d_Fa_openOneIs_59 hM.m1 hM.f1 (by omega) (by decide) ?_
          refine n_icmp_eq (tgt := 65) hx d_Fa_openOneIs_60 (by decide) (by omega) (by omega) (fun c60 => ?_) (fun c60 => ?_)
          · refine n_iinc (lv' := [some (.ref (A 0)), some (.int (nI t)), some (.int (nI (i + 1)))]) hx d_Fa_openOneIs_65 rfl (by decide) rfl ?_
            refine v_goto (tgt := 22) hx d_Fa_openOneIs_68 (by decide) ?_
            exact ih (i + 1) (by omega) (by omega) (lt_s hj (by rw [← hg, ← hgk]; exact c60))
          · refine v_iconst (v := (nI 0)) hx d_Fa_openOneIs_63 rfl ?_
            exact v_zret hx hr d_Fa_openOneIs_64 rfl ⟨by rw [decide_eq_false (fun e => c60 (by rw [hg, hgk, e]))]; rfl, rfl, rfl⟩
    exact H22 _ 0 (Nat.lt_succ_self _) (Nat.zero_le _) (fun _ h => absurd h (Nat.not_lt_zero _))
  · refine v_iconst (v := (nI 0)) hx d_Fa_openOneIs_18 rfl ?_
    exact v_zret hx hr d_Fa_openOneIs_19 rfl ⟨by rw [decide_eq_false (fun e => c15 (by rw [hszk, hsz, e]))]; rfl, rfl, rfl⟩
set_option maxHeartbeats 4000000 in
set_option maxRecDepth 100000 in
theorem c_Fa_openOneIsKnown {G : GT} {L : List Nat} {f : Nat → va_E} {w : Nat → Nat} {id : Nat} {A : Nat → Nat} {ss sz bo : Nat → Nat} {c : Nat} (hM : FaAt G L f w id A ss sz bo c) {l : List Nat} (hR : rowAt ss sz c l) (hO : fOK l 12) (hc : c < 300) {rows : Nat → List Nat} (hRs : ∀ t, t < c → rowAt ss sz t (rows t) ∧ fOK (rows t) 12) : Con G y_Fa_openOneIsKnown (.code y_Fa_openOneIsKnown b_Fa_openOneIsKnown 2 (some .boolean) :: BIG) 1 22 0 0 [.ref (A 0)] L f (fun v L' f' => (∃ sp : Bool, v = some (.int (bI sp)) ∧ (sp = true ↔ ∃ t, t < c ∧ rows t = l)) ∧ L' = L ∧ f' = f) := by
  refine con_of (cc := b_Fa_openOneIsKnown) (mL := 2) (lv := [some (.ref (A 0)), none]) (by decide) (by intro w hw; simp at hw; rcases hw with rfl <;> rfl) (by first | exact Nat.le_of_ble_eq_true rfl | decide) rfl ?_
  intro x hx hr hin
  refine v_iconst (v := (nI 0)) hx d_Fa_openOneIsKnown_0 rfl ?_
  refine v_istore_n (lv' := [some (.ref (A 0)), some (.int (nI 0))]) hx d_Fa_openOneIsKnown_1 rfl (by decide) rfl ?_
  have H2 : ∀ (fu : Nat) (t : Nat), c - t < fu → (t ≤ c) → (∀ j, j < t → rows j ≠ l) → V G { frames := 1, cells := 0, slots := 0, locals := 22 } 2 x L f 0 0 [some (.ref (A 0)), some (.int (nI t))] 2 [] := by
    intro fu
    induction fu with
    | zero => intro t hm; exact absurd hm (Nat.not_lt_zero _)
    | succ fu ih =>
      intro t hm ht hj
      refine v_iload_n hx d_Fa_openOneIsKnown_2 rfl rfl ?_
      refine v_aload_n hx d_Fa_openOneIsKnown_3 rfl rfl ?_
      refine v_get hx cf_Fa 3 (by decide) k_Fa_21 d_Fa_openOneIsKnown_4 hM.m0 hM.f0 rfl ?_
      refine n_icmp_ge (tgt := 26) hx d_Fa_openOneIsKnown_7 (by decide) (by omega) (by omega) (fun c7 => ?_) (fun c7 => ?_)
      · refine v_iconst (v := (nI 0)) hx d_Fa_openOneIsKnown_26 rfl ?_
        exact v_zret hx hr d_Fa_openOneIsKnown_27 rfl ⟨⟨false, rfl, ⟨fun e => (by cases e), fun ⟨j, h1, h2⟩ => absurd h2 (hj j (by omega))⟩⟩, rfl, rfl⟩
      · refine v_aload_n hx d_Fa_openOneIsKnown_10 rfl rfl ?_
        refine v_iload_n hx d_Fa_openOneIsKnown_11 rfl rfl ?_
        refine v_callV (as := [.int (nI t)]) (q := (R_Fa, T_Fa, 4)) hx (c_Fa_openOneIs hM hR hO hc t (by omega) (hRs t (by omega)).1 (hRs t (by omega)).2) cy_Fa_openOneIs k_Fa_67 ki_Fa_openOneIs kl_Fa_openOneIs d_Fa_openOneIsKnown_12 (by decide) (ci := 0) rfl hM.m0 hM.f0 (by decide) rfl rfl (Nat.le_of_ble_eq_true rfl) (fun v1 L f p1 => ?_)
        obtain ⟨rfl, rfl, rfl⟩ := p1
        refine v_if_eq (tgt := 20) hx d_Fa_openOneIsKnown_15 (by decide) (fun c15 => ?_) (fun c15 => ?_)
        · refine n_iinc (lv' := [some (.ref (A 0)), some (.int (nI (t + 1)))]) hx d_Fa_openOneIsKnown_20 rfl (by decide) rfl ?_
          refine v_goto (tgt := 2) hx d_Fa_openOneIsKnown_23 (by decide) ?_
          exact ih (t + 1) (by omega) (by omega) (lt_s hj (of_decide_eq_false ((bI_0 _).mp c15)))
        · refine v_iconst (v := (nI 1)) hx d_Fa_openOneIsKnown_18 rfl ?_
          exact v_zret hx hr d_Fa_openOneIsKnown_19 rfl ⟨⟨true, rfl, ⟨fun _ => ⟨t, c7, of_decide_eq_true (Bool.of_not_eq_false (fun z => c15 ((bI_0 _).mpr z)))⟩, fun _ => rfl⟩⟩, rfl, rfl⟩
  exact H2 _ 0 (Nat.lt_succ_self _) (Nat.zero_le _) (fun _ h => absurd h (Nat.not_lt_zero _))
set_option maxHeartbeats 4000000 in
set_option maxRecDepth 100000 in
theorem c_Fa_putParted {G : GT} {L : List Nat} {f : Nat → va_E} {w : Nat → Nat} {id : Nat} {A : Nat → Nat} {ss sz bo : Nat → Nat} {c : Nat} (hM : FaAt G L f w id A ss sz bo c) {idM : Nat} {B : Nat → Nat} {nx ou lo fi : Nat → Nat} {n k b : Nat} (hMa : MaAt G L f w idM B nx ou lo fi n k b) (hid : idM ≠ id) (hA : okA nx ou n k) (hn12 : n ≤ 12) (hlo : ∀ s, s < n → lo s ≤ s) {l : List Nat} {m : Nat} (hR : rowAt ss sz c l) (hO : fOK l m) (hc : c < 300) (S i : Nat) (hS : S < 4096) (hi : i < k) (hmS : m + pcn S 12 ≤ 12) : Con G y_Fa_putParted (.code y_Fa_putParted b_Fa_putParted 5 none :: BIG) 2 48 0 0 [.ref (A 0), .ref (B 0), .int (nI S), .int (nI i)] L f (fun v L' f' => v = none ∧ L' = L ∧ (∃ ss' sz' bo' : Nat → Nat, FaAt G L f' w id A ss' sz' bo' c ∧ rowAt ss' sz' c (fpart S (fun s => ou (s * 4 + i)) (fun s => lo (nx (s * 4 + i))) n l 10) ∧ (∀ j, j < c * 12 → ss' j = ss j) ∧ (∀ t, t ≠ c → sz' t = sz t)) ∧ gF w id f f') := by
  refine con_of (cc := b_Fa_putParted) (mL := 5) (lv := [some (.ref (A 0)), some (.ref (B 0)), some (.int (nI S)), some (.int (nI i)), none]) (by decide) (by intro w hw; simp at hw; rcases hw with rfl | rfl | rfl | rfl <;> rfl) (by first | exact Nat.le_of_ble_eq_true rfl | decide) rfl ?_
  intro x hx hr hin
  have hF := gF.rf (w := w) (id := id) (f := f)
  have hA_ := hA
  obtain ⟨hn1, hn2, hk1, hk2, hnx⟩ := hA_
  have hg12 : ∀ s, s < n → (fun s => lo (nx (s * 4 + i))) s < 12 := fun s hs => by have h1 := (hnx s i hs hi).1; have := hlo _ h1; show lo (nx (s * 4 + i)) < 12; omega
  have hS2 : S < 2 ^ 12 := by simpa using hS
  refine v_aload_n hx d_Fa_putParted_0 rfl rfl ?_
  refine v_get hx cf_Fa 2 (by decide) k_Fa_18 d_Fa_putParted_1 hM.m0 hM.f0 rfl ?_
  refine v_iconst (v := (nI 0)) hx d_Fa_putParted_4 rfl ?_
  refine v_callS (as := [.ref (A 3), .int (nI 0)]) hx (c_Ar_fill2 hM.m3 hM.f3 (by decide) (nI 0)) cy_Ar_fill2 k_Fa_42 ks_Ar_fill2 d_Fa_putParted_5 (by decide) (by decide) rfl rfl (Nat.le_of_ble_eq_true rfl) (fun v1 L f1 p1 => ?_)
  obtain ⟨rfl, rfl, e5⟩ := p1
  rw [fil_n2] at e5
  have hF := hF.up e5 hM.o3
  have hM := hM.up3 e5
  refine v_iconst (v := (nI 0)) hx d_Fa_putParted_8 rfl ?_
  refine v_istore (lv' := [some (.ref (A 0)), some (.ref (B 0)), some (.int (nI S)), some (.int (nI i)), some (.int (nI 0))]) hx d_Fa_putParted_9 (by decide) rfl ?_
  have H11 : ∀ (fu : Nat) (s : Nat) (f2 : Nat → va_E) (bo1 : Nat → Nat), n - s < fu → (s ≤ n) → (FaAt G L f2 w id A ss sz bo1 c) → (gF w id f f2) → (∀ o, o < 10 → bo1 o = mo S (fun s => ou (s * 4 + i)) (fun s => lo (nx (s * 4 + i))) o s) → V G { frames := 2, cells := 0, slots := 0, locals := 48 } 5 x L f2 0 0 [some (.ref (A 0)), some (.ref (B 0)), some (.int (nI S)), some (.int (nI i)), some (.int (nI s))] 11 [] := by
    intro fu
    induction fu with
    | zero => intro s f2 bo1 hm; exact absurd hm (Nat.not_lt_zero _)
    | succ fu ih =>
      intro s f2 bo1 hm hs hM hF hb
      refine v_iload hx d_Fa_putParted_11 rfl ?_
      refine v_aload_n hx d_Fa_putParted_13 rfl rfl ?_
      refine v_getN hx cf_Ma 4 (by decide) kN_Fa_25 d_Fa_putParted_14 (hMa.fr hF hid).m0 (hMa.fr hF hid).f0 rfl ?_
      refine n_icmp_ge (tgt := 63) hx d_Fa_putParted_17 (by decide) (by omega) (by omega) (fun c17 => ?_) (fun c17 => ?_)
      · refine v_iconst (v := (nI 0)) hx d_Fa_putParted_63 rfl ?_
        refine v_istore (lv' := [some (.ref (A 0)), some (.ref (B 0)), some (.int (nI S)), some (.int (nI i)), some (.int (nI 0))]) hx d_Fa_putParted_64 (by decide) rfl ?_
        have hsn : s = n := by omega
        rw [hsn] at hb
        have H66 : ∀ (fu : Nat) (o : Nat) (f3 : Nat → va_E) (ss1 : Nat → Nat) (sz1 : Nat → Nat), 10 - o < fu → (o ≤ 10) → (FaAt G L f3 w id A ss1 sz1 bo1 c) → (gF w id f f3) → (rowAt ss1 sz1 c (fpart S (fun s => ou (s * 4 + i)) (fun s => lo (nx (s * 4 + i))) n l o)) → (∀ j, j < c * 12 → ss1 j = ss j) → (∀ t, t ≠ c → sz1 t = sz t) → V G { frames := 2, cells := 0, slots := 0, locals := 48 } 5 x L f3 0 0 [some (.ref (A 0)), some (.ref (B 0)), some (.int (nI S)), some (.int (nI i)), some (.int (nI o))] 66 [] := by
          intro fu
          induction fu with
          | zero => intro o f3 ss1 sz1 hm; exact absurd hm (Nat.not_lt_zero _)
          | succ fu ih =>
            intro o f3 ss1 sz1 hm ho hM hF hR1 hj1 ht1
            refine v_iload hx d_Fa_putParted_66 rfl ?_
            refine v_bipush (v := (nI 10)) hx d_Fa_putParted_68 rfl ?_
            refine n_icmp_ge (tgt := 100) hx d_Fa_putParted_70 (by decide) (by omega) (by omega) (fun c70 => ?_) (fun c70 => ?_)
            · exact v_vret hx hr d_Fa_putParted_100 ⟨rfl, rfl, ⟨ss1, sz1, bo1, hM, (by rw [show o = 10 by omega] at hR1; exact hR1), hj1, ht1⟩, hF⟩
            · have hbo := hb o (by omega)
              have hml := mo_lt (S := S) (o := o) (og := (fun s => ou (s * 4 + i))) hg12 n (Nat.le_refl _)
              have hOo := hO.part (S := S) (og := (fun s => ou (s * 4 + i))) hg12 o
              have hms := mosum_le (S := S) (og := (fun s => ou (s * 4 + i))) n hg12 (o + 1)
              have hpm := pcn_mono S hn12
              simp only [mosum] at hms
              refine v_aload_n hx d_Fa_putParted_73 rfl rfl ?_
              refine v_get hx cf_Fa 2 (by decide) k_Fa_18 d_Fa_putParted_74 hM.m0 hM.f0 rfl ?_
              refine v_iload hx d_Fa_putParted_77 rfl ?_
              refine n_iald hx d_Fa_putParted_79 hM.m3 hM.f3 (by omega) (by decide) ?_
              refine n_if_eq (tgt := 94) hx d_Fa_putParted_80 (by decide) (by rw [hbo]; omega) (fun c80 => ?_) (fun c80 => ?_)
              · refine n_iinc (lv' := [some (.ref (A 0)), some (.ref (B 0)), some (.int (nI S)), some (.int (nI i)), some (.int (nI (o + 1)))]) hx d_Fa_putParted_94 rfl (by decide) rfl ?_
                refine v_goto (tgt := 66) hx d_Fa_putParted_97 (by decide) ?_
                exact ih (o + 1) f3 ss1 sz1 (by omega) (by omega) hM hF (by have e : (fpart S (fun s => ou (s * 4 + i)) (fun s => lo (nx (s * 4 + i))) n l (o + 1)) = (fpart S (fun s => ou (s * 4 + i)) (fun s => lo (nx (s * 4 + i))) n l o) := if_pos (by rw [← hbo]; exact c80); rw [e]; exact hR1) hj1 ht1
              · refine v_aload_n hx d_Fa_putParted_83 rfl rfl ?_
                refine v_aload_n hx d_Fa_putParted_84 rfl rfl ?_
                refine v_get hx cf_Fa 2 (by decide) k_Fa_18 d_Fa_putParted_85 hM.m0 hM.f0 rfl ?_
                refine v_iload hx d_Fa_putParted_88 rfl ?_
                refine n_iald hx d_Fa_putParted_90 hM.m3 hM.f3 (by omega) (by decide) ?_
                refine v_callV (as := [.int (nI (bo1 o))]) (q := (R_Fa, T_Fa, 4)) hx (c_Fa_put hM hR1 ⟨hOo.1, Nat.le_trans hOo.2 (by omega)⟩ hc (bo1 o) (by rw [hbo]; simpa using hml) c80 (by rw [hbo]; have := hOo.2; omega)) cy_Fa_put k_Fa_34 ki_Fa_put kl_Fa_put d_Fa_putParted_91 (by decide) (ci := 0) rfl hM.m0 hM.f0 (by decide) rfl rfl (Nat.le_of_ble_eq_true rfl) (fun v2 L f9 p2 => ?_)
                obtain ⟨rfl, rfl, ⟨ss9, sz9, hM9, hR9, hj9, ht9⟩, hF9⟩ := p2
                refine n_iinc (lv' := [some (.ref (A 0)), some (.ref (B 0)), some (.int (nI S)), some (.int (nI i)), some (.int (nI (o + 1)))]) hx d_Fa_putParted_94 rfl (by decide) rfl ?_
                refine v_goto (tgt := 66) hx d_Fa_putParted_97 (by decide) ?_
                exact ih (o + 1) f9 ss9 sz9 (by omega) (by omega) hM9 (hF.tr hF9) (by have e : (fpart S (fun s => ou (s * 4 + i)) (fun s => lo (nx (s * 4 + i))) n l (o + 1)) = fput (fpart S (fun s => ou (s * 4 + i)) (fun s => lo (nx (s * 4 + i))) n l o) (bo1 o) := (by rw [hbo]; exact if_neg (by rw [hbo] at c80; omega)); rw [e]; exact hR9) (fun j hj => (hj9 j hj).trans (hj1 j hj)) (fun t ht => (ht9 t ht).trans (ht1 t ht))
        exact H66 _ 0 f2 ss sz (Nat.lt_succ_self _) (Nat.zero_le _) hM hF hR (fun _ _ => rfl) (fun _ _ => rfl)
      · have hxs := hnx s i (by omega) hi
        have hgs := hg12 s (by omega)
        have hbo := hb (ou (s * 4 + i)) hxs.2
        have hbl := mo_lt (S := S) (o := ou (s * 4 + i)) (og := (fun s => ou (s * 4 + i))) hg12 s (by omega)
        refine v_iload_n hx d_Fa_putParted_20 rfl rfl ?_
        refine v_iload hx d_Fa_putParted_21 rfl ?_
        refine v_ishr (v := (nI (S / 2 ^ s))) hx d_Fa_putParted_23 (bit_shr hS2 (by omega)) ?_
        refine v_iconst (v := (nI 1)) hx d_Fa_putParted_24 rfl ?_
        refine v_iand (v := (nI (S / 2 ^ s % 2))) hx d_Fa_putParted_25 (bit_and1 _ (Nat.lt_of_le_of_lt (Nat.div_le_self _ _) (by omega))) ?_
        refine n_if_eq (tgt := 57) hx d_Fa_putParted_26 (by decide) (by omega) (fun c26 => ?_) (fun c26 => ?_)
        · refine n_iinc (lv' := [some (.ref (A 0)), some (.ref (B 0)), some (.int (nI S)), some (.int (nI i)), some (.int (nI (s + 1)))]) hx d_Fa_putParted_57 rfl (by decide) rfl ?_
          refine v_goto (tgt := 11) hx d_Fa_putParted_60 (by decide) ?_
          exact ih (s + 1) f2 bo1 (by omega) (by omega) hM hF (fun o ho => by rw [hb o ho]; exact (if_neg (fun q => by omega) : mo S (fun s => ou (s * 4 + i)) (fun s => lo (nx (s * 4 + i))) o (s + 1) = _).symm)
        · refine v_aload_n hx d_Fa_putParted_29 rfl rfl ?_
          refine v_get hx cf_Fa 2 (by decide) k_Fa_18 d_Fa_putParted_30 hM.m0 hM.f0 rfl ?_
          refine v_aload_n hx d_Fa_putParted_33 rfl rfl ?_
          refine v_iload hx d_Fa_putParted_34 rfl ?_
          refine v_iload_n hx d_Fa_putParted_36 rfl rfl ?_
          refine v_callV (as := [.int (nI s), .int (nI i)]) (q := (R_Ma, T_Ma, 7)) hx (c_Ma_outputOf (hMa.fr hF hid) s i (by omega) (by omega)) cy_Ma_outputOf k_Fa_48 ki_Ma_outputOf kl_Ma_outputOf d_Fa_putParted_37 (by decide) (ci := 1) rfl (hMa.fr hF hid).m0 (hMa.fr hF hid).f0 (by decide) rfl rfl (Nat.le_of_ble_eq_true rfl) (fun v2 L f2 p2 => ?_)
          obtain ⟨rfl, rfl, rfl⟩ := p2
          refine v_dup2 hx d_Fa_putParted_40 rfl rfl ?_
          refine n_iald hx d_Fa_putParted_41 hM.m3 hM.f3 (by omega) (by decide) ?_
          refine v_iconst (v := (nI 1)) hx d_Fa_putParted_42 rfl ?_
          refine v_aload_n hx d_Fa_putParted_43 rfl rfl ?_
          refine v_aload_n hx d_Fa_putParted_44 rfl rfl ?_
          refine v_iload hx d_Fa_putParted_45 rfl ?_
          refine v_iload_n hx d_Fa_putParted_47 rfl rfl ?_
          refine v_callV (as := [.int (nI s), .int (nI i)]) (q := (R_Ma, T_Ma, 7)) hx (c_Ma_nextOf (hMa.fr hF hid) s i (by omega) (by omega)) cy_Ma_nextOf k_Fa_52 ki_Ma_nextOf kl_Ma_nextOf d_Fa_putParted_48 (by decide) (ci := 1) rfl (hMa.fr hF hid).m0 (hMa.fr hF hid).f0 (by decide) rfl rfl (Nat.le_of_ble_eq_true rfl) (fun v3 L f2 p3 => ?_)
          obtain ⟨rfl, rfl, rfl⟩ := p3
          refine v_callV (as := [.int (nI (nx (s * 4 + i)))]) (q := (R_Ma, T_Ma, 7)) hx (c_Ma_leastLike (hMa.fr hF hid) (nx (s * 4 + i)) (by omega)) cy_Ma_leastLike k_Fa_30 ki_Ma_leastLike kl_Ma_leastLike d_Fa_putParted_51 (by decide) (ci := 1) rfl (hMa.fr hF hid).m0 (hMa.fr hF hid).f0 (by decide) rfl rfl (Nat.le_of_ble_eq_true rfl) (fun v4 L f2 p4 => ?_)
          obtain ⟨rfl, rfl, rfl⟩ := p4
          refine v_ishl hx d_Fa_putParted_54 rfl ?_
          refine v_ior (v := (nI (bo1 (ou (s * 4 + i)) ||| 2 ^ lo (nx (s * 4 + i))))) hx d_Fa_putParted_55 (bit_or (by rw [hbo]; exact hbl) hgs) ?_
          refine nn_iast hx d_Fa_putParted_56 hM.m3 hM.f3 (by omega) (by decide) (fun f5 hf5 => ?_)
          have hF := hF.up hf5 hM.o3
          have hM := hM.up3 hf5
          refine n_iinc (lv' := [some (.ref (A 0)), some (.ref (B 0)), some (.int (nI S)), some (.int (nI i)), some (.int (nI (s + 1)))]) hx d_Fa_putParted_57 rfl (by decide) rfl ?_
          refine v_goto (tgt := 11) hx d_Fa_putParted_60 (by decide) ?_
          refine ih (s + 1) f5 _ (by omega) (by omega) hM hF (fun o ho => ?_)
          by_cases e : o = ou (s * 4 + i)
          · rw [e, va_up_self, hbo]; exact (if_pos ⟨by omega, rfl⟩ : mo S (fun s => ou (s * 4 + i)) (fun s => lo (nx (s * 4 + i))) (ou (s * 4 + i)) (s + 1) = _).symm
          · rw [va_up_ne _ _ e, hb o ho]; exact (if_neg (fun q => e q.2.symm) : mo S (fun s => ou (s * 4 + i)) (fun s => lo (nx (s * 4 + i))) o (s + 1) = _).symm
  exact H11 _ 0 f1 _ (Nat.lt_succ_self _) (Nat.zero_le _) hM hF (fun o ho => if_pos ho)
set_option maxHeartbeats 4000000 in
set_option maxRecDepth 100000 in
theorem c_Fa_follow {G : GT} {L : List Nat} {f : Nat → va_E} {w : Nat → Nat} {id : Nat} {A : Nat → Nat} {ss sz bo : Nat → Nat} {c : Nat} (hM : FaAt G L f w id A ss sz bo c) {idM : Nat} {B : Nat → Nat} {nx ou lo fi : Nat → Nat} {n k b : Nat} (hMa : MaAt G L f w idM B nx ou lo fi n k b) (hid : idM ≠ id) (hA : okA nx ou n k) (hn12 : n ≤ 12) (hlo : ∀ s, s < n → lo s ≤ s) {lf : List Nat} (t i : Nat) (ht : t < c) (hRf : rowAt ss sz t lf) (hOf : fOK lf 12) (hc : c < 300) (hi : i < k) : Con G y_Fa_follow (.code y_Fa_follow b_Fa_follow 5 none :: BIG) 3 72 0 0 [.ref (A 0), .ref (B 0), .int (nI t), .int (nI i)] L f (fun v L' f' => v = none ∧ L' = L ∧ (∃ ss' sz' bo' : Nat → Nat, FaAt G L f' w id A ss' sz' bo' c ∧ rowAt ss' sz' c (ffol (fun s => ou (s * 4 + i)) (fun s => lo (nx (s * 4 + i))) n lf lf.length) ∧ (∀ j, j < c * 12 → ss' j = ss j) ∧ (∀ z, z ≠ c → sz' z = sz z)) ∧ gF w id f f') := by
  refine con_of (cc := b_Fa_follow) (mL := 5) (lv := [some (.ref (A 0)), some (.ref (B 0)), some (.int (nI t)), some (.int (nI i)), none]) (by decide) (by intro w hw; simp at hw; rcases hw with rfl | rfl | rfl | rfl <;> rfl) (by first | exact Nat.le_of_ble_eq_true rfl | decide) rfl ?_
  intro x hx hr hin
  have hF := gF.rf (w := w) (id := id) (f := f)
  have hA_ := hA
  obtain ⟨hn1, hn2, hk1, hk2, hnx⟩ := hA_
  have hll := hOf.len
  have hszf := hRf.1
  have hg12 : ∀ s, s < n → (fun s => lo (nx (s * 4 + i))) s < 12 := fun s hs => by have h1 := (hnx s i hs hi).1; have := hlo _ h1; show lo (nx (s * 4 + i)) < 12; omega
  refine v_aload_n hx d_Fa_follow_0 rfl rfl ?_
  refine v_get hx cf_Fa 1 (by decide) k_Fa_15 d_Fa_follow_1 hM.m0 hM.f0 rfl ?_
  refine v_aload_n hx d_Fa_follow_4 rfl rfl ?_
  refine v_get hx cf_Fa 3 (by decide) k_Fa_21 d_Fa_follow_5 hM.m0 hM.f0 rfl ?_
  refine v_iconst (v := (nI 0)) hx d_Fa_follow_8 rfl ?_
  refine nn_iast hx d_Fa_follow_9 hM.m2 hM.f2 (by omega) (by decide) (fun f1 hf1 => ?_)
  have hF := hF.up hf1 hM.o2
  have hM := hM.up2 hf1
  refine v_iconst (v := (nI 0)) hx d_Fa_follow_10 rfl ?_
  refine v_istore (lv' := [some (.ref (A 0)), some (.ref (B 0)), some (.int (nI t)), some (.int (nI i)), some (.int (nI 0))]) hx d_Fa_follow_11 (by decide) rfl ?_
  have H13 : ∀ (fu : Nat) (q : Nat) (f2 : Nat → va_E) (ss1 : Nat → Nat) (sz1 : Nat → Nat) (bo1 : Nat → Nat), lf.length - q < fu → (q ≤ lf.length) → (FaAt G L f2 w id A ss1 sz1 bo1 c) → (gF w id f f2) → (rowAt ss1 sz1 c (ffol (fun s => ou (s * 4 + i)) (fun s => lo (nx (s * 4 + i))) n lf q)) → (∀ j, j < c * 12 → ss1 j = ss j) → (∀ z, z ≠ c → sz1 z = sz z) → V G { frames := 3, cells := 0, slots := 0, locals := 72 } 5 x L f2 0 0 [some (.ref (A 0)), some (.ref (B 0)), some (.int (nI t)), some (.int (nI i)), some (.int (nI q))] 13 [] := by
    intro fu
    induction fu with
    | zero => intro q f2 ss1 sz1 bo1 hm; exact absurd hm (Nat.not_lt_zero _)
    | succ fu ih =>
      intro q f2 ss1 sz1 bo1 hm hq hM hF hR1 hj1 ht1
      have hst : sz1 t = lf.length := (ht1 t (by omega)).trans hszf
      refine v_iload hx d_Fa_follow_13 rfl ?_
      refine v_aload_n hx d_Fa_follow_15 rfl rfl ?_
      refine v_get hx cf_Fa 1 (by decide) k_Fa_15 d_Fa_follow_16 hM.m0 hM.f0 rfl ?_
      refine v_iload_n hx d_Fa_follow_19 rfl rfl ?_
      refine n_iald hx d_Fa_follow_20 hM.m2 hM.f2 (by omega) (by decide) ?_
      refine n_icmp_ge (tgt := 48) hx d_Fa_follow_21 (by decide) (by omega) (by omega) (fun c21 => ?_) (fun c21 => ?_)
      · exact v_vret hx hr d_Fa_follow_48 ⟨rfl, rfl, ⟨ss1, sz1, bo1, hM, (by rw [show q = lf.length by omega] at hR1; exact hR1), hj1, ht1⟩, hF⟩
      · have hgs : ss1 (t * 12 + q) = lf.getD q 0 := (hj1 _ (by omega)).trans (hRf.get (by omega))
        have hm4 := hOf.1 _ (getD_mem (l := lf) (i := q) (by omega))
        have hoq := ffol_ok (og := (fun s => ou (s * 4 + i))) (l := lf) hg12 hn12 q (by omega)
        have hs1 := fsum_take (l := lf) (i := q) (by omega)
        have hs2 := fsum_take_le lf (q + 1)
        have hs3 := hOf.2
        refine v_aload_n hx d_Fa_follow_24 rfl rfl ?_
        refine v_aload_n hx d_Fa_follow_25 rfl rfl ?_
        refine v_aload_n hx d_Fa_follow_26 rfl rfl ?_
        refine v_get hx cf_Fa 0 (by decide) k_Fa_9 d_Fa_follow_27 hM.m0 hM.f0 rfl ?_
        refine v_iload_n hx d_Fa_follow_30 rfl rfl ?_
        refine v_bipush (v := (nI 12)) hx d_Fa_follow_31 rfl ?_
        refine n_imul hx d_Fa_follow_33 ?_
        refine v_iload hx d_Fa_follow_34 rfl ?_
        refine n_iadd hx d_Fa_follow_36 ?_
        refine n_iald hx d_Fa_follow_37 hM.m1 hM.f1 (by omega) (by decide) ?_
        refine v_iload_n hx d_Fa_follow_38 rfl rfl ?_
        refine v_callV (as := [.ref (B 0), .int (nI (ss1 ((t * 12) + q))), .int (nI i)]) (q := (R_Fa, T_Fa, 4)) hx (c_Fa_putParted hM (hMa.fr hF hid) hid hA hn12 hlo hR1 hoq hc (ss1 (t * 12 + q)) i (by rw [hgs]; exact hm4.2) hi (by rw [hgs]; omega)) cy_Fa_putParted k_Fa_38 ki_Fa_putParted kl_Fa_putParted d_Fa_follow_39 (by decide) (ci := 0) rfl hM.m0 hM.f0 (by decide) rfl rfl (Nat.le_of_ble_eq_true rfl) (fun v2 L f9 p2 => ?_)
        obtain ⟨rfl, rfl, ⟨ss9, sz9, bo9, hM9, hR9, hj9, ht9⟩, hF9⟩ := p2
        refine n_iinc (lv' := [some (.ref (A 0)), some (.ref (B 0)), some (.int (nI t)), some (.int (nI i)), some (.int (nI (q + 1)))]) hx d_Fa_follow_42 rfl (by decide) rfl ?_
        refine v_goto (tgt := 13) hx d_Fa_follow_45 (by decide) ?_
        exact ih (q + 1) f9 ss9 sz9 bo9 (by omega) (by omega) hM9 (hF.tr hF9) (by rw [hgs] at hR9; exact hR9) (fun j hj => (hj9 j hj).trans (hj1 j hj)) (fun z hz => (ht9 z hz).trans (ht1 z hz))
  exact H13 _ 0 f1 ss _ bo (Nat.lt_succ_self _) (Nat.zero_le _) hM hF ⟨va_up_self _ _ _, fun _ h => absurd h (Nat.not_lt_zero _)⟩ (fun _ _ => rfl) (fun z hz => va_up_ne _ _ hz)
