set_option maxHeartbeats 4000000 in
set_option maxRecDepth 100000 in
/-- a machine more -/
theorem c_MT_add {G : GT} {L : List Nat} {f : Nat → va_E} {w : Nat → Nat} {A S Fm : Nat → Nat} {c wa : Nat} {mp : Nat → Option Nat} {M nx ou lo fi : Nat → Nat → Nat} {n k b : Nat → Nat} {nm : Nat → Option Nat} {pl st : Nat → Nat} {sc : Nat} {ss sz bo : Nat → Nat} {fc wl : Nat} {wd : Nat → Nat} (hC : SysC G L f w A S Fm c wa mp M nx ou lo fi n k b nm pl st sc ss sz bo fc wl wd) (hc : c < 12) (n' k' : Nat) (hn : 1 ≤ n' ∧ n' ≤ 40) (hk : 1 ≤ k' ∧ k' ≤ 4) : Con G y_MT_add (.code y_MT_add b_MT_add 4 (some (.object "MachineTables$Machine")) :: BIG) 2 48 5 407 [.ref (A 0), .int (nI n'), .int (nI k')] L f (fun v L' f' => ∃ (B w' : Nat → Nat) (mp' : Nat → Option Nat) (nx2 ou2 lo2 fi2 : Nat → Nat), v = some (.ref (B 0)) ∧ (∀ p, p ∈ L → p ∈ L') ∧ (∀ p, p ∈ L → w' p = w p) ∧ (mp' c = some (B 0) ∧ ∀ j, j ≠ c → mp' j = mp j) ∧ TbAt G L' f' w' 0 A (S 0) (Fm 0) (c + 1) wa mp' ∧ MaAt G L' f' w' (10 + c) B nx2 ou2 lo2 fi2 n' k' 0 ∧ (∀ s i, s < n' → i < k' → nx2 (s * 4 + i) = s ∧ ou2 (s * 4 + i) = 0) ∧ ∀ p, p ∈ L → w p ≠ 0 → w p ≠ 10 + c → f' p = f p) := by
  refine con_of (cc := b_MT_add) (mL := 4) (lv := [some (.ref (A 0)), some (.int (nI n')), some (.int (nI k')), none]) (by decide) (by intro w hw; simp at hw; rcases hw with rfl | rfl | rfl <;> rfl) (by first | exact Nat.le_of_ble_eq_true rfl | decide) rfl ?_
  intro x hx hr hin
  have hT0 := hC.1
  have H32 : ∀ (L5 : List Nat) (f5 : Nat → va_E) (w5 : Nat → Nat) (mp5 : Nat → Option Nat) (B nx5 ou5 lo5 fi5 : Nat → Nat) (n5 k5 b5 : Nat), (∀ p, p ∈ L → p ∈ L5) → (∀ p, p ∈ L → w5 p = w p) → (mp5 c = some (B 0) ∧ ∀ j, j ≠ c → mp5 j = mp j) → (TbAt G L5 f5 w5 0 A (S 0) (Fm 0) c wa mp5) → (MaAt G L5 f5 w5 (10 + c) B nx5 ou5 lo5 fi5 n5 k5 b5) → (∀ p, p ∈ L → w p ≠ 0 → w p ≠ 10 + c → f5 p = f p) → V G { frames := 2, cells := 5, slots := 407, locals := 48 } 4 x L5 f5 5 407 [some (.ref (A 0)), some (.int (nI n')), some (.int (nI k')), some (.ref (B 0))] 32 [] := by
    intro L5 f5 w5 mp5 B nx5 ou5 lo5 fi5 n5 k5 b5 hL5 hw5 hmp5 hT5 hMa5 hfr5
    refine v_aload_n hx d_MT_add_32 rfl rfl ?_
    refine v_iload_n hx d_MT_add_33 rfl rfl ?_
    refine v_iload_n hx d_MT_add_34 rfl rfl ?_
    refine v_callV (as := [.int (nI n'), .int (nI k')]) (q := (R_Ma, T_Ma, 7)) hx (c_Ma_begin hMa5 n' k' hn hk) cy_Ma_begin k_MT_148 ki_Ma_begin kl_Ma_begin d_MT_add_35 (by decide) (ci := 1) rfl hMa5.m0 hMa5.f0 (by decide) rfl rfl (Nat.le_of_ble_eq_true rfl) (fun v1 L5 f6 p1 => ?_)
    obtain ⟨rfl, rfl, nx6, ou6, hMa6, hF6, har⟩ := p1
    have hT6 := hT5.fr hF6 (by omega)
    refine v_aload_n hx d_MT_add_38 rfl rfl ?_
    refine v_dup hx d_MT_add_39 rfl ?_
    refine v_get hx cf_MT 3 (by decide) k_MT_29 d_MT_add_40 hT6.m0 hT6.f0 rfl ?_
    refine v_iconst (v := (nI 1)) hx d_MT_add_43 rfl ?_
    refine n_iadd hx d_MT_add_44 ?_
    refine v_put hx cf_MT 3 (by decide) k_MT_29 rfl rfl rfl d_MT_add_45 hT6.m0 hT6.f0 (Nat.le_of_ble_eq_true rfl) (fun f2 hf2 => ?_)
    have hT7 := hT6.up0 hf2
    have hMa7 := hMa6.fr (gF.up (gF.rf (w := w5) (id := 0)) hf2 hT6.o0) (by omega)
    refine v_aload_n hx d_MT_add_48 rfl rfl ?_
    exact v_aret hx hr (Or.inl ⟨_, rfl⟩) (Or.inr ⟨_, rfl⟩) d_MT_add_49 ⟨B, w5, mp5, nx6, ou6, lo5, fi5, rfl, hL5, hw5, hmp5, hT7, hMa7, har, fun p h1 h2 h3 => by rw [hf2, va_up_ne _ _ (show p ≠ A 0 from fun z => h2 (by rw [z]; exact hT0.o0)), hF6 p (by rw [hw5 p h1]; exact h3)]; exact hfr5 p h1 h2 h3⟩
  rcases hC.2.2.2.2.2.1 c hc with ⟨hnone, -⟩ | ⟨hsome, hMc⟩
  · refine v_aload_n hx d_MT_add_0 rfl rfl ?_
    refine v_get hx cf_MT 0 (by decide) k_MT_11 d_MT_add_1 hT0.m0 hT0.f0 rfl ?_
    refine v_aload_n hx d_MT_add_4 rfl rfl ?_
    refine v_get hx cf_MT 3 (by decide) k_MT_29 d_MT_add_5 hT0.m0 hT0.f0 rfl ?_
    refine n_aaldN hx d_MT_add_8 hT0.m1 hT0.f1 (by omega) (by decide) hnone ?_
    refine v_astore_nN (lv' := [some (.ref (A 0)), some (.int (nI n')), some (.int (nI k')), some (.null)]) hx d_MT_add_9 rfl (by decide) rfl ?_
    refine v_aload_nN hx d_MT_add_10 rfl rfl ?_
    refine v_ifnonnullN hx d_MT_add_11 ?_
    refine m_new (fs := [.null, .null, .null, .null, .int 0, .int 0, .int 0]) hx cf_Ma (fun j hj => by rcases (show j = 0 ∨ j = 1 ∨ j = 2 ∨ j = 3 ∨ j = 4 ∨ j = 5 ∨ j = 6 by omega) with rfl | rfl | rfl | rfl | rfl | rfl | rfl <;> rfl) k_MT_9 kt_Ma kz_Ma d_MT_add_14 (by decide) (by decide) (fun q g1 hq eq1 => ?_)
    refine v_dup hx d_MT_add_17 rfl ?_
    refine v_callI (as := []) hx (c_Ma_init (w := va_up w q (10 + c)) (id := 10 + c) (o := q) (List.mem_append_right _ List.mem_cons_self) (va_up_self _ _ _) ((congrFun eq1 q).trans (va_up_self _ _ _))) cy_Ma_init k_MT_147 ki_Ma_init rfl d_MT_add_18 (by decide) (by decide) rfl rfl (Nat.le_of_ble_eq_true rfl) (fun v1 L2 f2 p1 => ?_)
    obtain ⟨rfl, B, w2, hB0, hL2, hw2, -, hMa, hfr⟩ := p1
    subst hB0
    have hL2_ : ∀ p, p ∈ L → p ∈ L2 := fun p h => hL2 p (List.mem_append_left _ h)
    have hne : ∀ p, p ∈ L → p ≠ B 0 := fun p h z => hq (z ▸ h)
    have hw2_ : ∀ p, p ∈ L → w2 p = w p := fun p h => (hw2 p (List.mem_append_left _ h)).trans (va_up_ne _ _ (hne p h))
    have hf2_ : ∀ p, p ∈ L → f2 p = f p := fun p h => (hfr p (List.mem_append_left _ h) (hne p h)).trans (by rw [eq1, va_up_ne _ _ (hne p h)])
    have hT2 := hT0.move hL2_ hw2_ (fun p h _ => hf2_ p h)
    refine v_astore_n (lv' := [some (.ref (A 0)), some (.int (nI n')), some (.int (nI k')), some (.ref (B 0))]) hx d_MT_add_21 rfl (by decide) rfl ?_
    refine v_aload_n hx d_MT_add_22 rfl rfl ?_
    refine v_get hx cf_MT 0 (by decide) k_MT_11 d_MT_add_23 hT2.m0 hT2.f0 rfl ?_
    refine v_aload_n hx d_MT_add_26 rfl rfl ?_
    refine v_get hx cf_MT 3 (by decide) k_MT_29 d_MT_add_27 hT2.m0 hT2.f0 rfl ?_
    refine v_aload_n hx d_MT_add_30 rfl rfl ?_
    refine n_aast hx d_MT_add_31 hT2.m1 hT2.f1 (by omega) (by decide) hMa.m0 hMa.f0 (fun f2 hf2 => ?_)
    have hT3 := hT2.up1 hf2
    have hMa3 := hMa.fr (gF.up (gF.rf (w := w2) (id := 0)) hf2 hT2.o1) (by omega)
    exact H32 L2 f2 w2 _ B _ _ _ _ _ _ _ hL2_ hw2_ ⟨va_up_self _ _ _, fun j hj => va_up_ne _ _ hj⟩ hT3 hMa3 (fun p h1 h2 h3 => by rw [hf2, va_up_ne _ _ (show p ≠ A 1 from fun z => h2 (by rw [z]; exact hT0.o1))]; exact hf2_ p h1)
  · refine v_aload_n hx d_MT_add_0 rfl rfl ?_
    refine v_get hx cf_MT 0 (by decide) k_MT_11 d_MT_add_1 hT0.m0 hT0.f0 rfl ?_
    refine v_aload_n hx d_MT_add_4 rfl rfl ?_
    refine v_get hx cf_MT 3 (by decide) k_MT_29 d_MT_add_5 hT0.m0 hT0.f0 rfl ?_
    refine n_aaldS hx d_MT_add_8 hT0.m1 hT0.f1 (by omega) (by decide) hsome ?_
    refine v_astore_n (lv' := [some (.ref (A 0)), some (.int (nI n')), some (.int (nI k')), some (.ref (M c 0))]) hx d_MT_add_9 rfl (by decide) rfl ?_
    refine v_aload_n hx d_MT_add_10 rfl rfl ?_
    refine v_ifnonnull (tgt := 32) hx d_MT_add_11 (by decide) ?_
    refine v_widen (k' := 5) (n' := 407) (by omega) (by omega) ?_
    exact H32 L f w mp (M c) _ _ _ _ _ _ _ (fun _ h => h) (fun _ _ => rfl) ⟨hsome, fun _ _ => rfl⟩ hT0 hMc (fun _ _ _ _ => rfl)
