/-! ===== the law's entry ===== -/
theorem SysS.all {G : GT} {L L' : List Nat} {f f' : Nat → va_E} {w w' A : Nat → Nat} {σ : SG} (h : SysS G L f w A σ) (hL : ∀ q, q ∈ L → q ∈ L') (hw : ∀ q, q ∈ L → w' q = w q) (hf : ∀ q, q ∈ L → f' q = f q) : SysS G L' f' w' A σ := by
  obtain ⟨S, Fm, wa, mp, M, lo, fi, b, nm, pl, st, sc, ss, sz, bo, fc, hC⟩ := h
  obtain ⟨h1, h2, h3, ⟨h4, h5, h6⟩, h7, h8, h9⟩ := hC
  refine ⟨S, Fm, wa, mp, M, lo, fi, b, nm, pl, st, sc, ss, sz, bo, fc, h1.move hL hw (fun q a _ => hf q a), h2.move hL hw (fun q a _ => hf q a), h3.move hL hw (fun q a _ => hf q a), ⟨hL _ h4, (hw _ h4).trans h5, (hf _ h4).trans h6⟩, h7, fun j hj => ?_, h9⟩
  rcases h8 j hj with q | ⟨q1, q2⟩
  · exact Or.inl q
  · exact Or.inr ⟨q1, q2.move hL hw (fun q a _ => hf q a)⟩
theorem MoS.all {G : GT} {L L' : List Nat} {f f' : Nat → va_E} {w w' A : Nat → Nat} {th : Nat} {σ : SG} (h : MoS G L f w A th σ) (hL : ∀ q, q ∈ L → q ∈ L') (hw : ∀ q, q ∈ L → w' q = w q) (hf : ∀ q, q ∈ L → f' q = f q) : MoS G L' f' w' A th σ := by
  obtain ⟨h1, nx, ou, ap, fo, se, fr, by_, is, tr, my, ss, tf, tb, h2, h3, h4⟩ := h
  exact ⟨h1, nx, ou, ap, fo, se, fr, by_, is, tr, my, ss, tf, tb, h2.move hL hw (fun q a _ => hf q a), h3, h4⟩
set_option maxHeartbeats 4000000 in
set_option maxRecDepth 100000 in
theorem la_entry {G : GT} {x : XT} (hx : KX G 7 x b_La_law "MachineTablesLaw") (hTX : TXb G x.2.2.1) (hoff : G.1.stackTraces = false) {b Ln : Nat} {xs : Nat → Int32} (hX : va_X b Ln xs x.2.2.1 x.2.2.1.heap) (hbG : b < G.2.2.2) (hLn0 : Ln ≤ 3072) (fin : ∀ (L : List Nat) (f : Nat → va_E) (k n : Nat) (lv : List (Option Value)), k ≤ 601024 → n ≤ 7293034 → V G room_1 7 x L f k n lv 794 []) : V G room_1 7 x [] (fun _ => .inr (0, [])) 0 0 [some (.ref b), none, none, none, none, none, none] 0 [] := by
  refine m_new (fs := [.null, .null, .null, .int 0, .null]) hx cf_MT (fun j hj => by rcases (show j = 0 ∨ j = 1 ∨ j = 2 ∨ j = 3 ∨ j = 4 by omega) with rfl | rfl | rfl | rfl | rfl <;> rfl) k_La_8 kt_MT kz_MT d_La_law_0 (by decide) (by decide) (fun q1 f1 hq1 e1 => ?_)
  refine v_dup hx d_La_law_3 rfl ?_
  refine v_callI (as := []) hx (c_MT_init (w := fun _ => 0) (o := q1) (List.mem_append_right _ List.mem_cons_self) rfl ((congrFun e1 q1).trans (va_up_self _ _ _))) cy_MT_init k_La_30 ki_MT_init rfl d_La_law_4 (by decide) (by decide) rfl rfl (Nat.le_of_ble_eq_true rfl) (fun v2 L2 f2 p2 => ?_)
  obtain ⟨rfl, A, w2, hA0, hL2, hw2, hS, hf2⟩ := p2
  subst hA0
  refine v_astore_n (lv' := [some (.ref b), some (.ref (A 0)), none, none, none, none, none]) hx d_La_law_7 rfl (by decide) rfl ?_
  refine m_new (fs := [.int 0, .int 0, .null, .null, .null, .null, .int 0, .null, .null, .int 0, .null, .null, .null, .null, .int 0, .null, .null, .null, .null]) hx cf_Mo (by decide) k_La_31 kt_Mo kz_Mo d_La_law_8 (by decide) (by decide) (fun q3 f3 hq3 e3 => ?_)
  refine v_dup hx d_La_law_11 rfl ?_
  refine v_callI (as := []) hx (c_Mo_init (w := va_up w2 q3 100) (o := q3) (List.mem_append_right _ List.mem_cons_self) (va_up_self _ _ _) ((congrFun e3 q3).trans (va_up_self _ _ _))) cy_Mo_init k_La_33 ki_Mo_init rfl d_La_law_12 (by decide) (by decide) rfl rfl (Nat.le_of_ble_eq_true rfl) (fun v4 L4 f4 p4 => ?_)
  obtain ⟨rfl, B, w4, hB0, hL4, hw4, hM, hf4⟩ := p4
  subst hB0
  refine v_astore_n (lv' := [some (.ref b), some (.ref (A 0)), some (.ref (B 0)), none, none, none, none]) hx d_La_law_15 rfl (by decide) rfl ?_
  refine v_iconst (v := nI 1) hx d_La_law_16 rfl ?_
  refine m_newl hx d_La_law_17 (by decide) (by decide) (fun oa f5 hoa e5 => ?_)
  refine v_astore_n (lv' := [some (.ref b), some (.ref (A 0)), some (.ref (B 0)), some (.ref oa), none, none, none]) hx d_La_law_19 rfl (by decide) rfl ?_
  refine v_iconst (v := nI 0) hx d_La_law_20 rfl ?_
  refine v_istore (lv' := [some (.ref b), some (.ref (A 0)), some (.ref (B 0)), some (.ref oa), some (.int (nI 0)), none, none]) hx d_La_law_21 (by decide) rfl ?_
  have n3 : ∀ q, q ∈ L2 → q ≠ B 0 := fun q h z => hq3 (z ▸ h)
  have n5 : ∀ q, q ∈ L4 → q ≠ oa := fun q h z => hoa (z ▸ h)
  have l4 : ∀ q, q ∈ L2 → q ∈ L4 := fun q h => hL4 q (List.mem_append_left _ h)
  have hI : LI G (L4 ++ [oa]) f5 (va_up w4 oa 101) A B oa (0, fun _ => 0, fun _ => 0, fun _ _ => 0, fun _ _ => 0, 0, fun _ => 0) (pic 0 (fun _ => 0) (fun _ => 0) (fun _ => 0) (fun _ => 0) 0 (fun _ => 0)) := by
    refine ⟨hS.all (fun q h => List.mem_append_left _ (l4 q h)) (fun q h => ?_) (fun q h => ?_), ⟨0, hM.all (fun q h => List.mem_append_left _ h) (fun q h => va_up_ne _ _ (n5 q h)) (fun q h => (congrFun e5 q).trans (va_up_ne _ _ (n5 q h)))⟩, ⟨⟨rfl, fun j hj => absurd hj (Nat.not_lt_zero _)⟩, ⟨rfl, fun j hj => absurd hj (Nat.not_lt_zero _)⟩⟩, List.mem_append_right _ List.mem_cons_self, va_up_self _ _ _, _, (congrFun e5 oa).trans (va_up_self _ _ _)⟩
    · exact (va_up_ne _ _ (n5 q (l4 q h))).trans ((hw4 q (List.mem_append_left _ h)).trans (va_up_ne _ _ (n3 q h)))
    · exact (congrFun e5 q).trans ((va_up_ne _ _ (n5 q (l4 q h))).trans ((hf4 q (List.mem_append_left _ h) (n3 q h)).trans ((congrFun e3 q).trans (va_up_ne _ _ (n3 q h)))))
  exact la_loop hx hTX hoff hX hbG hLn0 fin (Ln + 7) 0 _ _ _ _ _ (by omega) (by omega) hI
