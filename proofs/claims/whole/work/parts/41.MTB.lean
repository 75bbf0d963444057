set_option maxHeartbeats 4000000 in
set_option maxRecDepth 100000 in
/-- new tables -/
theorem c_MT_init {G : GT} {L : List Nat} {f : Nat → va_E} {w : Nat → Nat} {o : Nat} (ho : o ∈ L) (hw : w o = 0) (hf : f o = .inr (3, [.null, .null, .null, .int 0, .null])) : Con G y_MT_init (.code y_MT_init b_MT_init 1 none :: BIG) 2 32 10 16218 [.ref o] L f (fun v L' f' => v = none ∧ ∃ (A w' : Nat → Nat), A 0 = o ∧ (∀ q, q ∈ L → q ∈ L') ∧ (∀ q, q ∈ L → w' q = w q) ∧ SysS G L' f' w' A (0, fun _ => 0, fun _ => 0, fun _ _ => 0, fun _ _ => 0, 0, fun _ => 0) ∧ ∀ q, q ∈ L → q ≠ o → f' q = f q) := by
  refine con_of (cc := b_MT_init) (mL := 1) (lv := [some (.ref o)]) (by decide) (by intro w hw; simp at hw; rcases hw with rfl <;> rfl) (by first | exact Nat.le_of_ble_eq_true rfl | decide) rfl ?_
  intro x hx hr hin
  refine v_aload_n hx d_MT_init_0 rfl rfl ?_
  refine v_objInit hx k_MT_3 ki_Ob_init kc_Ob_init d_MT_init_1 (by decide) ?_
  refine v_aload_n hx d_MT_init_4 rfl rfl ?_
  refine v_bipush (v := (nI 12)) hx d_MT_init_5 rfl ?_
  refine m_anew hx k_MT_9 d_MT_init_7 (by decide) (by decide) (by decide) (fun q1 g1 hq1 e1 => ?_)
  have m1 := List.mem_append_left [q1] ho
  have z1 : o ≠ q1 := fun z => hq1 (z ▸ ho)
  have p1 := (congrFun e1 o).trans ((va_up_ne _ _ z1).trans hf)
  refine v_putF hx cf_MT 0 (by decide) k_MT_11 rfl hin rfl rfl rfl d_MT_init_10 m1 p1 (Nat.le_of_ble_eq_true rfl) (fun k1 hk1 => ?_)
  refine v_aload_n hx d_MT_init_13 rfl rfl ?_
  refine m_new (fs := [.null, .null, .null, .int 0]) hx cf_Se (fun j hj => by rcases (show j = 0 ∨ j = 1 ∨ j = 2 ∨ j = 3 by omega) with rfl | rfl | rfl | rfl <;> rfl) k_MT_15 kt_Se kz_Se d_MT_init_14 (by decide) (by decide) (fun q2 g2 hq2 e2 => ?_)
  refine v_dup hx d_MT_init_17 rfl ?_
  have z2 : o ≠ q2 := fun z => hq2 (z ▸ m1)
  have z12 : q1 ≠ q2 := fun z => hq2 (z ▸ List.mem_append_right _ List.mem_cons_self)
  refine v_callI (as := []) hx (c_Se_init (w := va_up (va_up w q1 0) q2 1) (id := 1) (o := q2) (List.mem_append_right _ List.mem_cons_self) (va_up_self _ _ _) ((congrFun e2 q2).trans (va_up_self _ _ _))) cy_Se_init k_MT_17 ki_Se_init rfl d_MT_init_18 (by decide) (by decide) rfl rfl (Nat.le_of_ble_eq_true rfl) (fun v3 L3 f3 p3 => ?_)
  obtain ⟨rfl, S, w3, hS0, hL3, hw3, hw3n, hSe, hf3⟩ := p3
  subst hS0
  have m3 : o ∈ L3 := hL3 o (List.mem_append_left _ m1)
  have i1 : q1 ∈ L3 := hL3 q1 (List.mem_append_left _ (List.mem_append_right _ List.mem_cons_self))
  have p3 : f3 o = .inr (3, [.ref q1, .null, .null, .int 0, .null]) := (hf3 o (List.mem_append_left _ m1) z2).trans ((congrFun e2 o).trans ((va_up_ne _ _ z2).trans ((congrFun hk1 o).trans (va_up_self _ _ _))))
  refine v_putF hx cf_MT 1 (by decide) k_MT_18 rfl hin rfl rfl rfl d_MT_init_21 m3 p3 (Nat.le_of_ble_eq_true rfl) (fun k3 hk3 => ?_)
  refine v_aload_n hx d_MT_init_24 rfl rfl ?_
  refine m_new (fs := [.null, .null, .null, .int 0]) hx cf_Fa (fun j hj => by rcases (show j = 0 ∨ j = 1 ∨ j = 2 ∨ j = 3 by omega) with rfl | rfl | rfl | rfl <;> rfl) k_MT_22 kt_Fa kz_Fa d_MT_init_25 (by decide) (by decide) (fun q3 g4 hq3 e4 => ?_)
  refine v_dup hx d_MT_init_28 rfl ?_
  have z3 : o ≠ q3 := fun z => hq3 (z ▸ m3)
  have z13 : q1 ≠ q3 := fun z => hq3 (z ▸ i1)
  refine v_callI (as := []) hx (c_Fa_init (w := va_up w3 q3 2) (id := 2) (o := q3) (List.mem_append_right _ List.mem_cons_self) (va_up_self _ _ _) ((congrFun e4 q3).trans (va_up_self _ _ _))) cy_Fa_init k_MT_24 ki_Fa_init rfl d_MT_init_29 (by decide) (by decide) rfl rfl (Nat.le_of_ble_eq_true rfl) (fun v5 L5 f5 p5 => ?_)
  obtain ⟨rfl, Fm, w5, hF0, hL5, hw5, hw5n, hFa, hf5⟩ := p5
  subst hF0
  have m5 : o ∈ L5 := hL5 o (List.mem_append_left _ m3)
  have i5 : q1 ∈ L5 := hL5 q1 (List.mem_append_left _ i1)
  have p5 : f5 o = .inr (3, [.ref q1, .ref (S 0), .null, .int 0, .null]) := (hf5 o (List.mem_append_left _ m3) z3).trans ((congrFun e4 o).trans ((va_up_ne _ _ z3).trans ((congrFun hk3 o).trans (va_up_self _ _ _))))
  refine v_putF hx cf_MT 2 (by decide) k_MT_25 rfl hin rfl rfl rfl d_MT_init_32 m5 p5 (Nat.le_of_ble_eq_true rfl) (fun k5 hk5 => ?_)
  have p5b := (congrFun hk5 o).trans (va_up_self _ _ _)
  refine v_aload_n hx d_MT_init_35 rfl rfl ?_
  refine v_iconst (v := (nI 0)) hx d_MT_init_36 rfl ?_
  refine v_put hx cf_MT 3 (by decide) k_MT_29 rfl rfl rfl d_MT_init_37 m5 p5b (Nat.le_of_ble_eq_true rfl) (fun k6 hk6 => ?_)
  have p6 := (congrFun hk6 o).trans (va_up_self _ _ _)
  refine v_aload_n hx d_MT_init_40 rfl rfl ?_
  refine v_iconst (v := (nI 0)) hx d_MT_init_41 rfl ?_
  refine m_newa hx d_MT_init_42 (by decide) (by decide) (by decide) (fun q4 g7 hq4 e7 => ?_)
  have m7 := List.mem_append_left [q4] m5
  have z4 : o ≠ q4 := fun z => hq4 (z ▸ m5)
  have p7 := (congrFun e7 o).trans ((va_up_ne _ _ z4).trans p6)
  refine v_put hx cf_MT 4 (by decide) k_MT_33 rfl rfl rfl d_MT_init_44 m7 p7 (Nat.le_of_ble_eq_true rfl) (fun k8 hk8 => ?_)
  have p8 := (congrFun hk8 o).trans (va_up_self _ _ _)
  have t8 : ∀ q, q ≠ o → q ≠ q4 → k8 q = f5 q := fun q h1 h2 => by rw [hk8, va_up_ne _ _ h1, e7, va_up_ne _ _ h2, hk6, va_up_ne _ _ h1, hk5, va_up_ne _ _ h1]
  have t5 : ∀ q, q ∈ L3 → q ≠ o → f5 q = f3 q := fun q h h1 => by rw [hf5 q (List.mem_append_left _ h) (show q ≠ Fm 0 from fun z => hq3 (z ▸ h)), e4, va_up_ne _ _ (show q ≠ Fm 0 from fun z => hq3 (z ▸ h)), hk3, va_up_ne _ _ h1]
  have t3 : ∀ q, q ∈ L ++ [q1] → q ≠ o → f3 q = g1 q := fun q h h1 => by rw [hf3 q (List.mem_append_left _ h) (show q ≠ S 0 from fun z => hq2 (z ▸ h)), e2, va_up_ne _ _ (show q ≠ S 0 from fun z => hq2 (z ▸ h)), hk1, va_up_ne _ _ h1]
  have n4 : ∀ q, q ∈ L5 → q ≠ q4 := fun q h z => hq4 (z ▸ h)
  have l53 : ∀ q, q ∈ L3 → q ∈ L5 := fun q h => hL5 q (List.mem_append_left _ h)
  have l31 : ∀ q, q ∈ L ++ [q1] → q ∈ L3 := fun q h => hL3 q (List.mem_append_left _ h)
  have w53 : ∀ q, q ∈ L3 → w5 q = w3 q := fun q h => (hw5 q (List.mem_append_left _ h)).trans (va_up_ne _ _ (show q ≠ Fm 0 from fun z => hq3 (z ▸ h)))
  have w31 : ∀ q, q ∈ L ++ [q1] → w3 q = va_up w q1 0 q := fun q h => (hw3 q (List.mem_append_left _ h)).trans (va_up_ne _ _ (show q ≠ S 0 from fun z => hq2 (z ▸ h)))
  have wo3 : w3 o = 0 := (w31 o m1).trans ((va_up_ne _ _ z1).trans hw)
  have wq1 : w3 q1 = 0 := (w31 q1 (List.mem_append_right _ List.mem_cons_self)).trans (va_up_self _ _ _)
  have wo5 : w5 o = 0 := (w53 o m3).trans wo3
  have hSe2 : SeAt G (L5 ++ [q4]) k8 (va_up w5 q4 3) 1 S (fun _ => some 0) (fun _ => 0) (fun _ => 0) 0 := hSe.move (fun q h => List.mem_append_left _ (l53 q h)) (fun q h => (va_up_ne _ _ (n4 q (l53 q h))).trans (w53 q h)) (fun q h h1 => (t8 q (fun z => by rw [z, wo3] at h1; cases h1) (n4 q (l53 q h))).trans (t5 q h (fun z => by rw [z, wo3] at h1; cases h1)))
  have hFa2 : FaAt G (L5 ++ [q4]) k8 (va_up w5 q4 3) 2 Fm (fun _ => 0) (fun _ => 0) (fun _ => 0) 0 := hFa.move (fun q h => List.mem_append_left _ h) (fun q h => va_up_ne _ _ (n4 q h)) (fun q h h1 => t8 q (fun z => by rw [z, wo5] at h1; cases h1) (n4 q h))
  have hT : TbAt G (L5 ++ [q4]) k8 (va_up w5 q4 3) 0 (fun i => if i = 0 then o else q1) (S 0) (Fm 0) 0 q4 (fun _ => none) := by
    refine ⟨⟨fun i hi => ?_, fun i j hi hj h => ?_⟩, p8, ?_⟩
    · rcases (show i = 0 ∨ i = 1 by omega) with rfl | rfl
      · exact ⟨m7, (va_up_ne _ _ z4).trans wo5⟩
      · exact ⟨List.mem_append_left _ i5, (va_up_ne _ _ (n4 q1 i5)).trans ((w53 q1 i1).trans wq1)⟩
    · rcases (show i = 0 ∨ i = 1 by omega) with rfl | rfl <;> rcases (show j = 0 ∨ j = 1 by omega) with rfl | rfl
      · rfl
      · exact absurd h z1
      · exact absurd h.symm z1
      · rfl
    · show k8 q1 = _
      rw [t8 q1 (Ne.symm z1) (n4 q1 i5), t5 q1 i1 (Ne.symm z1), t3 q1 (List.mem_append_right _ List.mem_cons_self) (Ne.symm z1), e1, va_up_self]
  refine v_vret hx hr d_MT_init_47 ⟨rfl, fun i => if i = 0 then o else q1, fun q => if q ∈ L5 ++ [q4] then va_up w5 q4 3 q else 0, rfl, fun q h => List.mem_append_left _ (l53 q (l31 q (List.mem_append_left _ h))), fun q h => ?_, ⟨S, Fm, q4, fun _ => none, fun _ _ => 0, fun _ _ => 0, fun _ _ => 0, fun _ => 0, fun _ => some 0, fun _ => 0, fun _ => 0, 0, fun _ => 0, fun _ => 0, fun _ => 0, 0, ?_⟩, fun q h1 h2 => ?_⟩
  · have h5 := l53 q (l31 q (List.mem_append_left _ h))
    show (if q ∈ L5 ++ [q4] then va_up w5 q4 3 q else 0) = w q
    rw [if_pos (List.mem_append_left _ h5), va_up_ne _ _ (n4 q h5), w53 q (l31 q (List.mem_append_left _ h)), w31 q (List.mem_append_left _ h), va_up_ne _ _ (show q ≠ q1 from fun z => hq1 (z ▸ h))]
  · have mv : ∀ q, q ∈ L5 ++ [q4] → (if q ∈ L5 ++ [q4] then va_up w5 q4 3 q else 0) = va_up w5 q4 3 q := fun q h => if_pos h
    refine ⟨hT.move (fun _ h => h) mv (fun _ _ _ => rfl), hSe2.move (fun _ h => h) mv (fun _ _ _ => rfl), hFa2.move (fun _ h => h) mv (fun _ _ _ => rfl), ⟨List.mem_append_right _ List.mem_cons_self, ?_, ?_⟩, Nat.zero_le _, fun j _ => Or.inl ⟨rfl, Nat.zero_le _⟩, fun j hj => absurd hj (Nat.not_lt_zero _), Nat.zero_le _, fun j hj => absurd hj (Nat.not_lt_zero _)⟩
    · exact (mv q4 (List.mem_append_right _ List.mem_cons_self)).trans (va_up_self _ _ _)
    · rw [hk8, va_up_ne _ _ (Ne.symm z4), e7, va_up_self]
  · have h3 := l31 q (List.mem_append_left _ h1)
    rw [t8 q h2 (n4 q (l53 q h3)), t5 q h3 h2, t3 q (List.mem_append_left _ h1) h2, e1, va_up_ne _ _ (show q ≠ q1 from fun z => hq1 (z ▸ h1))]
