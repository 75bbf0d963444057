/-! ===== the reference's constructor ===== -/
section VZ
variable {G : GT} {R : Room} {nL : Nat} {x : XT} {cc : ByteArray} {own : String} {L : List Nat} {f : Nat → va_E} {k n : Nat} {lv : List (Option Value)} {pc : Nat} {rest : List Value}
theorem m_newz (hx : KX G nL x cc own) {N : Nat} (hd : decode cc pc = .ok (.newarray .boolean, 2)) (hN : N < 2 ^ 26) (hk : k + 1 ≤ R.cells) (hs : n + N ≤ R.slots) (kk : ∀ (q : Nat) (f' : Nat → va_E), q ∉ L → f' = va_up f q (aB G N (fun _ => false)) → V G R nL x (L ++ [q]) f' (k + 1) (n + N) lv (pc + 2) (.ref q :: rest)) : V G R nL x L f k n lv pc (.int (nI N) :: rest) := by
  intro H locs ls hP hS hl
  refine va_newa (atype := .boolean) (ty := .boolean) (N' := N) (a0 := (N, .inl (fun _ => 0))) hx.1 hx.2.1 (hx.2.2.2.2.1 _ ka_boolean) rfl hx.2.2.2.2.2.1.1 hP.1 hP.2 hS hx.hA (fun _ => rfl) (nI_pos (by omega)) (nI_clamp (by omega)) (by show N * 1 ≤ 536870912; omega) hk hs hd (fun q cA H1 h0 h1 h2 h3 => ?_)
  have e1 : x.2.2.1.vm.findClass ("[" ++ FieldType.toString .boolean) = some cA := (h0.2 (TY G.2.2.1).length (cA, .boolean) (by simp)).2
  have e2 : x.2.2.1.vm.findClass ("[" ++ FieldType.toString .boolean) = some (G.2.2.1 1) := (hx.2.2.2.2.2.1.1.2 1 (G.2.2.1 1, .boolean) rfl).2
  have e3 : cA = G.2.2.1 1 := Option.some.inj (e1.symm.trans e2)
  subst e3
  obtain ⟨g1, g2⟩ := gP.push h1 h2
  exact kk q _ g1 rfl H1 locs ls g2 h3 hl
end VZ
set_option maxHeartbeats 4000000 in
set_option maxRecDepth 100000 in
theorem c_Mo_init {G : GT} {L : List Nat} {f : Nat → va_E} {w : Nat → Nat} {o : Nat} (ho : o ∈ L) (hw : w o = 100) (hf : f o = .inr (4, [.int 0, .int 0, .null, .null, .null, .null, .int 0, .null, .null, .int 0, .null, .null, .null, .null, .int 0, .null, .null, .null, .null])) : Con G y_Mo_init (.code y_Mo_init b_Mo_init 1 none :: BIG) 1 12 14 30563 [.ref o] L f (fun v L' f' => v = none ∧ ∃ (A w' : Nat → Nat), A 0 = o ∧ (∀ q, q ∈ L → q ∈ L') ∧ (∀ q, q ∈ L → w' q = w q) ∧ MoS G L' f' w' A 0 (pic 0 (fun _ => 0) (fun _ => 0) (fun _ => 0) (fun _ => 0) 0 (fun _ => 0)) ∧ ∀ q, q ∈ L → q ≠ o → f' q = f q) := by
  refine con_of (cc := b_Mo_init) (mL := 1) (lv := [some (.ref o)]) (by decide) (by intro w hw; simp at hw; rcases hw with rfl <;> rfl) (by first | exact Nat.le_of_ble_eq_true rfl | decide) rfl ?_
  intro x hx hr hin
  refine v_aload_n hx d_Mo_init_0 rfl rfl ?_
  refine v_objInit hx k_Mo_1 ki_Ob_init kc_Ob_init d_Mo_init_1 (by decide) ?_
  refine v_aload_n hx d_Mo_init_4 rfl rfl ?_
  refine v_bipush (v := (nI 12)) hx d_Mo_init_5 rfl ?_
  refine m_newa hx d_Mo_init_7 (by decide) (by decide) (by decide) (fun q1 g1 hq1 eq1 => ?_)
  have mo1 := List.mem_append_left [q1] ho
  have z1 : o ≠ q1 := fun z => hq1 (z ▸ ho)
  have po1 := (congrFun eq1 o).trans ((va_up_ne _ _ z1).trans hf)
  refine v_putF hx cf_Mo 2 (by decide) k_Mo_7 rfl hin rfl rfl rfl d_Mo_init_9 mo1 po1 (Nat.le_of_ble_eq_true rfl) (fun k1 hk1 => ?_)
  have ho1 := (congrFun hk1 o).trans (va_up_self _ _ _)
  refine v_aload_n hx d_Mo_init_12 rfl rfl ?_
  refine v_bipush (v := (nI 12)) hx d_Mo_init_13 rfl ?_
  refine m_newa hx d_Mo_init_15 (by decide) (by decide) (by decide) (fun q2 g2 hq2 eq2 => ?_)
  have mo2 := List.mem_append_left [q2] mo1
  have z2 : o ≠ q2 := fun z => hq2 (z ▸ mo1)
  have po2 := (congrFun eq2 o).trans ((va_up_ne _ _ z2).trans ho1)
  refine v_putF hx cf_Mo 3 (by decide) k_Mo_13 rfl hin rfl rfl rfl d_Mo_init_17 mo2 po2 (Nat.le_of_ble_eq_true rfl) (fun k2 hk2 => ?_)
  have ho2 := (congrFun hk2 o).trans (va_up_self _ _ _)
  refine v_aload_n hx d_Mo_init_20 rfl rfl ?_
  refine v_sipush (v := (nI 1920)) hx d_Mo_init_21 rfl ?_
  refine m_newa hx d_Mo_init_24 (by decide) (by decide) (by decide) (fun q3 g3 hq3 eq3 => ?_)
  have mo3 := List.mem_append_left [q3] mo2
  have z3 : o ≠ q3 := fun z => hq3 (z ▸ mo2)
  have po3 := (congrFun eq3 o).trans ((va_up_ne _ _ z3).trans ho2)
  refine v_putF hx cf_Mo 4 (by decide) k_Mo_16 rfl hin rfl rfl rfl d_Mo_init_26 mo3 po3 (Nat.le_of_ble_eq_true rfl) (fun k3 hk3 => ?_)
  have ho3 := (congrFun hk3 o).trans (va_up_self _ _ _)
  refine v_aload_n hx d_Mo_init_29 rfl rfl ?_
  refine v_sipush (v := (nI 1920)) hx d_Mo_init_30 rfl ?_
  refine m_newa hx d_Mo_init_33 (by decide) (by decide) (by decide) (fun q4 g4 hq4 eq4 => ?_)
  have mo4 := List.mem_append_left [q4] mo3
  have z4 : o ≠ q4 := fun z => hq4 (z ▸ mo3)
  have po4 := (congrFun eq4 o).trans ((va_up_ne _ _ z4).trans ho3)
  refine v_putF hx cf_Mo 5 (by decide) k_Mo_19 rfl hin rfl rfl rfl d_Mo_init_35 mo4 po4 (Nat.le_of_ble_eq_true rfl) (fun k4 hk4 => ?_)
  have ho4 := (congrFun hk4 o).trans (va_up_self _ _ _)
  refine v_aload_n hx d_Mo_init_38 rfl rfl ?_
  refine v_sipush (v := (nI 4200)) hx d_Mo_init_39 rfl ?_
  refine m_newa hx d_Mo_init_42 (by decide) (by decide) (by decide) (fun q5 g5 hq5 eq5 => ?_)
  have mo5 := List.mem_append_left [q5] mo4
  have z5 : o ≠ q5 := fun z => hq5 (z ▸ mo4)
  have po5 := (congrFun eq5 o).trans ((va_up_ne _ _ z5).trans ho4)
  refine v_putF hx cf_Mo 7 (by decide) k_Mo_22 rfl hin rfl rfl rfl d_Mo_init_44 mo5 po5 (Nat.le_of_ble_eq_true rfl) (fun k5 hk5 => ?_)
  have ho5 := (congrFun hk5 o).trans (va_up_self _ _ _)
  refine v_aload_n hx d_Mo_init_47 rfl rfl ?_
  refine v_sipush (v := (nI 1600)) hx d_Mo_init_48 rfl ?_
  refine m_newz hx d_Mo_init_51 (by decide) (by decide) (by decide) (fun q6 g6 hq6 eq6 => ?_)
  have mo6 := List.mem_append_left [q6] mo5
  have z6 : o ≠ q6 := fun z => hq6 (z ▸ mo5)
  have po6 := (congrFun eq6 o).trans ((va_up_ne _ _ z6).trans ho5)
  refine v_putF hx cf_Mo 8 (by decide) k_Mo_25 rfl hin rfl rfl rfl d_Mo_init_53 mo6 po6 (Nat.le_of_ble_eq_true rfl) (fun k6 hk6 => ?_)
  have ho6 := (congrFun hk6 o).trans (va_up_self _ _ _)
  refine v_aload_n hx d_Mo_init_56 rfl rfl ?_
  refine v_sipush (v := (nI 4096)) hx d_Mo_init_57 rfl ?_
  refine m_newa hx d_Mo_init_60 (by decide) (by decide) (by decide) (fun q7 g7 hq7 eq7 => ?_)
  have mo7 := List.mem_append_left [q7] mo6
  have z7 : o ≠ q7 := fun z => hq7 (z ▸ mo6)
  have po7 := (congrFun eq7 o).trans ((va_up_ne _ _ z7).trans ho6)
  refine v_putF hx cf_Mo 10 (by decide) k_Mo_29 rfl hin rfl rfl rfl d_Mo_init_62 mo7 po7 (Nat.le_of_ble_eq_true rfl) (fun k7 hk7 => ?_)
  have ho7 := (congrFun hk7 o).trans (va_up_self _ _ _)
  refine v_aload_n hx d_Mo_init_65 rfl rfl ?_
  refine v_sipush (v := (nI 4096)) hx d_Mo_init_66 rfl ?_
  refine m_newa hx d_Mo_init_69 (by decide) (by decide) (by decide) (fun q8 g8 hq8 eq8 => ?_)
  have mo8 := List.mem_append_left [q8] mo7
  have z8 : o ≠ q8 := fun z => hq8 (z ▸ mo7)
  have po8 := (congrFun eq8 o).trans ((va_up_ne _ _ z8).trans ho7)
  refine v_putF hx cf_Mo 11 (by decide) k_Mo_32 rfl hin rfl rfl rfl d_Mo_init_71 mo8 po8 (Nat.le_of_ble_eq_true rfl) (fun k8 hk8 => ?_)
  have ho8 := (congrFun hk8 o).trans (va_up_self _ _ _)
  refine v_aload_n hx d_Mo_init_74 rfl rfl ?_
  refine v_sipush (v := (nI 4096)) hx d_Mo_init_75 rfl ?_
  refine m_newa hx d_Mo_init_78 (by decide) (by decide) (by decide) (fun q9 g9 hq9 eq9 => ?_)
  have mo9 := List.mem_append_left [q9] mo8
  have z9 : o ≠ q9 := fun z => hq9 (z ▸ mo8)
  have po9 := (congrFun eq9 o).trans ((va_up_ne _ _ z9).trans ho8)
  refine v_putF hx cf_Mo 12 (by decide) k_Mo_35 rfl hin rfl rfl rfl d_Mo_init_80 mo9 po9 (Nat.le_of_ble_eq_true rfl) (fun k9 hk9 => ?_)
  have ho9 := (congrFun hk9 o).trans (va_up_self _ _ _)
  refine v_aload_n hx d_Mo_init_83 rfl rfl ?_
  refine v_sipush (v := (nI 4096)) hx d_Mo_init_84 rfl ?_
  refine m_newz hx d_Mo_init_87 (by decide) (by decide) (by decide) (fun q10 g10 hq10 eq10 => ?_)
  have mo10 := List.mem_append_left [q10] mo9
  have z10 : o ≠ q10 := fun z => hq10 (z ▸ mo9)
  have po10 := (congrFun eq10 o).trans ((va_up_ne _ _ z10).trans ho9)
  refine v_putF hx cf_Mo 13 (by decide) k_Mo_38 rfl hin rfl rfl rfl d_Mo_init_89 mo10 po10 (Nat.le_of_ble_eq_true rfl) (fun k10 hk10 => ?_)
  have ho10 := (congrFun hk10 o).trans (va_up_self _ _ _)
  refine v_aload_n hx d_Mo_init_92 rfl rfl ?_
  refine v_sipush (v := (nI 301)) hx d_Mo_init_93 rfl ?_
  refine m_newa hx d_Mo_init_96 (by decide) (by decide) (by decide) (fun q11 g11 hq11 eq11 => ?_)
  have mo11 := List.mem_append_left [q11] mo10
  have z11 : o ≠ q11 := fun z => hq11 (z ▸ mo10)
  have po11 := (congrFun eq11 o).trans ((va_up_ne _ _ z11).trans ho10)
  refine v_putF hx cf_Mo 15 (by decide) k_Mo_41 rfl hin rfl rfl rfl d_Mo_init_98 mo11 po11 (Nat.le_of_ble_eq_true rfl) (fun k11 hk11 => ?_)
  have ho11 := (congrFun hk11 o).trans (va_up_self _ _ _)
  refine v_aload_n hx d_Mo_init_101 rfl rfl ?_
  refine v_sipush (v := (nI 3612)) hx d_Mo_init_102 rfl ?_
  refine m_newa hx d_Mo_init_105 (by decide) (by decide) (by decide) (fun q12 g12 hq12 eq12 => ?_)
  have mo12 := List.mem_append_left [q12] mo11
  have z12 : o ≠ q12 := fun z => hq12 (z ▸ mo11)
  have po12 := (congrFun eq12 o).trans ((va_up_ne _ _ z12).trans ho11)
  refine v_putF hx cf_Mo 16 (by decide) k_Mo_44 rfl hin rfl rfl rfl d_Mo_init_107 mo12 po12 (Nat.le_of_ble_eq_true rfl) (fun k12 hk12 => ?_)
  have ho12 := (congrFun hk12 o).trans (va_up_self _ _ _)
  refine v_aload_n hx d_Mo_init_110 rfl rfl ?_
  refine v_sipush (v := (nI 301)) hx d_Mo_init_111 rfl ?_
  refine m_newa hx d_Mo_init_114 (by decide) (by decide) (by decide) (fun q13 g13 hq13 eq13 => ?_)
  have mo13 := List.mem_append_left [q13] mo12
  have z13 : o ≠ q13 := fun z => hq13 (z ▸ mo12)
  have po13 := (congrFun eq13 o).trans ((va_up_ne _ _ z13).trans ho12)
  refine v_putF hx cf_Mo 17 (by decide) k_Mo_47 rfl hin rfl rfl rfl d_Mo_init_116 mo13 po13 (Nat.le_of_ble_eq_true rfl) (fun k13 hk13 => ?_)
  have ho13 := (congrFun hk13 o).trans (va_up_self _ _ _)
  refine v_aload_n hx d_Mo_init_119 rfl rfl ?_
  refine v_sipush (v := (nI 301)) hx d_Mo_init_120 rfl ?_
  refine m_newa hx d_Mo_init_123 (by decide) (by decide) (by decide) (fun q14 g14 hq14 eq14 => ?_)
  have mo14 := List.mem_append_left [q14] mo13
  have z14 : o ≠ q14 := fun z => hq14 (z ▸ mo13)
  have po14 := (congrFun eq14 o).trans ((va_up_ne _ _ z14).trans ho13)
  refine v_putF hx cf_Mo 18 (by decide) k_Mo_50 rfl hin rfl rfl rfl d_Mo_init_125 mo14 po14 (Nat.le_of_ble_eq_true rfl) (fun k14 hk14 => ?_)
  have ho14 := (congrFun hk14 o).trans (va_up_self _ _ _)
  have hL : L ++ [q1] ++ [q2] ++ [q3] ++ [q4] ++ [q5] ++ [q6] ++ [q7] ++ [q8] ++ [q9] ++ [q10] ++ [q11] ++ [q12] ++ [q13] ++ [q14] = L ++ [q1, q2, q3, q4, q5, q6, q7, q8, q9, q10, q11, q12, q13, q14] := by simp
  have n1 : q1 ≠ o := Ne.symm z1
  have n2 : q2 ≠ o := Ne.symm z2
  have n3 : q3 ≠ o := Ne.symm z3
  have n4 : q4 ≠ o := Ne.symm z4
  have n5 : q5 ≠ o := Ne.symm z5
  have n6 : q6 ≠ o := Ne.symm z6
  have n7 : q7 ≠ o := Ne.symm z7
  have n8 : q8 ≠ o := Ne.symm z8
  have n9 : q9 ≠ o := Ne.symm z9
  have n10 : q10 ≠ o := Ne.symm z10
  have n11 : q11 ≠ o := Ne.symm z11
  have n12 : q12 ≠ o := Ne.symm z12
  have n13 : q13 ≠ o := Ne.symm z13
  have n14 : q14 ≠ o := Ne.symm z14
  simp only [List.mem_append, List.mem_singleton, not_or] at hq1 hq2 hq3 hq4 hq5 hq6 hq7 hq8 hq9 hq10 hq11 hq12 hq13 hq14
  have hnd : [q1, q2, q3, q4, q5, q6, q7, q8, q9, q10, q11, q12, q13, q14].Nodup := by
    refine List.nodup_cons.mpr ⟨fun h => ?_, ?_⟩
    · simp only [List.mem_cons, List.not_mem_nil, or_false] at h
      rcases h with h | h | h | h | h | h | h | h | h | h | h | h | h
      · exact hq2.2 h.symm
      · exact hq3.1.2 h.symm
      · exact hq4.1.1.2 h.symm
      · exact hq5.1.1.1.2 h.symm
      · exact hq6.1.1.1.1.2 h.symm
      · exact hq7.1.1.1.1.1.2 h.symm
      · exact hq8.1.1.1.1.1.1.2 h.symm
      · exact hq9.1.1.1.1.1.1.1.2 h.symm
      · exact hq10.1.1.1.1.1.1.1.1.2 h.symm
      · exact hq11.1.1.1.1.1.1.1.1.1.2 h.symm
      · exact hq12.1.1.1.1.1.1.1.1.1.1.2 h.symm
      · exact hq13.1.1.1.1.1.1.1.1.1.1.1.2 h.symm
      · exact hq14.1.1.1.1.1.1.1.1.1.1.1.1.2 h.symm
    refine List.nodup_cons.mpr ⟨fun h => ?_, ?_⟩
    · simp only [List.mem_cons, List.not_mem_nil, or_false] at h
      rcases h with h | h | h | h | h | h | h | h | h | h | h | h
      · exact hq3.2 h.symm
      · exact hq4.1.2 h.symm
      · exact hq5.1.1.2 h.symm
      · exact hq6.1.1.1.2 h.symm
      · exact hq7.1.1.1.1.2 h.symm
      · exact hq8.1.1.1.1.1.2 h.symm
      · exact hq9.1.1.1.1.1.1.2 h.symm
      · exact hq10.1.1.1.1.1.1.1.2 h.symm
      · exact hq11.1.1.1.1.1.1.1.1.2 h.symm
      · exact hq12.1.1.1.1.1.1.1.1.1.2 h.symm
      · exact hq13.1.1.1.1.1.1.1.1.1.1.2 h.symm
      · exact hq14.1.1.1.1.1.1.1.1.1.1.1.2 h.symm
    refine List.nodup_cons.mpr ⟨fun h => ?_, ?_⟩
    · simp only [List.mem_cons, List.not_mem_nil, or_false] at h
      rcases h with h | h | h | h | h | h | h | h | h | h | h
      · exact hq4.2 h.symm
      · exact hq5.1.2 h.symm
      · exact hq6.1.1.2 h.symm
      · exact hq7.1.1.1.2 h.symm
      · exact hq8.1.1.1.1.2 h.symm
      · exact hq9.1.1.1.1.1.2 h.symm
      · exact hq10.1.1.1.1.1.1.2 h.symm
      · exact hq11.1.1.1.1.1.1.1.2 h.symm
      · exact hq12.1.1.1.1.1.1.1.1.2 h.symm
      · exact hq13.1.1.1.1.1.1.1.1.1.2 h.symm
      · exact hq14.1.1.1.1.1.1.1.1.1.1.2 h.symm
    refine List.nodup_cons.mpr ⟨fun h => ?_, ?_⟩
    · simp only [List.mem_cons, List.not_mem_nil, or_false] at h
      rcases h with h | h | h | h | h | h | h | h | h | h
      · exact hq5.2 h.symm
      · exact hq6.1.2 h.symm
      · exact hq7.1.1.2 h.symm
      · exact hq8.1.1.1.2 h.symm
      · exact hq9.1.1.1.1.2 h.symm
      · exact hq10.1.1.1.1.1.2 h.symm
      · exact hq11.1.1.1.1.1.1.2 h.symm
      · exact hq12.1.1.1.1.1.1.1.2 h.symm
      · exact hq13.1.1.1.1.1.1.1.1.2 h.symm
      · exact hq14.1.1.1.1.1.1.1.1.1.2 h.symm
    refine List.nodup_cons.mpr ⟨fun h => ?_, ?_⟩
    · simp only [List.mem_cons, List.not_mem_nil, or_false] at h
      rcases h with h | h | h | h | h | h | h | h | h
      · exact hq6.2 h.symm
      · exact hq7.1.2 h.symm
      · exact hq8.1.1.2 h.symm
      · exact hq9.1.1.1.2 h.symm
      · exact hq10.1.1.1.1.2 h.symm
      · exact hq11.1.1.1.1.1.2 h.symm
      · exact hq12.1.1.1.1.1.1.2 h.symm
      · exact hq13.1.1.1.1.1.1.1.2 h.symm
      · exact hq14.1.1.1.1.1.1.1.1.2 h.symm
    refine List.nodup_cons.mpr ⟨fun h => ?_, ?_⟩
    · simp only [List.mem_cons, List.not_mem_nil, or_false] at h
      rcases h with h | h | h | h | h | h | h | h
      · exact hq7.2 h.symm
      · exact hq8.1.2 h.symm
      · exact hq9.1.1.2 h.symm
      · exact hq10.1.1.1.2 h.symm
      · exact hq11.1.1.1.1.2 h.symm
      · exact hq12.1.1.1.1.1.2 h.symm
      · exact hq13.1.1.1.1.1.1.2 h.symm
      · exact hq14.1.1.1.1.1.1.1.2 h.symm
    refine List.nodup_cons.mpr ⟨fun h => ?_, ?_⟩
    · simp only [List.mem_cons, List.not_mem_nil, or_false] at h
      rcases h with h | h | h | h | h | h | h
      · exact hq8.2 h.symm
      · exact hq9.1.2 h.symm
      · exact hq10.1.1.2 h.symm
      · exact hq11.1.1.1.2 h.symm
      · exact hq12.1.1.1.1.2 h.symm
      · exact hq13.1.1.1.1.1.2 h.symm
      · exact hq14.1.1.1.1.1.1.2 h.symm
    refine List.nodup_cons.mpr ⟨fun h => ?_, ?_⟩
    · simp only [List.mem_cons, List.not_mem_nil, or_false] at h
      rcases h with h | h | h | h | h | h
      · exact hq9.2 h.symm
      · exact hq10.1.2 h.symm
      · exact hq11.1.1.2 h.symm
      · exact hq12.1.1.1.2 h.symm
      · exact hq13.1.1.1.1.2 h.symm
      · exact hq14.1.1.1.1.1.2 h.symm
    refine List.nodup_cons.mpr ⟨fun h => ?_, ?_⟩
    · simp only [List.mem_cons, List.not_mem_nil, or_false] at h
      rcases h with h | h | h | h | h
      · exact hq10.2 h.symm
      · exact hq11.1.2 h.symm
      · exact hq12.1.1.2 h.symm
      · exact hq13.1.1.1.2 h.symm
      · exact hq14.1.1.1.1.2 h.symm
    refine List.nodup_cons.mpr ⟨fun h => ?_, ?_⟩
    · simp only [List.mem_cons, List.not_mem_nil, or_false] at h
      rcases h with h | h | h | h
      · exact hq11.2 h.symm
      · exact hq12.1.2 h.symm
      · exact hq13.1.1.2 h.symm
      · exact hq14.1.1.1.2 h.symm
    refine List.nodup_cons.mpr ⟨fun h => ?_, ?_⟩
    · simp only [List.mem_cons, List.not_mem_nil, or_false] at h
      rcases h with h | h | h
      · exact hq12.2 h.symm
      · exact hq13.1.2 h.symm
      · exact hq14.1.1.2 h.symm
    refine List.nodup_cons.mpr ⟨fun h => ?_, ?_⟩
    · simp only [List.mem_cons, List.not_mem_nil, or_false] at h
      rcases h with h | h
      · exact hq13.2 h.symm
      · exact hq14.1.2 h.symm
    refine List.nodup_cons.mpr ⟨fun h => ?_, ?_⟩
    · simp only [List.mem_cons, List.not_mem_nil, or_false] at h
      exact hq14.2 h.symm
    exact List.nodup_cons.mpr ⟨List.not_mem_nil, List.nodup_nil⟩
  have hnL : ∀ q ∈ [q1, q2, q3, q4, q5, q6, q7, q8, q9, q10, q11, q12, q13, q14], q ∉ L := by
    intro q hq
    simp only [List.mem_cons, List.not_mem_nil, or_false] at hq
    rcases hq with rfl | rfl | rfl | rfl | rfl | rfl | rfl | rfl | rfl | rfl | rfl | rfl | rfl | rfl
    · exact hq1
    · exact hq2.1
    · exact hq3.1.1
    · exact hq4.1.1.1
    · exact hq5.1.1.1.1
    · exact hq6.1.1.1.1.1
    · exact hq7.1.1.1.1.1.1
    · exact hq8.1.1.1.1.1.1.1
    · exact hq9.1.1.1.1.1.1.1.1
    · exact hq10.1.1.1.1.1.1.1.1.1
    · exact hq11.1.1.1.1.1.1.1.1.1.1
    · exact hq12.1.1.1.1.1.1.1.1.1.1.1
    · exact hq13.1.1.1.1.1.1.1.1.1.1.1.1
    · exact hq14.1.1.1.1.1.1.1.1.1.1.1.1.1
  have hO := own_of (L := L) (w := w) (id := 100) (o := o) [q1, q2, q3, q4, q5, q6, q7, q8, q9, q10, q11, q12, q13, q14] ho hw hnd hnL
  rw [hL]
  refine v_vret hx hr d_Mo_init_128 ⟨rfl, _, _, rfl, fun q h => List.mem_append_left _ h, fun q h => if_pos h, ⟨⟨Nat.zero_le _, fun j hj => absurd hj (Nat.not_lt_zero _), Nat.zero_le _, fun j hj => absurd hj (Nat.not_lt_zero _)⟩, fun _ => 0, fun _ => 0, fun _ => false, 0, fun _ => 0, fun _ => some 0, fun _ => 0, fun _ => false, 0, fun _ => 0, fun _ => 0, fun _ => some 0, fun _ => 0, ⟨hO, ho14, ?_, ?_, ?_, ?_, ?_, ?_, ?_, ?_, ?_, ?_, ?_, ?_, ?_, ?_⟩, rfl, rfl⟩, fun q h1 h2 => ?_⟩
  · show k14 q1 = _; rw [hk14, va_up_ne _ _ n1, eq14, va_up_ne _ _ (Ne.symm hq14.1.1.1.1.1.1.1.1.1.1.1.1.2), hk13, va_up_ne _ _ n1, eq13, va_up_ne _ _ (Ne.symm hq13.1.1.1.1.1.1.1.1.1.1.1.2), hk12, va_up_ne _ _ n1, eq12, va_up_ne _ _ (Ne.symm hq12.1.1.1.1.1.1.1.1.1.1.2), hk11, va_up_ne _ _ n1, eq11, va_up_ne _ _ (Ne.symm hq11.1.1.1.1.1.1.1.1.1.2), hk10, va_up_ne _ _ n1, eq10, va_up_ne _ _ (Ne.symm hq10.1.1.1.1.1.1.1.1.2), hk9, va_up_ne _ _ n1, eq9, va_up_ne _ _ (Ne.symm hq9.1.1.1.1.1.1.1.2), hk8, va_up_ne _ _ n1, eq8, va_up_ne _ _ (Ne.symm hq8.1.1.1.1.1.1.2), hk7, va_up_ne _ _ n1, eq7, va_up_ne _ _ (Ne.symm hq7.1.1.1.1.1.2), hk6, va_up_ne _ _ n1, eq6, va_up_ne _ _ (Ne.symm hq6.1.1.1.1.2), hk5, va_up_ne _ _ n1, eq5, va_up_ne _ _ (Ne.symm hq5.1.1.1.2), hk4, va_up_ne _ _ n1, eq4, va_up_ne _ _ (Ne.symm hq4.1.1.2), hk3, va_up_ne _ _ n1, eq3, va_up_ne _ _ (Ne.symm hq3.1.2), hk2, va_up_ne _ _ n1, eq2, va_up_ne _ _ (Ne.symm hq2.2), hk1, va_up_ne _ _ n1, eq1, va_up_self]; first | done | rfl
  · show k14 q2 = _; rw [hk14, va_up_ne _ _ n2, eq14, va_up_ne _ _ (Ne.symm hq14.1.1.1.1.1.1.1.1.1.1.1.2), hk13, va_up_ne _ _ n2, eq13, va_up_ne _ _ (Ne.symm hq13.1.1.1.1.1.1.1.1.1.1.2), hk12, va_up_ne _ _ n2, eq12, va_up_ne _ _ (Ne.symm hq12.1.1.1.1.1.1.1.1.1.2), hk11, va_up_ne _ _ n2, eq11, va_up_ne _ _ (Ne.symm hq11.1.1.1.1.1.1.1.1.2), hk10, va_up_ne _ _ n2, eq10, va_up_ne _ _ (Ne.symm hq10.1.1.1.1.1.1.1.2), hk9, va_up_ne _ _ n2, eq9, va_up_ne _ _ (Ne.symm hq9.1.1.1.1.1.1.2), hk8, va_up_ne _ _ n2, eq8, va_up_ne _ _ (Ne.symm hq8.1.1.1.1.1.2), hk7, va_up_ne _ _ n2, eq7, va_up_ne _ _ (Ne.symm hq7.1.1.1.1.2), hk6, va_up_ne _ _ n2, eq6, va_up_ne _ _ (Ne.symm hq6.1.1.1.2), hk5, va_up_ne _ _ n2, eq5, va_up_ne _ _ (Ne.symm hq5.1.1.2), hk4, va_up_ne _ _ n2, eq4, va_up_ne _ _ (Ne.symm hq4.1.2), hk3, va_up_ne _ _ n2, eq3, va_up_ne _ _ (Ne.symm hq3.2), hk2, va_up_ne _ _ n2, eq2, va_up_self]; first | done | rfl
  · show k14 q3 = _; rw [hk14, va_up_ne _ _ n3, eq14, va_up_ne _ _ (Ne.symm hq14.1.1.1.1.1.1.1.1.1.1.2), hk13, va_up_ne _ _ n3, eq13, va_up_ne _ _ (Ne.symm hq13.1.1.1.1.1.1.1.1.1.2), hk12, va_up_ne _ _ n3, eq12, va_up_ne _ _ (Ne.symm hq12.1.1.1.1.1.1.1.1.2), hk11, va_up_ne _ _ n3, eq11, va_up_ne _ _ (Ne.symm hq11.1.1.1.1.1.1.1.2), hk10, va_up_ne _ _ n3, eq10, va_up_ne _ _ (Ne.symm hq10.1.1.1.1.1.1.2), hk9, va_up_ne _ _ n3, eq9, va_up_ne _ _ (Ne.symm hq9.1.1.1.1.1.2), hk8, va_up_ne _ _ n3, eq8, va_up_ne _ _ (Ne.symm hq8.1.1.1.1.2), hk7, va_up_ne _ _ n3, eq7, va_up_ne _ _ (Ne.symm hq7.1.1.1.2), hk6, va_up_ne _ _ n3, eq6, va_up_ne _ _ (Ne.symm hq6.1.1.2), hk5, va_up_ne _ _ n3, eq5, va_up_ne _ _ (Ne.symm hq5.1.2), hk4, va_up_ne _ _ n3, eq4, va_up_ne _ _ (Ne.symm hq4.2), hk3, va_up_ne _ _ n3, eq3, va_up_self]; first | done | rfl
  · show k14 q4 = _; rw [hk14, va_up_ne _ _ n4, eq14, va_up_ne _ _ (Ne.symm hq14.1.1.1.1.1.1.1.1.1.2), hk13, va_up_ne _ _ n4, eq13, va_up_ne _ _ (Ne.symm hq13.1.1.1.1.1.1.1.1.2), hk12, va_up_ne _ _ n4, eq12, va_up_ne _ _ (Ne.symm hq12.1.1.1.1.1.1.1.2), hk11, va_up_ne _ _ n4, eq11, va_up_ne _ _ (Ne.symm hq11.1.1.1.1.1.1.2), hk10, va_up_ne _ _ n4, eq10, va_up_ne _ _ (Ne.symm hq10.1.1.1.1.1.2), hk9, va_up_ne _ _ n4, eq9, va_up_ne _ _ (Ne.symm hq9.1.1.1.1.2), hk8, va_up_ne _ _ n4, eq8, va_up_ne _ _ (Ne.symm hq8.1.1.1.2), hk7, va_up_ne _ _ n4, eq7, va_up_ne _ _ (Ne.symm hq7.1.1.2), hk6, va_up_ne _ _ n4, eq6, va_up_ne _ _ (Ne.symm hq6.1.2), hk5, va_up_ne _ _ n4, eq5, va_up_ne _ _ (Ne.symm hq5.2), hk4, va_up_ne _ _ n4, eq4, va_up_self]; first | done | rfl
  · show k14 q5 = _; rw [hk14, va_up_ne _ _ n5, eq14, va_up_ne _ _ (Ne.symm hq14.1.1.1.1.1.1.1.1.2), hk13, va_up_ne _ _ n5, eq13, va_up_ne _ _ (Ne.symm hq13.1.1.1.1.1.1.1.2), hk12, va_up_ne _ _ n5, eq12, va_up_ne _ _ (Ne.symm hq12.1.1.1.1.1.1.2), hk11, va_up_ne _ _ n5, eq11, va_up_ne _ _ (Ne.symm hq11.1.1.1.1.1.2), hk10, va_up_ne _ _ n5, eq10, va_up_ne _ _ (Ne.symm hq10.1.1.1.1.2), hk9, va_up_ne _ _ n5, eq9, va_up_ne _ _ (Ne.symm hq9.1.1.1.2), hk8, va_up_ne _ _ n5, eq8, va_up_ne _ _ (Ne.symm hq8.1.1.2), hk7, va_up_ne _ _ n5, eq7, va_up_ne _ _ (Ne.symm hq7.1.2), hk6, va_up_ne _ _ n5, eq6, va_up_ne _ _ (Ne.symm hq6.2), hk5, va_up_ne _ _ n5, eq5, va_up_self]; first | done | rfl
  · show k14 q6 = _; rw [hk14, va_up_ne _ _ n6, eq14, va_up_ne _ _ (Ne.symm hq14.1.1.1.1.1.1.1.2), hk13, va_up_ne _ _ n6, eq13, va_up_ne _ _ (Ne.symm hq13.1.1.1.1.1.1.2), hk12, va_up_ne _ _ n6, eq12, va_up_ne _ _ (Ne.symm hq12.1.1.1.1.1.2), hk11, va_up_ne _ _ n6, eq11, va_up_ne _ _ (Ne.symm hq11.1.1.1.1.2), hk10, va_up_ne _ _ n6, eq10, va_up_ne _ _ (Ne.symm hq10.1.1.1.2), hk9, va_up_ne _ _ n6, eq9, va_up_ne _ _ (Ne.symm hq9.1.1.2), hk8, va_up_ne _ _ n6, eq8, va_up_ne _ _ (Ne.symm hq8.1.2), hk7, va_up_ne _ _ n6, eq7, va_up_ne _ _ (Ne.symm hq7.2), hk6, va_up_ne _ _ n6, eq6, va_up_self]; first | done | rfl
  · show k14 q7 = _; rw [hk14, va_up_ne _ _ n7, eq14, va_up_ne _ _ (Ne.symm hq14.1.1.1.1.1.1.2), hk13, va_up_ne _ _ n7, eq13, va_up_ne _ _ (Ne.symm hq13.1.1.1.1.1.2), hk12, va_up_ne _ _ n7, eq12, va_up_ne _ _ (Ne.symm hq12.1.1.1.1.2), hk11, va_up_ne _ _ n7, eq11, va_up_ne _ _ (Ne.symm hq11.1.1.1.2), hk10, va_up_ne _ _ n7, eq10, va_up_ne _ _ (Ne.symm hq10.1.1.2), hk9, va_up_ne _ _ n7, eq9, va_up_ne _ _ (Ne.symm hq9.1.2), hk8, va_up_ne _ _ n7, eq8, va_up_ne _ _ (Ne.symm hq8.2), hk7, va_up_ne _ _ n7, eq7, va_up_self]; first | done | rfl
  · show k14 q8 = _; rw [hk14, va_up_ne _ _ n8, eq14, va_up_ne _ _ (Ne.symm hq14.1.1.1.1.1.2), hk13, va_up_ne _ _ n8, eq13, va_up_ne _ _ (Ne.symm hq13.1.1.1.1.2), hk12, va_up_ne _ _ n8, eq12, va_up_ne _ _ (Ne.symm hq12.1.1.1.2), hk11, va_up_ne _ _ n8, eq11, va_up_ne _ _ (Ne.symm hq11.1.1.2), hk10, va_up_ne _ _ n8, eq10, va_up_ne _ _ (Ne.symm hq10.1.2), hk9, va_up_ne _ _ n8, eq9, va_up_ne _ _ (Ne.symm hq9.2), hk8, va_up_ne _ _ n8, eq8, va_up_self]; first | done | rfl
  · show k14 q9 = _; rw [hk14, va_up_ne _ _ n9, eq14, va_up_ne _ _ (Ne.symm hq14.1.1.1.1.2), hk13, va_up_ne _ _ n9, eq13, va_up_ne _ _ (Ne.symm hq13.1.1.1.2), hk12, va_up_ne _ _ n9, eq12, va_up_ne _ _ (Ne.symm hq12.1.1.2), hk11, va_up_ne _ _ n9, eq11, va_up_ne _ _ (Ne.symm hq11.1.2), hk10, va_up_ne _ _ n9, eq10, va_up_ne _ _ (Ne.symm hq10.2), hk9, va_up_ne _ _ n9, eq9, va_up_self]; first | done | rfl
  · show k14 q10 = _; rw [hk14, va_up_ne _ _ n10, eq14, va_up_ne _ _ (Ne.symm hq14.1.1.1.2), hk13, va_up_ne _ _ n10, eq13, va_up_ne _ _ (Ne.symm hq13.1.1.2), hk12, va_up_ne _ _ n10, eq12, va_up_ne _ _ (Ne.symm hq12.1.2), hk11, va_up_ne _ _ n10, eq11, va_up_ne _ _ (Ne.symm hq11.2), hk10, va_up_ne _ _ n10, eq10, va_up_self]; first | done | rfl
  · show k14 q11 = _; rw [hk14, va_up_ne _ _ n11, eq14, va_up_ne _ _ (Ne.symm hq14.1.1.2), hk13, va_up_ne _ _ n11, eq13, va_up_ne _ _ (Ne.symm hq13.1.2), hk12, va_up_ne _ _ n11, eq12, va_up_ne _ _ (Ne.symm hq12.2), hk11, va_up_ne _ _ n11, eq11, va_up_self]; first | done | rfl
  · show k14 q12 = _; rw [hk14, va_up_ne _ _ n12, eq14, va_up_ne _ _ (Ne.symm hq14.1.2), hk13, va_up_ne _ _ n12, eq13, va_up_ne _ _ (Ne.symm hq13.2), hk12, va_up_ne _ _ n12, eq12, va_up_self]; first | done | rfl
  · show k14 q13 = _; rw [hk14, va_up_ne _ _ n13, eq14, va_up_ne _ _ (Ne.symm hq14.2), hk13, va_up_ne _ _ n13, eq13, va_up_self]; first | done | rfl
  · show k14 q14 = _; rw [hk14, va_up_ne _ _ n14, eq14, va_up_self]; first | done | rfl
  · rw [hk14, va_up_ne _ _ h2, eq14, va_up_ne _ _ (show q ≠ q14 from fun z => hq14.1.1.1.1.1.1.1.1.1.1.1.1.1 (z ▸ h1)), hk13, va_up_ne _ _ h2, eq13, va_up_ne _ _ (show q ≠ q13 from fun z => hq13.1.1.1.1.1.1.1.1.1.1.1.1 (z ▸ h1)), hk12, va_up_ne _ _ h2, eq12, va_up_ne _ _ (show q ≠ q12 from fun z => hq12.1.1.1.1.1.1.1.1.1.1.1 (z ▸ h1)), hk11, va_up_ne _ _ h2, eq11, va_up_ne _ _ (show q ≠ q11 from fun z => hq11.1.1.1.1.1.1.1.1.1.1 (z ▸ h1)), hk10, va_up_ne _ _ h2, eq10, va_up_ne _ _ (show q ≠ q10 from fun z => hq10.1.1.1.1.1.1.1.1.1 (z ▸ h1)), hk9, va_up_ne _ _ h2, eq9, va_up_ne _ _ (show q ≠ q9 from fun z => hq9.1.1.1.1.1.1.1.1 (z ▸ h1)), hk8, va_up_ne _ _ h2, eq8, va_up_ne _ _ (show q ≠ q8 from fun z => hq8.1.1.1.1.1.1.1 (z ▸ h1)), hk7, va_up_ne _ _ h2, eq7, va_up_ne _ _ (show q ≠ q7 from fun z => hq7.1.1.1.1.1.1 (z ▸ h1)), hk6, va_up_ne _ _ h2, eq6, va_up_ne _ _ (show q ≠ q6 from fun z => hq6.1.1.1.1.1 (z ▸ h1)), hk5, va_up_ne _ _ h2, eq5, va_up_ne _ _ (show q ≠ q5 from fun z => hq5.1.1.1.1 (z ▸ h1)), hk4, va_up_ne _ _ h2, eq4, va_up_ne _ _ (show q ≠ q4 from fun z => hq4.1.1.1 (z ▸ h1)), hk3, va_up_ne _ _ h2, eq3, va_up_ne _ _ (show q ≠ q3 from fun z => hq3.1.1 (z ▸ h1)), hk2, va_up_ne _ _ h2, eq2, va_up_ne _ _ (show q ≠ q2 from fun z => hq2.1 (z ▸ h1)), hk1, va_up_ne _ _ h2, eq1, va_up_ne _ _ (show q ≠ q1 from fun z => hq1 (z ▸ h1))]
