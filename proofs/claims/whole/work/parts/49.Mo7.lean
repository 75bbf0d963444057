set_option maxHeartbeats 4000000 in
set_option maxRecDepth 100000 in
theorem c_Mo_put {G : GT} {L : List Nat} {f : Nat → va_E} {w A : Nat → Nat} {th : Nat} {mc : Nat} {sa : Nat → Nat} {ka : Nat → Nat} {nx : Nat → Nat} {ou : Nat → Nat} {wl : Nat} {wd : Nat → Nat} {ap : Nat → Bool} {fo : Nat} {se : Nat → Nat} {fr : Nat → Option Nat} {by_ : Nat → Nat} {is : Nat → Bool} {tr : Nat} {my : Nat → Nat} {ss : Nat → Nat} {tf : Nat → Option Nat} {tb : Nat → Nat} (hM : MoAt G L f w 100 A th mc sa ka nx ou wl wd ap fo se fr by_ is tr my ss tf tb) {l : List Nat} (t : Nat) (ht : t < 301) (hR : rowAt ss my t l) (hO : fOK l 12) (s : Nat) (hs : s < 4096) (hs0 : 0 < s) (hsum : fsum l + pcn s 12 ≤ 12) : Con G y_Mo_put (.code y_Mo_put b_Mo_put 6 none :: BIG) 0 0 0 0 [.ref (A 0), .int (nI t), .int (nI s)] L f (fun v L' f' => v = none ∧ L' = L ∧ gF w 100 f f' ∧ ∃ (ss' my' : Nat → Nat), MoAt G L f' w 100 A th mc sa ka nx ou wl wd ap fo se fr by_ is tr my' ss' tf tb ∧ rowAt ss' my' t (fput l s) ∧ (∀ j, j < t * 12 → ss' j = ss j) ∧ (∀ z, z ≠ t → my' z = my z)) := by
  refine con_of (cc := b_Mo_put) (mL := 6) (lv := [some (.ref (A 0)), some (.int (nI t)), some (.int (nI s)), none, none, none]) (by decide) (by intro w hw; simp at hw; rcases hw with rfl | rfl | rfl <;> rfl) (by first | exact Nat.le_of_ble_eq_true rfl | decide) rfl ?_
  intro x hx hr hin
  have hF0 := gF.rf (w := w) (id := 100) (f := f)
  have hll := hO.len
  have hsz := hR.1
  have e12 : ∀ j, 12 * t + j = t * 12 + j := fun j => by omega
  refine v_bipush (v := (nI 12)) hx d_Mo_put_0 rfl ?_
  refine v_iload_n hx d_Mo_put_2 rfl rfl ?_
  refine n_imul hx d_Mo_put_3 ?_
  refine v_istore_n (lv' := [some (.ref (A 0)), some (.int (nI t)), some (.int (nI s)), some (.int (nI (12 * t))), none, none]) hx d_Mo_put_4 rfl (by decide) rfl ?_
  refine v_iconst (v := (nI 0)) hx d_Mo_put_5 rfl ?_
  refine v_istore (lv' := [some (.ref (A 0)), some (.int (nI t)), some (.int (nI s)), some (.int (nI (12 * t))), some (.int (nI 0)), none]) hx d_Mo_put_6 (by decide) rfl ?_
  have H8 : ∀ (fu : Nat) (i : Nat), l.length - i < fu → (i ≤ l.length) → (∀ j, j < i → inn s (l.getD j 0) = false) → V G { frames := 0, cells := 0, slots := 0, locals := 0 } 6 x L f 0 0 [some (.ref (A 0)), some (.int (nI t)), some (.int (nI s)), some (.int (nI (12 * t))), some (.int (nI i)), none] 8 [] := by
    intro fu
    induction fu with
    | zero => intro i hm; exact absurd hm (Nat.not_lt_zero _)
    | succ fu ih =>
      intro i hm hi hj
      refine v_iload hx d_Mo_put_8 rfl ?_
      refine v_aload_n hx d_Mo_put_10 rfl rfl ?_
      refine v_get hx cf_Mo 15 (by decide) k_Mo_41 d_Mo_put_11 hM.m0 hM.f0 rfl ?_
      refine v_iload_n hx d_Mo_put_14 rfl rfl ?_
      refine n_iald hx d_Mo_put_15 hM.m11 hM.f11 (by omega) (by decide) ?_
      refine n_icmp_ge (tgt := 42) hx d_Mo_put_16 (by decide) (by omega) (by omega) (fun c16 => ?_) (fun c16 => ?_)
      · have hany : l.any (fun o => inn s o) = false := any_false (fun j hj2 => hj j (by omega))
        refine v_iconst (v := (nI 0)) hx d_Mo_put_42 rfl ?_
        refine v_istore (lv' := [some (.ref (A 0)), some (.int (nI t)), some (.int (nI s)), some (.int (nI (12 * t))), some (.int (nI 0)), none]) hx d_Mo_put_43 (by decide) rfl ?_
        refine v_iconst (v := (nI 0)) hx d_Mo_put_45 rfl ?_
        refine v_istore (lv' := [some (.ref (A 0)), some (.int (nI t)), some (.int (nI s)), some (.int (nI (12 * t))), some (.int (nI 0)), some (.int (nI 0))]) hx d_Mo_put_46 (by decide) rfl ?_
        have H48 : ∀ (fu : Nat) (left : Nat) (i : Nat) (f1 : Nat → va_E) (ss1 : Nat → Nat), l.length - i < fu → (i ≤ l.length) → (left ≤ i) → (MoAt G L f1 w 100 A th mc sa ka nx ou wl wd ap fo se fr by_ is tr my ss1 tf tb) → (gF w 100 f f1) → (left = ((l.take i).filter (fun o => !inn o s)).length) → (∀ j, j < left → ss1 (t * 12 + j) = ((l.take i).filter (fun o => !inn o s)).getD j 0) → (∀ j, i ≤ j → j < l.length → ss1 (t * 12 + j) = l.getD j 0) → (∀ j, j < t * 12 → ss1 j = ss j) → V G { frames := 0, cells := 0, slots := 0, locals := 0 } 6 x L f1 0 0 [some (.ref (A 0)), some (.int (nI t)), some (.int (nI s)), some (.int (nI (12 * t))), some (.int (nI left)), some (.int (nI i))] 48 [] := by
          intro fu
          induction fu with
          | zero => intro left i f1 ss1 hm; exact absurd hm (Nat.not_lt_zero _)
          | succ fu ih =>
            intro left i f1 ss1 hm hi hle hM1 hF1 hlf h1 h2 h3
            refine v_iload hx d_Mo_put_48 rfl ?_
            refine v_aload_n hx d_Mo_put_50 rfl rfl ?_
            refine v_get hx cf_Mo 15 (by decide) k_Mo_41 d_Mo_put_51 hM1.m0 hM1.f0 rfl ?_
            refine v_iload_n hx d_Mo_put_54 rfl rfl ?_
            refine n_iald hx d_Mo_put_55 hM1.m11 hM1.f11 (by omega) (by decide) ?_
            refine n_icmp_ge (tgt := 105) hx d_Mo_put_56 (by decide) (by omega) (by omega) (fun c56 => ?_) (fun c56 => ?_)
            · have hil : i = l.length := by omega
              rw [hil, List.take_length] at hlf h1
              generalize hl2 : l.filter (fun o => !inn o s) = l2 at hlf h1
              subst hlf
              have hsum2 : fsum l2 + pcn s 12 ≤ 12 := by rw [← hl2]; have := sum_le_of_sub (l := l) (p := (fun o => !inn o s)); omega
              have hO2 : fOK l2 (12 - pcn s 12) := ⟨fun z hz => hO.1 z (by rw [← hl2] at hz; exact (List.mem_filter.mp hz).1), by omega⟩
              have hp0 := pcn_pos 12 hs0 (by simpa using hs)
              have hl2l := hO2.len
              refine v_iload hx d_Mo_put_105 rfl ?_
              refine v_istore (lv' := [some (.ref (A 0)), some (.int (nI t)), some (.int (nI s)), some (.int (nI (12 * t))), some (.int (nI l2.length)), some (.int (nI l2.length))]) hx d_Mo_put_107 (by decide) rfl ?_
              have H109 : ∀ (fu : Nat) (m : Nat) (f2 : Nat → va_E) (ss2 : Nat → Nat), m < fu → (m ≤ l2.length) → (MoAt G L f2 w 100 A th mc sa ka nx ou wl wd ap fo se fr by_ is tr my ss2 tf tb) → (gF w 100 f f2) → (ip (fun i => l2.getD i 0) s l2.length = ip (fun i => l2.getD i 0) s m) → (∀ j, j < m → ss2 (t * 12 + j) = l2.getD j 0) → (∀ j, m < j → j ≤ l2.length → ss2 (t * 12 + j) = l2.getD (j - 1) 0) → (∀ j, j < t * 12 → ss2 j = ss j) → V G { frames := 0, cells := 0, slots := 0, locals := 0 } 6 x L f2 0 0 [some (.ref (A 0)), some (.int (nI t)), some (.int (nI s)), some (.int (nI (12 * t))), some (.int (nI l2.length)), some (.int (nI m))] 109 [] := by
                intro fu
                induction fu with
                | zero => intro m f2 ss2 hm; exact absurd hm (Nat.not_lt_zero _)
                | succ fu ih =>
                  intro m f2 ss2 hm hml hM2 hF2 hip k1 k2 k3
                  refine v_iload hx d_Mo_put_109 rfl ?_
                  refine n_if_le (tgt := 155) hx d_Mo_put_111 (by decide) (by omega) (fun c111 => ?_) (fun c111 => ?_)
                  · have hpm : ip (fun i => l2.getD i 0) s l2.length = m := by
                      rw [hip]
                      first
                      | (rw [c111]; rfl)
                      | (rw [show m = m - 1 + 1 by omega]; exact (if_neg (by show ¬ s < l2.getD (m - 1) 0; omega)))
                    refine v_aload_n hx d_Mo_put_155 rfl rfl ?_
                    refine v_get hx cf_Mo 16 (by decide) k_Mo_44 d_Mo_put_156 hM2.m0 hM2.f0 rfl ?_
                    refine v_iload_n hx d_Mo_put_159 rfl rfl ?_
                    refine v_iload hx d_Mo_put_160 rfl ?_
                    refine n_iadd hx d_Mo_put_162 ?_
                    refine v_iload_n hx d_Mo_put_163 rfl rfl ?_
                    refine nn_iast hx d_Mo_put_164 hM2.m12 hM2.f12 (by omega) (by decide) (fun f1 hf1 => ?_)
                    have mf1 := hM2.up12 hf1
                    have Ff1 := hF2.up hf1 hM2.o12
                    refine v_aload_n hx d_Mo_put_165 rfl rfl ?_
                    refine v_get hx cf_Mo 15 (by decide) k_Mo_41 d_Mo_put_166 mf1.m0 mf1.f0 rfl ?_
                    refine v_iload_n hx d_Mo_put_169 rfl rfl ?_
                    refine v_iload hx d_Mo_put_170 rfl ?_
                    refine v_iconst (v := (nI 1)) hx d_Mo_put_172 rfl ?_
                    refine n_iadd hx d_Mo_put_173 ?_
                    refine nn_iast hx d_Mo_put_174 mf1.m11 mf1.f11 (by omega) (by decide) (fun f2 hf2 => ?_)
                    have mf2 := mf1.up11 hf2
                    have Ff2 := Ff1.up hf2 mf1.o11
                    have hfp : fput l s = insr s l2 := by unfold fput; rw [if_neg (by rw [hany]; decide), hl2]
                    have hrow : ∀ j, j < (insr s l2).length → va_up ss2 (12 * t + m) s (t * 12 + j) = (insr s l2).getD j 0 := by
                      intro j hj
                      rw [insr_len] at hj
                      rw [e12]
                      rcases Nat.lt_trichotomy j m with e | e | e
                      · rw [va_up_ne _ _ (by omega), insr_lo (by omega)]; exact k1 j e
                      · rw [e, va_up_self, ← hpm, insr_at]
                      · rw [va_up_ne _ _ (by omega), insr_hi (by omega) (by omega)]; exact k2 j e (by omega)
                    exact v_vret hx hr d_Mo_put_175 ⟨rfl, rfl, Ff2, _, _, mf2, ⟨by rw [va_up_self, hfp, insr_len], by rw [hfp]; exact hrow⟩, fun j hj => by rw [e12, va_up_ne _ _ (by omega)]; exact k3 j hj, fun z hz => va_up_ne _ _ hz⟩
                  · have hg : ss2 (12 * t + m - 1) = l2.getD (m - 1) 0 := by rw [show 12 * t + m - 1 = t * 12 + (m - 1) by omega]; exact k1 _ (by omega)
                    have hlt : ss2 (12 * t + m - 1) < 4096 := by rw [hg]; exact (hO2.1 _ (getD_mem (by omega))).2
                    refine v_aload_n hx d_Mo_put_114 rfl rfl ?_
                    refine v_get hx cf_Mo 16 (by decide) k_Mo_44 d_Mo_put_115 hM2.m0 hM2.f0 rfl ?_
                    refine v_iload_n hx d_Mo_put_118 rfl rfl ?_
                    refine v_iload hx d_Mo_put_119 rfl ?_
                    refine n_iadd hx d_Mo_put_121 ?_
                    refine v_iconst (v := (nI 1)) hx d_Mo_put_122 rfl ?_
                    refine n_isub hx d_Mo_put_123 (by omega) ?_
                    refine n_iald hx d_Mo_put_124 hM2.m12 hM2.f12 (by omega) (by decide) ?_
                    refine v_iload_n hx d_Mo_put_125 rfl rfl ?_
                    refine n_icmp_le (tgt := 155) hx d_Mo_put_126 (by decide) (by omega) (by omega) (fun c126 => ?_) (fun c126 => ?_)
                    · have hpm : ip (fun i => l2.getD i 0) s l2.length = m := by
                        rw [hip]
                        first
                        | (rw [c111]; rfl)
                        | (rw [show m = m - 1 + 1 by omega]; exact (if_neg (by show ¬ s < l2.getD (m - 1) 0; omega)))
                      refine v_aload_n hx d_Mo_put_155 rfl rfl ?_
                      refine v_get hx cf_Mo 16 (by decide) k_Mo_44 d_Mo_put_156 hM2.m0 hM2.f0 rfl ?_
                      refine v_iload_n hx d_Mo_put_159 rfl rfl ?_
                      refine v_iload hx d_Mo_put_160 rfl ?_
                      refine n_iadd hx d_Mo_put_162 ?_
                      refine v_iload_n hx d_Mo_put_163 rfl rfl ?_
                      refine nn_iast hx d_Mo_put_164 hM2.m12 hM2.f12 (by omega) (by decide) (fun f3 hf3 => ?_)
                      have mf3 := hM2.up12 hf3
                      have Ff3 := hF2.up hf3 hM2.o12
                      refine v_aload_n hx d_Mo_put_165 rfl rfl ?_
                      refine v_get hx cf_Mo 15 (by decide) k_Mo_41 d_Mo_put_166 mf3.m0 mf3.f0 rfl ?_
                      refine v_iload_n hx d_Mo_put_169 rfl rfl ?_
                      refine v_iload hx d_Mo_put_170 rfl ?_
                      refine v_iconst (v := (nI 1)) hx d_Mo_put_172 rfl ?_
                      refine n_iadd hx d_Mo_put_173 ?_
                      refine nn_iast hx d_Mo_put_174 mf3.m11 mf3.f11 (by omega) (by decide) (fun f4 hf4 => ?_)
                      have mf4 := mf3.up11 hf4
                      have Ff4 := Ff3.up hf4 mf3.o11
                      have hfp : fput l s = insr s l2 := by unfold fput; rw [if_neg (by rw [hany]; decide), hl2]
                      have hrow : ∀ j, j < (insr s l2).length → va_up ss2 (12 * t + m) s (t * 12 + j) = (insr s l2).getD j 0 := by
                        intro j hj
                        rw [insr_len] at hj
                        rw [e12]
                        rcases Nat.lt_trichotomy j m with e | e | e
                        · rw [va_up_ne _ _ (by omega), insr_lo (by omega)]; exact k1 j e
                        · rw [e, va_up_self, ← hpm, insr_at]
                        · rw [va_up_ne _ _ (by omega), insr_hi (by omega) (by omega)]; exact k2 j e (by omega)
                      exact v_vret hx hr d_Mo_put_175 ⟨rfl, rfl, Ff4, _, _, mf4, ⟨by rw [va_up_self, hfp, insr_len], by rw [hfp]; exact hrow⟩, fun j hj => by rw [e12, va_up_ne _ _ (by omega)]; exact k3 j hj, fun z hz => va_up_ne _ _ hz⟩
                    · refine v_aload_n hx d_Mo_put_129 rfl rfl ?_
                      refine v_get hx cf_Mo 16 (by decide) k_Mo_44 d_Mo_put_130 hM2.m0 hM2.f0 rfl ?_
                      refine v_iload_n hx d_Mo_put_133 rfl rfl ?_
                      refine v_iload hx d_Mo_put_134 rfl ?_
                      refine n_iadd hx d_Mo_put_136 ?_
                      refine v_aload_n hx d_Mo_put_137 rfl rfl ?_
                      refine v_get hx cf_Mo 16 (by decide) k_Mo_44 d_Mo_put_138 hM2.m0 hM2.f0 rfl ?_
                      refine v_iload_n hx d_Mo_put_141 rfl rfl ?_
                      refine v_iload hx d_Mo_put_142 rfl ?_
                      refine n_iadd hx d_Mo_put_144 ?_
                      refine v_iconst (v := (nI 1)) hx d_Mo_put_145 rfl ?_
                      refine n_isub hx d_Mo_put_146 (by omega) ?_
                      refine n_iald hx d_Mo_put_147 hM2.m12 hM2.f12 (by omega) (by decide) ?_
                      refine nn_iast hx d_Mo_put_148 hM2.m12 hM2.f12 (by omega) (by decide) (fun f5 hf5 => ?_)
                      have mf5 := hM2.up12 hf5
                      have Ff5 := hF2.up hf5 hM2.o12
                      refine n_idec (lv' := [some (.ref (A 0)), some (.int (nI t)), some (.int (nI s)), some (.int (nI (12 * t))), some (.int (nI l2.length)), some (.int (nI (m - 1)))]) hx d_Mo_put_149 rfl (by omega) (by decide) rfl ?_
                      refine v_goto (tgt := 109) hx d_Mo_put_152 (by decide) ?_
                      have hips : ip (fun i => l2.getD i 0) s m = ip (fun i => l2.getD i 0) s (m - 1) := by
                        rw [show m = m - 1 + 1 by omega]
                        exact if_pos (by show s < l2.getD (m - 1) 0; omega)
                      refine ih (m - 1) f5 _ (by omega) (by omega) mf5 Ff5 (hip.trans hips) (fun j hj => ?_) (fun j q1 q2 => ?_) (fun j hj => ?_)
                      · rw [e12, va_up_ne _ _ (by omega)]; exact k1 j (by omega)
                      · rw [e12]
                        by_cases e : j = m
                        · subst e; rw [va_up_self, ← e12, hg]
                        · rw [va_up_ne _ _ (by omega)]; exact k2 j (by omega) q2
                      · rw [e12, va_up_ne _ _ (by omega)]; exact k3 j hj
              exact H109 _ l2.length f1 ss1 (Nat.lt_succ_self _) (Nat.le_refl _) hM1 hF1 rfl h1 (fun j q1 q2 => absurd q1 (by omega)) h3
            · have hg : ss1 (12 * t + i) = l.getD i 0 := by rw [e12]; exact h2 i (Nat.le_refl _) (by omega)
              have hlt : ss1 (12 * t + i) < 4096 := by rw [hg]; exact (hO.1 _ (getD_mem (by omega))).2
              have hts := take_s (l := l) (i := i) (by omega)
              refine v_aload_n hx d_Mo_put_59 rfl rfl ?_
              refine v_get hx cf_Mo 16 (by decide) k_Mo_44 d_Mo_put_60 hM1.m0 hM1.f0 rfl ?_
              refine v_iload_n hx d_Mo_put_63 rfl rfl ?_
              refine v_iload hx d_Mo_put_64 rfl ?_
              refine n_iadd hx d_Mo_put_66 ?_
              refine n_iald hx d_Mo_put_67 hM1.m12 hM1.f12 (by omega) (by decide) ?_
              refine v_iload_n hx d_Mo_put_68 rfl rfl ?_
              refine v_iconst (v := (-1)) hx d_Mo_put_69 rfl ?_
              refine v_ixor hx d_Mo_put_70 rfl ?_
              refine v_iand hx d_Mo_put_71 rfl ?_
              refine v_if_ne (tgt := 78) hx d_Mo_put_72 (by decide) (fun c72 => ?_) (fun c72 => ?_)
              · refine v_aload_n hx d_Mo_put_78 rfl rfl ?_
                refine v_get hx cf_Mo 16 (by decide) k_Mo_44 d_Mo_put_79 hM1.m0 hM1.f0 rfl ?_
                refine v_iload_n hx d_Mo_put_82 rfl rfl ?_
                refine v_iload hx d_Mo_put_83 rfl ?_
                refine n_iadd hx d_Mo_put_85 ?_
                refine v_aload_n hx d_Mo_put_86 rfl rfl ?_
                refine v_get hx cf_Mo 16 (by decide) k_Mo_44 d_Mo_put_87 hM1.m0 hM1.f0 rfl ?_
                refine v_iload_n hx d_Mo_put_90 rfl rfl ?_
                refine v_iload hx d_Mo_put_91 rfl ?_
                refine n_iadd hx d_Mo_put_93 ?_
                refine n_iald hx d_Mo_put_94 hM1.m12 hM1.f12 (by omega) (by decide) ?_
                refine nn_iast hx d_Mo_put_95 hM1.m12 hM1.f12 (by omega) (by decide) (fun f1 hf1 => ?_)
                have mf1 := hM1.up12 hf1
                have Ff1 := hF1.up hf1 hM1.o12
                refine n_iinc (lv' := [some (.ref (A 0)), some (.int (nI t)), some (.int (nI s)), some (.int (nI (12 * t))), some (.int (nI (left + 1))), some (.int (nI i))]) hx d_Mo_put_96 rfl (by decide) rfl ?_
                refine n_iinc (lv' := [some (.ref (A 0)), some (.int (nI t)), some (.int (nI s)), some (.int (nI (12 * t))), some (.int (nI (left + 1))), some (.int (nI (i + 1)))]) hx d_Mo_put_99 rfl (by decide) rfl ?_
                refine v_goto (tgt := 48) hx d_Mo_put_102 (by decide) ?_
                have hno : inn (l.getD i 0) s = false := by rw [← hg]; exact Bool.eq_false_iff.mpr (fun z => c72 ((inn_iff hlt hs).mpr z))
                have hT : (l.take (i + 1)).filter (fun o => !inn o s) = ((l.take i).filter (fun o => !inn o s)) ++ [l.getD i 0] := by rw [hts, List.filter_append, List.filter_cons_of_pos (by rw [hno]; rfl), List.filter_nil]
                refine ih (left + 1) (i + 1) f1 _ (by omega) (by omega) (by omega) mf1 Ff1 (by rw [hT, List.length_append, ← hlf]; rfl) (fun j hj => ?_) (fun j q1 q2 => ?_) (fun j hj => ?_)
                · rw [hT, e12]
                  by_cases e : j = left
                  · subst e
                    rw [va_up_self, hg, hlf]
                    exact getD_mid.symm
                  · rw [va_up_ne _ _ (by omega), h1 j (by omega), getD_app1 (by omega)]
                · rw [e12, va_up_ne _ _ (by omega)]; exact h2 j (by omega) q2
                · rw [e12, va_up_ne _ _ (by omega)]; exact h3 j hj
              · refine v_goto (tgt := 99) hx d_Mo_put_75 (by decide) ?_
                refine n_iinc (lv' := [some (.ref (A 0)), some (.int (nI t)), some (.int (nI s)), some (.int (nI (12 * t))), some (.int (nI left)), some (.int (nI (i + 1)))]) hx d_Mo_put_99 rfl (by decide) rfl ?_
                refine v_goto (tgt := 48) hx d_Mo_put_102 (by decide) ?_
                have hno : inn (l.getD i 0) s = true := by rw [← hg]; exact (inn_iff hlt hs).mp c72
                have hT : (l.take (i + 1)).filter (fun o => !inn o s) = ((l.take i).filter (fun o => !inn o s)) := by rw [hts, List.filter_append, List.filter_cons_of_neg (by rw [hno]; decide), List.filter_nil, List.append_nil]
                exact ih left (i + 1) f1 ss1 (by omega) (by omega) (by omega) hM1 hF1 (by rw [hT]; exact hlf) (fun j hj => by rw [hT]; exact h1 j hj) (fun j q1 q2 => h2 j (by omega) q2) h3
        exact H48 _ 0 0 f ss (Nat.lt_succ_self _) (Nat.zero_le _) (Nat.le_refl _) hM hF0 rfl (fun _ h => absurd h (Nat.not_lt_zero _)) (fun j _ h => hR.get h) (fun _ _ => rfl)
      · have hg : ss (12 * t + i) = l.getD i 0 := by rw [e12]; exact hR.get (by omega)
        have hlt : ss (12 * t + i) < 4096 := by rw [e12]; exact (hR.lt hO (by omega)).2
        refine v_iload_n hx d_Mo_put_19 rfl rfl ?_
        refine v_aload_n hx d_Mo_put_20 rfl rfl ?_
        refine v_get hx cf_Mo 16 (by decide) k_Mo_44 d_Mo_put_21 hM.m0 hM.f0 rfl ?_
        refine v_iload_n hx d_Mo_put_24 rfl rfl ?_
        refine v_iload hx d_Mo_put_25 rfl ?_
        refine n_iadd hx d_Mo_put_27 ?_
        refine n_iald hx d_Mo_put_28 hM.m12 hM.f12 (by omega) (by decide) ?_
        refine v_iconst (v := (-1)) hx d_Mo_put_29 rfl ?_
        refine v_ixor hx d_Mo_put_30 rfl ?_
        refine v_iand hx d_Mo_put_31 rfl ?_
        refine v_if_ne (tgt := 36) hx d_Mo_put_32 (by decide) (fun c32 => ?_) (fun c32 => ?_)
        · refine n_iinc (lv' := [some (.ref (A 0)), some (.int (nI t)), some (.int (nI s)), some (.int (nI (12 * t))), some (.int (nI (i + 1))), none]) hx d_Mo_put_36 rfl (by decide) rfl ?_
          refine v_goto (tgt := 8) hx d_Mo_put_39 (by decide) ?_
          exact ih (i + 1) (by omega) (by omega) (lt_s hj (by rw [← hg]; exact Bool.eq_false_iff.mpr (fun z => c32 ((inn_iff hs hlt).mpr z))))
        · have hany : l.any (fun o => inn s o) = true := any_true (i := i) (by omega) (by rw [← hg]; exact (inn_iff hs hlt).mp c32)
          exact v_vret hx hr d_Mo_put_35 ⟨rfl, rfl, hF0, ss, my, hM, by unfold fput; rw [if_pos hany]; exact hR, fun _ _ => rfl, fun _ _ => rfl⟩
  exact H8 _ 0 (Nat.lt_succ_self _) (Nat.zero_le _) (fun _ h => absurd h (Nat.not_lt_zero _))
set_option maxHeartbeats 4000000 in
set_option maxRecDepth 100000 in
theorem c_Mo_isHome {G : GT} {L : List Nat} {f : Nat → va_E} {w A : Nat → Nat} {th : Nat} {mc : Nat} {sa : Nat → Nat} {ka : Nat → Nat} {nx : Nat → Nat} {ou : Nat → Nat} {wl : Nat} {wd : Nat → Nat} {ap : Nat → Bool} {fo : Nat} {se : Nat → Nat} {fr : Nat → Option Nat} {by_ : Nat → Nat} {is : Nat → Bool} {tr : Nat} {my : Nat → Nat} {ss : Nat → Nat} {tf : Nat → Option Nat} {tb : Nat → Nat} (hM : MoAt G L f w 100 A th mc sa ka nx ou wl wd ap fo se fr by_ is tr my ss tf tb) {l : List Nat} (t : Nat) (ht : t < 301) (hR : rowAt ss my t l) (hO : fOK l 12) : Con G y_Mo_isHome (.code y_Mo_isHome b_Mo_isHome 3 (some .boolean) :: BIG) 1 22 0 0 [.ref (A 0), .int (nI t)] L f (fun v L' f' => v = some (.int (bI (sing l))) ∧ L' = L ∧ f' = f) := by
  refine con_of (cc := b_Mo_isHome) (mL := 3) (lv := [some (.ref (A 0)), some (.int (nI t)), none]) (by decide) (by intro w hw; simp at hw; rcases hw with rfl | rfl <;> rfl) (by first | exact Nat.le_of_ble_eq_true rfl | decide) rfl ?_
  intro x hx hr hin
  have hF0 := gF.rf (w := w) (id := 100) (f := f)
  have hll := hO.len
  have hsz := hR.1
  have e12 : ∀ j, 12 * t + j = t * 12 + j := fun j => by omega
  refine v_iconst (v := (nI 0)) hx d_Mo_isHome_0 rfl ?_
  refine v_istore_n (lv' := [some (.ref (A 0)), some (.int (nI t)), some (.int (nI 0))]) hx d_Mo_isHome_1 rfl (by decide) rfl ?_
  have H2 : ∀ (fu : Nat) (i : Nat), l.length - i < fu → (i ≤ l.length) → (∀ j, j < i → decide (pcn (l.getD j 0) 12 = 1) = true) → V G { frames := 1, cells := 0, slots := 0, locals := 22 } 3 x L f 0 0 [some (.ref (A 0)), some (.int (nI t)), some (.int (nI i))] 2 [] := by
    intro fu
    induction fu with
    | zero => intro i hm; exact absurd hm (Nat.not_lt_zero _)
    | succ fu ih =>
      intro i hm hi hj
      refine v_iload_n hx d_Mo_isHome_2 rfl rfl ?_
      refine v_aload_n hx d_Mo_isHome_3 rfl rfl ?_
      refine v_get hx cf_Mo 15 (by decide) k_Mo_41 d_Mo_isHome_4 hM.m0 hM.f0 rfl ?_
      refine v_iload_n hx d_Mo_isHome_7 rfl rfl ?_
      refine n_iald hx d_Mo_isHome_8 hM.m11 hM.f11 (by omega) (by decide) ?_
      refine n_icmp_ge (tgt := 38) hx d_Mo_isHome_9 (by decide) (by omega) (by omega) (fun c9 => ?_) (fun c9 => ?_)
      · refine v_iconst (v := (nI 1)) hx d_Mo_isHome_38 rfl ?_
        exact v_zret hx hr d_Mo_isHome_39 rfl ⟨by unfold sing; rw [all_true (fun j hj2 => hj j (by omega))]; rfl, rfl, rfl⟩
      · have hg : ss (12 * t + i) = l.getD i 0 := by rw [e12]; exact hR.get (by omega)
        have hlt : ss (12 * t + i) < 4096 := by rw [e12]; exact (hR.lt hO (by omega)).2
        have hp0 : 0 < ss (12 * t + i) := by rw [e12]; exact (hR.lt hO (by omega)).1
        have hpp := pcn_pos 12 hp0 (by simpa using hlt)
        have hpl : pcn (ss (12 * t + i)) 12 < 2 ^ 31 := pcn_small _
        refine v_aload_n hx d_Mo_isHome_12 rfl rfl ?_
        refine v_get hx cf_Mo 16 (by decide) k_Mo_44 d_Mo_isHome_13 hM.m0 hM.f0 rfl ?_
        refine v_bipush (v := (nI 12)) hx d_Mo_isHome_16 rfl ?_
        refine v_iload_n hx d_Mo_isHome_18 rfl rfl ?_
        refine n_imul hx d_Mo_isHome_19 ?_
        refine v_iload_n hx d_Mo_isHome_20 rfl rfl ?_
        refine n_iadd hx d_Mo_isHome_21 ?_
        refine n_iald hx d_Mo_isHome_22 hM.m12 hM.f12 (by omega) (by decide) ?_
        refine v_callS (as := [.int (nI (ss ((12 * t) + i)))]) hx (c_Mo_ones (ss (12 * t + i)) (by simpa using hlt)) cy_Mo_ones k_Mo_110 ks_Mo_ones d_Mo_isHome_23 (by decide) (by decide) rfl rfl (Nat.le_of_ble_eq_true rfl) (fun v1 L f p1 => ?_)
        obtain ⟨rfl, rfl, rfl⟩ := p1
        refine v_iconst (v := (nI 1)) hx d_Mo_isHome_26 rfl ?_
        refine n_icmp_le (tgt := 32) hx d_Mo_isHome_27 (by decide) (by omega) (by omega) (fun c27 => ?_) (fun c27 => ?_)
        · refine n_iinc (lv' := [some (.ref (A 0)), some (.int (nI t)), some (.int (nI (i + 1)))]) hx d_Mo_isHome_32 rfl (by decide) rfl ?_
          refine v_goto (tgt := 2) hx d_Mo_isHome_35 (by decide) ?_
          exact ih (i + 1) (by omega) (by omega) (lt_s hj (by rw [← hg]; exact decide_eq_true (by omega)))
        · refine v_iconst (v := (nI 0)) hx d_Mo_isHome_30 rfl ?_
          exact v_zret hx hr d_Mo_isHome_31 rfl ⟨by unfold sing; rw [all_false (i := i) (by omega) (by rw [← hg]; exact decide_eq_false (by omega))]; rfl, rfl, rfl⟩
  exact H2 _ 0 (Nat.lt_succ_self _) (Nat.zero_le _) (fun _ h => absurd h (Nat.not_lt_zero _))
set_option maxHeartbeats 4000000 in
set_option maxRecDepth 100000 in
theorem c_Mo_isTried {G : GT} {L : List Nat} {f : Nat → va_E} {w A : Nat → Nat} {th : Nat} {mc : Nat} {sa : Nat → Nat} {ka : Nat → Nat} {nx : Nat → Nat} {ou : Nat → Nat} {wl : Nat} {wd : Nat → Nat} {ap : Nat → Bool} {fo : Nat} {se : Nat → Nat} {fr : Nat → Option Nat} {by_ : Nat → Nat} {is : Nat → Bool} {tr : Nat} {my : Nat → Nat} {ss : Nat → Nat} {tf : Nat → Option Nat} {tb : Nat → Nat} (hM : MoAt G L f w 100 A th mc sa ka nx ou wl wd ap fo se fr by_ is tr my ss tf tb) {l : List Nat} (t : Nat) (ht : t < 301) (hR : rowAt ss my t l) (hO : fOK l 12) {rows : Nat → List Nat} (hRs : ∀ z, z < t → rowAt ss my z (rows z) ∧ fOK (rows z) 12) : Con G y_Mo_isTried (.code y_Mo_isTried b_Mo_isTried 5 (some .boolean) :: BIG) 0 0 0 0 [.ref (A 0), .int (nI t)] L f (fun v L' f' => (∃ sp : Bool, v = some (.int (bI sp)) ∧ (sp = true ↔ ∃ z, z < t ∧ rows z = l)) ∧ L' = L ∧ f' = f) := by
  refine con_of (cc := b_Mo_isTried) (mL := 5) (lv := [some (.ref (A 0)), some (.int (nI t)), none, none, none]) (by decide) (by intro w hw; simp at hw; rcases hw with rfl | rfl <;> rfl) (by first | exact Nat.le_of_ble_eq_true rfl | decide) rfl ?_
  intro x hx hr hin
  have hF0 := gF.rf (w := w) (id := 100) (f := f)
  have hll := hO.len
  have hsz := hR.1
  have e12 : ∀ j, 12 * t + j = t * 12 + j := fun j => by omega
  refine v_iconst (v := (nI 0)) hx d_Mo_isTried_0 rfl ?_
  refine v_istore_n (lv' := [some (.ref (A 0)), some (.int (nI t)), some (.int (nI 0)), none, none]) hx d_Mo_isTried_1 rfl (by decide) rfl ?_
  have H2 : ∀ (fu : Nat) (x1 : Nat), t - x1 < fu → (x1 ≤ t) → (∀ j, j < x1 → rows j ≠ l) → V G { frames := 0, cells := 0, slots := 0, locals := 0 } 5 x L f 0 0 [some (.ref (A 0)), some (.int (nI t)), some (.int (nI x1)), none, none] 2 [] := by
    intro fu
    induction fu with
    | zero => intro x1 hm; exact absurd hm (Nat.not_lt_zero _)
    | succ fu ih =>
      intro x1 hm hx9 hj
      have ihX := ih
      have hx0 : x1 < t → my x1 = (rows x1).length ∧ (rows x1).length ≤ 12 := fun h => ⟨(hRs x1 h).1.1, (hRs x1 h).2.len⟩
      refine v_iload_n hx d_Mo_isTried_2 rfl rfl ?_
      refine v_iload_n hx d_Mo_isTried_3 rfl rfl ?_
      refine n_icmp_ge (tgt := 97) hx d_Mo_isTried_4 (by decide) (by omega) (by omega) (fun c4 => ?_) (fun c4 => ?_)
      · refine v_iconst (v := (nI 0)) hx d_Mo_isTried_97 rfl ?_
        exact v_zret hx hr d_Mo_isTried_98 rfl ⟨⟨false, rfl, ⟨fun e => (by cases e), fun ⟨j, h1, h2⟩ => absurd h2 (hj j (by omega))⟩⟩, rfl, rfl⟩
      · have hx1 := hx0 (by omega)
        have hRx := (hRs x1 (by omega)).1
        have hOx := (hRs x1 (by omega)).2
        refine v_aload_n hx d_Mo_isTried_7 rfl rfl ?_
        refine v_get hx cf_Mo 15 (by decide) k_Mo_41 d_Mo_isTried_8 hM.m0 hM.f0 rfl ?_
        refine v_iload_n hx d_Mo_isTried_11 rfl rfl ?_
        refine n_iald hx d_Mo_isTried_12 hM.m11 hM.f11 (by omega) (by decide) ?_
        refine v_aload_n hx d_Mo_isTried_13 rfl rfl ?_
        refine v_get hx cf_Mo 15 (by decide) k_Mo_41 d_Mo_isTried_14 hM.m0 hM.f0 rfl ?_
        refine v_iload_n hx d_Mo_isTried_17 rfl rfl ?_
        refine n_iald hx d_Mo_isTried_18 hM.m11 hM.f11 (by omega) (by decide) ?_
        refine n_icmp_ne (tgt := 26) hx d_Mo_isTried_19 (by decide) (by omega) (by omega) (fun c19 => ?_) (fun c19 => ?_)
        · refine v_iconst (v := (nI 0)) hx d_Mo_isTried_26 rfl ?_
          refine v_istore_n (lv' := [some (.ref (A 0)), some (.int (nI t)), some (.int (nI x1)), some (.int (nI 0)), none]) hx d_Mo_isTried_27 rfl (by decide) rfl ?_
          refine v_iconst (v := (nI 0)) hx d_Mo_isTried_28 rfl ?_
          refine v_istore (lv' := [some (.ref (A 0)), some (.int (nI t)), some (.int (nI x1)), some (.int (nI 0)), some (.int (nI 0))]) hx d_Mo_isTried_29 (by decide) rfl ?_
          have H31 : ∀ (fu : Nat) (i : Nat) (sm : Nat), l.length - i < fu → (i ≤ l.length) → (sm ≤ 1) → (sm = 1 → my x1 = my t ∧ ∀ j, j < i → (rows x1).getD j 0 = l.getD j 0) → (sm = 0 → rows x1 ≠ l) → V G { frames := 0, cells := 0, slots := 0, locals := 0 } 5 x L f 0 0 [some (.ref (A 0)), some (.int (nI t)), some (.int (nI x1)), some (.int (nI sm)), some (.int (nI i))] 31 [] := by
            intro fu
            induction fu with
            | zero => intro i sm hm; exact absurd hm (Nat.not_lt_zero _)
            | succ fu ih =>
              intro i sm hm hi hsm hs1 hsm0
              refine v_iload_n hx d_Mo_isTried_31 rfl rfl ?_
              refine n_if_eq (tgt := 85) hx d_Mo_isTried_32 (by decide) (by omega) (fun c32 => ?_) (fun c32 => ?_)
              · refine v_iload_n hx d_Mo_isTried_85 rfl rfl ?_
                refine n_if_eq (tgt := 91) hx d_Mo_isTried_86 (by decide) (by omega) (fun c86 => ?_) (fun c86 => ?_)
                · refine n_iinc (lv' := [some (.ref (A 0)), some (.int (nI t)), some (.int (nI (x1 + 1))), some (.int (nI sm)), some (.int (nI i))]) hx d_Mo_isTried_91 rfl (by decide) rfl ?_
                  refine v_goto (tgt := 2) hx d_Mo_isTried_94 (by decide) ?_
                  exact v_weak (by simp [vsub]) (ihX (x1 + 1) (by omega) (by omega) (lt_s hj (hsm0 (by omega))))
                · refine v_iconst (v := (nI 1)) hx d_Mo_isTried_89 rfl ?_
                  have hs1_ := hs1 (by omega)
                  exact v_zret hx hr d_Mo_isTried_90 rfl ⟨⟨true, rfl, ⟨fun _ => ⟨x1, by omega, list_eq (by omega) (fun j hj2 => hs1_.2 j (by omega))⟩, fun _ => rfl⟩⟩, rfl, rfl⟩
              · refine v_iload hx d_Mo_isTried_35 rfl ?_
                refine v_aload_n hx d_Mo_isTried_37 rfl rfl ?_
                refine v_get hx cf_Mo 15 (by decide) k_Mo_41 d_Mo_isTried_38 hM.m0 hM.f0 rfl ?_
                refine v_iload_n hx d_Mo_isTried_41 rfl rfl ?_
                refine n_iald hx d_Mo_isTried_42 hM.m11 hM.f11 (by omega) (by decide) ?_
                refine n_icmp_ge (tgt := 85) hx d_Mo_isTried_43 (by decide) (by omega) (by omega) (fun c43 => ?_) (fun c43 => ?_)
                · refine v_iload_n hx d_Mo_isTried_85 rfl rfl ?_
                  refine n_if_eq (tgt := 91) hx d_Mo_isTried_86 (by decide) (by omega) (fun c86 => ?_) (fun c86 => ?_)
                  · refine n_iinc (lv' := [some (.ref (A 0)), some (.int (nI t)), some (.int (nI (x1 + 1))), some (.int (nI sm)), some (.int (nI i))]) hx d_Mo_isTried_91 rfl (by decide) rfl ?_
                    refine v_goto (tgt := 2) hx d_Mo_isTried_94 (by decide) ?_
                    exact v_weak (by simp [vsub]) (ihX (x1 + 1) (by omega) (by omega) (lt_s hj (hsm0 (by omega))))
                  · refine v_iconst (v := (nI 1)) hx d_Mo_isTried_89 rfl ?_
                    have hs1_ := hs1 (by omega)
                    exact v_zret hx hr d_Mo_isTried_90 rfl ⟨⟨true, rfl, ⟨fun _ => ⟨x1, by omega, list_eq (by omega) (fun j hj2 => hs1_.2 j (by omega))⟩, fun _ => rfl⟩⟩, rfl, rfl⟩
                · have hs1c := (hs1 (by omega)).1
                  have hg : ss (12 * t + i) = l.getD i 0 := by rw [e12]; exact hR.get (by omega)
                  have hgx : ss (12 * x1 + i) = (rows x1).getD i 0 := by rw [show 12 * x1 + i = x1 * 12 + i by omega]; exact hRx.get (by omega)
                  have hlt : ss (12 * t + i) < 4096 := by rw [e12]; exact (hR.lt hO (by omega)).2
                  have hltx : ss (12 * x1 + i) < 4096 := by rw [show 12 * x1 + i = x1 * 12 + i by omega]; exact (hRx.lt hOx (by omega)).2
                  refine v_aload_n hx d_Mo_isTried_46 rfl rfl ?_
                  refine v_get hx cf_Mo 16 (by decide) k_Mo_44 d_Mo_isTried_47 hM.m0 hM.f0 rfl ?_
                  refine v_bipush (v := (nI 12)) hx d_Mo_isTried_50 rfl ?_
                  refine v_iload_n hx d_Mo_isTried_52 rfl rfl ?_
                  refine n_imul hx d_Mo_isTried_53 ?_
                  refine v_iload hx d_Mo_isTried_54 rfl ?_
                  refine n_iadd hx d_Mo_isTried_56 ?_
                  refine n_iald hx d_Mo_isTried_57 hM.m12 hM.f12 (by omega) (by decide) ?_
                  refine v_aload_n hx d_Mo_isTried_58 rfl rfl ?_
                  refine v_get hx cf_Mo 16 (by decide) k_Mo_44 d_Mo_isTried_59 hM.m0 hM.f0 rfl ?_
                  refine v_bipush (v := (nI 12)) hx d_Mo_isTried_62 rfl ?_
                  refine v_iload_n hx d_Mo_isTried_64 rfl rfl ?_
                  refine n_imul hx d_Mo_isTried_65 ?_
                  refine v_iload hx d_Mo_isTried_66 rfl ?_
                  refine n_iadd hx d_Mo_isTried_68 ?_
                  refine n_iald hx d_Mo_isTried_69 hM.m12 hM.f12 (by omega) (by decide) ?_
                  refine n_icmp_ne (tgt := 77) hx d_Mo_isTried_70 (by decide) (by omega) (by omega) (fun c70 => ?_) (fun c70 => ?_)
                  · refine v_iconst (v := (nI 0)) hx d_Mo_isTried_77 rfl ?_
                    refine v_istore_n (lv' := [some (.ref (A 0)), some (.int (nI t)), some (.int (nI x1)), some (.int (nI 0)), some (.int (nI i))]) hx d_Mo_isTried_78 rfl (by decide) rfl ?_
                    refine n_iinc (lv' := [some (.ref (A 0)), some (.int (nI t)), some (.int (nI x1)), some (.int (nI 0)), some (.int (nI (i + 1)))]) hx d_Mo_isTried_79 rfl (by decide) rfl ?_
                    refine v_goto (tgt := 31) hx d_Mo_isTried_82 (by decide) ?_
                    exact ih (i + 1) 0 (by omega) (by omega) (by decide) (fun z => absurd z (by decide)) (fun _ e => c70 (by rw [hg, hgx, e]))
                  · refine v_iconst (v := (nI 1)) hx d_Mo_isTried_73 rfl ?_
                    refine v_goto (tgt := 78) hx d_Mo_isTried_74 (by decide) ?_
                    refine v_istore_n (lv' := [some (.ref (A 0)), some (.int (nI t)), some (.int (nI x1)), some (.int (nI 1)), some (.int (nI i))]) hx d_Mo_isTried_78 rfl (by decide) rfl ?_
                    refine n_iinc (lv' := [some (.ref (A 0)), some (.int (nI t)), some (.int (nI x1)), some (.int (nI 1)), some (.int (nI (i + 1)))]) hx d_Mo_isTried_79 rfl (by decide) rfl ?_
                    refine v_goto (tgt := 31) hx d_Mo_isTried_82 (by decide) ?_
                    have hs1_ := hs1 (by omega)
                    exact ih (i + 1) 1 (by omega) (by omega) (Nat.le_refl _) (fun _ => ⟨hs1_.1, lt_s hs1_.2 (by rw [← hg, ← hgx]; exact c70)⟩) (fun z => absurd z (by decide))
          exact H31 _ 0 0 (Nat.lt_succ_self _) (Nat.zero_le _) (by decide) (fun z => absurd z (by decide)) (fun _ e => c19 (by rw [hx1.1, hsz, e]))
        · refine v_iconst (v := (nI 1)) hx d_Mo_isTried_22 rfl ?_
          refine v_goto (tgt := 27) hx d_Mo_isTried_23 (by decide) ?_
          refine v_istore_n (lv' := [some (.ref (A 0)), some (.int (nI t)), some (.int (nI x1)), some (.int (nI 1)), none]) hx d_Mo_isTried_27 rfl (by decide) rfl ?_
          refine v_iconst (v := (nI 0)) hx d_Mo_isTried_28 rfl ?_
          refine v_istore (lv' := [some (.ref (A 0)), some (.int (nI t)), some (.int (nI x1)), some (.int (nI 1)), some (.int (nI 0))]) hx d_Mo_isTried_29 (by decide) rfl ?_
          have H31 : ∀ (fu : Nat) (i : Nat) (sm : Nat), l.length - i < fu → (i ≤ l.length) → (sm ≤ 1) → (sm = 1 → my x1 = my t ∧ ∀ j, j < i → (rows x1).getD j 0 = l.getD j 0) → (sm = 0 → rows x1 ≠ l) → V G { frames := 0, cells := 0, slots := 0, locals := 0 } 5 x L f 0 0 [some (.ref (A 0)), some (.int (nI t)), some (.int (nI x1)), some (.int (nI sm)), some (.int (nI i))] 31 [] := by
            intro fu
            induction fu with
            | zero => intro i sm hm; exact absurd hm (Nat.not_lt_zero _)
            | succ fu ih =>
              intro i sm hm hi hsm hs1 hsm0
              refine v_iload_n hx d_Mo_isTried_31 rfl rfl ?_
              refine n_if_eq (tgt := 85) hx d_Mo_isTried_32 (by decide) (by omega) (fun c32 => ?_) (fun c32 => ?_)
              · refine v_iload_n hx d_Mo_isTried_85 rfl rfl ?_
                refine n_if_eq (tgt := 91) hx d_Mo_isTried_86 (by decide) (by omega) (fun c86 => ?_) (fun c86 => ?_)
                · refine n_iinc (lv' := [some (.ref (A 0)), some (.int (nI t)), some (.int (nI (x1 + 1))), some (.int (nI sm)), some (.int (nI i))]) hx d_Mo_isTried_91 rfl (by decide) rfl ?_
                  refine v_goto (tgt := 2) hx d_Mo_isTried_94 (by decide) ?_
                  exact v_weak (by simp [vsub]) (ihX (x1 + 1) (by omega) (by omega) (lt_s hj (hsm0 (by omega))))
                · refine v_iconst (v := (nI 1)) hx d_Mo_isTried_89 rfl ?_
                  have hs1_ := hs1 (by omega)
                  exact v_zret hx hr d_Mo_isTried_90 rfl ⟨⟨true, rfl, ⟨fun _ => ⟨x1, by omega, list_eq (by omega) (fun j hj2 => hs1_.2 j (by omega))⟩, fun _ => rfl⟩⟩, rfl, rfl⟩
              · refine v_iload hx d_Mo_isTried_35 rfl ?_
                refine v_aload_n hx d_Mo_isTried_37 rfl rfl ?_
                refine v_get hx cf_Mo 15 (by decide) k_Mo_41 d_Mo_isTried_38 hM.m0 hM.f0 rfl ?_
                refine v_iload_n hx d_Mo_isTried_41 rfl rfl ?_
                refine n_iald hx d_Mo_isTried_42 hM.m11 hM.f11 (by omega) (by decide) ?_
                refine n_icmp_ge (tgt := 85) hx d_Mo_isTried_43 (by decide) (by omega) (by omega) (fun c43 => ?_) (fun c43 => ?_)
                · refine v_iload_n hx d_Mo_isTried_85 rfl rfl ?_
                  refine n_if_eq (tgt := 91) hx d_Mo_isTried_86 (by decide) (by omega) (fun c86 => ?_) (fun c86 => ?_)
                  · refine n_iinc (lv' := [some (.ref (A 0)), some (.int (nI t)), some (.int (nI (x1 + 1))), some (.int (nI sm)), some (.int (nI i))]) hx d_Mo_isTried_91 rfl (by decide) rfl ?_
                    refine v_goto (tgt := 2) hx d_Mo_isTried_94 (by decide) ?_
                    exact v_weak (by simp [vsub]) (ihX (x1 + 1) (by omega) (by omega) (lt_s hj (hsm0 (by omega))))
                  · refine v_iconst (v := (nI 1)) hx d_Mo_isTried_89 rfl ?_
                    have hs1_ := hs1 (by omega)
                    exact v_zret hx hr d_Mo_isTried_90 rfl ⟨⟨true, rfl, ⟨fun _ => ⟨x1, by omega, list_eq (by omega) (fun j hj2 => hs1_.2 j (by omega))⟩, fun _ => rfl⟩⟩, rfl, rfl⟩
                · have hs1c := (hs1 (by omega)).1
                  have hg : ss (12 * t + i) = l.getD i 0 := by rw [e12]; exact hR.get (by omega)
                  have hgx : ss (12 * x1 + i) = (rows x1).getD i 0 := by rw [show 12 * x1 + i = x1 * 12 + i by omega]; exact hRx.get (by omega)
                  have hlt : ss (12 * t + i) < 4096 := by rw [e12]; exact (hR.lt hO (by omega)).2
                  have hltx : ss (12 * x1 + i) < 4096 := by rw [show 12 * x1 + i = x1 * 12 + i by omega]; exact (hRx.lt hOx (by omega)).2
                  refine v_aload_n hx d_Mo_isTried_46 rfl rfl ?_
                  refine v_get hx cf_Mo 16 (by decide) k_Mo_44 d_Mo_isTried_47 hM.m0 hM.f0 rfl ?_
                  refine v_bipush (v := (nI 12)) hx d_Mo_isTried_50 rfl ?_
                  refine v_iload_n hx d_Mo_isTried_52 rfl rfl ?_
                  refine n_imul hx d_Mo_isTried_53 ?_
                  refine v_iload hx d_Mo_isTried_54 rfl ?_
                  refine n_iadd hx d_Mo_isTried_56 ?_
                  refine n_iald hx d_Mo_isTried_57 hM.m12 hM.f12 (by omega) (by decide) ?_
                  refine v_aload_n hx d_Mo_isTried_58 rfl rfl ?_
                  refine v_get hx cf_Mo 16 (by decide) k_Mo_44 d_Mo_isTried_59 hM.m0 hM.f0 rfl ?_
                  refine v_bipush (v := (nI 12)) hx d_Mo_isTried_62 rfl ?_
                  refine v_iload_n hx d_Mo_isTried_64 rfl rfl ?_
                  refine n_imul hx d_Mo_isTried_65 ?_
                  refine v_iload hx d_Mo_isTried_66 rfl ?_
                  refine n_iadd hx d_Mo_isTried_68 ?_
                  refine n_iald hx d_Mo_isTried_69 hM.m12 hM.f12 (by omega) (by decide) ?_
                  refine n_icmp_ne (tgt := 77) hx d_Mo_isTried_70 (by decide) (by omega) (by omega) (fun c70 => ?_) (fun c70 => ?_)
                  · refine v_iconst (v := (nI 0)) hx d_Mo_isTried_77 rfl ?_
                    refine v_istore_n (lv' := [some (.ref (A 0)), some (.int (nI t)), some (.int (nI x1)), some (.int (nI 0)), some (.int (nI i))]) hx d_Mo_isTried_78 rfl (by decide) rfl ?_
                    refine n_iinc (lv' := [some (.ref (A 0)), some (.int (nI t)), some (.int (nI x1)), some (.int (nI 0)), some (.int (nI (i + 1)))]) hx d_Mo_isTried_79 rfl (by decide) rfl ?_
                    refine v_goto (tgt := 31) hx d_Mo_isTried_82 (by decide) ?_
                    exact ih (i + 1) 0 (by omega) (by omega) (by decide) (fun z => absurd z (by decide)) (fun _ e => c70 (by rw [hg, hgx, e]))
                  · refine v_iconst (v := (nI 1)) hx d_Mo_isTried_73 rfl ?_
                    refine v_goto (tgt := 78) hx d_Mo_isTried_74 (by decide) ?_
                    refine v_istore_n (lv' := [some (.ref (A 0)), some (.int (nI t)), some (.int (nI x1)), some (.int (nI 1)), some (.int (nI i))]) hx d_Mo_isTried_78 rfl (by decide) rfl ?_
                    refine n_iinc (lv' := [some (.ref (A 0)), some (.int (nI t)), some (.int (nI x1)), some (.int (nI 1)), some (.int (nI (i + 1)))]) hx d_Mo_isTried_79 rfl (by decide) rfl ?_
                    refine v_goto (tgt := 31) hx d_Mo_isTried_82 (by decide) ?_
                    have hs1_ := hs1 (by omega)
                    exact ih (i + 1) 1 (by omega) (by omega) (Nat.le_refl _) (fun _ => ⟨hs1_.1, lt_s hs1_.2 (by rw [← hg, ← hgx]; exact c70)⟩) (fun z => absurd z (by decide))
          exact H31 _ 0 1 (Nat.lt_succ_self _) (Nat.zero_le _) (Nat.le_refl _) (fun _ => ⟨c19, fun _ h => absurd h (Nat.not_lt_zero _)⟩) (fun z => absurd z (by decide))
  exact v_weak (by simp [vsub]) (H2 _ 0 (Nat.lt_succ_self _) (Nat.zero_le _) (fun _ h => absurd h (Nat.not_lt_zero _)))
set_option maxHeartbeats 4000000 in
set_option maxRecDepth 100000 in
theorem c_Mo_told {G : GT} {L : List Nat} {f : Nat → va_E} {w A : Nat → Nat} {th : Nat} {mc : Nat} {sa : Nat → Nat} {ka : Nat → Nat} {nx : Nat → Nat} {ou : Nat → Nat} {wl : Nat} {wd : Nat → Nat} {ap : Nat → Bool} {fo : Nat} {se : Nat → Nat} {fr : Nat → Option Nat} {by_ : Nat → Nat} {is : Nat → Bool} {tr : Nat} {my : Nat → Nat} {ss : Nat → Nat} {tf : Nat → Option Nat} {tb : Nat → Nat} (hM : MoAt G L f w 100 A th mc sa ka nx ou wl wd ap fo se fr by_ is tr my ss tf tb) {N : Nat} {W : List Nat} (a : Nat) (hT : TlR tf tb a N W) (hN3 : N ≤ 301) : Con G y_Mo_told (.code y_Mo_told b_Mo_told 4 (some .int) :: BIG) 0 0 0 0 [.ref (A 0), .int (nI a)] L f (fun v L' f' => v = some (.int (nI W.length)) ∧ L' = L ∧ gF w 100 f f' ∧ ∃ (wd' : Nat → Nat), MoAt G L f' w 100 A th mc sa ka nx ou W.length wd' ap fo se fr by_ is tr my ss tf tb ∧ ∀ j, j < W.length → wd' j = W.getD j 0) := by
  refine con_of (cc := b_Mo_told) (mL := 4) (lv := [some (.ref (A 0)), some (.int (nI a)), none, none]) (by decide) (by intro w hw; simp at hw; rcases hw with rfl | rfl <;> rfl) (by first | exact Nat.le_of_ble_eq_true rfl | decide) rfl ?_
  intro x hx hr hin
  have hF0 := gF.rf (w := w) (id := 100) (f := f)
  have hok := hT.ok
  obtain ⟨ha, hN, -, hB, hWa⟩ := id hT
  have hFF := hT.F
  refine v_aload_n hx d_Mo_told_0 rfl rfl ?_
  refine v_iconst (v := (nI 0)) hx d_Mo_told_1 rfl ?_
  refine v_put hx cf_Mo 6 (by decide) k_Mo_94 rfl rfl rfl d_Mo_told_2 hM.m0 hM.f0 (Nat.le_of_ble_eq_true rfl) (fun f1 hf1 => ?_)
  have mf1 := hM.up0 hf1
  have Ff1 := hF0.up hf1 hM.o0
  refine v_iload_n hx d_Mo_told_5 rfl rfl ?_
  refine v_istore_n (lv' := [some (.ref (A 0)), some (.int (nI a)), some (.int (nI a)), none]) hx d_Mo_told_6 rfl (by decide) rfl ?_
  have H7 : ∀ (fu : Nat) (k : Nat) (wl1 : Nat) (f1 : Nat → va_E), k < fu → (k < N) → (MoAt G L f1 w 100 A th mc sa ka nx ou wl1 wd ap fo se fr by_ is tr my ss tf tb) → (gF w 100 f f1) → (wl1 + (wdA (fun b => (tf b).getD 0) tb k).length = W.length) → V G { frames := 0, cells := 0, slots := 0, locals := 0 } 4 x L f1 0 0 [some (.ref (A 0)), some (.int (nI a)), some (.int (nI k)), none] 7 [] := by
    intro fu
    induction fu with
    | zero => intro k wl1 f1 hm; exact absurd hm (Nat.not_lt_zero _)
    | succ fu ih =>
      intro k wl1 f1 hm hk hM1 hF1 hl
      refine v_aload_n hx d_Mo_told_7 rfl rfl ?_
      refine v_get hx cf_Mo 17 (by decide) k_Mo_47 d_Mo_told_8 hM1.m0 hM1.f0 rfl ?_
      refine v_iload_n hx d_Mo_told_11 rfl rfl ?_
      refine n_iald hx d_Mo_told_12 hM1.m13 hM1.f13 (by omega) (by decide) ?_
      refine v_iconst (v := (-1)) hx d_Mo_told_13 rfl ?_
      refine v_icmp_eq (tgt := 37) hx d_Mo_told_14 (by decide) (fun c14 => ?_) (fun c14 => ?_)
      · have hk0 := hT.z hk c14
        subst hk0
        rw [wdA_0] at hl
        have hl : wl1 + 0 = W.length := hl
        refine v_aload_n hx d_Mo_told_37 rfl rfl ?_
        refine v_get hx cf_Mo 6 (by decide) k_Mo_94 d_Mo_told_38 hM1.m0 hM1.f0 rfl ?_
        refine v_istore_n (lv' := [some (.ref (A 0)), some (.int (nI a)), some (.int (nI wl1)), none]) hx d_Mo_told_41 rfl (by decide) rfl ?_
        refine v_iload_n hx d_Mo_told_42 rfl rfl ?_
        refine v_istore_n (lv' := [some (.ref (A 0)), some (.int (nI a)), some (.int (nI wl1)), some (.int (nI a))]) hx d_Mo_told_43 rfl (by decide) rfl ?_
        have H44 : ∀ (fu : Nat) (k : Nat) (lf : Nat) (f2 : Nat → va_E) (wd2 : Nat → Nat) (rs : List Nat), k < fu → (k < N) → (MoAt G L f2 w 100 A th mc sa ka nx ou wl1 wd2 ap fo se fr by_ is tr my ss tf tb) → (gF w 100 f f2) → (W = (wdA (fun b => (tf b).getD 0) tb k) ++ rs) → (lf = (wdA (fun b => (tf b).getD 0) tb k).length) → (∀ j, j < rs.length → wd2 (lf + j) = rs.getD j 0) → V G { frames := 0, cells := 0, slots := 0, locals := 0 } 4 x L f2 0 0 [some (.ref (A 0)), some (.int (nI a)), some (.int (nI lf)), some (.int (nI k))] 44 [] := by
          intro fu
          induction fu with
          | zero => intro k lf f2 wd2 rs hm; exact absurd hm (Nat.not_lt_zero _)
          | succ fu ih =>
            intro k lf f2 wd2 rs hm hk hM2 hF2 hsp hlf hwd
            refine v_aload_n hx d_Mo_told_44 rfl rfl ?_
            refine v_get hx cf_Mo 17 (by decide) k_Mo_47 d_Mo_told_45 hM2.m0 hM2.f0 rfl ?_
            refine v_iload_n hx d_Mo_told_48 rfl rfl ?_
            refine n_iald hx d_Mo_told_49 hM2.m13 hM2.f13 (by omega) (by decide) ?_
            refine v_iconst (v := (-1)) hx d_Mo_told_50 rfl ?_
            refine v_icmp_eq (tgt := 79) hx d_Mo_told_51 (by decide) (fun c51 => ?_) (fun c51 => ?_)
            · have hk0 := hT.z hk c51
              subst hk0
              rw [wdA_0] at hsp hlf
              have hlf : lf = 0 := hlf
              subst hlf
              have hsp : W = rs := hsp
              subst hsp
              have hwl1 : wl1 = W.length := by omega
              subst hwl1
              refine v_aload_n hx d_Mo_told_79 rfl rfl ?_
              refine v_get hx cf_Mo 6 (by decide) k_Mo_94 d_Mo_told_80 hM2.m0 hM2.f0 rfl ?_
              exact v_iret hx hr d_Mo_told_83 ⟨rfl, rfl, hF2, wd2, hM2, fun j hj => by have := hwd j hj; rw [Nat.zero_add] at this; exact this⟩
            · have hkp := hT.p hk c51
              have hkb := hkp.2.2.1
              have hlf1 : 1 ≤ lf := by rw [hlf, hkp.2.2.2]; simp
              have hlN : lf ≤ k := by rw [hlf]; exact wdA_len hFF k k (Nat.le_refl _) hk
              refine n_idec (lv' := [some (.ref (A 0)), some (.int (nI a)), some (.int (nI (lf - 1))), some (.int (nI k))]) hx d_Mo_told_54 rfl (by omega) (by decide) rfl ?_
              refine v_aload_n hx d_Mo_told_57 rfl rfl ?_
              refine v_get hx cf_Mo 7 (by decide) k_Mo_22 d_Mo_told_58 hM2.m0 hM2.f0 rfl ?_
              refine v_iload_n hx d_Mo_told_61 rfl rfl ?_
              refine v_aload_n hx d_Mo_told_62 rfl rfl ?_
              refine v_get hx cf_Mo 18 (by decide) k_Mo_50 d_Mo_told_63 hM2.m0 hM2.f0 rfl ?_
              refine v_iload_n hx d_Mo_told_66 rfl rfl ?_
              refine n_iald hx d_Mo_told_67 hM2.m14 hM2.f14 (by omega) (by decide) ?_
              refine nn_iast hx d_Mo_told_68 hM2.m5 hM2.f5 (by omega) (by decide) (fun f2 hf2 => ?_)
              have mf2 := hM2.up5 hf2
              have Ff2 := hF2.up hf2 hM2.o5
              refine v_aload_n hx d_Mo_told_69 rfl rfl ?_
              refine v_get hx cf_Mo 17 (by decide) k_Mo_47 d_Mo_told_70 mf2.m0 mf2.f0 rfl ?_
              refine v_iload_n hx d_Mo_told_73 rfl rfl ?_
              refine n_iald hx d_Mo_told_74 mf2.m13 mf2.f13 (by omega) (by decide) ?_
              rw [hkp.2.1]
              refine v_istore_n (lv' := [some (.ref (A 0)), some (.int (nI a)), some (.int (nI (lf - 1))), some (.int (nI ((tf k).getD 0)))]) hx d_Mo_told_75 rfl (by decide) rfl ?_
              refine v_goto (tgt := 44) hx d_Mo_told_76 (by decide) ?_
              refine ih ((tf k).getD 0) (lf - 1) f2 _ (tb k :: rs) (by omega) (by omega) mf2 Ff2 (by rw [hsp, hkp.2.2.2]; simp) (by rw [hlf, hkp.2.2.2]; simp) (fun j hj => ?_)
              cases j with
              | zero => rw [Nat.add_zero, va_up_self]; rfl
              | succ j =>
                rw [va_up_ne _ _ (by omega), show lf - 1 + (j + 1) = lf + j by omega, hwd j (by simpa using hj)]
                rfl
        exact H44 _ a wl1 f1 wd [] (Nat.lt_succ_self _) ha hM1 hF1 (by rw [hWa]; simp) (by rw [hWa]; omega) (fun j hj => absurd hj (by simp))
      · have hkp := hT.p hk c14
        have hkb := hkp.2.2.1
        refine v_aload_n hx d_Mo_told_17 rfl rfl ?_
        refine v_dup hx d_Mo_told_18 rfl ?_
        refine v_get hx cf_Mo 6 (by decide) k_Mo_94 d_Mo_told_19 hM1.m0 hM1.f0 rfl ?_
        refine v_iconst (v := (nI 1)) hx d_Mo_told_22 rfl ?_
        refine n_iadd hx d_Mo_told_23 ?_
        refine v_put hx cf_Mo 6 (by decide) k_Mo_94 rfl rfl rfl d_Mo_told_24 hM1.m0 hM1.f0 (Nat.le_of_ble_eq_true rfl) (fun f2 hf2 => ?_)
        have mf2 := hM1.up0 hf2
        have Ff2 := hF1.up hf2 hM1.o0
        refine v_aload_n hx d_Mo_told_27 rfl rfl ?_
        refine v_get hx cf_Mo 17 (by decide) k_Mo_47 d_Mo_told_28 mf2.m0 mf2.f0 rfl ?_
        refine v_iload_n hx d_Mo_told_31 rfl rfl ?_
        refine n_iald hx d_Mo_told_32 mf2.m13 mf2.f13 (by omega) (by decide) ?_
        rw [hkp.2.1]
        refine v_istore_n (lv' := [some (.ref (A 0)), some (.int (nI a)), some (.int (nI ((tf k).getD 0))), none]) hx d_Mo_told_33 rfl (by decide) rfl ?_
        refine v_goto (tgt := 7) hx d_Mo_told_34 (by decide) ?_
        exact ih ((tf k).getD 0) (wl1 + 1) f2 (by omega) (by omega) mf2 Ff2 (by rw [hkp.2.2.2] at hl; simp at hl; omega)
  exact H7 _ a 0 f1 (Nat.lt_succ_self _) ha mf1 Ff1 (by rw [hWa]; omega)
