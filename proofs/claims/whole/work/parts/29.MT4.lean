set_option maxHeartbeats 4000000 in
set_option maxRecDepth 100000 in
theorem c_MT_tell {G : GT} {L : List Nat} {f : Nat → va_E} {w : Nat → Nat} {A S Fm : Nat → Nat} {c wa : Nat} {mp : Nat → Option Nat} (hT : TbAt G L f w 0 A (S 0) (Fm 0) c wa mp) {nm : Nat → Option Nat} {pl st : Nat → Nat} {sc : Nat} (hS : SeAt G L f w 1 S nm pl st sc) (num N : Nat) {W : List Nat} (hW : TellOK st num N W) : Con G y_MT_tell (.code y_MT_tell b_MT_tell 2 (some .int) :: BIG) 1 25 1 4096 [.ref (A 0), .int (nI num)] L f (fun v L' f' => v = some (.int (nI W.length)) ∧ ∃ (q : Nat) (w' : Nat → Nat), q ∉ L ∧ L' = L ++ [q] ∧ (∀ p, p ∈ L → w' p = w p) ∧ w' q = 3 ∧ TbAt G L' f' w' 0 A (S 0) (Fm 0) c q mp ∧ (∃ g : Nat → Nat, f' q = aI G W.length g ∧ ∀ j, j < W.length → g j = W.getD j 0) ∧ ∀ p, p ∈ L → w p ≠ 0 → f' p = f p) := by
  refine con_of (cc := b_MT_tell) (mL := 2) (lv := [some (.ref (A 0)), some (.int (nI num))]) (by decide) (by intro w hw; simp at hw; rcases hw with rfl | rfl <;> rfl) (by first | exact Nat.le_of_ble_eq_true rfl | decide) rfl ?_
  intro x hx hr hin
  obtain ⟨h1, h2, h3, h4, h5⟩ := hW
  refine v_aload_n hx d_MT_tell_0 rfl rfl ?_
  refine v_aload_n hx d_MT_tell_1 rfl rfl ?_
  refine v_get hx cf_MT 1 (by decide) k_MT_18 d_MT_tell_2 hT.m0 hT.f0 rfl ?_
  refine v_iload_n hx d_MT_tell_5 rfl rfl ?_
  refine v_callV (as := [.int (nI num)]) (q := (R_Se, T_Se, 4)) hx (c_Se_wordTo hS N num h2 h1 h3 h4) cy_Se_wordTo k_MT_152 ki_Se_wordTo kl_Se_wordTo d_MT_tell_6 (by decide) (ci := 2) rfl hS.m0 hS.f0 (by decide) rfl rfl (Nat.le_of_ble_eq_true rfl) (fun v1 L1 f1 p1 => ?_)
  obtain ⟨q, rfl, hq, rfl, ⟨g, hg1, hg2⟩, hfr⟩ := p1
  rw [h5] at hg1 hg2
  have hT1 : TbAt G (L ++ [q]) f1 (va_up w q 3) 0 A (S 0) (Fm 0) c wa mp := hT.move (fun p h => List.mem_append_left _ h) (fun p h => va_up_ne _ _ (fun z => hq (z ▸ h))) (fun p h _ => hfr p (fun z => hq (z ▸ h)))
  have hmq : q ∈ L ++ [q] := List.mem_append_right _ List.mem_cons_self
  refine v_put hx cf_MT 4 (by decide) k_MT_33 rfl rfl rfl d_MT_tell_9 hT1.m0 hT1.f0 (Nat.le_of_ble_eq_true rfl) (fun f2 hf2 => ?_)
  have hT2 := hT1.up0 hf2
  have hqA : q ≠ A 0 := fun z => hq (z ▸ hT.m0)
  have hg2_ : f2 q = aI G W.length g := by rw [hf2, va_up_ne _ _ hqA]; exact hg1
  refine v_aload_n hx d_MT_tell_12 rfl rfl ?_
  refine v_get hx cf_MT 4 (by decide) k_MT_33 d_MT_tell_13 hT2.m0 hT2.f0 rfl ?_
  refine v_alen hx d_MT_tell_16 hmq hg2_ ?_
  exact v_iret hx hr d_MT_tell_17 ⟨rfl, q, va_up w q 3, hq, rfl, fun p h => va_up_ne _ _ (fun z => hq (z ▸ h)), va_up_self _ _ _, hT2, ⟨g, hg2_, hg2⟩, fun p h hw => by rw [hf2, va_up_ne _ _ (show p ≠ A 0 from fun z => hw (by rw [z]; exact hT.o0))]; exact hfr p (fun z => hq (z ▸ h))⟩
set_option maxHeartbeats 4000000 in
set_option maxRecDepth 100000 in
theorem c_MT_seekHomed {G : GT} {L : List Nat} {f : Nat → va_E} {w : Nat → Nat} {A S Fm : Nat → Nat} {c wa : Nat} {mp : Nat → Option Nat} (hT : TbAt G L f w 0 A (S 0) (Fm 0) c wa mp) {nm : Nat → Option Nat} {pl st : Nat → Nat} {sc : Nat} (hS : SeAt G L f w 1 S nm pl st sc) {ss sz bo : Nat → Nat} {fc : Nat} (hFa : FaAt G L f w 2 Fm ss sz bo fc) {id1 : Nat} {Ba nx1 ou1 lo1 fi1 : Nat → Nat} {n1 k1 b1 : Nat} (hM1 : MaAt G L f w id1 Ba nx1 ou1 lo1 fi1 n1 k1 b1) (hi1 : id1 ≠ 1) (hi2 : id1 ≠ 2) (hA1 : okA nx1 ou1 n1 k1) (hn12 : n1 ≤ 12) (hlo : ∀ s, s < n1 → lo1 s ≤ s) : Con G y_MT_seekHomed (.code y_MT_seekHomed b_MT_seekHomed 5 (some .int) :: BIG) 4 96 0 0 [.ref (A 0), .ref (Ba 0)] L f (fun v L' f' => L' = L ∧ gF2 w 1 2 f f' ∧ (∃ (ss sz bo : Nat → Nat) (fc : Nat), FaAt G L f' w 2 Fm ss sz bo fc) ∧ (sing [alm lo1 n1] = false ∧ (∀ a i, ¬ Hom nx1 ou1 lo1 n1 k1 a i) ∧ v = some (.int (-1)) ∧ (∃ (nm : Nat → Option Nat) (pl st : Nat → Nat) (sc : Nat), SeAt G L f' w 1 S nm pl st sc) ∨ ∃ (num N : Nat) (W : List Nat) (nm : Nat → Option Nat) (pl st : Nat → Nat) (sc : Nat), v = some (.int (nI num)) ∧ SeAt G L f' w 1 S nm pl st sc ∧ TellOK st num N W ∧ (sing [alm lo1 n1] = true ∧ W = [] ∨ sing [alm lo1 n1] = false ∧ ∃ a i, Hom nx1 ou1 lo1 n1 k1 a i ∧ W = qW (bout (hNx nx1 ou1 lo1 n1) k1 (hQ0 lo1 n1) a) a ++ [i]))) := by
  refine con_of (cc := b_MT_seekHomed) (mL := 5) (lv := [some (.ref (A 0)), some (.ref (Ba 0)), none, none, none]) (by decide) (by intro w hw; simp at hw; rcases hw with rfl | rfl <;> rfl) (by first | exact Nat.le_of_ble_eq_true rfl | decide) rfl ?_
  intro x hx hr hin
  have hG := gF2.rf (w := w) (a := 1) (b := 2) (f := f)
  have hA1_ := hA1
  obtain ⟨a1, a2, a3, a4, a5⟩ := hA1_
  have hal := alm_ok a1 hn12 hlo
  have hnP := hP_nx hA1 hn12 hlo
  have hq0 : qOK (hQ0 lo1 n1) fD := q0_ok (fP_lt _ (fP_enc hal))
  have hI0 : qI fP (hQ0 lo1 n1) := q0_I (fP_enc hal)
  refine v_aload_n hx d_MT_seekHomed_0 rfl rfl ?_
  refine v_get hx cf_MT 1 (by decide) k_MT_18 d_MT_seekHomed_1 (hT.fr2 hG (by decide) (by decide)).m0 (hT.fr2 hG (by decide) (by decide)).f0 rfl ?_
  refine v_iconst (v := (nI 0)) hx d_MT_seekHomed_4 rfl ?_
  refine v_callV (as := [.int (nI 0)]) (q := (R_Se, T_Se, 4)) hx (c_Se_begin hS 0 (by decide)) cy_Se_begin k_MT_156 ki_Se_begin kl_Se_begin d_MT_seekHomed_5 (by decide) (ci := 2) rfl hS.m0 hS.f0 (by decide) rfl rfl (Nat.le_of_ble_eq_true rfl) (fun v1 L f1 p1 => ?_)
  obtain ⟨rfl, rfl, ⟨nm1, hS1, -⟩, hF1⟩ := p1
  have hG := hG.l hF1
  have hFa1 := hFa.fr hF1 (by decide)
  refine v_aload_n hx d_MT_seekHomed_8 rfl rfl ?_
  refine v_get hx cf_MT 2 (by decide) k_MT_25 d_MT_seekHomed_9 (hT.fr2 hG (by decide) (by decide)).m0 (hT.fr2 hG (by decide) (by decide)).f0 rfl ?_
  refine v_aload_n hx d_MT_seekHomed_12 rfl rfl ?_
  refine v_callV (as := [.ref (Ba 0)]) (q := (R_Fa, T_Fa, 4)) hx (c_Fa_begin hFa1 (hM1.fr2 hG hi1 hi2) hi2 hA1 hn12 hlo) cy_Fa_begin k_MT_177 ki_Fa_begin kl_Fa_begin d_MT_seekHomed_13 (by decide) (ci := 0) rfl hFa1.m0 hFa1.f0 (by decide) rfl rfl (Nat.le_of_ble_eq_true rfl) (fun v2 L f2 p2 => ?_)
  obtain ⟨rfl, rfl, ⟨ss2, sz2, hFa2, hR2⟩, hF2⟩ := p2
  have hG := hG.r hF2
  have hS2 := hS1.fr hF2 (by decide)
  refine v_aload_n hx d_MT_seekHomed_16 rfl rfl ?_
  refine v_get hx cf_MT 1 (by decide) k_MT_18 d_MT_seekHomed_17 (hT.fr2 hG (by decide) (by decide)).m0 (hT.fr2 hG (by decide) (by decide)).f0 rfl ?_
  refine v_iconst (v := (nI 0)) hx d_MT_seekHomed_20 rfl ?_
  refine v_iconst (v := (nI 0)) hx d_MT_seekHomed_21 rfl ?_
  refine v_callV (as := [.int (nI 0), .int (nI 0)]) (q := (R_Se, T_Se, 4)) hx (c_Se_note hS2 0 0 (by decide)) cy_Se_note k_MT_166 ki_Se_note kl_Se_note d_MT_seekHomed_22 (by decide) (ci := 2) rfl hS2.m0 hS2.f0 (by decide) rfl rfl (Nat.le_of_ble_eq_true rfl) (fun v3 L f3 p3 => ?_)
  obtain ⟨rfl, rfl, hS3, hF3⟩ := p3
  have hG := hG.l hF3
  have hFa3 := hFa2.fr hF3 (by decide)
  refine v_istore_n (lv' := [some (.ref (A 0)), some (.ref (Ba 0)), some (.int (nI 0)), none, none]) hx d_MT_seekHomed_25 rfl (by decide) rfl ?_
  refine v_aload_n hx d_MT_seekHomed_26 rfl rfl ?_
  refine v_get hx cf_MT 2 (by decide) k_MT_25 d_MT_seekHomed_27 (hT.fr2 hG (by decide) (by decide)).m0 (hT.fr2 hG (by decide) (by decide)).f0 rfl ?_
  refine v_callV (as := []) (q := (R_Fa, T_Fa, 4)) hx (c_Fa_openOneIsSingles hFa3 hR2 hal (by decide)) cy_Fa_openOneIsSingles k_MT_179 ki_Fa_openOneIsSingles kl_Fa_openOneIsSingles d_MT_seekHomed_30 (by decide) (ci := 0) rfl hFa3.m0 hFa3.f0 (by decide) rfl rfl (Nat.le_of_ble_eq_true rfl) (fun v4 L f3 p4 => ?_)
  obtain ⟨rfl, rfl, rfl⟩ := p4
  refine v_if_eq (tgt := 38) hx d_MT_seekHomed_33 (by decide) (fun c33 => ?_) (fun c33 => ?_)
  · have hsg : sing [alm lo1 n1] = false := (bI_0 _).mp c33
    refine v_aload_n hx d_MT_seekHomed_38 rfl rfl ?_
    refine v_get hx cf_MT 2 (by decide) k_MT_25 d_MT_seekHomed_39 (hT.fr2 hG (by decide) (by decide)).m0 (hT.fr2 hG (by decide) (by decide)).f0 rfl ?_
    refine v_callV (as := []) (q := (R_Fa, T_Fa, 4)) hx (c_Fa_keepOpenOne hFa3) cy_Fa_keepOpenOne k_MT_182 ki_Fa_keepOpenOne kl_Fa_keepOpenOne d_MT_seekHomed_42 (by decide) (ci := 0) rfl hFa3.m0 hFa3.f0 (by decide) rfl rfl (Nat.le_of_ble_eq_true rfl) (fun v5 L f4 p5 => ?_)
    obtain ⟨rfl, rfl, hFa4, hF4⟩ := p5
    have hG := hG.r hF4
    have hS4 := hS3.fr hF4 (by decide)
    refine v_iconst (v := (nI 0)) hx d_MT_seekHomed_45 rfl ?_
    refine v_istore_n (lv' := [some (.ref (A 0)), some (.ref (Ba 0)), some (.int (nI 0)), some (.int (nI 0)), none]) hx d_MT_seekHomed_46 rfl (by decide) rfl ?_
    have H47 : ∀ (fu : Nat) (a : Nat) (f5 : Nat → va_E) (nm1 : Nat → Option Nat) (pl1 : Nat → Nat) (st1 : Nat → Nat) (ss1 : Nat → Nat) (sz1 : Nat → Nat) (bo1 : Nat → Nat) (fc1 : Nat), 300 - a < fu → (a ≤ 300) → (∀ b, b < a → b < (bout (hNx nx1 ou1 lo1 n1) k1 (hQ0 lo1 n1) b).length) → (∀ b, b < a → ∀ j, j < k1 → ¬ (hBad nx1 ou1 lo1 n1) (qP (bout (hNx nx1 ou1 lo1 n1) k1 (hQ0 lo1 n1) b) b) j) → (SeAt G L f5 w 1 S nm1 pl1 st1 fc1) → (FaAt G L f5 w 2 Fm ss1 sz1 bo1 fc1) → (fc1 = (bout (hNx nx1 ou1 lo1 n1) k1 (hQ0 lo1 n1) a).length) → (fc1 ≤ 300) → (StQ st1 (bout (hNx nx1 ou1 lo1 n1) k1 (hQ0 lo1 n1) a)) → (∀ t, t < (bout (hNx nx1 ou1 lo1 n1) k1 (hQ0 lo1 n1) a).length → rowAt ss1 sz1 t (dec (qP (bout (hNx nx1 ou1 lo1 n1) k1 (hQ0 lo1 n1) a) t))) → (∀ t, t < (bout (hNx nx1 ou1 lo1 n1) k1 (hQ0 lo1 n1) a).length → sing (dec (qP (bout (hNx nx1 ou1 lo1 n1) k1 (hQ0 lo1 n1) a) t)) = false) → (gF2 w 1 2 f f5) → V G { frames := 4, cells := 0, slots := 0, locals := 96 } 5 x L f5 0 0 [some (.ref (A 0)), some (.ref (Ba 0)), none, some (.int (nI a)), none] 47 [] := by
      intro fu
      induction fu with
      | zero => intro a f5 nm1 pl1 st1 ss1 sz1 bo1 fc1 hm; exact absurd hm (Nat.not_lt_zero _)
      | succ fu ih =>
        intro a f5 nm1 pl1 st1 ss1 sz1 bo1 fc1 hm ha0 hr1 hg1 hM hFa hcl hc300 hst hrow hns hG
        have ihO := ih
        have hok := bout_ok hq0 hI0 a4 fP_lt hnP a hr1
        refine v_iload_n hx d_MT_seekHomed_47 rfl rfl ?_
        refine v_aload_n hx d_MT_seekHomed_48 rfl rfl ?_
        refine v_get hx cf_MT 2 (by decide) k_MT_25 d_MT_seekHomed_49 (hT.fr2 hG (by decide) (by decide)).m0 (hT.fr2 hG (by decide) (by decide)).f0 rfl ?_
        refine v_getN hx cf_Fa 3 (by decide) kN_MT_185 d_MT_seekHomed_52 hFa.m0 hFa.f0 rfl ?_
        refine n_icmp_ge (tgt := 158) hx d_MT_seekHomed_55 (by decide) (by omega) (by omega) (fun c55 => ?_) (fun c55 => ?_)
        · refine v_iconst (v := (-1)) hx d_MT_seekHomed_158 rfl ?_
          exact v_iret hx hr d_MT_seekHomed_159 ⟨rfl, hG, ⟨ss1, sz1, bo1, fc1, hFa⟩, Or.inl ⟨hsg, Hom.none_end ⟨by omega, hr1⟩ hg1, rfl, nm1, pl1, st1, fc1, hM⟩⟩
        · refine v_iload_n hx d_MT_seekHomed_58 rfl rfl ?_
          refine v_sipush (v := (nI 300)) hx d_MT_seekHomed_59 rfl ?_
          refine n_icmp_ge (tgt := 158) hx d_MT_seekHomed_62 (by decide) (by omega) (by omega) (fun c62 => ?_) (fun c62 => ?_)
          · exact absurd c62 (by omega)
          · have haL : a < (bout (hNx nx1 ou1 lo1 n1) k1 (hQ0 lo1 n1) a).length := by omega
            refine v_iconst (v := (nI 0)) hx d_MT_seekHomed_65 rfl ?_
            refine v_istore (lv' := [some (.ref (A 0)), some (.ref (Ba 0)), none, some (.int (nI a)), some (.int (nI 0))]) hx d_MT_seekHomed_66 (by decide) rfl ?_
            have H68 : ∀ (fu : Nat) (i : Nat) (f5 : Nat → va_E) (nm1 : Nat → Option Nat) (pl1 : Nat → Nat) (st1 : Nat → Nat) (ss1 : Nat → Nat) (sz1 : Nat → Nat) (bo1 : Nat → Nat) (fc1 : Nat), k1 - i < fu → (i ≤ k1) → (∀ j, j < i → ¬ (hBad nx1 ou1 lo1 n1) (qP (bout (hNx nx1 ou1 lo1 n1) k1 (hQ0 lo1 n1) a) a) j) → (SeAt G L f5 w 1 S nm1 pl1 st1 fc1) → (FaAt G L f5 w 2 Fm ss1 sz1 bo1 fc1) → (fc1 = (bin (hNx nx1 ou1 lo1 n1) (bout (hNx nx1 ou1 lo1 n1) k1 (hQ0 lo1 n1) a) a i).length) → (fc1 ≤ 300) → (StQ st1 (bin (hNx nx1 ou1 lo1 n1) (bout (hNx nx1 ou1 lo1 n1) k1 (hQ0 lo1 n1) a) a i)) → (∀ t, t < (bin (hNx nx1 ou1 lo1 n1) (bout (hNx nx1 ou1 lo1 n1) k1 (hQ0 lo1 n1) a) a i).length → rowAt ss1 sz1 t (dec (qP (bin (hNx nx1 ou1 lo1 n1) (bout (hNx nx1 ou1 lo1 n1) k1 (hQ0 lo1 n1) a) a i) t))) → (∀ t, t < (bin (hNx nx1 ou1 lo1 n1) (bout (hNx nx1 ou1 lo1 n1) k1 (hQ0 lo1 n1) a) a i).length → sing (dec (qP (bin (hNx nx1 ou1 lo1 n1) (bout (hNx nx1 ou1 lo1 n1) k1 (hQ0 lo1 n1) a) a i) t)) = false) → (gF2 w 1 2 f f5) → V G { frames := 4, cells := 0, slots := 0, locals := 96 } 5 x L f5 0 0 [some (.ref (A 0)), some (.ref (Ba 0)), none, some (.int (nI a)), some (.int (nI i))] 68 [] := by
              intro fu
              induction fu with
              | zero => intro i f5 nm1 pl1 st1 ss1 sz1 bo1 fc1 hm; exact absurd hm (Nat.not_lt_zero _)
              | succ fu ih =>
                intro i f5 nm1 pl1 st1 ss1 sz1 bo1 fc1 hm hi hgi hM hFa hcl hc300 hst hrow hns hG
                have hoki := bin_ok hok.1 hok.2 haL a4 fP_lt hnP i hi
                have hbl := bin_len (hNx nx1 ou1 lo1 n1) (bout (hNx nx1 ou1 lo1 n1) k1 (hQ0 lo1 n1) a) a i
                have hpa : qP (bin (hNx nx1 ou1 lo1 n1) (bout (hNx nx1 ou1 lo1 n1) k1 (hQ0 lo1 n1) a) a i) a = qP (bout (hNx nx1 ou1 lo1 n1) k1 (hQ0 lo1 n1) a) a := ((bin_sub (hNx nx1 ou1 lo1 n1) (bout (hNx nx1 ou1 lo1 n1) k1 (hQ0 lo1 n1) a) a i).2 a haL).1
                refine v_iload hx d_MT_seekHomed_68 rfl ?_
                refine v_aload_n hx d_MT_seekHomed_70 rfl rfl ?_
                refine v_getN hx cf_Ma 5 (by decide) kN_MT_85 d_MT_seekHomed_71 (hM1.fr2 hG hi1 hi2).m0 (hM1.fr2 hG hi1 hi2).f0 rfl ?_
                refine n_icmp_ge (tgt := 152) hx d_MT_seekHomed_74 (by decide) (by omega) (by omega) (fun c74 => ?_) (fun c74 => ?_)
                · refine n_iinc (lv' := [some (.ref (A 0)), some (.ref (Ba 0)), none, some (.int (nI (a + 1))), some (.int (nI i))]) hx d_MT_seekHomed_152 rfl (by decide) rfl ?_
                  refine v_goto (tgt := 47) hx d_MT_seekHomed_155 (by decide) ?_
                  have e6 : i = k1 := by omega
                  refine v_weak (by simp [vsub]) (ihO (a + 1) f5 nm1 pl1 st1 ss1 sz1 bo1 fc1 (by omega) (by omega) (lt_s hr1 haL) (lt_s hg1 (fun j hj => hgi j (by omega))) hM hFa (by rw [e6] at hcl; exact hcl) hc300 (by rw [e6] at hst; exact hst) (by rw [e6] at hrow; exact hrow) (by rw [e6] at hns; exact hns) hG)
                · refine v_aload_n hx d_MT_seekHomed_77 rfl rfl ?_
                  refine v_get hx cf_MT 2 (by decide) k_MT_25 d_MT_seekHomed_78 (hT.fr2 hG (by decide) (by decide)).m0 (hT.fr2 hG (by decide) (by decide)).f0 rfl ?_
                  refine v_getN hx cf_Fa 3 (by decide) kN_MT_185 d_MT_seekHomed_81 hFa.m0 hFa.f0 rfl ?_
                  refine v_sipush (v := (nI 300)) hx d_MT_seekHomed_84 rfl ?_
                  refine n_icmp_lt (tgt := 92) hx d_MT_seekHomed_87 (by decide) (by omega) (by omega) (fun c87 => ?_) (fun c87 => ?_)
                  · have hfPa : fP (qP (bout (hNx nx1 ou1 lo1 n1) k1 (hQ0 lo1 n1) a) a) := hok.2 _ (qP_mem haL)
                    generalize hfa : dec (qP (bout (hNx nx1 ou1 lo1 n1) k1 (hQ0 lo1 n1) a) a) = lf
                    have hlf : fOK lf 12 := by rw [← hfa]; exact hfPa.1
                    have hrf : rowAt ss1 sz1 a lf := by rw [← hfa, ← hpa]; exact hrow a (by omega)
                    generalize hl : ffol (fun s => ou1 (s * 4 + i)) (fun s => lo1 (nx1 (s * 4 + i))) n1 lf lf.length = l
                    have hlo12 : fOK l 12 := by rw [← hl]; exact hOK hA1 hn12 hlo hlf (by omega)
                    have hnx : (hNx nx1 ou1 lo1 n1) (qP (bout (hNx nx1 ou1 lo1 n1) k1 (hQ0 lo1 n1) a) a) i = enc l := by show enc (ffol (fun s => ou1 (s * 4 + i)) (fun s => lo1 (nx1 (s * 4 + i))) n1 (dec (qP (bout (hNx nx1 ou1 lo1 n1) k1 (hQ0 lo1 n1) a) a)) (dec (qP (bout (hNx nx1 ou1 lo1 n1) k1 (hQ0 lo1 n1) a) a)).length) = enc l; rw [hfa, hl]
                    have hbd : (hBad nx1 ou1 lo1 n1) (qP (bout (hNx nx1 ou1 lo1 n1) k1 (hQ0 lo1 n1) a) a) i ↔ sing l = true := by unfold hBad; rw [hnx, dec_enc hlo12]
                    have e5 : (bin (hNx nx1 ou1 lo1 n1) (bout (hNx nx1 ou1 lo1 n1) k1 (hQ0 lo1 n1) a) a (i + 1)) = qr (bin (hNx nx1 ou1 lo1 n1) (bout (hNx nx1 ou1 lo1 n1) k1 (hQ0 lo1 n1) a) a i) (enc l) a i := by rw [← hnx]; rfl
                    refine v_aload_n hx d_MT_seekHomed_92 rfl rfl ?_
                    refine v_get hx cf_MT 2 (by decide) k_MT_25 d_MT_seekHomed_93 (hT.fr2 hG (by decide) (by decide)).m0 (hT.fr2 hG (by decide) (by decide)).f0 rfl ?_
                    refine v_aload_n hx d_MT_seekHomed_96 rfl rfl ?_
                    refine v_iload_n hx d_MT_seekHomed_97 rfl rfl ?_
                    refine v_iload hx d_MT_seekHomed_98 rfl ?_
                    refine v_callV (as := [.ref (Ba 0), .int (nI a), .int (nI i)]) (q := (R_Fa, T_Fa, 4)) hx (c_Fa_follow hFa (hM1.fr2 hG hi1 hi2) hi2 hA1 hn12 hlo a i (by omega) hrf hlf (by omega) (by omega)) cy_Fa_follow k_MT_186 ki_Fa_follow kl_Fa_follow d_MT_seekHomed_100 (by decide) (ci := 0) rfl hFa.m0 hFa.f0 (by decide) rfl rfl (Nat.le_of_ble_eq_true rfl) (fun v6 L f6 p6 => ?_)
                    obtain ⟨rfl, rfl, ⟨ss6, sz6, bo6, hFa6, hR6, hj6, ht6⟩, hF6⟩ := p6
                    rw [hl] at hR6
                    have hG := hG.r hF6
                    have hM6 := hM.fr hF6 (by decide)
                    have hrow6 : ∀ t, t < fc1 → rowAt ss6 sz6 t (dec (qP (bin (hNx nx1 ou1 lo1 n1) (bout (hNx nx1 ou1 lo1 n1) k1 (hQ0 lo1 n1) a) a i) t)) ∧ fOK (dec (qP (bin (hNx nx1 ou1 lo1 n1) (bout (hNx nx1 ou1 lo1 n1) k1 (hQ0 lo1 n1) a) a i) t)) 12 := fun t ht => by
                      have h1 := hrow t (by omega)
                      have h2 := (hoki.2 _ (qP_mem (show t < (bin (hNx nx1 ou1 lo1 n1) (bout (hNx nx1 ou1 lo1 n1) k1 (hQ0 lo1 n1) a) a i).length by omega))).1
                      have h3 := h2.len
                      exact ⟨⟨(ht6 t (by omega)).trans h1.1, fun j hj => (hj6 _ (by omega)).trans (h1.2 j hj)⟩, h2⟩
                    refine v_aload_n hx d_MT_seekHomed_103 rfl rfl ?_
                    refine v_get hx cf_MT 2 (by decide) k_MT_25 d_MT_seekHomed_104 (hT.fr2 hG (by decide) (by decide)).m0 (hT.fr2 hG (by decide) (by decide)).f0 rfl ?_
                    refine v_callV (as := []) (q := (R_Fa, T_Fa, 4)) hx (c_Fa_openOneIsKnown hFa6 hR6 hlo12 (by omega) hrow6) cy_Fa_openOneIsKnown k_MT_190 ki_Fa_openOneIsKnown kl_Fa_openOneIsKnown d_MT_seekHomed_107 (by decide) (ci := 0) rfl hFa6.m0 hFa6.f0 (by decide) rfl rfl (Nat.le_of_ble_eq_true rfl) (fun v7 L f6 p7 => ?_)
                    obtain ⟨⟨kn, rfl, hkn⟩, rfl, rfl⟩ := p7
                    have hkm : (kn = true ↔ enc l ∈ qPs (bin (hNx nx1 ou1 lo1 n1) (bout (hNx nx1 ou1 lo1 n1) k1 (hQ0 lo1 n1) a) a i)) := by
                      rw [hkn]
                      constructor
                      · rintro ⟨t, h1, h2⟩
                        have h3 := (hoki.2 _ (qP_mem (show t < (bin (hNx nx1 ou1 lo1 n1) (bout (hNx nx1 ou1 lo1 n1) k1 (hQ0 lo1 n1) a) a i).length by omega))).2
                        rw [← h2, h3]
                        exact qP_mem (by omega)
                      · intro h
                        obtain ⟨t, h1, h2⟩ := qP_ex h
                        exact ⟨t, by omega, by rw [h2, dec_enc hlo12]⟩
                    refine v_if_eq (tgt := 116) hx d_MT_seekHomed_110 (by decide) (fun c110 => ?_) (fun c110 => ?_)
                    · have hnk : enc l ∉ qPs (bin (hNx nx1 ou1 lo1 n1) (bout (hNx nx1 ou1 lo1 n1) k1 (hQ0 lo1 n1) a) a i) := fun h => by have := hkm.mpr h; rw [(bI_0 kn).mp c110] at this; cases this
                      have e7 : (bin (hNx nx1 ou1 lo1 n1) (bout (hNx nx1 ou1 lo1 n1) k1 (hQ0 lo1 n1) a) a (i + 1)) = (bin (hNx nx1 ou1 lo1 n1) (bout (hNx nx1 ou1 lo1 n1) k1 (hQ0 lo1 n1) a) a i) ++ [(enc l, a, i)] := by rw [e5]; exact if_neg hnk
                      refine v_aload_n hx d_MT_seekHomed_116 rfl rfl ?_
                      refine v_get hx cf_MT 1 (by decide) k_MT_18 d_MT_seekHomed_117 (hT.fr2 hG (by decide) (by decide)).m0 (hT.fr2 hG (by decide) (by decide)).f0 rfl ?_
                      refine v_iload_n hx d_MT_seekHomed_120 rfl rfl ?_
                      refine v_iload hx d_MT_seekHomed_121 rfl ?_
                      refine v_callV (as := [.int (nI a), .int (nI i)]) (q := (R_Se, T_Se, 4)) hx (c_Se_note hM6 a i (by omega)) cy_Se_note k_MT_166 ki_Se_note kl_Se_note d_MT_seekHomed_123 (by decide) (ci := 2) rfl hM6.m0 hM6.f0 (by decide) rfl rfl (Nat.le_of_ble_eq_true rfl) (fun v8 L f7 p8 => ?_)
                      obtain ⟨rfl, rfl, hM7, hF7⟩ := p8
                      have hG := hG.l hF7
                      have hFa7 := hFa6.fr hF7 (by decide)
                      refine v_istore_n (lv' := [some (.ref (A 0)), some (.ref (Ba 0)), some (.int (nI fc1)), some (.int (nI a)), some (.int (nI i))]) hx d_MT_seekHomed_126 rfl (by decide) rfl ?_
                      refine v_aload_n hx d_MT_seekHomed_127 rfl rfl ?_
                      refine v_get hx cf_MT 2 (by decide) k_MT_25 d_MT_seekHomed_128 (hT.fr2 hG (by decide) (by decide)).m0 (hT.fr2 hG (by decide) (by decide)).f0 rfl ?_
                      refine v_callV (as := []) (q := (R_Fa, T_Fa, 4)) hx (c_Fa_openOneIsSingles hFa7 hR6 hlo12 (by omega)) cy_Fa_openOneIsSingles k_MT_179 ki_Fa_openOneIsSingles kl_Fa_openOneIsSingles d_MT_seekHomed_131 (by decide) (ci := 0) rfl hFa7.m0 hFa7.f0 (by decide) rfl rfl (Nat.le_of_ble_eq_true rfl) (fun v9 L f7 p9 => ?_)
                      obtain ⟨rfl, rfl, rfl⟩ := p9
                      refine v_if_eq (tgt := 139) hx d_MT_seekHomed_134 (by decide) (fun c134 => ?_) (fun c134 => ?_)
                      · have hsl : sing l = false := (bI_0 _).mp c134
                        refine v_aload_n hx d_MT_seekHomed_139 rfl rfl ?_
                        refine v_get hx cf_MT 2 (by decide) k_MT_25 d_MT_seekHomed_140 (hT.fr2 hG (by decide) (by decide)).m0 (hT.fr2 hG (by decide) (by decide)).f0 rfl ?_
                        refine v_callV (as := []) (q := (R_Fa, T_Fa, 4)) hx (c_Fa_keepOpenOne hFa7) cy_Fa_keepOpenOne k_MT_182 ki_Fa_keepOpenOne kl_Fa_keepOpenOne d_MT_seekHomed_143 (by decide) (ci := 0) rfl hFa7.m0 hFa7.f0 (by decide) rfl rfl (Nat.le_of_ble_eq_true rfl) (fun v10 L f8 p10 => ?_)
                        obtain ⟨rfl, rfl, hFa8, hF8⟩ := p10
                        have hG := hG.r hF8
                        have hM8 := hM7.fr hF8 (by decide)
                        refine n_iinc (lv' := [some (.ref (A 0)), some (.ref (Ba 0)), some (.int (nI fc1)), some (.int (nI a)), some (.int (nI (i + 1)))]) hx d_MT_seekHomed_146 rfl (by decide) rfl ?_
                        refine v_goto (tgt := 68) hx d_MT_seekHomed_149 (by decide) ?_
                        refine v_weak (by simp [vsub]) (ih (i + 1) f8 nm1 pl1 _ ss6 sz6 bo6 (fc1 + 1) (by omega) (by omega) (lt_s hgi (fun z => by rw [hbd.mp z] at hsl; cases hsl)) hM8 hFa8 (by rw [e7, List.length_append, ← hcl]; rfl) (by omega) ?_ ?_ ?_ hG)
                        · intro t ht
                          rw [e7] at ht ⊢
                          rw [List.length_append, ← hcl] at ht
                          rcases Nat.lt_succ_iff_lt_or_eq.mp (show t < fc1 + 1 from ht) with e | e
                          · rw [va_up_ne _ _ (by omega), qF_old (by omega), qB_old (by omega)]; exact hst t (by omega)
                          · subst e; rw [va_up_self]; rw [hcl, qF_new, qB_new]
                        · intro t ht
                          rw [e7] at ht ⊢
                          rw [List.length_append, ← hcl] at ht
                          rcases Nat.lt_succ_iff_lt_or_eq.mp (show t < fc1 + 1 from ht) with e | e
                          · rw [qP_old (by omega)]; exact (hrow6 t e).1
                          · subst e; rw [hcl, qP_new, dec_enc hlo12, ← hcl]; exact hR6
                        · intro t ht
                          rw [e7] at ht ⊢
                          rw [List.length_append, ← hcl] at ht
                          rcases Nat.lt_succ_iff_lt_or_eq.mp (show t < fc1 + 1 from ht) with e | e
                          · rw [qP_old (by omega)]; exact hns t (by omega)
                          · subst e; rw [hcl, qP_new, dec_enc hlo12]; exact hsl
                      · have hsl : sing l = true := Bool.of_not_eq_false (fun z => c134 ((bI_0 _).mpr z))
                        have hTell := tell_1 hst hoki.1 (by omega) (show a < (bin (hNx nx1 ou1 lo1 n1) (bout (hNx nx1 ou1 lo1 n1) k1 (hQ0 lo1 n1) a) a i).length by omega) (show i < 4 by omega)
                        rw [← hcl, qW_sub hok.1 (bin_sub (hNx nx1 ou1 lo1 n1) (bout (hNx nx1 ou1 lo1 n1) k1 (hQ0 lo1 n1) a) a i) haL] at hTell
                        refine v_iload_n hx d_MT_seekHomed_137 rfl rfl ?_
                        exact v_iret hx hr d_MT_seekHomed_138 ⟨rfl, hG, ⟨ss6, sz6, bo6, fc1, hFa7⟩, Or.inr ⟨fc1, fc1 + 1, _, nm1, pl1, _, _, rfl, hM7, hTell, Or.inr ⟨hsg, a, i, ⟨⟨lt_le hr1 haL, hg1, by omega, hbd.mpr hsl, hgi⟩, by omega⟩, rfl⟩⟩⟩
                    · refine v_goto (tgt := 146) hx d_MT_seekHomed_113 (by decide) ?_
                      refine n_iinc (lv' := [some (.ref (A 0)), some (.ref (Ba 0)), none, some (.int (nI a)), some (.int (nI (i + 1)))]) hx d_MT_seekHomed_146 rfl (by decide) rfl ?_
                      refine v_goto (tgt := 68) hx d_MT_seekHomed_149 (by decide) ?_
                      have hkt : kn = true := Bool.of_not_eq_false (fun z => c110 ((bI_0 _).mpr z))
                      have hmem := hkm.mp hkt
                      have e7 : (bin (hNx nx1 ou1 lo1 n1) (bout (hNx nx1 ou1 lo1 n1) k1 (hQ0 lo1 n1) a) a (i + 1)) = (bin (hNx nx1 ou1 lo1 n1) (bout (hNx nx1 ou1 lo1 n1) k1 (hQ0 lo1 n1) a) a i) := by rw [e5]; exact if_pos hmem
                      obtain ⟨t, h1, h2⟩ := qP_ex hmem
                      have hnb := hns t h1
                      rw [h2, dec_enc hlo12] at hnb
                      refine v_weak (by simp [vsub]) (ih (i + 1) f6 nm1 pl1 st1 ss6 sz6 bo6 fc1 (by omega) (by omega) (lt_s hgi (fun z => by rw [hbd.mp z] at hnb; cases hnb)) hM6 hFa6 (by rw [e7]; exact hcl) hc300 (by rw [e7]; exact hst) (by rw [e7]; exact fun t ht => (hrow6 t (by omega)).1) (by rw [e7]; exact hns) hG)
                  · refine v_iconst (v := (-1)) hx d_MT_seekHomed_90 rfl ?_
                    exact v_iret hx hr d_MT_seekHomed_91 ⟨rfl, hG, ⟨ss1, sz1, bo1, fc1, hFa⟩, Or.inl ⟨hsg, Hom.none_at hi hg1 hgi (by omega), rfl, nm1, pl1, st1, fc1, hM⟩⟩
            exact H68 _ 0 f5 nm1 pl1 st1 ss1 sz1 bo1 fc1 (Nat.lt_succ_self _) (Nat.zero_le _) (fun _ h => absurd h (Nat.not_lt_zero _)) hM hFa hcl hc300 hst hrow hns hG
    refine v_weak (by simp [vsub]) (H47 _ 0 f4 nm1 pl _ ss2 sz2 bo 1 (Nat.lt_succ_self _) (Nat.zero_le _) (fun _ h => absurd h (Nat.not_lt_zero _)) (fun _ h => absurd h (Nat.not_lt_zero _)) hS4 hFa4 rfl (by decide) ?_ ?_ ?_ hG)
    · intro t ht
      have e : t = 0 := Nat.lt_one_iff.mp ht
      subst e; rw [va_up_self]; rfl
    · intro t ht
      have e : t = 0 := Nat.lt_one_iff.mp ht
      subst e
      have e2 : dec (qP (bout (hNx nx1 ou1 lo1 n1) k1 (hQ0 lo1 n1) 0) 0) = [alm lo1 n1] := dec_enc hal
      rw [e2]; exact hR2
    · intro t ht
      have e : t = 0 := Nat.lt_one_iff.mp ht
      subst e
      have e2 : dec (qP (bout (hNx nx1 ou1 lo1 n1) k1 (hQ0 lo1 n1) 0) 0) = [alm lo1 n1] := dec_enc hal
      rw [e2]; exact hsg
  · have hsg : sing [alm lo1 n1] = true := Bool.of_not_eq_false (fun z => c33 ((bI_0 _).mpr z))
    refine v_iload_n hx d_MT_seekHomed_36 rfl rfl ?_
    exact v_iret hx hr d_MT_seekHomed_37 ⟨rfl, hG, ⟨ss2, sz2, bo, 0, hFa3⟩, Or.inr ⟨0, 1, [], nm1, pl, _, _, rfl, hS3, ⟨by decide, by decide, fun a h0 h1 => absurd h1 (by omega), fun a h1 => by have e : a = 0 := Nat.lt_one_iff.mp h1; subst e; rw [va_up_self]; decide, rfl⟩, Or.inl ⟨hsg, rfl⟩⟩⟩
