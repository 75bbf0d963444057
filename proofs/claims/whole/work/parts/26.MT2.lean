theorem lt_le {P : Nat → Prop} {a : Nat} (h : ∀ b, b < a → P b) (ha : P a) : ∀ b, b ≤ a → P b := fun b hb => by
  rcases Nat.lt_or_ge b a with c | c
  · exact h b c
  · have e : b = a := Nat.le_antisymm hb c
    rw [e]; exact ha
set_option maxHeartbeats 4000000 in
set_option maxRecDepth 100000 in
theorem c_MT_seekWitness {G : GT} {L : List Nat} {f : Nat → va_E} {w : Nat → Nat} {A S Fm : Nat → Nat} {c wa : Nat} {mp : Nat → Option Nat} (hT : TbAt G L f w 0 A (S 0) (Fm 0) c wa mp) {nm : Nat → Option Nat} {pl st : Nat → Nat} {sc : Nat} (hS : SeAt G L f w 1 S nm pl st sc) {id1 : Nat} {Ba nx1 ou1 lo1 fi1 : Nat → Nat} {n1 k1 b1 : Nat} (hM1 : MaAt G L f w id1 Ba nx1 ou1 lo1 fi1 n1 k1 b1) {id2 : Nat} {Bb nx2 ou2 lo2 fi2 : Nat → Nat} {n2 k2 b2 : Nat} (hM2 : MaAt G L f w id2 Bb nx2 ou2 lo2 fi2 n2 k2 b2) (hi1 : id1 ≠ 1) (hi2 : id2 ≠ 1) (hA1 : okA nx1 ou1 n1 k1) (hA2 : okA nx2 ou2 n2 k1) (s t : Nat) (hs : s < n1) (ht : t < n2) : Con G y_MT_seekWitness (.code y_MT_seekWitness b_MT_seekWitness 9 (some .int) :: BIG) 3 67 0 0 [.ref (A 0), .ref (Ba 0), .int (nI s), .ref (Bb 0), .int (nI t)] L f (fun v L' f' => L' = L ∧ gF w 1 f f' ∧ (Wit (wNx nx1 nx2) (wBad ou1 ou2) k1 [(s * 40 + t, 0, 0)] none ∧ v = some (.int (-1)) ∧ (∃ (nm : Nat → Option Nat) (pl st : Nat → Nat) (sc : Nat), SeAt G L f' w 1 S nm pl st sc) ∨ ∃ (a i : Nat) (nm : Nat → Option Nat) (pl st : Nat → Nat) (sc : Nat), Wit (wNx nx1 nx2) (wBad ou1 ou2) k1 [(s * 40 + t, 0, 0)] (some (a, i)) ∧ v = some (.int (nI sc)) ∧ SeAt G L f' w 1 S nm pl (va_up st sc (a * 4 + i)) (sc + 1) ∧ SeQ nm pl st sc 1600 (bin (wNx nx1 nx2) (bout (wNx nx1 nx2) k1 [(s * 40 + t, 0, 0)] a) a i) ∧ qOK (bin (wNx nx1 nx2) (bout (wNx nx1 nx2) k1 [(s * 40 + t, 0, 0)] a) a i) 1600)) := by
  refine con_of (cc := b_MT_seekWitness) (mL := 9) (lv := [some (.ref (A 0)), some (.ref (Ba 0)), some (.int (nI s)), some (.ref (Bb 0)), some (.int (nI t)), none, none, none, none]) (by decide) (by intro w hw; simp at hw; rcases hw with rfl | rfl | rfl | rfl | rfl <;> rfl) (by first | exact Nat.le_of_ble_eq_true rfl | decide) rfl ?_
  intro x hx hr hin
  have hF := gF.rf (w := w) (id := 1) (f := f)
  have hA1_ := hA1
  have hA2_ := hA2
  obtain ⟨a1, a2, a3, a4, a5⟩ := hA1_
  obtain ⟨d1, d2, d3, d4, d5⟩ := hA2_
  have hlt := wP_lt hA1 hA2
  have hnP := wP_nx hA1 hA2
  have hP0 : wP n1 n2 (s * 40 + t) := wP_mk hs ht d2
  have hq0 : qOK [(s * 40 + t, 0, 0)] 1600 := q0_ok (hlt _ hP0)
  have hI0 : qI (wP n1 n2) [(s * 40 + t, 0, 0)] := q0_I hP0
  refine v_aload_n hx d_MT_seekWitness_0 rfl rfl ?_
  refine v_get hx cf_MT 1 (by decide) k_MT_18 d_MT_seekWitness_1 (hT.fr hF (by decide)).m0 (hT.fr hF (by decide)).f0 rfl ?_
  refine v_sipush (v := (nI 1600)) hx d_MT_seekWitness_4 rfl ?_
  refine v_callV (as := [.int (nI 1600)]) (q := (R_Se, T_Se, 4)) hx (c_Se_begin hS 1600 (by decide)) cy_Se_begin k_MT_156 ki_Se_begin kl_Se_begin d_MT_seekWitness_7 (by decide) (ci := 2) rfl hS.m0 hS.f0 (by decide) rfl rfl (Nat.le_of_ble_eq_true rfl) (fun v1 L f1 p1 => ?_)
  obtain ⟨rfl, rfl, ⟨nm1, hS1, hQ1⟩, hF1⟩ := p1
  have hF := hF1
  refine v_aload_n hx d_MT_seekWitness_10 rfl rfl ?_
  refine v_get hx cf_MT 1 (by decide) k_MT_18 d_MT_seekWitness_11 (hT.fr hF (by decide)).m0 (hT.fr hF (by decide)).f0 rfl ?_
  refine v_iload_n hx d_MT_seekWitness_14 rfl rfl ?_
  refine v_iload hx d_MT_seekWitness_15 rfl ?_
  refine v_callS (as := [.int (nI s), .int (nI t)]) hx (c_MT_pairOf _ _) cy_MT_pairOf k_MT_159 ks_MT_pairOf d_MT_seekWitness_17 (by decide) (by decide) rfl rfl (Nat.le_of_ble_eq_true rfl) (fun v2 L f1 p2 => ?_)
  obtain ⟨rfl, rfl, rfl⟩ := p2
  refine v_iconst (v := (nI 0)) hx d_MT_seekWitness_20 rfl ?_
  refine v_iconst (v := (nI 0)) hx d_MT_seekWitness_21 rfl ?_
  refine v_callV (as := [.int (nI (s * 40 + t)), .int (nI 0), .int (nI 0)]) (q := (R_Se, T_Se, 4)) hx (c_Se_reach hS1 hQ1 (qOK_nil _) (s * 40 + t) 0 0 (by decide) (hlt _ hP0) (Or.inr ⟨rfl, rfl⟩) (by decide)) cy_Se_reach k_MT_162 ki_Se_reach kl_Se_reach d_MT_seekWitness_22 (by decide) (ci := 2) rfl hS1.m0 hS1.f0 (by decide) rfl rfl (Nat.le_of_ble_eq_true rfl) (fun v3 L f2 p3 => ?_)
  obtain ⟨rfl, rfl, ⟨nm2, pl2, st2, hS2, hQ2⟩, hF2⟩ := p3
  have hF := hF.tr hF2
  refine v_iconst (v := (nI 0)) hx d_MT_seekWitness_25 rfl ?_
  refine v_istore (lv' := [some (.ref (A 0)), some (.ref (Ba 0)), some (.int (nI s)), some (.ref (Bb 0)), some (.int (nI t)), some (.int (nI 0)), none, none, none]) hx d_MT_seekWitness_26 (by decide) rfl ?_
  have H28 : ∀ (fu : Nat) (a : Nat) (f3 : Nat → va_E) (nm1 : Nat → Option Nat) (pl1 : Nat → Nat) (st1 : Nat → Nat) (sc1 : Nat), 1600 - a < fu → (a ≤ 1600) → (∀ b, b < a → b < (bout (wNx nx1 nx2) k1 [(s * 40 + t, 0, 0)] b).length) → (∀ b, b < a → ∀ j, j < k1 → ¬ (wBad ou1 ou2) (qP (bout (wNx nx1 nx2) k1 [(s * 40 + t, 0, 0)] b) b) j) → (SeAt G L f3 w 1 S nm1 pl1 st1 sc1) → (SeQ nm1 pl1 st1 sc1 1600 (bout (wNx nx1 nx2) k1 [(s * 40 + t, 0, 0)] a)) → (gF w 1 f f3) → V G { frames := 3, cells := 0, slots := 0, locals := 67 } 9 x L f3 0 0 [some (.ref (A 0)), some (.ref (Ba 0)), some (.int (nI s)), some (.ref (Bb 0)), some (.int (nI t)), some (.int (nI a)), none, none, none] 28 [] := by
    intro fu
    induction fu with
    | zero => intro a f3 nm1 pl1 st1 sc1 hm; exact absurd hm (Nat.not_lt_zero _)
    | succ fu ih =>
      intro a f3 nm1 pl1 st1 sc1 hm ha0 hr1 hg1 hM hQ hF
      have ihO := ih
      have hok := bout_ok hq0 hI0 a4 hlt hnP a hr1
      have hlen := hok.1.len
      have hce := hQ.1
      refine v_iload hx d_MT_seekWitness_28 rfl ?_
      refine v_aload_n hx d_MT_seekWitness_30 rfl rfl ?_
      refine v_get hx cf_MT 1 (by decide) k_MT_18 d_MT_seekWitness_31 (hT.fr hF (by decide)).m0 (hT.fr hF (by decide)).f0 rfl ?_
      refine v_getN hx cf_Se 3 (by decide) kN_MT_101 d_MT_seekWitness_34 hM.m0 hM.f0 rfl ?_
      refine n_icmp_ge (tgt := 161) hx d_MT_seekWitness_37 (by decide) (by omega) (by omega) (fun c37 => ?_) (fun c37 => ?_)
      · refine v_iconst (v := (-1)) hx d_MT_seekWitness_161 rfl ?_
        exact v_iret hx hr d_MT_seekWitness_162 ⟨rfl, hF, Or.inl ⟨⟨a, ⟨by omega, hr1⟩, hg1⟩, rfl, nm1, pl1, st1, sc1, hM⟩⟩
      · refine v_iload hx d_MT_seekWitness_40 rfl ?_
        refine v_sipush (v := (nI 1600)) hx d_MT_seekWitness_42 rfl ?_
        refine n_icmp_ge (tgt := 161) hx d_MT_seekWitness_45 (by decide) (by omega) (by omega) (fun c45 => ?_) (fun c45 => ?_)
        · exact absurd c45 (by omega)
        · have haL : a < (bout (wNx nx1 nx2) k1 [(s * 40 + t, 0, 0)] a).length := by omega
          have hpa : pl1 a = qP (bout (wNx nx1 nx2) k1 [(s * 40 + t, 0, 0)] a) a := (hQ.2.1 a (by omega)).1
          have hPa : wP n1 n2 (pl1 a) := by rw [hpa]; exact hok.2 _ (qP_mem haL)
          have hPa1 := hPa.1
          have hPa2 := hPa.2
          have hpl := hlt _ hPa
          refine v_aload_n hx d_MT_seekWitness_48 rfl rfl ?_
          refine v_get hx cf_MT 1 (by decide) k_MT_18 d_MT_seekWitness_49 (hT.fr hF (by decide)).m0 (hT.fr hF (by decide)).f0 rfl ?_
          refine v_iload hx d_MT_seekWitness_52 rfl ?_
          refine v_callV (as := [.int (nI a)]) (q := (R_Se, T_Se, 4)) hx (c_Se_placeAt hM a (by omega)) cy_Se_placeAt k_MT_105 ki_Se_placeAt kl_Se_placeAt d_MT_seekWitness_54 (by decide) (ci := 2) rfl hM.m0 hM.f0 (by decide) rfl rfl (Nat.le_of_ble_eq_true rfl) (fun v4 L f3 p4 => ?_)
          obtain ⟨rfl, rfl, rfl⟩ := p4
          refine v_callS (as := [.int (nI (pl1 a))]) hx (c_MT_firstOf (pl1 a) (by omega)) cy_MT_firstOf k_MT_132 ks_MT_firstOf d_MT_seekWitness_57 (by decide) (by decide) rfl rfl (Nat.le_of_ble_eq_true rfl) (fun v5 L f3 p5 => ?_)
          obtain ⟨rfl, rfl, rfl⟩ := p5
          refine v_istore (lv' := [some (.ref (A 0)), some (.ref (Ba 0)), some (.int (nI s)), some (.ref (Bb 0)), some (.int (nI t)), some (.int (nI a)), some (.int (nI (pl1 a / 40))), none, none]) hx d_MT_seekWitness_60 (by decide) rfl ?_
          refine v_aload_n hx d_MT_seekWitness_62 rfl rfl ?_
          refine v_get hx cf_MT 1 (by decide) k_MT_18 d_MT_seekWitness_63 (hT.fr hF (by decide)).m0 (hT.fr hF (by decide)).f0 rfl ?_
          refine v_iload hx d_MT_seekWitness_66 rfl ?_
          refine v_callV (as := [.int (nI a)]) (q := (R_Se, T_Se, 4)) hx (c_Se_placeAt hM a (by omega)) cy_Se_placeAt k_MT_105 ki_Se_placeAt kl_Se_placeAt d_MT_seekWitness_68 (by decide) (ci := 2) rfl hM.m0 hM.f0 (by decide) rfl rfl (Nat.le_of_ble_eq_true rfl) (fun v6 L f3 p6 => ?_)
          obtain ⟨rfl, rfl, rfl⟩ := p6
          refine v_callS (as := [.int (nI (pl1 a))]) hx (c_MT_secondOf (pl1 a) (by omega)) cy_MT_secondOf k_MT_139 ks_MT_secondOf d_MT_seekWitness_71 (by decide) (by decide) rfl rfl (Nat.le_of_ble_eq_true rfl) (fun v7 L f3 p7 => ?_)
          obtain ⟨rfl, rfl, rfl⟩ := p7
          refine v_istore (lv' := [some (.ref (A 0)), some (.ref (Ba 0)), some (.int (nI s)), some (.ref (Bb 0)), some (.int (nI t)), some (.int (nI a)), some (.int (nI (pl1 a / 40))), some (.int (nI (pl1 a % 40))), none]) hx d_MT_seekWitness_74 (by decide) rfl ?_
          refine v_iconst (v := (nI 0)) hx d_MT_seekWitness_76 rfl ?_
          refine v_istore (lv' := [some (.ref (A 0)), some (.ref (Ba 0)), some (.int (nI s)), some (.ref (Bb 0)), some (.int (nI t)), some (.int (nI a)), some (.int (nI (pl1 a / 40))), some (.int (nI (pl1 a % 40))), some (.int (nI 0))]) hx d_MT_seekWitness_77 (by decide) rfl ?_
          have H79 : ∀ (fu : Nat) (i : Nat) (f4 : Nat → va_E) (nm2 : Nat → Option Nat) (pl2 : Nat → Nat) (st2 : Nat → Nat) (sc2 : Nat), k1 - i < fu → (i ≤ k1) → (∀ j, j < i → ¬ (wBad ou1 ou2) (pl1 a) j) → (SeAt G L f4 w 1 S nm2 pl2 st2 sc2) → (SeQ nm2 pl2 st2 sc2 1600 (bin (wNx nx1 nx2) (bout (wNx nx1 nx2) k1 [(s * 40 + t, 0, 0)] a) a i)) → (gF w 1 f f4) → V G { frames := 3, cells := 0, slots := 0, locals := 67 } 9 x L f4 0 0 [some (.ref (A 0)), some (.ref (Ba 0)), some (.int (nI s)), some (.ref (Bb 0)), some (.int (nI t)), some (.int (nI a)), some (.int (nI (pl1 a / 40))), some (.int (nI (pl1 a % 40))), some (.int (nI i))] 79 [] := by
            intro fu
            induction fu with
            | zero => intro i f4 nm2 pl2 st2 sc2 hm; exact absurd hm (Nat.not_lt_zero _)
            | succ fu ih =>
              intro i f4 nm2 pl2 st2 sc2 hm hi hgi hM2_ hQ2_ hF
              have hoki := bin_ok hok.1 hok.2 haL a4 hlt hnP i hi
              have hlen2 := hoki.1.len
              have hce2 := hQ2_.1
              have hbl := bin_len (wNx nx1 nx2) (bout (wNx nx1 nx2) k1 [(s * 40 + t, 0, 0)] a) a i
              refine v_iload hx d_MT_seekWitness_79 rfl ?_
              refine v_aload_n hx d_MT_seekWitness_81 rfl rfl ?_
              refine v_getN hx cf_Ma 5 (by decide) kN_MT_85 d_MT_seekWitness_82 (hM1.fr hF hi1).m0 (hM1.fr hF hi1).f0 rfl ?_
              refine n_icmp_ge (tgt := 155) hx d_MT_seekWitness_85 (by decide) (by omega) (by omega) (fun c85 => ?_) (fun c85 => ?_)
              · refine n_iinc (lv' := [some (.ref (A 0)), some (.ref (Ba 0)), some (.int (nI s)), some (.ref (Bb 0)), some (.int (nI t)), some (.int (nI (a + 1))), some (.int (nI (pl1 a / 40))), some (.int (nI (pl1 a % 40))), some (.int (nI i))]) hx d_MT_seekWitness_155 rfl (by decide) rfl ?_
                refine v_goto (tgt := 28) hx d_MT_seekWitness_158 (by decide) ?_
                have e6 : i = k1 := by omega
                refine v_weak (by simp [vsub]) (ihO (a + 1) f4 nm2 pl2 st2 sc2 (by omega) (by omega) (lt_s hr1 haL) (lt_s hg1 (fun j hj => by rw [← hpa]; exact hgi j (by omega))) hM2_ (by rw [e6] at hQ2_; exact hQ2_) hF)
              · have hxa := a5 (pl1 a / 40) i hPa1 (by omega)
                have hxb := d5 (pl1 a % 40) i hPa2 (by omega)
                refine v_aload_n hx d_MT_seekWitness_88 rfl rfl ?_
                refine v_iload hx d_MT_seekWitness_89 rfl ?_
                refine v_iload hx d_MT_seekWitness_91 rfl ?_
                refine v_callV (as := [.int (nI (pl1 a / 40)), .int (nI i)]) (q := (R_Ma, T_Ma, 7)) hx (c_Ma_outputOf (hM1.fr hF hi1) (pl1 a / 40) i (by omega) (by omega)) cy_Ma_outputOf k_MT_64 ki_Ma_outputOf kl_Ma_outputOf d_MT_seekWitness_93 (by decide) (ci := 1) rfl (hM1.fr hF hi1).m0 (hM1.fr hF hi1).f0 (by decide) rfl rfl (Nat.le_of_ble_eq_true rfl) (fun v4 L f4 p4 => ?_)
                obtain ⟨rfl, rfl, rfl⟩ := p4
                refine v_aload_n hx d_MT_seekWitness_96 rfl rfl ?_
                refine v_iload hx d_MT_seekWitness_97 rfl ?_
                refine v_iload hx d_MT_seekWitness_99 rfl ?_
                refine v_callV (as := [.int (nI (pl1 a % 40)), .int (nI i)]) (q := (R_Ma, T_Ma, 7)) hx (c_Ma_outputOf (hM2.fr hF hi2) (pl1 a % 40) i (by omega) (by omega)) cy_Ma_outputOf k_MT_64 ki_Ma_outputOf kl_Ma_outputOf d_MT_seekWitness_101 (by decide) (ci := 1) rfl (hM2.fr hF hi2).m0 (hM2.fr hF hi2).f0 (by decide) rfl rfl (Nat.le_of_ble_eq_true rfl) (fun v5 L f4 p5 => ?_)
                obtain ⟨rfl, rfl, rfl⟩ := p5
                refine n_icmp_eq (tgt := 119) hx d_MT_seekWitness_104 (by decide) (by omega) (by omega) (fun c104 => ?_) (fun c104 => ?_)
                · refine v_aload_n hx d_MT_seekWitness_119 rfl rfl ?_
                  refine v_get hx cf_MT 1 (by decide) k_MT_18 d_MT_seekWitness_120 (hT.fr hF (by decide)).m0 (hT.fr hF (by decide)).f0 rfl ?_
                  refine v_aload_n hx d_MT_seekWitness_123 rfl rfl ?_
                  refine v_iload hx d_MT_seekWitness_124 rfl ?_
                  refine v_iload hx d_MT_seekWitness_126 rfl ?_
                  refine v_callV (as := [.int (nI (pl1 a / 40)), .int (nI i)]) (q := (R_Ma, T_Ma, 7)) hx (c_Ma_nextOf (hM1.fr hF hi1) (pl1 a / 40) i (by omega) (by omega)) cy_Ma_nextOf k_MT_60 ki_Ma_nextOf kl_Ma_nextOf d_MT_seekWitness_128 (by decide) (ci := 1) rfl (hM1.fr hF hi1).m0 (hM1.fr hF hi1).f0 (by decide) rfl rfl (Nat.le_of_ble_eq_true rfl) (fun v6 L f4 p6 => ?_)
                  obtain ⟨rfl, rfl, rfl⟩ := p6
                  refine v_aload_n hx d_MT_seekWitness_131 rfl rfl ?_
                  refine v_iload hx d_MT_seekWitness_132 rfl ?_
                  refine v_iload hx d_MT_seekWitness_134 rfl ?_
                  refine v_callV (as := [.int (nI (pl1 a % 40)), .int (nI i)]) (q := (R_Ma, T_Ma, 7)) hx (c_Ma_nextOf (hM2.fr hF hi2) (pl1 a % 40) i (by omega) (by omega)) cy_Ma_nextOf k_MT_60 ki_Ma_nextOf kl_Ma_nextOf d_MT_seekWitness_136 (by decide) (ci := 1) rfl (hM2.fr hF hi2).m0 (hM2.fr hF hi2).f0 (by decide) rfl rfl (Nat.le_of_ble_eq_true rfl) (fun v7 L f4 p7 => ?_)
                  obtain ⟨rfl, rfl, rfl⟩ := p7
                  refine v_callS (as := [.int (nI (nx1 (pl1 a / 40 * 4 + i))), .int (nI (nx2 (pl1 a % 40 * 4 + i)))]) hx (c_MT_pairOf _ _) cy_MT_pairOf k_MT_159 ks_MT_pairOf d_MT_seekWitness_139 (by decide) (by decide) rfl rfl (Nat.le_of_ble_eq_true rfl) (fun v8 L f4 p8 => ?_)
                  obtain ⟨rfl, rfl, rfl⟩ := p8
                  refine v_iload hx d_MT_seekWitness_142 rfl ?_
                  refine v_iload hx d_MT_seekWitness_144 rfl ?_
                  refine v_callV (as := [.int (nI (nx1 (pl1 a / 40 * 4 + i) * 40 + nx2 (pl1 a % 40 * 4 + i))), .int (nI a), .int (nI i)]) (q := (R_Se, T_Se, 4)) hx (c_Se_reach hM2_ hQ2_ hoki.1 _ a i (by decide) (hlt _ (hnP _ i hPa (by omega))) (Or.inl (by omega)) (by omega)) cy_Se_reach k_MT_162 ki_Se_reach kl_Se_reach d_MT_seekWitness_146 (by decide) (ci := 2) rfl hM2_.m0 hM2_.f0 (by decide) rfl rfl (Nat.le_of_ble_eq_true rfl) (fun v9 L f5 p9 => ?_)
                  obtain ⟨rfl, rfl, ⟨nm5, pl5, st5, hS5, hQ5⟩, hF5⟩ := p9
                  refine n_iinc (lv' := [some (.ref (A 0)), some (.ref (Ba 0)), some (.int (nI s)), some (.ref (Bb 0)), some (.int (nI t)), some (.int (nI a)), some (.int (nI (pl1 a / 40))), some (.int (nI (pl1 a % 40))), some (.int (nI (i + 1)))]) hx d_MT_seekWitness_149 rfl (by decide) rfl ?_
                  refine v_goto (tgt := 79) hx d_MT_seekWitness_152 (by decide) ?_
                  have e5 : (bin (wNx nx1 nx2) (bout (wNx nx1 nx2) k1 [(s * 40 + t, 0, 0)] a) a (i + 1)) = qr (bin (wNx nx1 nx2) (bout (wNx nx1 nx2) k1 [(s * 40 + t, 0, 0)] a) a i) ((wNx nx1 nx2) (pl1 a) i) a i := by rw [hpa]; rfl
                  refine ih (i + 1) f5 nm5 pl5 st5 _ (by omega) (by omega) (lt_s hgi (fun z => z c104)) hS5 ?_ (hF.tr hF5)
                  rw [e5]
                  exact hQ5
                · refine v_aload_n hx d_MT_seekWitness_107 rfl rfl ?_
                  refine v_get hx cf_MT 1 (by decide) k_MT_18 d_MT_seekWitness_108 (hT.fr hF (by decide)).m0 (hT.fr hF (by decide)).f0 rfl ?_
                  refine v_iload hx d_MT_seekWitness_111 rfl ?_
                  refine v_iload hx d_MT_seekWitness_113 rfl ?_
                  refine v_callV (as := [.int (nI a), .int (nI i)]) (q := (R_Se, T_Se, 4)) hx (c_Se_note hM2_ a i (by omega)) cy_Se_note k_MT_166 ki_Se_note kl_Se_note d_MT_seekWitness_115 (by decide) (ci := 2) rfl hM2_.m0 hM2_.f0 (by decide) rfl rfl (Nat.le_of_ble_eq_true rfl) (fun v10 L f5 p10 => ?_)
                  obtain ⟨rfl, rfl, hM5, hF5⟩ := p10
                  exact v_iret hx hr d_MT_seekWitness_118 ⟨rfl, hF.tr hF5, Or.inr ⟨a, i, nm2, pl2, st2, sc2, ⟨lt_le hr1 haL, hg1, by omega, by rw [← hpa]; exact c104, fun j hj => by rw [← hpa]; exact hgi j hj⟩, rfl, hM5, hQ2_, hoki.1⟩⟩
          exact H79 _ 0 f3 nm1 pl1 st1 sc1 (Nat.lt_succ_self _) (Nat.zero_le _) (fun _ h => absurd h (Nat.not_lt_zero _)) hM hQ hF
  exact H28 _ 0 f2 nm2 pl2 st2 _ (Nat.lt_succ_self _) (Nat.zero_le _) (fun _ h => absurd h (Nat.not_lt_zero _)) (fun _ h => absurd h (Nat.not_lt_zero _)) hS2 hQ2 hF
