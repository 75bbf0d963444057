theorem in_rng {p : Int32} {lo hi : Nat} (hh : hi < 2 ^ 30) (hl : lo < 2 ^ 31) (h1 : ¬ p < nI lo) (h2 : ¬ nI hi < p) : ∃ a, p = nI a ∧ lo ≤ a ∧ a ≤ hi := by
  have e1 : ¬ p.toInt < (nI lo).toInt := fun h => h1 (Int32.lt_iff_toInt_lt.mpr h)
  have e2 : ¬ (nI hi).toInt < p.toInt := fun h => h2 (Int32.lt_iff_toInt_lt.mpr h)
  rw [nI_toInt hl] at e1
  rw [nI_toInt (by omega)] at e2
  obtain ⟨j, hj, e⟩ := vp_in_of (x := p) (n := hi + 1) (vp_in_iff.mpr ⟨by omega, by omega⟩) (by omega)
  subst e
  rw [nI_toInt (by omega)] at e1 e2
  exact ⟨j, rfl, by omega, by omega⟩
theorem not_lo {p : Int32} {lo a : Nat} (h : p < nI lo) (e : p = nI a) (hl : lo < 2 ^ 31) (ha : lo ≤ a) (h2 : a < 2 ^ 31) : False := by
  subst e
  exact absurd ((nI_ltI h2 hl).mp h) (by omega)
theorem not_hi {p : Int32} {hi a : Nat} (h : nI hi < p) (e : p = nI a) (ha : a ≤ hi) (h2 : hi < 2 ^ 31) : False := by
  subst e
  exact absurd ((nI_ltI h2 (by omega)).mp h) (by omega)
theorem okA_new {nx ou : Nat → Nat} {a b : Nat} (ha : 1 ≤ a ∧ a ≤ 40) (hb : 1 ≤ b ∧ b ≤ 4) (h : ∀ s i, s < a → i < b → nx (s * 4 + i) = s ∧ ou (s * 4 + i) = 0) : okA nx ou a b := ⟨ha.1, ha.2, hb.1, hb.2, fun s i hs hi => by rw [(h s i hs hi).1, (h s i hs hi).2]; exact ⟨hs, by decide⟩⟩
theorem okA_up {nx ou : Nat → Nat} {n k s i a b : Nat} (h : okA nx ou n k) (hi : i < k) (ha : a < n) (hb : b < 10) : okA (va_up nx (s * 4 + i) a) (va_up ou (s * 4 + i) b) n k := by
  refine ⟨h.1, h.2.1, h.2.2.1, h.2.2.2.1, fun t j ht hj => ?_⟩
  by_cases e : t * 4 + j = s * 4 + i
  · rw [e, va_up_self, va_up_self]; exact ⟨ha, hb⟩
  · rw [va_up_ne _ _ e, va_up_ne _ _ e]; exact h.2.2.2.2 t j ht hj
theorem some_ix {o : Option Nat} (h : ¬ bI o.isSome = 0) : ∃ j, o = some j := by
  cases o with
  | none => exact absurd rfl h
  | some j => exact ⟨j, rfl⟩
theorem none_ix {o : Option Nat} (h : bI o.isSome = 0) : o = none := by
  cases o with
  | none => rfl
  | some j => exact absurd h (show ¬ (1 : Int32) = 0 by decide)
theorem relM_plus {σ : SG} {n' k' : Nat} {x o : Nat → Nat} : plus σ (gc σ + 1, va_up (gn σ) (gc σ) n', va_up (gk σ) (gc σ) k', va_up (gx σ) (gc σ) x, va_up (go σ) (gc σ) o, gl σ, gd σ) n' k' x o := by
  refine ⟨rfl, fun j hj => ?_, ?_, relW.rf _⟩
  · show relM _ _ _ _ (va_up (gn σ) (gc σ) n' j) (va_up (gk σ) (gc σ) k' j) (va_up (gx σ) (gc σ) x j) (va_up (go σ) (gc σ) o j)
    rw [va_up_ne _ _ (by omega), va_up_ne _ _ (by omega), va_up_ne _ _ (by omega), va_up_ne _ _ (by omega)]
    exact relM.rf
  · show relM _ _ _ _ (va_up (gn σ) (gc σ) n' (gc σ)) (va_up (gk σ) (gc σ) k' (gc σ)) (va_up (gx σ) (gc σ) x (gc σ)) (va_up (go σ) (gc σ) o (gc σ))
    rw [va_up_self, va_up_self, va_up_self, va_up_self]
    exact relM.rf
theorem plus.of {σ σ' : SG} {n k : Nat} {x o x' o' : Nat → Nat} (h : plus σ σ' n k x o) (e : ∀ s i, s < n → i < k → x (s * 4 + i) = x' (s * 4 + i) ∧ o (s * 4 + i) = o' (s * 4 + i)) : plus σ σ' n k x' o' := ⟨h.1, h.2.1, (relM.sym ⟨rfl, rfl, e⟩).tr h.2.2.1, h.2.2.2⟩
set_option maxHeartbeats 4000000 in
set_option maxRecDepth 100000 in
theorem c_MT_clear {G : GT} {L : List Nat} {f : Nat → va_E} {w A : Nat → Nat} {c : Nat} {n k : Nat → Nat} {nx ou : Nat → Nat → Nat} {wl : Nat} {wd : Nat → Nat} (hY : SysS G L f w A (c, n, k, nx, ou, wl, wd))  : Con G y_MT_clear (.code y_MT_clear b_MT_clear 1 none :: BIG) 0 0 0 0 [.ref (A 0)] L f (fun v L' f' => v = none ∧ ∃ (w' : Nat → Nat) (σ' : SG), Out L f w L' f' w' ∧ SysS G L' f' w' A σ' ∧ gc σ' = 0 ∧ relW (c, n, k, nx, ou, wl, wd) σ') := by
  refine con_of (cc := b_MT_clear) (mL := 1) (lv := [some (.ref (A 0))]) (by decide) (by intro w hw; simp at hw; rcases hw with rfl <;> rfl) (by first | exact Nat.le_of_ble_eq_true rfl | decide) rfl ?_
  intro x hx hr hin
  obtain ⟨S, Fm, wa, mp, M, lo, fi, b, nm, pl, st, sc, ss, sz, bo, fc, hC⟩ := hY
  have hC : SysC G L f w A S Fm c wa mp M nx ou lo fi n k b nm pl st sc ss sz bo fc wl wd := hC
  have hT := hC.1
  have hMs := hC.ms
  have hc := hC.c12
  refine v_aload_n hx d_MT_clear_0 rfl rfl ?_
  refine v_iconst (v := (nI 0)) hx d_MT_clear_1 rfl ?_
  refine v_put hx cf_MT 3 (by decide) k_MT_29 rfl rfl rfl d_MT_clear_2 hT.m0 hT.f0 (Nat.le_of_ble_eq_true rfl) (fun f1 hf1 => ?_)
  have hF := gF.up (gF.rf (w := w) (id := 0) (f := f)) hf1 hT.o0
  have hT1 := hT.up0 hf1
  have hC1 := hC.clear hT1 hF
  exact v_vret hx hr d_MT_clear_5 ⟨rfl, w, (0, n, k, nx, ou, wl, wd), Out.g hF (by decide), ⟨_, _, _, _, _, _, _, _, _, _, _, _, _, _, _, _, hC1⟩, rfl, relW.rf _⟩
set_option maxHeartbeats 4000000 in
set_option maxRecDepth 100000 in
theorem c_MT_machine {G : GT} {L : List Nat} {f : Nat → va_E} {w A : Nat → Nat} {c : Nat} {n k : Nat → Nat} {nx ou : Nat → Nat → Nat} {wl : Nat} {wd : Nat → Nat} (hY : SysS G L f w A (c, n, k, nx, ou, wl, wd)) (p q : Int32) : Con G y_MT_machine (.code y_MT_machine b_MT_machine 3 (some .int) :: BIG) 3 71 5 407 [.ref (A 0), .int p, .int q] L f (fun v L' f' => ∃ (vi : Int32) (w' : Nat → Nat) (σ' : SG), v = some (.int vi) ∧ Out L f w L' f' w' ∧ SysS G L' f' w' A σ' ∧ rMachine (c, n, k, nx, ou, wl, wd) p q vi σ') := by
  refine con_of (cc := b_MT_machine) (mL := 3) (lv := [some (.ref (A 0)), some (.int p), some (.int q)]) (by decide) (by intro w hw; simp at hw; rcases hw with rfl | rfl | rfl <;> rfl) (by first | exact Nat.le_of_ble_eq_true rfl | decide) rfl ?_
  intro x hx hr hin
  obtain ⟨S, Fm, wa, mp, M, lo, fi, b, nm, pl, st, sc, ss, sz, bo, fc, hC⟩ := hY
  have hC : SysC G L f w A S Fm c wa mp M nx ou lo fi n k b nm pl st sc ss sz bo fc wl wd := hC
  have hT := hC.1
  have hMs := hC.ms
  have hc := hC.c12
  refine v_iload_n hx d_MT_machine_0 rfl rfl ?_
  refine v_iconst (v := (nI 1)) hx d_MT_machine_1 rfl ?_
  refine v_icmp_lt (tgt := 28) hx d_MT_machine_2 (by decide) (fun c2 => ?_) (fun c2 => ?_)
  · refine v_iconst (v := (-1)) hx d_MT_machine_28 rfl ?_
    refine v_widen (k' := 5) (n' := 407) (by omega) (by omega) ?_
    exact v_iret hx hr d_MT_machine_29 ⟨-1, w, (c, n, k, nx, ou, wl, wd), rfl, Out.rf, ⟨_, _, _, _, _, _, _, _, _, _, _, _, _, _, _, _, hC⟩, Or.inr ⟨fun ⟨a, b_, e1, e2, l1, l2, l3, l4, l5⟩ => not_lo c2 e1 (by decide) l1 (by omega), rfl, Rel.rf _⟩⟩
  · refine v_iload_n hx d_MT_machine_5 rfl rfl ?_
    refine v_bipush (v := (nI 40)) hx d_MT_machine_6 rfl ?_
    refine v_icmp_gt (tgt := 28) hx d_MT_machine_8 (by decide) (fun c8 => ?_) (fun c8 => ?_)
    · refine v_iconst (v := (-1)) hx d_MT_machine_28 rfl ?_
      refine v_widen (k' := 5) (n' := 407) (by omega) (by omega) ?_
      exact v_iret hx hr d_MT_machine_29 ⟨-1, w, (c, n, k, nx, ou, wl, wd), rfl, Out.rf, ⟨_, _, _, _, _, _, _, _, _, _, _, _, _, _, _, _, hC⟩, Or.inr ⟨fun ⟨a, b_, e1, e2, l1, l2, l3, l4, l5⟩ => not_hi c8 e1 l2 (by decide), rfl, Rel.rf _⟩⟩
    · refine v_iload_n hx d_MT_machine_11 rfl rfl ?_
      refine v_iconst (v := (nI 1)) hx d_MT_machine_12 rfl ?_
      refine v_icmp_lt (tgt := 28) hx d_MT_machine_13 (by decide) (fun c13 => ?_) (fun c13 => ?_)
      · refine v_iconst (v := (-1)) hx d_MT_machine_28 rfl ?_
        refine v_widen (k' := 5) (n' := 407) (by omega) (by omega) ?_
        exact v_iret hx hr d_MT_machine_29 ⟨-1, w, (c, n, k, nx, ou, wl, wd), rfl, Out.rf, ⟨_, _, _, _, _, _, _, _, _, _, _, _, _, _, _, _, hC⟩, Or.inr ⟨fun ⟨a, b_, e1, e2, l1, l2, l3, l4, l5⟩ => not_lo c13 e2 (by decide) l3 (by omega), rfl, Rel.rf _⟩⟩
      · refine v_iload_n hx d_MT_machine_16 rfl rfl ?_
        refine v_iconst (v := (nI 4)) hx d_MT_machine_17 rfl ?_
        refine v_icmp_gt (tgt := 28) hx d_MT_machine_18 (by decide) (fun c18 => ?_) (fun c18 => ?_)
        · refine v_iconst (v := (-1)) hx d_MT_machine_28 rfl ?_
          refine v_widen (k' := 5) (n' := 407) (by omega) (by omega) ?_
          exact v_iret hx hr d_MT_machine_29 ⟨-1, w, (c, n, k, nx, ou, wl, wd), rfl, Out.rf, ⟨_, _, _, _, _, _, _, _, _, _, _, _, _, _, _, _, hC⟩, Or.inr ⟨fun ⟨a, b_, e1, e2, l1, l2, l3, l4, l5⟩ => not_hi c18 e2 l4 (by decide), rfl, Rel.rf _⟩⟩
        · refine v_aload_n hx d_MT_machine_21 rfl rfl ?_
          refine v_callV (as := []) (q := (R_MT, T_MT, 5)) hx (c_MT_isFull hT hc) cy_MT_isFull k_MT_37 ki_MT_isFull kl_MT_isFull d_MT_machine_22 (by decide) (ci := 3) rfl hT.m0 hT.f0 (by decide) rfl rfl (Nat.le_of_ble_eq_true rfl) (fun v1 L f p1 => ?_)
          obtain ⟨rfl, rfl, rfl⟩ := p1
          refine v_if_eq (tgt := 30) hx d_MT_machine_25 (by decide) (fun c25 => ?_) (fun c25 => ?_)
          · obtain ⟨a, e1, l1, l2⟩ := in_rng (by decide) (by decide) c2 c8
            obtain ⟨d, e2, l3, l4⟩ := in_rng (by decide) (by decide) c13 c18
            subst e1
            subst e2
            have hlt : c < 12 := Nat.lt_of_not_le (of_decide_eq_false ((bI_0 _).mp c25))
            refine v_aload_n hx d_MT_machine_30 rfl rfl ?_
            refine v_iload_n hx d_MT_machine_31 rfl rfl ?_
            refine v_iload_n hx d_MT_machine_32 rfl rfl ?_
            refine v_callV (as := [.int (nI a), .int (nI d)]) (q := (R_MT, T_MT, 5)) hx (c_MT_add hC hlt a d ⟨l1, l2⟩ ⟨l3, l4⟩) cy_MT_add k_MT_41 ki_MT_add kl_MT_add d_MT_machine_33 (by decide) (ci := 3) rfl hT.m0 hT.f0 (by decide) rfl rfl (Nat.le_of_ble_eq_true rfl) (fun v2 L2 f2 p2 => ?_)
            obtain ⟨B, w2, mp2, nx2, ou2, lo2, fi2, rfl, hL2, hw2, hmp2, hT2, hM2, har, hfr2⟩ := p2
            have hC2 := hC.add hL2 hw2 hlt hmp2 hT2 hM2 (okA_new ⟨l1, l2⟩ ⟨l3, l4⟩ har) hfr2
            refine v_pop hx d_MT_machine_36 rfl ?_
            refine v_aload_n hx d_MT_machine_37 rfl rfl ?_
            refine v_get hx cf_MT 3 (by decide) k_MT_29 d_MT_machine_38 hT2.m0 hT2.f0 rfl ?_
            refine v_iconst (v := (nI 1)) hx d_MT_machine_41 rfl ?_
            refine n_isub hx d_MT_machine_42 (by omega) ?_
            refine v_widen (k' := 5) (n' := 407) (by omega) (by omega) ?_
            exact v_iret hx hr d_MT_machine_43 ⟨_, w2, (c + 1, va_up n c a, va_up k c d, va_up nx c nx2, va_up ou c ou2, wl, wd), rfl, ⟨hL2, hw2, fun q h1 h2 => hfr2 q h1 (by omega) (by omega)⟩, ⟨_, _, _, _, _, _, _, _, _, _, _, _, _, _, _, _, hC2⟩, Or.inl ⟨a, d, rfl, rfl, l1, l2, l3, l4, hlt, by rw [Nat.add_sub_cancel], relM_plus.of (fun s i hs hi => ⟨by rw [(har s i hs hi).1]; omega, (har s i hs hi).2⟩)⟩⟩
          · have h12 : 12 ≤ c := of_decide_eq_true (Bool.of_not_eq_false (fun z => c25 ((bI_0 _).mpr z)))
            refine v_iconst (v := (-1)) hx d_MT_machine_28 rfl ?_
            refine v_widen (k' := 5) (n' := 407) (by omega) (by omega) ?_
            exact v_iret hx hr d_MT_machine_29 ⟨-1, w, (c, n, k, nx, ou, wl, wd), rfl, Out.rf, ⟨_, _, _, _, _, _, _, _, _, _, _, _, _, _, _, _, hC⟩, Or.inr ⟨fun ⟨a, b_, e1, e2, l1, l2, l3, l4, l5⟩ => absurd (show c < 12 from l5) (by omega), rfl, Rel.rf _⟩⟩
set_option maxHeartbeats 4000000 in
set_option maxRecDepth 100000 in
theorem c_MT_arrow {G : GT} {L : List Nat} {f : Nat → va_E} {w A : Nat → Nat} {c : Nat} {n k : Nat → Nat} {nx ou : Nat → Nat → Nat} {wl : Nat} {wd : Nat → Nat} (hY : SysS G L f w A (c, n, k, nx, ou, wl, wd)) (p q r t o : Int32) : Con G y_MT_arrow (.code y_MT_arrow b_MT_arrow 7 (some .boolean) :: BIG) 1 24 0 0 [.ref (A 0), .int p, .int q, .int r, .int t, .int o] L f (fun v L' f' => ∃ (vi : Int32) (w' : Nat → Nat) (σ' : SG), v = some (.int vi) ∧ Out L f w L' f' w' ∧ SysS G L' f' w' A σ' ∧ rArrow (c, n, k, nx, ou, wl, wd) p q r t o vi σ') := by
  refine con_of (cc := b_MT_arrow) (mL := 7) (lv := [some (.ref (A 0)), some (.int p), some (.int q), some (.int r), some (.int t), some (.int o), none]) (by decide) (by intro w hw; simp at hw; rcases hw with rfl | rfl | rfl | rfl | rfl | rfl <;> rfl) (by first | exact Nat.le_of_ble_eq_true rfl | decide) rfl ?_
  intro x hx hr hin
  obtain ⟨S, Fm, wa, mp, M, lo, fi, b, nm, pl, st, sc, ss, sz, bo, fc, hC⟩ := hY
  have hC : SysC G L f w A S Fm c wa mp M nx ou lo fi n k b nm pl st sc ss sz bo fc wl wd := hC
  have hT := hC.1
  have hMs := hC.ms
  have hc := hC.c12
  refine v_aload_n hx d_MT_arrow_0 rfl rfl ?_
  refine v_iload_n hx d_MT_arrow_1 rfl rfl ?_
  refine v_callV (as := [.int p]) (q := (R_MT, T_MT, 5)) hx (c_MT_find hT hMs hc p) cy_MT_find k_MT_45 ki_MT_find kl_MT_find d_MT_arrow_2 (by decide) (ci := 3) rfl hT.m0 hT.f0 (by decide) rfl rfl (Nat.le_of_ble_eq_true rfl) (fun v1 L f p1 => ?_)
  obtain ⟨(⟨e, rfl⟩ | ⟨j, e, hj, rfl⟩), rfl, rfl⟩ := p1
  · refine v_astoreN (lv' := [some (.ref (A 0)), some (.int p), some (.int q), some (.int r), some (.int t), some (.int o), some (.null)]) hx d_MT_arrow_5 (by decide) rfl ?_
    refine v_aloadN hx d_MT_arrow_7 rfl ?_
    refine v_ifnullN (tgt := 40) hx d_MT_arrow_9 (by decide) ?_
    refine v_iconst (v := (nI 0)) hx d_MT_arrow_40 rfl ?_
    exact v_zret hx hr d_MT_arrow_41 rfl ⟨_, w, (c, n, k, nx, ou, wl, wd), rfl, Out.rf, ⟨_, _, _, _, _, _, _, _, _, _, _, _, _, _, _, _, hC⟩, Or.inr ⟨fun ⟨m, s_, i_, a_, b_, e1, e2, e3, e4, e5⟩ => (by rw [e] at e1; cases e1), rfl, Rel.rf _⟩⟩
  · have hA := hC.ok hj
    have hA_ := hA
    obtain ⟨hn1, hn2, hk1, hk2, hnx⟩ := hA_
    refine v_astore (lv' := [some (.ref (A 0)), some (.int p), some (.int q), some (.int r), some (.int t), some (.int o), some (.ref (M j 0))]) hx d_MT_arrow_5 (by decide) rfl ?_
    refine v_aload hx d_MT_arrow_7 rfl ?_
    refine v_ifnull hx d_MT_arrow_9 ?_
    refine v_aload hx d_MT_arrow_12 rfl ?_
    refine v_iload_n hx d_MT_arrow_14 rfl rfl ?_
    refine v_callV (as := [.int q]) (q := (R_Ma, T_Ma, 7)) hx (c_Ma_hasState (hMs j hj).2 (by omega) q) cy_Ma_hasState k_MT_49 ki_Ma_hasState kl_Ma_hasState d_MT_arrow_15 (by decide) (ci := 1) rfl (hMs j hj).2.m0 (hMs j hj).2.f0 (by decide) rfl rfl (Nat.le_of_ble_eq_true rfl) (fun v2 L f p2 => ?_)
    obtain ⟨rfl, rfl, rfl⟩ := p2
    refine v_if_eq (tgt := 40) hx d_MT_arrow_18 (by decide) (fun c18 => ?_) (fun c18 => ?_)
    · refine v_iconst (v := (nI 0)) hx d_MT_arrow_40 rfl ?_
      exact v_zret hx hr d_MT_arrow_41 rfl ⟨_, w, (c, n, k, nx, ou, wl, wd), rfl, Out.rf, ⟨_, _, _, _, _, _, _, _, _, _, _, _, _, _, _, _, hC⟩, Or.inr ⟨fun ⟨m, s_, i_, a_, b_, e1, e2, e3, e4, e5⟩ => (by rw [e] at e1; cases e1; rw [none_ix c18] at e2; cases e2), rfl, Rel.rf _⟩⟩
    · obtain ⟨s, es⟩ := some_ix c18
      refine v_aload hx d_MT_arrow_21 rfl ?_
      refine v_iload_n hx d_MT_arrow_23 rfl rfl ?_
      refine v_callV (as := [.int r]) (q := (R_Ma, T_Ma, 7)) hx (c_Ma_hasInput (hMs j hj).2 (by omega) r) cy_Ma_hasInput k_MT_53 ki_Ma_hasInput kl_Ma_hasInput d_MT_arrow_24 (by decide) (ci := 1) rfl (hMs j hj).2.m0 (hMs j hj).2.f0 (by decide) rfl rfl (Nat.le_of_ble_eq_true rfl) (fun v3 L f p3 => ?_)
      obtain ⟨rfl, rfl, rfl⟩ := p3
      refine v_if_eq (tgt := 40) hx d_MT_arrow_27 (by decide) (fun c27 => ?_) (fun c27 => ?_)
      · refine v_iconst (v := (nI 0)) hx d_MT_arrow_40 rfl ?_
        exact v_zret hx hr d_MT_arrow_41 rfl ⟨_, w, (c, n, k, nx, ou, wl, wd), rfl, Out.rf, ⟨_, _, _, _, _, _, _, _, _, _, _, _, _, _, _, _, hC⟩, Or.inr ⟨fun ⟨m, s_, i_, a_, b_, e1, e2, e3, e4, e5⟩ => (by rw [e] at e1; cases e1; rw [none_ix c27] at e3; cases e3), rfl, Rel.rf _⟩⟩
      · obtain ⟨i, ei⟩ := some_ix c27
        refine v_aload hx d_MT_arrow_30 rfl ?_
        refine v_iload hx d_MT_arrow_32 rfl ?_
        refine v_callV (as := [.int t]) (q := (R_Ma, T_Ma, 7)) hx (c_Ma_hasState (hMs j hj).2 (by omega) t) cy_Ma_hasState k_MT_49 ki_Ma_hasState kl_Ma_hasState d_MT_arrow_34 (by decide) (ci := 1) rfl (hMs j hj).2.m0 (hMs j hj).2.f0 (by decide) rfl rfl (Nat.le_of_ble_eq_true rfl) (fun v4 L f p4 => ?_)
        obtain ⟨rfl, rfl, rfl⟩ := p4
        refine v_if_ne (tgt := 42) hx d_MT_arrow_37 (by decide) (fun c37 => ?_) (fun c37 => ?_)
        · obtain ⟨a, ea⟩ := some_ix c37
          refine v_iload hx d_MT_arrow_42 rfl ?_
          refine v_if_lt (tgt := 54) hx d_MT_arrow_44 (by decide) (fun c44 => ?_) (fun c44 => ?_)
          · refine v_iconst (v := (nI 0)) hx d_MT_arrow_54 rfl ?_
            exact v_zret hx hr d_MT_arrow_55 rfl ⟨_, w, (c, n, k, nx, ou, wl, wd), rfl, Out.rf, ⟨_, _, _, _, _, _, _, _, _, _, _, _, _, _, _, _, hC⟩, Or.inr ⟨fun ⟨m, s_, i_, a_, b_, e1, e2, e3, e4, e5⟩ => (by rw [ix_neg c44] at e5; cases e5), rfl, Rel.rf _⟩⟩
          · refine v_iload hx d_MT_arrow_47 rfl ?_
            refine v_bipush (v := (nI 10)) hx d_MT_arrow_49 rfl ?_
            refine v_icmp_lt (tgt := 56) hx d_MT_arrow_51 (by decide) (fun c51 => ?_) (fun c51 => ?_)
            · obtain ⟨d, ed, hd, e5⟩ := ix_in (n := 10) (by decide) c44 (Int32.not_le.mpr c51)
              obtain ⟨hs, e2⟩ := ix_some (by omega) es
              obtain ⟨hi, e3⟩ := ix_some (by omega) ei
              obtain ⟨ha, e4⟩ := ix_some (by omega) ea
              subst e2
              subst e3
              subst e4
              subst e5
              refine v_aload hx d_MT_arrow_56 rfl ?_
              refine v_iload_n hx d_MT_arrow_58 rfl rfl ?_
              refine v_iload_n hx d_MT_arrow_59 rfl rfl ?_
              refine v_iload hx d_MT_arrow_60 rfl ?_
              refine v_iload hx d_MT_arrow_62 rfl ?_
              refine v_callV (as := [.int (nI s), .int (nI i), .int (nI a), .int (nI d)]) (q := (R_Ma, T_Ma, 7)) hx (c_Ma_setArrow (hMs j hj).2 s i a d (by omega) (by omega)) cy_Ma_setArrow k_MT_56 ki_Ma_setArrow kl_Ma_setArrow d_MT_arrow_64 (by decide) (ci := 1) rfl (hMs j hj).2.m0 (hMs j hj).2.f0 (by decide) rfl rfl (Nat.le_of_ble_eq_true rfl) (fun v5 L f1 p5 => ?_)
              obtain ⟨rfl, rfl, hMj, hF1⟩ := p5
              have hC1 := hC.arrow hj hMj hF1 (okA_up hA hi ha hd)
              refine v_iconst (v := (nI 1)) hx d_MT_arrow_67 rfl ?_
              exact v_zret hx hr d_MT_arrow_68 rfl ⟨_, w, (c, n, k, va_up nx j (va_up (nx j) (s * 4 + i) a), va_up ou j (va_up (ou j) (s * 4 + i) d), wl, wd), rfl, Out.g hF1 (by omega), ⟨_, _, _, _, _, _, _, _, _, _, _, _, _, _, _, _, hC1⟩, Or.inl ⟨j, s, i, a, d, ⟨e, es, ei, ea, ed⟩, by decide, rfl, relW.rf _, fun q _ hq => by show relM _ _ _ _ (n q) (k q) (va_up nx j _ q) (va_up ou j _ q); rw [va_up_ne _ _ hq, va_up_ne _ _ hq]; exact relM.rf, by show relM _ _ _ _ (n j) (k j) (va_up nx j _ j) (va_up ou j _ j); rw [va_up_self, va_up_self]; exact relM.rf⟩⟩
            · refine v_iconst (v := (nI 0)) hx d_MT_arrow_54 rfl ?_
              exact v_zret hx hr d_MT_arrow_55 rfl ⟨_, w, (c, n, k, nx, ou, wl, wd), rfl, Out.rf, ⟨_, _, _, _, _, _, _, _, _, _, _, _, _, _, _, _, hC⟩, Or.inr ⟨fun ⟨m, s_, i_, a_, b_, e1, e2, e3, e4, e5⟩ => (by rw [ix_ge (n := 10) (by decide) (Int32.not_lt.mp c51)] at e5; cases e5), rfl, Rel.rf _⟩⟩
        · refine v_iconst (v := (nI 0)) hx d_MT_arrow_40 rfl ?_
          exact v_zret hx hr d_MT_arrow_41 rfl ⟨_, w, (c, n, k, nx, ou, wl, wd), rfl, Out.rf, ⟨_, _, _, _, _, _, _, _, _, _, _, _, _, _, _, _, hC⟩, Or.inr ⟨fun ⟨m, s_, i_, a_, b_, e1, e2, e3, e4, e5⟩ => (by rw [e] at e1; cases e1; rw [none_ix c37] at e4; cases e4), rfl, Rel.rf _⟩⟩
set_option maxHeartbeats 4000000 in
set_option maxRecDepth 100000 in
theorem c_MT_look {G : GT} {L : List Nat} {f : Nat → va_E} {w A : Nat → Nat} {c : Nat} {n k : Nat → Nat} {nx ou : Nat → Nat → Nat} {wl : Nat} {wd : Nat → Nat} (hY : SysS G L f w A (c, n, k, nx, ou, wl, wd)) (p q r t : Int32) : Con G y_MT_look (.code y_MT_look b_MT_look 6 (some .int) :: BIG) 1 22 0 0 [.ref (A 0), .int p, .int q, .int r, .int t] L f (fun v L' f' => ∃ (vi : Int32) (w' : Nat → Nat) (σ' : SG), v = some (.int vi) ∧ Out L f w L' f' w' ∧ SysS G L' f' w' A σ' ∧ vi = sLook (c, n, k, nx, ou, wl, wd) p q r t ∧ σ' = (c, n, k, nx, ou, wl, wd)) := by
  refine con_of (cc := b_MT_look) (mL := 6) (lv := [some (.ref (A 0)), some (.int p), some (.int q), some (.int r), some (.int t), none]) (by decide) (by intro w hw; simp at hw; rcases hw with rfl | rfl | rfl | rfl | rfl <;> rfl) (by first | exact Nat.le_of_ble_eq_true rfl | decide) rfl ?_
  intro x hx hr hin
  obtain ⟨S, Fm, wa, mp, M, lo, fi, b, nm, pl, st, sc, ss, sz, bo, fc, hC⟩ := hY
  have hC : SysC G L f w A S Fm c wa mp M nx ou lo fi n k b nm pl st sc ss sz bo fc wl wd := hC
  have hT := hC.1
  have hMs := hC.ms
  have hc := hC.c12
  refine v_aload_n hx d_MT_look_0 rfl rfl ?_
  refine v_iload_n hx d_MT_look_1 rfl rfl ?_
  refine v_callV (as := [.int p]) (q := (R_MT, T_MT, 5)) hx (c_MT_find hT hMs hc p) cy_MT_find k_MT_45 ki_MT_find kl_MT_find d_MT_look_2 (by decide) (ci := 3) rfl hT.m0 hT.f0 (by decide) rfl rfl (Nat.le_of_ble_eq_true rfl) (fun v1 L f p1 => ?_)
  obtain ⟨(⟨e, rfl⟩ | ⟨j, e, hj, rfl⟩), rfl, rfl⟩ := p1
  · refine v_astoreN (lv' := [some (.ref (A 0)), some (.int p), some (.int q), some (.int r), some (.int t), some (.null)]) hx d_MT_look_5 (by decide) rfl ?_
    refine v_aloadN hx d_MT_look_7 rfl ?_
    refine v_ifnullN (tgt := 30) hx d_MT_look_9 (by decide) ?_
    refine v_iconst (v := (-1)) hx d_MT_look_30 rfl ?_
    exact v_iret hx hr d_MT_look_31 ⟨_, w, (c, n, k, nx, ou, wl, wd), rfl, Out.rf, ⟨_, _, _, _, _, _, _, _, _, _, _, _, _, _, _, _, hC⟩, (by show _ = sLook (c, n, k, nx, ou, wl, wd) _ _ _ _; simp only [sLook, e]), rfl⟩
  · have hA := hC.ok hj
    have hA_ := hA
    obtain ⟨hn1, hn2, hk1, hk2, hnx⟩ := hA_
    refine v_astore (lv' := [some (.ref (A 0)), some (.int p), some (.int q), some (.int r), some (.int t), some (.ref (M j 0))]) hx d_MT_look_5 (by decide) rfl ?_
    refine v_aload hx d_MT_look_7 rfl ?_
    refine v_ifnull hx d_MT_look_9 ?_
    refine v_aload hx d_MT_look_12 rfl ?_
    refine v_iload_n hx d_MT_look_14 rfl rfl ?_
    refine v_callV (as := [.int q]) (q := (R_Ma, T_Ma, 7)) hx (c_Ma_hasState (hMs j hj).2 (by omega) q) cy_Ma_hasState k_MT_49 ki_Ma_hasState kl_Ma_hasState d_MT_look_15 (by decide) (ci := 1) rfl (hMs j hj).2.m0 (hMs j hj).2.f0 (by decide) rfl rfl (Nat.le_of_ble_eq_true rfl) (fun v2 L f p2 => ?_)
    obtain ⟨rfl, rfl, rfl⟩ := p2
    refine v_if_eq (tgt := 30) hx d_MT_look_18 (by decide) (fun c18 => ?_) (fun c18 => ?_)
    · refine v_iconst (v := (-1)) hx d_MT_look_30 rfl ?_
      exact v_iret hx hr d_MT_look_31 ⟨_, w, (c, n, k, nx, ou, wl, wd), rfl, Out.rf, ⟨_, _, _, _, _, _, _, _, _, _, _, _, _, _, _, _, hC⟩, (by show _ = sLook (c, n, k, nx, ou, wl, wd) _ _ _ _; simp only [sLook, e, none_ix c18]), rfl⟩
    · obtain ⟨s, es⟩ := some_ix c18
      refine v_aload hx d_MT_look_21 rfl ?_
      refine v_iload_n hx d_MT_look_23 rfl rfl ?_
      refine v_callV (as := [.int r]) (q := (R_Ma, T_Ma, 7)) hx (c_Ma_hasInput (hMs j hj).2 (by omega) r) cy_Ma_hasInput k_MT_53 ki_Ma_hasInput kl_Ma_hasInput d_MT_look_24 (by decide) (ci := 1) rfl (hMs j hj).2.m0 (hMs j hj).2.f0 (by decide) rfl rfl (Nat.le_of_ble_eq_true rfl) (fun v3 L f p3 => ?_)
      obtain ⟨rfl, rfl, rfl⟩ := p3
      refine v_if_ne (tgt := 32) hx d_MT_look_27 (by decide) (fun c27 => ?_) (fun c27 => ?_)
      · obtain ⟨i, ei⟩ := some_ix c27
        obtain ⟨hs, e2⟩ := ix_some (by omega) es
        obtain ⟨hi, e3⟩ := ix_some (by omega) ei
        subst e2
        subst e3
        refine v_iload hx d_MT_look_32 rfl ?_
        refine v_if_ne (tgt := 45) hx d_MT_look_34 (by decide) (fun c34 => ?_) (fun c34 => ?_)
        · refine v_iload hx d_MT_look_45 rfl ?_
          refine v_iconst (v := (nI 1)) hx d_MT_look_47 rfl ?_
          refine v_icmp_ne (tgt := 61) hx d_MT_look_48 (by decide) (fun c48 => ?_) (fun c48 => ?_)
          · refine v_iconst (v := (-1)) hx d_MT_look_61 rfl ?_
            exact v_iret hx hr d_MT_look_62 ⟨_, w, (c, n, k, nx, ou, wl, wd), rfl, Out.rf, ⟨_, _, _, _, _, _, _, _, _, _, _, _, _, _, _, _, hC⟩, (by show _ = sLook (c, n, k, nx, ou, wl, wd) _ _ _ _; simp only [sLook, e, es, ei, if_neg c34, if_neg (show ¬ t = 1 from c48)]), rfl⟩
          · refine v_aload hx d_MT_look_51 rfl ?_
            refine v_iload_n hx d_MT_look_53 rfl rfl ?_
            refine v_iload_n hx d_MT_look_54 rfl rfl ?_
            refine v_callV (as := [.int (nI s), .int (nI i)]) (q := (R_Ma, T_Ma, 7)) hx (c_Ma_outputOf (hMs j hj).2 s i (by omega) (by omega)) cy_Ma_outputOf k_MT_64 ki_Ma_outputOf kl_Ma_outputOf d_MT_look_55 (by decide) (ci := 1) rfl (hMs j hj).2.m0 (hMs j hj).2.f0 (by decide) rfl rfl (Nat.le_of_ble_eq_true rfl) (fun v4 L f p4 => ?_)
            obtain ⟨rfl, rfl, rfl⟩ := p4
            refine v_goto (tgt := 62) hx d_MT_look_58 (by decide) ?_
            exact v_iret hx hr d_MT_look_62 ⟨_, w, (c, n, k, nx, ou, wl, wd), rfl, Out.rf, ⟨_, _, _, _, _, _, _, _, _, _, _, _, _, _, _, _, hC⟩, (by show _ = sLook (c, n, k, nx, ou, wl, wd) _ _ _ _; simp only [sLook, e, es, ei, if_neg c34, if_pos (show t = 1 from c48)]), rfl⟩
        · refine v_aload hx d_MT_look_37 rfl ?_
          refine v_iload_n hx d_MT_look_39 rfl rfl ?_
          refine v_iload_n hx d_MT_look_40 rfl rfl ?_
          refine v_callV (as := [.int (nI s), .int (nI i)]) (q := (R_Ma, T_Ma, 7)) hx (c_Ma_nextOf (hMs j hj).2 s i (by omega) (by omega)) cy_Ma_nextOf k_MT_60 ki_Ma_nextOf kl_Ma_nextOf d_MT_look_41 (by decide) (ci := 1) rfl (hMs j hj).2.m0 (hMs j hj).2.f0 (by decide) rfl rfl (Nat.le_of_ble_eq_true rfl) (fun v5 L f p5 => ?_)
          obtain ⟨rfl, rfl, rfl⟩ := p5
          exact v_iret hx hr d_MT_look_44 ⟨_, w, (c, n, k, nx, ou, wl, wd), rfl, Out.rf, ⟨_, _, _, _, _, _, _, _, _, _, _, _, _, _, _, _, hC⟩, (by show _ = sLook (c, n, k, nx, ou, wl, wd) _ _ _ _; simp only [sLook, e, es, ei, if_pos c34]), rfl⟩
      · refine v_iconst (v := (-1)) hx d_MT_look_30 rfl ?_
        exact v_iret hx hr d_MT_look_31 ⟨_, w, (c, n, k, nx, ou, wl, wd), rfl, Out.rf, ⟨_, _, _, _, _, _, _, _, _, _, _, _, _, _, _, _, hC⟩, (by show _ = sLook (c, n, k, nx, ou, wl, wd) _ _ _ _; simp only [sLook, e, es, none_ix c27]), rfl⟩
