/-! ===== the reference's picture: a machine more, an arrow ===== -/
section PICS
variable {mc : Nat} {sa ka nx ou : Nat → Nat} {wl : Nat} {wd : Nat → Nat} {nx' ou' : Nat → Nat} {a b : Nat}
theorem pic_at (hG : okG (pic mc sa ka nx ou wl wd)) {j : Nat} (hj : j < mc) : okA (fun t => nx (160 * j + t)) (fun t => ou (160 * j + t)) (sa j) (ka j) := hG.2.1 j hj
theorem pic_plus (hG : okG (pic mc sa ka nx ou wl wd)) (hold : ∀ q, (q < 160 * mc ∨ 160 * mc + 160 ≤ q) → nx' q = nx q ∧ ou' q = ou q) : plus (pic mc sa ka nx ou wl wd) (pic (mc + 1) (va_up sa mc a) (va_up ka mc b) nx' ou' wl wd) a b (fun t => nx' (160 * mc + t)) (fun t => ou' (160 * mc + t)) := by
  refine ⟨rfl, fun j hj => ?_, ?_, relW.rf _⟩
  · have hj : j < mc := hj
    have h1 := pic_at hG hj
    refine ⟨(va_up_ne _ _ (by omega)).symm, (va_up_ne _ _ (by omega)).symm, fun s i hs hi => ?_⟩
    have hs : s < sa j := hs
    have hi : i < ka j := hi
    have := h1.2.1
    have := h1.2.2.2.1
    have h2 := hold (160 * j + (s * 4 + i)) (by omega)
    exact ⟨h2.1.symm, h2.2.symm⟩
  · exact ⟨(va_up_self _ _ _).symm, (va_up_self _ _ _).symm, fun _ _ _ _ => ⟨rfl, rfl⟩⟩
theorem pic_new (hG : okG (pic mc sa ka nx ou wl wd)) (hmc : mc < 12) (hold : ∀ q, (q < 160 * mc ∨ 160 * mc + 160 ≤ q) → nx' q = nx q ∧ ou' q = ou q) (hA : okA (fun t => nx' (160 * mc + t)) (fun t => ou' (160 * mc + t)) a b) : okG (pic (mc + 1) (va_up sa mc a) (va_up ka mc b) nx' ou' wl wd) := by
  refine ⟨hmc, fun j hj => ?_, hG.2.2.1, hG.2.2.2⟩
  have hj : j < mc + 1 := hj
  show okA (fun t => nx' (160 * j + t)) (fun t => ou' (160 * j + t)) (va_up sa mc a j) (va_up ka mc b j)
  by_cases e : j = mc
  · subst e
    rw [va_up_self, va_up_self]
    exact hA
  · rw [va_up_ne _ _ e, va_up_ne _ _ e]
    have h1 := pic_at hG (show j < mc by omega)
    refine ⟨h1.1, h1.2.1, h1.2.2.1, h1.2.2.2.1, fun s i hs hi => ?_⟩
    have := h1.2.1
    have := h1.2.2.2.1
    have h2 := hold (160 * j + (s * 4 + i)) (by omega)
    have h3 := h1.2.2.2.2 s i hs hi
    show nx' (160 * j + (s * 4 + i)) < sa j ∧ ou' (160 * j + (s * 4 + i)) < 10
    rw [h2.1, h2.2]
    exact h3
theorem pic_arrow {m s i c d : Nat} (hG : okG (pic mc sa ka nx ou wl wd)) (hm : m < mc) (hs : s < sa m) (hi : i < ka m) (hc : c < sa m) (hd : d < 10) : okG (pic mc sa ka (va_up nx (160 * m + 4 * s + i) c) (va_up ou (160 * m + 4 * s + i) d) wl wd) := by
  refine ⟨hG.1, fun j hj => ?_, hG.2.2.1, hG.2.2.2⟩
  have hj : j < mc := hj
  have h1 := pic_at hG hj
  have h0 := pic_at hG hm
  refine ⟨h1.1, h1.2.1, h1.2.2.1, h1.2.2.2.1, fun t k ht hk => ?_⟩
  have ht : t < sa j := ht
  have hk : k < ka j := hk
  have := h1.2.1
  have := h1.2.2.2.1
  have := h0.2.1
  have := h0.2.2.2.1
  have h3 := h1.2.2.2.2 t k ht hk
  show va_up nx (160 * m + 4 * s + i) c (160 * j + (t * 4 + k)) < sa j ∧ va_up ou (160 * m + 4 * s + i) d (160 * j + (t * 4 + k)) < 10
  by_cases e : 160 * j + (t * 4 + k) = 160 * m + 4 * s + i
  · have e2 : j = m := by omega
    subst e2
    rw [e, va_up_self, va_up_self]
    exact ⟨hc, hd⟩
  · rw [va_up_ne _ _ e, va_up_ne _ _ e]
    exact h3
theorem pic_arr {m s i c d : Nat} (hG : okG (pic mc sa ka nx ou wl wd)) (hm : m < mc) (hs : s < sa m) (hi : i < ka m) : (∀ j, j < mc → j ≠ m → relM (sa j) (ka j) (fun t => nx (160 * j + t)) (fun t => ou (160 * j + t)) (sa j) (ka j) (fun t => va_up nx (160 * m + 4 * s + i) c (160 * j + t)) (fun t => va_up ou (160 * m + 4 * s + i) d (160 * j + t))) ∧ relM (sa m) (ka m) (va_up (fun t => nx (160 * m + t)) (s * 4 + i) c) (va_up (fun t => ou (160 * m + t)) (s * 4 + i) d) (sa m) (ka m) (fun t => va_up nx (160 * m + 4 * s + i) c (160 * m + t)) (fun t => va_up ou (160 * m + 4 * s + i) d (160 * m + t)) := by
  have h0 := pic_at hG hm
  have := h0.2.1
  have := h0.2.2.2.1
  refine ⟨fun j hj hne => ⟨rfl, rfl, fun t k ht hk => ?_⟩, rfl, rfl, fun t k ht hk => ?_⟩
  · have h1 := pic_at hG hj
    have := h1.2.1
    have := h1.2.2.2.1
    have e : 160 * j + (t * 4 + k) ≠ 160 * m + 4 * s + i := by omega
    exact ⟨(va_up_ne _ _ e).symm, (va_up_ne _ _ e).symm⟩
  · by_cases e : t * 4 + k = s * 4 + i
    · have e2 : 160 * m + (s * 4 + i) = 160 * m + 4 * s + i := by omega
      show va_up _ _ _ (t * 4 + k) = va_up _ _ _ (160 * m + (t * 4 + k)) ∧ va_up _ _ _ (t * 4 + k) = va_up _ _ _ (160 * m + (t * 4 + k))
      rw [e, e2, va_up_self, va_up_self, va_up_self, va_up_self]
      exact ⟨rfl, rfl⟩
    · have e2 : 160 * m + (t * 4 + k) ≠ 160 * m + 4 * s + i := by omega
      show va_up _ _ _ (t * 4 + k) = va_up _ _ _ (160 * m + (t * 4 + k)) ∧ va_up _ _ _ (t * 4 + k) = va_up _ _ _ (160 * m + (t * 4 + k))
      rw [va_up_ne _ _ e, va_up_ne _ _ e, va_up_ne _ _ e2, va_up_ne _ _ e2]
      exact ⟨rfl, rfl⟩
theorem pic_ix (m s i : Nat) : 160 * m + 4 * s + i = 160 * m + (s * 4 + i) := by omega
end PICS
set_option maxHeartbeats 4000000 in
set_option maxRecDepth 100000 in
theorem c_Mo_machine {G : GT} {L : List Nat} {f : Nat → va_E} {w A : Nat → Nat} {th : Nat} {mc : Nat} {sa : Nat → Nat} {ka : Nat → Nat} {nx : Nat → Nat} {ou : Nat → Nat} {wl : Nat} {wd : Nat → Nat} {ap : Nat → Bool} {fo : Nat} {se : Nat → Nat} {fr : Nat → Option Nat} {by_ : Nat → Nat} {is : Nat → Bool} {tr : Nat} {my : Nat → Nat} {ss : Nat → Nat} {tf : Nat → Option Nat} {tb : Nat → Nat} (hM : MoAt G L f w 100 A th mc sa ka nx ou wl wd ap fo se fr by_ is tr my ss tf tb) (hG : okG (pic mc sa ka nx ou wl wd)) (p q : Int32) : Con G y_Mo_machine (.code y_Mo_machine b_Mo_machine 3 (some .int) :: BIG) 1 24 0 0 [.ref (A 0), .int p, .int q] L f (fun v L' f' => ∃ (vi : Int32) (th' : Nat) (σ' : SG), v = some (.int vi) ∧ L' = L ∧ gF w 100 f f' ∧ MoS G L f' w A th' σ' ∧ th' = 0 ∧ rMachine (pic mc sa ka nx ou wl wd) p q vi σ') := by
  refine con_of (cc := b_Mo_machine) (mL := 3) (lv := [some (.ref (A 0)), some (.int p), some (.int q)]) (by decide) (by intro w hw; simp at hw; rcases hw with rfl | rfl | rfl <;> rfl) (by first | exact Nat.le_of_ble_eq_true rfl | decide) rfl ?_
  intro x hx hr hin
  have hF0 := gF.rf (w := w) (id := 100) (f := f)
  obtain ⟨hmc, hok, hwl, hwd⟩ := id hG
  have hmc : mc ≤ 12 := hmc
  have hok : ∀ j, j < mc → okA (fun t => nx (160 * j + t)) (fun t => ou (160 * j + t)) (sa j) (ka j) := hok
  have hwl : wl ≤ 4096 := hwl
  have hwd : ∀ j, j < wl → wd j < 4 := hwd
  have hsa : ∀ j, j < mc → sa j ≤ 40 := fun j hj => (hok j hj).2.1
  have hka : ∀ j, j < mc → ka j ≤ 4 := fun j hj => (hok j hj).2.2.2.1
  refine v_aload_n hx d_Mo_machine_0 rfl rfl ?_
  refine v_iconst (v := (nI 0)) hx d_Mo_machine_1 rfl ?_
  refine v_put hx cf_Mo 0 (by decide) k_Mo_53 rfl rfl rfl d_Mo_machine_2 hM.m0 hM.f0 (Nat.le_of_ble_eq_true rfl) (fun f1 hf1 => ?_)
  have mf1 := hM.up0 hf1
  have Ff1 := hF0.up hf1 hM.o0
  refine v_iload_n hx d_Mo_machine_5 rfl rfl ?_
  refine v_iconst (v := (nI 1)) hx d_Mo_machine_6 rfl ?_
  refine v_bipush (v := (nI 40)) hx d_Mo_machine_7 rfl ?_
  refine v_callS (as := [.int p, .int (nI 1), .int (nI 40)]) hx (c_Mo_in p (nI 1) (nI 40)) cy_Mo_in k_Mo_60 ks_Mo_in d_Mo_machine_9 (by decide) (by decide) rfl rfl (Nat.le_of_ble_eq_true rfl) (fun v2 L f1 p2 => ?_)
  obtain ⟨rfl, rfl, rfl⟩ := p2
  refine v_if_eq (tgt := 42) hx d_Mo_machine_12 (by decide) (fun c12 => ?_) (fun c12 => ?_)
  · refine v_iconst (v := (-1)) hx d_Mo_machine_42 rfl ?_
    exact v_iret hx hr d_Mo_machine_43 ⟨-1, 0, (pic mc sa ka nx ou wl wd), rfl, rfl, Ff1, ⟨hG, _, _, _, _, _, _, _, _, _, _, _, _, _, mf1, rfl, rfl⟩, rfl, Or.inr ⟨fun ⟨a, b, g1, g2, g3, g4, g5, g6, g7⟩ => in_no (by decide) c12 g1 g3 g4, rfl, Rel.rf _⟩⟩
  · refine v_iload_n hx d_Mo_machine_15 rfl rfl ?_
    refine v_iconst (v := (nI 1)) hx d_Mo_machine_16 rfl ?_
    refine v_iconst (v := (nI 4)) hx d_Mo_machine_17 rfl ?_
    refine v_callS (as := [.int q, .int (nI 1), .int (nI 4)]) hx (c_Mo_in q (nI 1) (nI 4)) cy_Mo_in k_Mo_60 ks_Mo_in d_Mo_machine_18 (by decide) (by decide) rfl rfl (Nat.le_of_ble_eq_true rfl) (fun v3 L f1 p3 => ?_)
    obtain ⟨rfl, rfl, rfl⟩ := p3
    refine v_if_eq (tgt := 42) hx d_Mo_machine_21 (by decide) (fun c21 => ?_) (fun c21 => ?_)
    · refine v_iconst (v := (-1)) hx d_Mo_machine_42 rfl ?_
      exact v_iret hx hr d_Mo_machine_43 ⟨-1, 0, (pic mc sa ka nx ou wl wd), rfl, rfl, Ff1, ⟨hG, _, _, _, _, _, _, _, _, _, _, _, _, _, mf1, rfl, rfl⟩, rfl, Or.inr ⟨fun ⟨a, b, g1, g2, g3, g4, g5, g6, g7⟩ => in_no (by decide) c21 g2 g5 g6, rfl, Rel.rf _⟩⟩
    · refine v_aload_n hx d_Mo_machine_24 rfl rfl ?_
      refine v_get hx cf_Mo 1 (by decide) k_Mo_57 d_Mo_machine_25 mf1.m0 mf1.f0 rfl ?_
      refine v_bipush (v := (nI 12)) hx d_Mo_machine_28 rfl ?_
      refine n_icmp_ge (tgt := 42) hx d_Mo_machine_30 (by decide) (by omega) (by omega) (fun c30 => ?_) (fun c30 => ?_)
      · refine v_iconst (v := (-1)) hx d_Mo_machine_42 rfl ?_
        exact v_iret hx hr d_Mo_machine_43 ⟨-1, 0, (pic mc sa ka nx ou wl wd), rfl, rfl, Ff1, ⟨hG, _, _, _, _, _, _, _, _, _, _, _, _, _, mf1, rfl, rfl⟩, rfl, Or.inr ⟨fun ⟨a, b, g1, g2, g3, g4, g5, g6, g7⟩ => absurd (show mc < 12 from g7) (by omega), rfl, Rel.rf _⟩⟩
      · obtain ⟨a, e1, l1, l2⟩ := in_get (by decide) (by decide) c12
        obtain ⟨d, e2, l3, l4⟩ := in_get (by decide) (by decide) c21
        subst e1
        subst e2
        have hlt : mc < 12 := by omega
        refine v_aload_n hx d_Mo_machine_33 rfl rfl ?_
        refine v_iload_n hx d_Mo_machine_34 rfl rfl ?_
        refine v_iload_n hx d_Mo_machine_35 rfl rfl ?_
        refine v_callV (as := [.int (nI a), .int (nI d)]) (q := (R_Mo, T_Mo, 19)) hx (c_Mo_newMachine mf1 hlt a d) cy_Mo_newMachine k_Mo_68 ki_Mo_newMachine kl_Mo_newMachine d_Mo_machine_36 (by decide) (ci := 4) rfl mf1.m0 mf1.f0 (by decide) rfl rfl (Nat.le_of_ble_eq_true rfl) (fun v4 L f9 p4 => ?_)
        obtain ⟨rfl, rfl, hF9, nx1, ou1, hM9, hold, hnew⟩ := p4
        have hF10 := Ff1.tr hF9
        have hA9 : okA (fun t => nx1 (160 * mc + t)) (fun t => ou1 (160 * mc + t)) a d := ⟨l1, l2, l3, l4, fun s i hs hi => ⟨by show nx1 (160 * mc + (s * 4 + i)) < a; rw [(hnew (s * 4 + i) (by omega)).1]; omega, by show ou1 (160 * mc + (s * 4 + i)) < 10; rw [(hnew (s * 4 + i) (by omega)).2]; decide⟩⟩
        refine v_goto (tgt := 43) hx d_Mo_machine_39 (by decide) ?_
        exact v_iret hx hr d_Mo_machine_43 ⟨_, 0, (pic (mc + 1) (va_up sa mc a) (va_up ka mc d) nx1 ou1 wl wd), rfl, rfl, hF10, ⟨pic_new hG hlt hold hA9, _, _, _, _, _, _, _, _, _, _, _, _, _, hM9, rfl, rfl⟩, rfl, Or.inl ⟨a, d, rfl, rfl, l1, l2, l3, l4, hlt, rfl, (pic_plus hG hold).of (fun s i hs hi => ⟨(hnew (s * 4 + i) (by omega)).1, (hnew (s * 4 + i) (by omega)).2⟩)⟩⟩
set_option maxHeartbeats 4000000 in
set_option maxRecDepth 100000 in
theorem c_Mo_arrow {G : GT} {L : List Nat} {f : Nat → va_E} {w A : Nat → Nat} {th : Nat} {mc : Nat} {sa : Nat → Nat} {ka : Nat → Nat} {nx : Nat → Nat} {ou : Nat → Nat} {wl : Nat} {wd : Nat → Nat} {ap : Nat → Bool} {fo : Nat} {se : Nat → Nat} {fr : Nat → Option Nat} {by_ : Nat → Nat} {is : Nat → Bool} {tr : Nat} {my : Nat → Nat} {ss : Nat → Nat} {tf : Nat → Option Nat} {tb : Nat → Nat} (hM : MoAt G L f w 100 A th mc sa ka nx ou wl wd ap fo se fr by_ is tr my ss tf tb) (hG : okG (pic mc sa ka nx ou wl wd)) (p q u t o : Int32) : Con G y_Mo_arrow (.code y_Mo_arrow b_Mo_arrow 6 (some .boolean) :: BIG) 3 65 0 0 [.ref (A 0), .int p, .int q, .int u, .int t, .int o] L f (fun v L' f' => ∃ (vi : Int32) (th' : Nat) (σ' : SG), v = some (.int vi) ∧ L' = L ∧ gF w 100 f f' ∧ MoS G L f' w A th' σ' ∧ th' = 0 ∧ rArrow (pic mc sa ka nx ou wl wd) p q u t o vi σ') := by
  refine con_of (cc := b_Mo_arrow) (mL := 6) (lv := [some (.ref (A 0)), some (.int p), some (.int q), some (.int u), some (.int t), some (.int o)]) (by decide) (by intro w hw; simp at hw; rcases hw with rfl | rfl | rfl | rfl | rfl | rfl <;> rfl) (by first | exact Nat.le_of_ble_eq_true rfl | decide) rfl ?_
  intro x hx hr hin
  have hF0 := gF.rf (w := w) (id := 100) (f := f)
  obtain ⟨hmc, hok, hwl, hwd⟩ := id hG
  have hmc : mc ≤ 12 := hmc
  have hok : ∀ j, j < mc → okA (fun t => nx (160 * j + t)) (fun t => ou (160 * j + t)) (sa j) (ka j) := hok
  have hwl : wl ≤ 4096 := hwl
  have hwd : ∀ j, j < wl → wd j < 4 := hwd
  have hsa : ∀ j, j < mc → sa j ≤ 40 := fun j hj => (hok j hj).2.1
  have hka : ∀ j, j < mc → ka j ≤ 4 := fun j hj => (hok j hj).2.2.2.1
  refine v_aload_n hx d_Mo_arrow_0 rfl rfl ?_
  refine v_iconst (v := (nI 0)) hx d_Mo_arrow_1 rfl ?_
  refine v_put hx cf_Mo 0 (by decide) k_Mo_53 rfl rfl rfl d_Mo_arrow_2 hM.m0 hM.f0 (Nat.le_of_ble_eq_true rfl) (fun f1 hf1 => ?_)
  have mf1 := hM.up0 hf1
  have Ff1 := hF0.up hf1 hM.o0
  refine v_aload_n hx d_Mo_arrow_5 rfl rfl ?_
  refine v_iload_n hx d_Mo_arrow_6 rfl rfl ?_
  refine v_iload_n hx d_Mo_arrow_7 rfl rfl ?_
  refine v_callV (as := [.int p, .int q]) (q := (R_Mo, T_Mo, 19)) hx (c_Mo_isState mf1 hmc hsa p q) cy_Mo_isState k_Mo_72 ki_Mo_isState kl_Mo_isState d_Mo_arrow_8 (by decide) (ci := 4) rfl mf1.m0 mf1.f0 (by decide) rfl rfl (Nat.le_of_ble_eq_true rfl) (fun v2 L f1 p2 => ?_)
  obtain ⟨rfl, rfl, rfl⟩ := p2
  refine v_if_eq (tgt := 58) hx d_Mo_arrow_11 (by decide) (fun c11 => ?_) (fun c11 => ?_)
  · refine v_iconst (v := (nI 0)) hx d_Mo_arrow_58 rfl ?_
    exact v_zret hx hr d_Mo_arrow_59 rfl ⟨_, 0, (pic mc sa ka nx ou wl wd), rfl, rfl, Ff1, ⟨hG, _, _, _, _, _, _, _, _, _, _, _, _, _, mf1, rfl, rfl⟩, rfl, Or.inr ⟨fun ⟨m, s, i, a, b, g1, g2, g3, g4, g5⟩ => ixS_none c11 ⟨m, s, g1, g2⟩, rfl, Rel.rf _⟩⟩
  · obtain ⟨m, s, em, es⟩ := ixS_some c11
    obtain ⟨hm, zm⟩ := ix_some (by omega) em
    have hAm := hok m hm
    have hsm := hsa m hm
    have hkm := hka m hm
    obtain ⟨hs, zs⟩ := ix_some (by omega) es
    subst zm
    subst zs
    refine v_iload_n hx d_Mo_arrow_14 rfl rfl ?_
    refine v_iconst (v := (nI 0)) hx d_Mo_arrow_15 rfl ?_
    refine v_aload_n hx d_Mo_arrow_16 rfl rfl ?_
    refine v_get hx cf_Mo 3 (by decide) k_Mo_13 d_Mo_arrow_17 mf1.m0 mf1.f0 rfl ?_
    refine v_iload_n hx d_Mo_arrow_20 rfl rfl ?_
    refine n_iald hx d_Mo_arrow_21 mf1.m2 mf1.f2 (by omega) (by decide) ?_
    refine v_iconst (v := (nI 1)) hx d_Mo_arrow_22 rfl ?_
    refine v_isub hx d_Mo_arrow_23 rfl ?_
    refine v_callS (as := [.int u, .int (nI 0), .int ((nI (ka m)) - (nI 1))]) hx (c_Mo_in u (nI 0) (nI (ka m) - nI 1)) cy_Mo_in k_Mo_60 ks_Mo_in d_Mo_arrow_24 (by decide) (by decide) rfl rfl (Nat.le_of_ble_eq_true rfl) (fun v3 L f1 p3 => ?_)
    obtain ⟨rfl, rfl, rfl⟩ := p3
    rw [in_ix (by omega)]
    refine v_if_eq (tgt := 58) hx d_Mo_arrow_27 (by decide) (fun c27 => ?_) (fun c27 => ?_)
    · refine v_iconst (v := (nI 0)) hx d_Mo_arrow_58 rfl ?_
      exact v_zret hx hr d_Mo_arrow_59 rfl ⟨_, 0, (pic mc sa ka nx ou wl wd), rfl, rfl, Ff1, ⟨hG, _, _, _, _, _, _, _, _, _, _, _, _, _, mf1, rfl, rfl⟩, rfl, Or.inr ⟨fun ⟨m_, s_, i, a, b, g1, g2, g3, g4, g5⟩ => (by have h1 : some m = some m_ := em.symm.trans g1; cases h1; rw [none_ix c27] at g3; cases g3), rfl, Rel.rf _⟩⟩
    · refine v_iload hx d_Mo_arrow_30 rfl ?_
      refine v_iconst (v := (nI 0)) hx d_Mo_arrow_32 rfl ?_
      refine v_aload_n hx d_Mo_arrow_33 rfl rfl ?_
      refine v_get hx cf_Mo 2 (by decide) k_Mo_7 d_Mo_arrow_34 mf1.m0 mf1.f0 rfl ?_
      refine v_iload_n hx d_Mo_arrow_37 rfl rfl ?_
      refine n_iald hx d_Mo_arrow_38 mf1.m1 mf1.f1 (by omega) (by decide) ?_
      refine v_iconst (v := (nI 1)) hx d_Mo_arrow_39 rfl ?_
      refine v_isub hx d_Mo_arrow_40 rfl ?_
      refine v_callS (as := [.int t, .int (nI 0), .int ((nI (sa m)) - (nI 1))]) hx (c_Mo_in t (nI 0) (nI (sa m) - nI 1)) cy_Mo_in k_Mo_60 ks_Mo_in d_Mo_arrow_41 (by decide) (by decide) rfl rfl (Nat.le_of_ble_eq_true rfl) (fun v4 L f1 p4 => ?_)
      obtain ⟨rfl, rfl, rfl⟩ := p4
      rw [in_ix (by omega)]
      refine v_if_eq (tgt := 58) hx d_Mo_arrow_44 (by decide) (fun c44 => ?_) (fun c44 => ?_)
      · refine v_iconst (v := (nI 0)) hx d_Mo_arrow_58 rfl ?_
        exact v_zret hx hr d_Mo_arrow_59 rfl ⟨_, 0, (pic mc sa ka nx ou wl wd), rfl, rfl, Ff1, ⟨hG, _, _, _, _, _, _, _, _, _, _, _, _, _, mf1, rfl, rfl⟩, rfl, Or.inr ⟨fun ⟨m_, s_, i, a, b, g1, g2, g3, g4, g5⟩ => (by have h1 : some m = some m_ := em.symm.trans g1; cases h1; rw [none_ix c44] at g4; cases g4), rfl, Rel.rf _⟩⟩
      · refine v_iload hx d_Mo_arrow_47 rfl ?_
        refine v_iconst (v := (nI 0)) hx d_Mo_arrow_49 rfl ?_
        refine v_bipush (v := (nI 9)) hx d_Mo_arrow_50 rfl ?_
        refine v_callS (as := [.int o, .int (nI 0), .int (nI 9)]) hx (c_Mo_in o (nI 0) (nI 9)) cy_Mo_in k_Mo_60 ks_Mo_in d_Mo_arrow_52 (by decide) (by decide) rfl rfl (Nat.le_of_ble_eq_true rfl) (fun v5 L f1 p5 => ?_)
        obtain ⟨rfl, rfl, rfl⟩ := p5
        rw [in_ix1 (by decide)]
        refine v_if_ne (tgt := 60) hx d_Mo_arrow_55 (by decide) (fun c55 => ?_) (fun c55 => ?_)
        · obtain ⟨j, ej⟩ := some_ix c27
          obtain ⟨a, ea⟩ := some_ix c44
          obtain ⟨d, ed⟩ := some_ix c55
          obtain ⟨hj, zj⟩ := ix_some (by omega) ej
          obtain ⟨ha, za⟩ := ix_some (by omega) ea
          obtain ⟨hd, zd⟩ := ix_some (by omega) ed
          subst zj
          subst za
          subst zd
          refine v_aload_n hx d_Mo_arrow_60 rfl rfl ?_
          refine v_get hx cf_Mo 4 (by decide) k_Mo_16 d_Mo_arrow_61 mf1.m0 mf1.f0 rfl ?_
          refine v_sipush (v := (nI 160)) hx d_Mo_arrow_64 rfl ?_
          refine v_iload_n hx d_Mo_arrow_67 rfl rfl ?_
          refine n_imul hx d_Mo_arrow_68 ?_
          refine v_iconst (v := (nI 4)) hx d_Mo_arrow_69 rfl ?_
          refine v_iload_n hx d_Mo_arrow_70 rfl rfl ?_
          refine n_imul hx d_Mo_arrow_71 ?_
          refine n_iadd hx d_Mo_arrow_72 ?_
          refine v_iload_n hx d_Mo_arrow_73 rfl rfl ?_
          refine n_iadd hx d_Mo_arrow_74 ?_
          refine v_iload hx d_Mo_arrow_75 rfl ?_
          refine nn_iast hx d_Mo_arrow_77 mf1.m3 mf1.f3 (by omega) (by decide) (fun f6 hf6 => ?_)
          have mf6 := mf1.up3 hf6
          have Ff6 := Ff1.up hf6 mf1.o3
          refine v_aload_n hx d_Mo_arrow_78 rfl rfl ?_
          refine v_get hx cf_Mo 5 (by decide) k_Mo_19 d_Mo_arrow_79 mf6.m0 mf6.f0 rfl ?_
          refine v_sipush (v := (nI 160)) hx d_Mo_arrow_82 rfl ?_
          refine v_iload_n hx d_Mo_arrow_85 rfl rfl ?_
          refine n_imul hx d_Mo_arrow_86 ?_
          refine v_iconst (v := (nI 4)) hx d_Mo_arrow_87 rfl ?_
          refine v_iload_n hx d_Mo_arrow_88 rfl rfl ?_
          refine n_imul hx d_Mo_arrow_89 ?_
          refine n_iadd hx d_Mo_arrow_90 ?_
          refine v_iload_n hx d_Mo_arrow_91 rfl rfl ?_
          refine n_iadd hx d_Mo_arrow_92 ?_
          refine v_iload hx d_Mo_arrow_93 rfl ?_
          refine nn_iast hx d_Mo_arrow_95 mf6.m4 mf6.f4 (by omega) (by decide) (fun f7 hf7 => ?_)
          have mf7 := mf6.up4 hf7
          have Ff7 := Ff6.up hf7 mf6.o4
          refine v_iconst (v := (nI 1)) hx d_Mo_arrow_96 rfl ?_
          exact v_zret hx hr d_Mo_arrow_97 rfl ⟨_, 0, (pic mc sa ka (va_up nx (((160 * m) + (4 * s)) + j) a) (va_up ou (((160 * m) + (4 * s)) + j) d) wl wd), rfl, rfl, Ff7, ⟨pic_arrow hG hm hs hj ha hd, _, _, _, _, _, _, _, _, _, _, _, _, _, mf7, rfl, rfl⟩, rfl, Or.inl ⟨m, s, j, a, d, ⟨em, es, ej, ea, ed⟩, by decide, rfl, relW.rf _, (pic_arr hG hm hs hj).1, (pic_arr hG hm hs hj).2⟩⟩
        · refine v_iconst (v := (nI 0)) hx d_Mo_arrow_58 rfl ?_
          exact v_zret hx hr d_Mo_arrow_59 rfl ⟨_, 0, (pic mc sa ka nx ou wl wd), rfl, rfl, Ff1, ⟨hG, _, _, _, _, _, _, _, _, _, _, _, _, _, mf1, rfl, rfl⟩, rfl, Or.inr ⟨fun ⟨m_, s_, i, a, b, g1, g2, g3, g4, g5⟩ => (by rw [none_ix c55] at g5; cases g5), rfl, Rel.rf _⟩⟩
theorem sLook_no {σ : SG} {p q u t : Int32} (h : ¬ ∃ m s, ix p (gc σ) = some m ∧ ix q (gn σ m) = some s) : sLook σ p q u t = -1 := by
  unfold sLook
  cases e : ix p (gc σ) with
  | none => rfl
  | some m =>
    simp only
    cases e2 : ix q (gn σ m) with
    | none => rfl
    | some s => exact absurd ⟨m, s, e, e2⟩ h
theorem sAlong_no {σ : SG} {p q : Int32} (h : ¬ ∃ m s, ix p (gc σ) = some m ∧ ix q (gn σ m) = some s) : sAlong σ p q = -1 := by
  unfold sAlong
  cases e : ix p (gc σ) with
  | none => rfl
  | some m =>
    simp only
    cases e2 : ix q (gn σ m) with
    | none => rfl
    | some s => exact absurd ⟨m, s, e, e2⟩ h
set_option maxHeartbeats 4000000 in
set_option maxRecDepth 100000 in
theorem c_Mo_look {G : GT} {L : List Nat} {f : Nat → va_E} {w A : Nat → Nat} {th : Nat} {mc : Nat} {sa : Nat → Nat} {ka : Nat → Nat} {nx : Nat → Nat} {ou : Nat → Nat} {wl : Nat} {wd : Nat → Nat} {ap : Nat → Bool} {fo : Nat} {se : Nat → Nat} {fr : Nat → Option Nat} {by_ : Nat → Nat} {is : Nat → Bool} {tr : Nat} {my : Nat → Nat} {ss : Nat → Nat} {tf : Nat → Option Nat} {tb : Nat → Nat} (hM : MoAt G L f w 100 A th mc sa ka nx ou wl wd ap fo se fr by_ is tr my ss tf tb) (hG : okG (pic mc sa ka nx ou wl wd)) (p q u t : Int32) : Con G y_Mo_look (.code y_Mo_look b_Mo_look 5 (some .int) :: BIG) 3 65 0 0 [.ref (A 0), .int p, .int q, .int u, .int t] L f (fun v L' f' => ∃ (vi : Int32) (th' : Nat) (σ' : SG), v = some (.int vi) ∧ L' = L ∧ gF w 100 f f' ∧ MoS G L f' w A th' σ' ∧ th' = 0 ∧ vi = sLook (pic mc sa ka nx ou wl wd) p q u t ∧ σ' = (pic mc sa ka nx ou wl wd)) := by
  refine con_of (cc := b_Mo_look) (mL := 5) (lv := [some (.ref (A 0)), some (.int p), some (.int q), some (.int u), some (.int t)]) (by decide) (by intro w hw; simp at hw; rcases hw with rfl | rfl | rfl | rfl | rfl <;> rfl) (by first | exact Nat.le_of_ble_eq_true rfl | decide) rfl ?_
  intro x hx hr hin
  have hF0 := gF.rf (w := w) (id := 100) (f := f)
  obtain ⟨hmc, hok, hwl, hwd⟩ := id hG
  have hmc : mc ≤ 12 := hmc
  have hok : ∀ j, j < mc → okA (fun t => nx (160 * j + t)) (fun t => ou (160 * j + t)) (sa j) (ka j) := hok
  have hwl : wl ≤ 4096 := hwl
  have hwd : ∀ j, j < wl → wd j < 4 := hwd
  have hsa : ∀ j, j < mc → sa j ≤ 40 := fun j hj => (hok j hj).2.1
  have hka : ∀ j, j < mc → ka j ≤ 4 := fun j hj => (hok j hj).2.2.2.1
  refine v_aload_n hx d_Mo_look_0 rfl rfl ?_
  refine v_iconst (v := (nI 0)) hx d_Mo_look_1 rfl ?_
  refine v_put hx cf_Mo 0 (by decide) k_Mo_53 rfl rfl rfl d_Mo_look_2 hM.m0 hM.f0 (Nat.le_of_ble_eq_true rfl) (fun f1 hf1 => ?_)
  have mf1 := hM.up0 hf1
  have Ff1 := hF0.up hf1 hM.o0
  refine v_aload_n hx d_Mo_look_5 rfl rfl ?_
  refine v_iload_n hx d_Mo_look_6 rfl rfl ?_
  refine v_iload_n hx d_Mo_look_7 rfl rfl ?_
  refine v_callV (as := [.int p, .int q]) (q := (R_Mo, T_Mo, 19)) hx (c_Mo_isState mf1 hmc hsa p q) cy_Mo_isState k_Mo_72 ki_Mo_isState kl_Mo_isState d_Mo_look_8 (by decide) (ci := 4) rfl mf1.m0 mf1.f0 (by decide) rfl rfl (Nat.le_of_ble_eq_true rfl) (fun v2 L f1 p2 => ?_)
  obtain ⟨rfl, rfl, rfl⟩ := p2
  refine v_if_eq (tgt := 30) hx d_Mo_look_11 (by decide) (fun c11 => ?_) (fun c11 => ?_)
  · refine v_iconst (v := (-1)) hx d_Mo_look_30 rfl ?_
    exact v_iret hx hr d_Mo_look_31 ⟨_, 0, (pic mc sa ka nx ou wl wd), rfl, rfl, Ff1, ⟨hG, _, _, _, _, _, _, _, _, _, _, _, _, _, mf1, rfl, rfl⟩, rfl, (sLook_no (σ := (pic mc sa ka nx ou wl wd)) (ixS_none c11)).symm, rfl⟩
  · obtain ⟨m, s, em, es⟩ := ixS_some c11
    obtain ⟨hm, zm⟩ := ix_some (by omega) em
    have hAm := hok m hm
    have hsm := hsa m hm
    have hkm := hka m hm
    obtain ⟨hs, zs⟩ := ix_some (by omega) es
    subst zm
    subst zs
    refine v_iload_n hx d_Mo_look_14 rfl rfl ?_
    refine v_iconst (v := (nI 0)) hx d_Mo_look_15 rfl ?_
    refine v_aload_n hx d_Mo_look_16 rfl rfl ?_
    refine v_get hx cf_Mo 3 (by decide) k_Mo_13 d_Mo_look_17 mf1.m0 mf1.f0 rfl ?_
    refine v_iload_n hx d_Mo_look_20 rfl rfl ?_
    refine n_iald hx d_Mo_look_21 mf1.m2 mf1.f2 (by omega) (by decide) ?_
    refine v_iconst (v := (nI 1)) hx d_Mo_look_22 rfl ?_
    refine v_isub hx d_Mo_look_23 rfl ?_
    refine v_callS (as := [.int u, .int (nI 0), .int ((nI (ka m)) - (nI 1))]) hx (c_Mo_in u (nI 0) (nI (ka m) - nI 1)) cy_Mo_in k_Mo_60 ks_Mo_in d_Mo_look_24 (by decide) (by decide) rfl rfl (Nat.le_of_ble_eq_true rfl) (fun v3 L f1 p3 => ?_)
    obtain ⟨rfl, rfl, rfl⟩ := p3
    rw [in_ix (by omega)]
    refine v_if_ne (tgt := 32) hx d_Mo_look_27 (by decide) (fun c27 => ?_) (fun c27 => ?_)
    · obtain ⟨j, ej⟩ := some_ix c27
      obtain ⟨hj, zj⟩ := ix_some (by omega) ej
      subst zj
      refine v_iload hx d_Mo_look_32 rfl ?_
      refine v_if_ne (tgt := 56) hx d_Mo_look_34 (by decide) (fun c34 => ?_) (fun c34 => ?_)
      · refine v_iload hx d_Mo_look_56 rfl ?_
        refine v_iconst (v := (nI 1)) hx d_Mo_look_58 rfl ?_
        refine v_icmp_ne (tgt := 81) hx d_Mo_look_59 (by decide) (fun c59 => ?_) (fun c59 => ?_)
        · refine v_iconst (v := (-1)) hx d_Mo_look_81 rfl ?_
          exact v_iret hx hr d_Mo_look_82 ⟨_, 0, (pic mc sa ka nx ou wl wd), rfl, rfl, Ff1, ⟨hG, _, _, _, _, _, _, _, _, _, _, _, _, _, mf1, rfl, rfl⟩, rfl, (by show _ = sLook (pic mc sa ka nx ou wl wd) _ _ _ _; have em_ : ix (nI m) mc = some m := em; simp only [sLook, em_, es, ej, if_neg c34, if_neg (show ¬ t = 1 from c59)]), rfl⟩
        · refine v_aload_n hx d_Mo_look_62 rfl rfl ?_
          refine v_get hx cf_Mo 5 (by decide) k_Mo_19 d_Mo_look_63 mf1.m0 mf1.f0 rfl ?_
          refine v_sipush (v := (nI 160)) hx d_Mo_look_66 rfl ?_
          refine v_iload_n hx d_Mo_look_69 rfl rfl ?_
          refine n_imul hx d_Mo_look_70 ?_
          refine v_iconst (v := (nI 4)) hx d_Mo_look_71 rfl ?_
          refine v_iload_n hx d_Mo_look_72 rfl rfl ?_
          refine n_imul hx d_Mo_look_73 ?_
          refine n_iadd hx d_Mo_look_74 ?_
          refine v_iload_n hx d_Mo_look_75 rfl rfl ?_
          refine n_iadd hx d_Mo_look_76 ?_
          refine n_iald hx d_Mo_look_77 mf1.m4 mf1.f4 (by omega) (by decide) ?_
          refine v_goto (tgt := 82) hx d_Mo_look_78 (by decide) ?_
          exact v_iret hx hr d_Mo_look_82 ⟨_, 0, (pic mc sa ka nx ou wl wd), rfl, rfl, Ff1, ⟨hG, _, _, _, _, _, _, _, _, _, _, _, _, _, mf1, rfl, rfl⟩, rfl, (by show _ = sLook (pic mc sa ka nx ou wl wd) _ _ _ _; have em_ : ix (nI m) mc = some m := em; simp only [sLook, em_, es, ej, if_neg c34, if_pos (show t = 1 from c59)]; rw [pic_ix]), rfl⟩
      · refine v_aload_n hx d_Mo_look_37 rfl rfl ?_
        refine v_get hx cf_Mo 4 (by decide) k_Mo_16 d_Mo_look_38 mf1.m0 mf1.f0 rfl ?_
        refine v_sipush (v := (nI 160)) hx d_Mo_look_41 rfl ?_
        refine v_iload_n hx d_Mo_look_44 rfl rfl ?_
        refine n_imul hx d_Mo_look_45 ?_
        refine v_iconst (v := (nI 4)) hx d_Mo_look_46 rfl ?_
        refine v_iload_n hx d_Mo_look_47 rfl rfl ?_
        refine n_imul hx d_Mo_look_48 ?_
        refine n_iadd hx d_Mo_look_49 ?_
        refine v_iload_n hx d_Mo_look_50 rfl rfl ?_
        refine n_iadd hx d_Mo_look_51 ?_
        refine n_iald hx d_Mo_look_52 mf1.m3 mf1.f3 (by omega) (by decide) ?_
        refine v_goto (tgt := 82) hx d_Mo_look_53 (by decide) ?_
        exact v_iret hx hr d_Mo_look_82 ⟨_, 0, (pic mc sa ka nx ou wl wd), rfl, rfl, Ff1, ⟨hG, _, _, _, _, _, _, _, _, _, _, _, _, _, mf1, rfl, rfl⟩, rfl, (by show _ = sLook (pic mc sa ka nx ou wl wd) _ _ _ _; have em_ : ix (nI m) mc = some m := em; simp only [sLook, em_, es, ej, if_pos c34]; rw [pic_ix]), rfl⟩
    · refine v_iconst (v := (-1)) hx d_Mo_look_30 rfl ?_
      exact v_iret hx hr d_Mo_look_31 ⟨_, 0, (pic mc sa ka nx ou wl wd), rfl, rfl, Ff1, ⟨hG, _, _, _, _, _, _, _, _, _, _, _, _, _, mf1, rfl, rfl⟩, rfl, (by show _ = sLook (pic mc sa ka nx ou wl wd) _ _ _ _; have em_ : ix (nI m) mc = some m := em; simp only [sLook, em_, es, none_ix c27]), rfl⟩
set_option maxHeartbeats 4000000 in
set_option maxRecDepth 100000 in
theorem c_Mo_letter {G : GT} {L : List Nat} {f : Nat → va_E} {w A : Nat → Nat} {th : Nat} {mc : Nat} {sa : Nat → Nat} {ka : Nat → Nat} {nx : Nat → Nat} {ou : Nat → Nat} {wl : Nat} {wd : Nat → Nat} {ap : Nat → Bool} {fo : Nat} {se : Nat → Nat} {fr : Nat → Option Nat} {by_ : Nat → Nat} {is : Nat → Bool} {tr : Nat} {my : Nat → Nat} {ss : Nat → Nat} {tf : Nat → Option Nat} {tb : Nat → Nat} (hM : MoAt G L f w 100 A th mc sa ka nx ou wl wd ap fo se fr by_ is tr my ss tf tb) (hG : okG (pic mc sa ka nx ou wl wd)) (p : Int32) : Con G y_Mo_letter (.code y_Mo_letter b_Mo_letter 2 (some .int) :: BIG) 1 22 0 0 [.ref (A 0), .int p] L f (fun v L' f' => ∃ (vi : Int32) (th' : Nat) (σ' : SG), v = some (.int vi) ∧ L' = L ∧ gF w 100 f f' ∧ MoS G L f' w A th' σ' ∧ (th' = 0 ∧ some vi = sLetter (pic mc sa ka nx ou wl wd) p ∨ th' = 1 ∧ none = sLetter (pic mc sa ka nx ou wl wd) p) ∧ σ' = (pic mc sa ka nx ou wl wd)) := by
  refine con_of (cc := b_Mo_letter) (mL := 2) (lv := [some (.ref (A 0)), some (.int p)]) (by decide) (by intro w hw; simp at hw; rcases hw with rfl | rfl <;> rfl) (by first | exact Nat.le_of_ble_eq_true rfl | decide) rfl ?_
  intro x hx hr hin
  have hF0 := gF.rf (w := w) (id := 100) (f := f)
  obtain ⟨hmc, hok, hwl, hwd⟩ := id hG
  have hmc : mc ≤ 12 := hmc
  have hok : ∀ j, j < mc → okA (fun t => nx (160 * j + t)) (fun t => ou (160 * j + t)) (sa j) (ka j) := hok
  have hwl : wl ≤ 4096 := hwl
  have hwd : ∀ j, j < wl → wd j < 4 := hwd
  have hsa : ∀ j, j < mc → sa j ≤ 40 := fun j hj => (hok j hj).2.1
  have hka : ∀ j, j < mc → ka j ≤ 4 := fun j hj => (hok j hj).2.2.2.1
  refine v_aload_n hx d_Mo_letter_0 rfl rfl ?_
  refine v_iload_n hx d_Mo_letter_1 rfl rfl ?_
  refine v_iconst (v := (nI 0)) hx d_Mo_letter_2 rfl ?_
  refine v_aload_n hx d_Mo_letter_3 rfl rfl ?_
  refine v_get hx cf_Mo 6 (by decide) k_Mo_94 d_Mo_letter_4 hM.m0 hM.f0 rfl ?_
  refine v_iconst (v := (nI 1)) hx d_Mo_letter_7 rfl ?_
  refine v_isub hx d_Mo_letter_8 rfl ?_
  refine v_callS (as := [.int p, .int (nI 0), .int ((nI wl) - (nI 1))]) hx (c_Mo_in p (nI 0) (nI wl - nI 1)) cy_Mo_in k_Mo_60 ks_Mo_in d_Mo_letter_9 (by decide) (by decide) rfl rfl (Nat.le_of_ble_eq_true rfl) (fun v1 L f p1 => ?_)
  obtain ⟨rfl, rfl, rfl⟩ := p1
  rw [in_ix (by omega)]
  refine v_if_eq (tgt := 19) hx d_Mo_letter_12 (by decide) (fun c12 => ?_) (fun c12 => ?_)
  · refine v_iconst (v := (nI 1)) hx d_Mo_letter_19 rfl ?_
    refine v_put hx cf_Mo 0 (by decide) k_Mo_53 rfl rfl rfl d_Mo_letter_20 hM.m0 hM.f0 (Nat.le_of_ble_eq_true rfl) (fun f2 hf2 => ?_)
    have mf2 := hM.up0 hf2
    have Ff2 := hF0.up hf2 hM.o0
    refine v_aload_n hx d_Mo_letter_23 rfl rfl ?_
    refine v_get hx cf_Mo 0 (by decide) k_Mo_53 d_Mo_letter_24 mf2.m0 mf2.f0 rfl ?_
    refine n_if_ne (tgt := 39) hx d_Mo_letter_27 (by decide) (by omega) (fun c27 => ?_) (fun c27 => ?_)
    · refine v_iconst (v := (nI 0)) hx d_Mo_letter_39 rfl ?_
      exact v_iret hx hr d_Mo_letter_40 ⟨_, 1, (pic mc sa ka nx ou wl wd), rfl, rfl, Ff2, ⟨hG, _, _, _, _, _, _, _, _, _, _, _, _, _, mf2, rfl, rfl⟩, Or.inr ⟨rfl, by show _ = sLetter (pic mc sa ka nx ou wl wd) _; simp only [sLetter, none_ix c12]⟩, rfl⟩
    · exact absurd c27 (by omega)
  · refine v_iconst (v := (nI 0)) hx d_Mo_letter_15 rfl ?_
    refine v_goto (tgt := 20) hx d_Mo_letter_16 (by decide) ?_
    refine v_put hx cf_Mo 0 (by decide) k_Mo_53 rfl rfl rfl d_Mo_letter_20 hM.m0 hM.f0 (Nat.le_of_ble_eq_true rfl) (fun f3 hf3 => ?_)
    have mf3 := hM.up0 hf3
    have Ff3 := hF0.up hf3 hM.o0
    refine v_aload_n hx d_Mo_letter_23 rfl rfl ?_
    refine v_get hx cf_Mo 0 (by decide) k_Mo_53 d_Mo_letter_24 mf3.m0 mf3.f0 rfl ?_
    refine n_if_ne (tgt := 39) hx d_Mo_letter_27 (by decide) (by omega) (fun c27 => ?_) (fun c27 => ?_)
    · exact absurd c27 (by omega)
    · obtain ⟨j, ej⟩ := some_ix c12
      obtain ⟨hj, zj⟩ := ix_some (by omega) ej
      subst zj
      refine v_aload_n hx d_Mo_letter_30 rfl rfl ?_
      refine v_get hx cf_Mo 7 (by decide) k_Mo_22 d_Mo_letter_31 mf3.m0 mf3.f0 rfl ?_
      refine v_iload_n hx d_Mo_letter_34 rfl rfl ?_
      refine n_iald hx d_Mo_letter_35 mf3.m5 mf3.f5 (by omega) (by decide) ?_
      refine v_goto (tgt := 40) hx d_Mo_letter_36 (by decide) ?_
      exact v_iret hx hr d_Mo_letter_40 ⟨_, 0, (pic mc sa ka nx ou wl wd), rfl, rfl, Ff3, ⟨hG, _, _, _, _, _, _, _, _, _, _, _, _, _, mf3, rfl, rfl⟩, Or.inl ⟨rfl, by show _ = sLetter (pic mc sa ka nx ou wl wd) _; simp only [sLetter, ej]⟩, rfl⟩
set_option maxHeartbeats 4000000 in
set_option maxRecDepth 100000 in
theorem c_Mo_clear {G : GT} {L : List Nat} {f : Nat → va_E} {w A : Nat → Nat} {th : Nat} {mc : Nat} {sa : Nat → Nat} {ka : Nat → Nat} {nx : Nat → Nat} {ou : Nat → Nat} {wl : Nat} {wd : Nat → Nat} {ap : Nat → Bool} {fo : Nat} {se : Nat → Nat} {fr : Nat → Option Nat} {by_ : Nat → Nat} {is : Nat → Bool} {tr : Nat} {my : Nat → Nat} {ss : Nat → Nat} {tf : Nat → Option Nat} {tb : Nat → Nat} (hM : MoAt G L f w 100 A th mc sa ka nx ou wl wd ap fo se fr by_ is tr my ss tf tb) (hG : okG (pic mc sa ka nx ou wl wd)) : Con G y_Mo_clear (.code y_Mo_clear b_Mo_clear 1 none :: BIG) 0 0 0 0 [.ref (A 0)] L f (fun v L' f' => v = none ∧ L' = L ∧ gF w 100 f f' ∧ ∃ σ', MoS G L f' w A 0 σ' ∧ gc σ' = 0 ∧ relW (pic mc sa ka nx ou wl wd) σ') := by
  refine con_of (cc := b_Mo_clear) (mL := 1) (lv := [some (.ref (A 0))]) (by decide) (by intro w hw; simp at hw; rcases hw with rfl <;> rfl) (by first | exact Nat.le_of_ble_eq_true rfl | decide) rfl ?_
  intro x hx hr hin
  have hF0 := gF.rf (w := w) (id := 100) (f := f)
  refine v_aload_n hx d_Mo_clear_0 rfl rfl ?_
  refine v_iconst (v := (nI 0)) hx d_Mo_clear_1 rfl ?_
  refine v_put hx cf_Mo 0 (by decide) k_Mo_53 rfl rfl rfl d_Mo_clear_2 hM.m0 hM.f0 (Nat.le_of_ble_eq_true rfl) (fun f1 hf1 => ?_)
  have mf1 := hM.up0 hf1
  have Ff1 := hF0.up hf1 hM.o0
  refine v_aload_n hx d_Mo_clear_5 rfl rfl ?_
  refine v_iconst (v := (nI 0)) hx d_Mo_clear_6 rfl ?_
  refine v_put hx cf_Mo 1 (by decide) k_Mo_57 rfl rfl rfl d_Mo_clear_7 mf1.m0 mf1.f0 (Nat.le_of_ble_eq_true rfl) (fun f2 hf2 => ?_)
  have mf2 := mf1.up0 hf2
  have Ff2 := Ff1.up hf2 mf1.o0
  exact v_vret hx hr d_Mo_clear_10 ⟨rfl, rfl, Ff2, (pic 0 sa ka nx ou wl wd), ⟨⟨Nat.zero_le _, fun j hj => absurd hj (Nat.not_lt_zero _), hG.2.2⟩, _, _, _, _, _, _, _, _, _, _, _, _, _, mf2, rfl, rfl⟩, rfl, relW.rf _⟩
set_option maxHeartbeats 4000000 in
set_option maxRecDepth 100000 in
theorem c_Mo_total {G : GT} {L : List Nat} {f : Nat → va_E} {w A : Nat → Nat} {th : Nat} {mc : Nat} {sa : Nat → Nat} {ka : Nat → Nat} {nx : Nat → Nat} {ou : Nat → Nat} {wl : Nat} {wd : Nat → Nat} {ap : Nat → Bool} {fo : Nat} {se : Nat → Nat} {fr : Nat → Option Nat} {by_ : Nat → Nat} {is : Nat → Bool} {tr : Nat} {my : Nat → Nat} {ss : Nat → Nat} {tf : Nat → Option Nat} {tb : Nat → Nat} (hM : MoAt G L f w 100 A th mc sa ka nx ou wl wd ap fo se fr by_ is tr my ss tf tb) (hG : okG (pic mc sa ka nx ou wl wd)) (p : Int32) : Con G y_Mo_total (.code y_Mo_total b_Mo_total 2 (some .int) :: BIG) 2 43 0 0 [.ref (A 0), .int p] L f (fun v L' f' => ∃ (vi : Int32) (th' : Nat) (σ' : SG), v = some (.int vi) ∧ L' = L ∧ gF w 100 f f' ∧ MoS G L f' w A th' σ' ∧ th' = 0 ∧ vi = sTotal (pic mc sa ka nx ou wl wd) p ∧ σ' = (pic mc sa ka nx ou wl wd)) := by
  refine con_of (cc := b_Mo_total) (mL := 2) (lv := [some (.ref (A 0)), some (.int p)]) (by decide) (by intro w hw; simp at hw; rcases hw with rfl | rfl <;> rfl) (by first | exact Nat.le_of_ble_eq_true rfl | decide) rfl ?_
  intro x hx hr hin
  have hF0 := gF.rf (w := w) (id := 100) (f := f)
  obtain ⟨hmc, hok, hwl, hwd⟩ := id hG
  have hmc : mc ≤ 12 := hmc
  have hok : ∀ j, j < mc → okA (fun t => nx (160 * j + t)) (fun t => ou (160 * j + t)) (sa j) (ka j) := hok
  have hwl : wl ≤ 4096 := hwl
  have hwd : ∀ j, j < wl → wd j < 4 := hwd
  have hsa : ∀ j, j < mc → sa j ≤ 40 := fun j hj => (hok j hj).2.1
  have hka : ∀ j, j < mc → ka j ≤ 4 := fun j hj => (hok j hj).2.2.2.1
  refine v_aload_n hx d_Mo_total_0 rfl rfl ?_
  refine v_iconst (v := (nI 0)) hx d_Mo_total_1 rfl ?_
  refine v_put hx cf_Mo 0 (by decide) k_Mo_53 rfl rfl rfl d_Mo_total_2 hM.m0 hM.f0 (Nat.le_of_ble_eq_true rfl) (fun f1 hf1 => ?_)
  have mf1 := hM.up0 hf1
  have Ff1 := hF0.up hf1 hM.o0
  refine v_iload_n hx d_Mo_total_5 rfl rfl ?_
  refine v_if_ne (tgt := 14) hx d_Mo_total_6 (by decide) (fun c6 => ?_) (fun c6 => ?_)
  · refine v_iload_n hx d_Mo_total_14 rfl rfl ?_
    refine v_iconst (v := (nI 1)) hx d_Mo_total_15 rfl ?_
    refine v_icmp_ne (tgt := 24) hx d_Mo_total_16 (by decide) (fun c16 => ?_) (fun c16 => ?_)
    · refine v_iload_n hx d_Mo_total_24 rfl rfl ?_
      refine v_sipush (v := (nI 200)) hx d_Mo_total_25 rfl ?_
      refine v_icmp_lt (tgt := 58) hx d_Mo_total_28 (by decide) (fun c28 => ?_) (fun c28 => ?_)
      · refine v_aload_n hx d_Mo_total_58 rfl rfl ?_
        refine v_iload_n hx d_Mo_total_59 rfl rfl ?_
        refine v_bipush (v := (nI 100)) hx d_Mo_total_60 rfl ?_
        refine v_isub hx d_Mo_total_62 rfl ?_
        refine v_callV (as := [.int (p - (nI 100))]) (q := (R_Mo, T_Mo, 19)) hx (c_Mo_isMachine mf1 hmc (p - nI 100)) cy_Mo_isMachine k_Mo_64 ki_Mo_isMachine kl_Mo_isMachine d_Mo_total_63 (by decide) (ci := 4) rfl mf1.m0 mf1.f0 (by decide) rfl rfl (Nat.le_of_ble_eq_true rfl) (fun v2 L f1 p2 => ?_)
        obtain ⟨rfl, rfl, rfl⟩ := p2
        refine v_if_eq (tgt := 81) hx d_Mo_total_66 (by decide) (fun c66 => ?_) (fun c66 => ?_)
        · refine v_iconst (v := (-1)) hx d_Mo_total_81 rfl ?_
          exact v_iret hx hr d_Mo_total_82 ⟨_, 0, (pic mc sa ka nx ou wl wd), rfl, rfl, Ff1, ⟨hG, _, _, _, _, _, _, _, _, _, _, _, _, _, mf1, rfl, rfl⟩, rfl, (by show _ = sTotal (pic mc sa ka nx ou wl wd) p; have e_ : ix (p - 100) mc = none := none_ix c66; simp only [sTotal, if_neg c6, if_neg (show ¬ p = 1 from c16), if_neg (show ¬ (200 : Int32) ≤ p from Int32.not_le.mpr c28), e_]), rfl⟩
        · obtain ⟨j, ej⟩ := some_ix c66
          obtain ⟨hj, zj⟩ := ix_some (by omega) ej
          refine v_aload_n hx d_Mo_total_69 rfl rfl ?_
          refine v_get hx cf_Mo 2 (by decide) k_Mo_7 d_Mo_total_70 mf1.m0 mf1.f0 rfl ?_
          refine v_iload_n hx d_Mo_total_73 rfl rfl ?_
          refine v_bipush (v := (nI 100)) hx d_Mo_total_74 rfl ?_
          refine v_isub hx d_Mo_total_76 rfl ?_
          rw [zj]
          refine n_iald hx d_Mo_total_77 mf1.m1 mf1.f1 (by omega) (by decide) ?_
          refine v_goto (tgt := 82) hx d_Mo_total_78 (by decide) ?_
          exact v_iret hx hr d_Mo_total_82 ⟨_, 0, (pic mc sa ka nx ou wl wd), rfl, rfl, Ff1, ⟨hG, _, _, _, _, _, _, _, _, _, _, _, _, _, mf1, rfl, rfl⟩, rfl, (by show _ = sTotal (pic mc sa ka nx ou wl wd) p; have e_ : ix (p - 100) mc = some j := ej; simp only [sTotal, if_neg c6, if_neg (show ¬ p = 1 from c16), if_neg (show ¬ (200 : Int32) ≤ p from Int32.not_le.mpr c28), e_]), rfl⟩
      · refine v_aload_n hx d_Mo_total_31 rfl rfl ?_
        refine v_iload_n hx d_Mo_total_32 rfl rfl ?_
        refine v_sipush (v := (nI 200)) hx d_Mo_total_33 rfl ?_
        refine v_isub hx d_Mo_total_36 rfl ?_
        refine v_callV (as := [.int (p - (nI 200))]) (q := (R_Mo, T_Mo, 19)) hx (c_Mo_isMachine mf1 hmc (p - nI 200)) cy_Mo_isMachine k_Mo_64 ki_Mo_isMachine kl_Mo_isMachine d_Mo_total_37 (by decide) (ci := 4) rfl mf1.m0 mf1.f0 (by decide) rfl rfl (Nat.le_of_ble_eq_true rfl) (fun v3 L f1 p3 => ?_)
        obtain ⟨rfl, rfl, rfl⟩ := p3
        refine v_if_eq (tgt := 56) hx d_Mo_total_40 (by decide) (fun c40 => ?_) (fun c40 => ?_)
        · refine v_iconst (v := (-1)) hx d_Mo_total_56 rfl ?_
          exact v_iret hx hr d_Mo_total_57 ⟨_, 0, (pic mc sa ka nx ou wl wd), rfl, rfl, Ff1, ⟨hG, _, _, _, _, _, _, _, _, _, _, _, _, _, mf1, rfl, rfl⟩, rfl, (by show _ = sTotal (pic mc sa ka nx ou wl wd) p; have e_ : ix (p - 200) mc = none := none_ix c40; simp only [sTotal, if_neg c6, if_neg (show ¬ p = 1 from c16), if_pos (show (200 : Int32) ≤ p from Int32.not_lt.mp c28), e_]), rfl⟩
        · obtain ⟨j, ej⟩ := some_ix c40
          obtain ⟨hj, zj⟩ := ix_some (by omega) ej
          refine v_aload_n hx d_Mo_total_43 rfl rfl ?_
          refine v_get hx cf_Mo 3 (by decide) k_Mo_13 d_Mo_total_44 mf1.m0 mf1.f0 rfl ?_
          refine v_iload_n hx d_Mo_total_47 rfl rfl ?_
          refine v_sipush (v := (nI 200)) hx d_Mo_total_48 rfl ?_
          refine v_isub hx d_Mo_total_51 rfl ?_
          rw [zj]
          refine n_iald hx d_Mo_total_52 mf1.m2 mf1.f2 (by omega) (by decide) ?_
          refine v_goto (tgt := 57) hx d_Mo_total_53 (by decide) ?_
          exact v_iret hx hr d_Mo_total_57 ⟨_, 0, (pic mc sa ka nx ou wl wd), rfl, rfl, Ff1, ⟨hG, _, _, _, _, _, _, _, _, _, _, _, _, _, mf1, rfl, rfl⟩, rfl, (by show _ = sTotal (pic mc sa ka nx ou wl wd) p; have e_ : ix (p - 200) mc = some j := ej; simp only [sTotal, if_neg c6, if_neg (show ¬ p = 1 from c16), if_pos (show (200 : Int32) ≤ p from Int32.not_lt.mp c28), e_]), rfl⟩
    · refine v_aload_n hx d_Mo_total_19 rfl rfl ?_
      refine v_get hx cf_Mo 6 (by decide) k_Mo_94 d_Mo_total_20 mf1.m0 mf1.f0 rfl ?_
      exact v_iret hx hr d_Mo_total_23 ⟨_, 0, (pic mc sa ka nx ou wl wd), rfl, rfl, Ff1, ⟨hG, _, _, _, _, _, _, _, _, _, _, _, _, _, mf1, rfl, rfl⟩, rfl, (by show _ = sTotal (pic mc sa ka nx ou wl wd) p; simp only [sTotal, if_neg c6, if_pos (show p = 1 from c16)]), rfl⟩
  · refine v_aload_n hx d_Mo_total_9 rfl rfl ?_
    refine v_get hx cf_Mo 1 (by decide) k_Mo_57 d_Mo_total_10 mf1.m0 mf1.f0 rfl ?_
    exact v_iret hx hr d_Mo_total_13 ⟨_, 0, (pic mc sa ka nx ou wl wd), rfl, rfl, Ff1, ⟨hG, _, _, _, _, _, _, _, _, _, _, _, _, _, mf1, rfl, rfl⟩, rfl, (by show _ = sTotal (pic mc sa ka nx ou wl wd) p; simp only [sTotal, if_pos c6]), rfl⟩
set_option maxHeartbeats 4000000 in
set_option maxRecDepth 100000 in
theorem c_Mo_along {G : GT} {L : List Nat} {f : Nat → va_E} {w A : Nat → Nat} {th : Nat} {mc : Nat} {sa : Nat → Nat} {ka : Nat → Nat} {nx : Nat → Nat} {ou : Nat → Nat} {wl : Nat} {wd : Nat → Nat} {ap : Nat → Bool} {fo : Nat} {se : Nat → Nat} {fr : Nat → Option Nat} {by_ : Nat → Nat} {is : Nat → Bool} {tr : Nat} {my : Nat → Nat} {ss : Nat → Nat} {tf : Nat → Option Nat} {tb : Nat → Nat} (hM : MoAt G L f w 100 A th mc sa ka nx ou wl wd ap fo se fr by_ is tr my ss tf tb) (hG : okG (pic mc sa ka nx ou wl wd)) (p q : Int32) : Con G y_Mo_along (.code y_Mo_along b_Mo_along 5 (some .int) :: BIG) 3 65 0 0 [.ref (A 0), .int p, .int q] L f (fun v L' f' => ∃ (vi : Int32) (th' : Nat) (σ' : SG), v = some (.int vi) ∧ L' = L ∧ gF w 100 f f' ∧ MoS G L f' w A th' σ' ∧ th' = 0 ∧ vi = sAlong (pic mc sa ka nx ou wl wd) p q ∧ σ' = (pic mc sa ka nx ou wl wd)) := by
  refine con_of (cc := b_Mo_along) (mL := 5) (lv := [some (.ref (A 0)), some (.int p), some (.int q), none, none]) (by decide) (by intro w hw; simp at hw; rcases hw with rfl | rfl | rfl <;> rfl) (by first | exact Nat.le_of_ble_eq_true rfl | decide) rfl ?_
  intro x hx hr hin
  have hF0 := gF.rf (w := w) (id := 100) (f := f)
  obtain ⟨hmc, hok, hwl, hwd⟩ := id hG
  have hmc : mc ≤ 12 := hmc
  have hok : ∀ j, j < mc → okA (fun t => nx (160 * j + t)) (fun t => ou (160 * j + t)) (sa j) (ka j) := hok
  have hwl : wl ≤ 4096 := hwl
  have hwd : ∀ j, j < wl → wd j < 4 := hwd
  have hsa : ∀ j, j < mc → sa j ≤ 40 := fun j hj => (hok j hj).2.1
  have hka : ∀ j, j < mc → ka j ≤ 4 := fun j hj => (hok j hj).2.2.2.1
  refine v_aload_n hx d_Mo_along_0 rfl rfl ?_
  refine v_iconst (v := (nI 0)) hx d_Mo_along_1 rfl ?_
  refine v_put hx cf_Mo 0 (by decide) k_Mo_53 rfl rfl rfl d_Mo_along_2 hM.m0 hM.f0 (Nat.le_of_ble_eq_true rfl) (fun f1 hf1 => ?_)
  have mf1 := hM.up0 hf1
  have Ff1 := hF0.up hf1 hM.o0
  refine v_aload_n hx d_Mo_along_5 rfl rfl ?_
  refine v_iload_n hx d_Mo_along_6 rfl rfl ?_
  refine v_iload_n hx d_Mo_along_7 rfl rfl ?_
  refine v_callV (as := [.int p, .int q]) (q := (R_Mo, T_Mo, 19)) hx (c_Mo_isState mf1 hmc hsa p q) cy_Mo_isState k_Mo_72 ki_Mo_isState kl_Mo_isState d_Mo_along_8 (by decide) (ci := 4) rfl mf1.m0 mf1.f0 (by decide) rfl rfl (Nat.le_of_ble_eq_true rfl) (fun v2 L f1 p2 => ?_)
  obtain ⟨rfl, rfl, rfl⟩ := p2
  refine v_if_ne (tgt := 16) hx d_Mo_along_11 (by decide) (fun c11 => ?_) (fun c11 => ?_)
  · obtain ⟨m, s, em, es⟩ := ixS_some c11
    obtain ⟨hm, zm⟩ := ix_some (by omega) em
    have hAm := hok m hm
    have hsm := hsa m hm
    have hkm := hka m hm
    obtain ⟨hs, zs⟩ := ix_some (by omega) es
    subst zm
    subst zs
    refine v_iload_n hx d_Mo_along_16 rfl rfl ?_
    refine v_istore_n (lv' := [some (.ref (A 0)), some (.int (nI m)), some (.int (nI s)), some (.int (nI s)), none]) hx d_Mo_along_17 rfl (by decide) rfl ?_
    refine v_iconst (v := (nI 0)) hx d_Mo_along_18 rfl ?_
    refine v_istore (lv' := [some (.ref (A 0)), some (.int (nI m)), some (.int (nI s)), some (.int (nI s)), some (.int (nI 0))]) hx d_Mo_along_19 (by decide) rfl ?_
    have H21 : ∀ (fu : Nat) (j : Nat) (a : Nat), wl - j < fu → (j ≤ wl) → (a < sa m) → (aWalk (pic mc sa ka nx ou wl wd) m s j = some a) → V G { frames := 3, cells := 0, slots := 0, locals := 65 } 5 x L f1 0 0 [some (.ref (A 0)), some (.int (nI m)), some (.int (nI s)), some (.int (nI a)), some (.int (nI j))] 21 [] := by
      intro fu
      induction fu with
      | zero => intro j a hm; exact absurd hm (Nat.not_lt_zero _)
      | succ fu ih =>
        intro j a hm hj ha haw
        refine v_iload hx d_Mo_along_21 rfl ?_
        refine v_aload_n hx d_Mo_along_23 rfl rfl ?_
        refine v_get hx cf_Mo 6 (by decide) k_Mo_94 d_Mo_along_24 mf1.m0 mf1.f0 rfl ?_
        refine n_icmp_ge (tgt := 77) hx d_Mo_along_27 (by decide) (by omega) (by omega) (fun c27 => ?_) (fun c27 => ?_)
        · refine v_iload_n hx d_Mo_along_77 rfl rfl ?_
          have hil : j = wl := by omega
          rw [hil] at haw
          exact v_iret hx hr d_Mo_along_78 ⟨_, 0, (pic mc sa ka nx ou wl wd), rfl, rfl, Ff1, ⟨hG, _, _, _, _, _, _, _, _, _, _, _, _, _, mf1, rfl, rfl⟩, rfl, (by show _ = sAlong (pic mc sa ka nx ou wl wd) _ _; have em_ : ix (nI m) mc = some m := em; simp only [sAlong, em_, es]; exact (congrArg oI haw).symm), rfl⟩
        · have hwj := hwd j (by omega)
          have hm12 : m < 12 := by omega
          have ham : a < 40 := by omega
          refine v_aload_n hx d_Mo_along_30 rfl rfl ?_
          refine v_get hx cf_Mo 7 (by decide) k_Mo_22 d_Mo_along_31 mf1.m0 mf1.f0 rfl ?_
          refine v_iload hx d_Mo_along_34 rfl ?_
          refine n_iald hx d_Mo_along_36 mf1.m5 mf1.f5 (by omega) (by decide) ?_
          refine v_aload_n hx d_Mo_along_37 rfl rfl ?_
          refine v_get hx cf_Mo 3 (by decide) k_Mo_13 d_Mo_along_38 mf1.m0 mf1.f0 rfl ?_
          refine v_iload_n hx d_Mo_along_41 rfl rfl ?_
          refine n_iald hx d_Mo_along_42 mf1.m2 mf1.f2 (by omega) (by decide) ?_
          refine n_icmp_lt (tgt := 48) hx d_Mo_along_43 (by decide) (by omega) (by omega) (fun c43 => ?_) (fun c43 => ?_)
          · have hxa := hAm.2.2.2.2 a (wd j) ha (by omega)
            refine v_aload_n hx d_Mo_along_48 rfl rfl ?_
            refine v_get hx cf_Mo 4 (by decide) k_Mo_16 d_Mo_along_49 mf1.m0 mf1.f0 rfl ?_
            refine v_sipush (v := (nI 160)) hx d_Mo_along_52 rfl ?_
            refine v_iload_n hx d_Mo_along_55 rfl rfl ?_
            refine n_imul hx d_Mo_along_56 ?_
            refine v_iconst (v := (nI 4)) hx d_Mo_along_57 rfl ?_
            refine v_iload_n hx d_Mo_along_58 rfl rfl ?_
            refine n_imul hx d_Mo_along_59 ?_
            refine n_iadd hx d_Mo_along_60 ?_
            refine v_aload_n hx d_Mo_along_61 rfl rfl ?_
            refine v_get hx cf_Mo 7 (by decide) k_Mo_22 d_Mo_along_62 mf1.m0 mf1.f0 rfl ?_
            refine v_iload hx d_Mo_along_65 rfl ?_
            refine n_iald hx d_Mo_along_67 mf1.m5 mf1.f5 (by omega) (by decide) ?_
            refine n_iadd hx d_Mo_along_68 ?_
            refine n_iald hx d_Mo_along_69 mf1.m3 mf1.f3 (by omega) (by decide) ?_
            refine v_istore_n (lv' := [some (.ref (A 0)), some (.int (nI m)), some (.int (nI s)), some (.int (nI (nx (((160 * m) + (4 * a)) + (wd j))))), some (.int (nI j))]) hx d_Mo_along_70 rfl (by decide) rfl ?_
            refine n_iinc (lv' := [some (.ref (A 0)), some (.int (nI m)), some (.int (nI s)), some (.int (nI (nx (((160 * m) + (4 * a)) + (wd j))))), some (.int (nI (j + 1)))]) hx d_Mo_along_71 rfl (by decide) rfl ?_
            refine v_goto (tgt := 21) hx d_Mo_along_74 (by decide) ?_
            exact ih (j + 1) (nx (160 * m + 4 * a + wd j)) (by omega) (by omega) (by rw [pic_ix]; exact hxa.1) (by show (match aWalk (pic mc sa ka nx ou wl wd) m s j with | none => none | some a => if wd j < ka m then some (nx (160 * m + (a * 4 + wd j))) else none) = _; rw [haw, pic_ix]; exact if_pos (by omega))
          · refine v_iconst (v := (-1)) hx d_Mo_along_46 rfl ?_
            have hnn : aWalk (pic mc sa ka nx ou wl wd) m s (j + 1) = none := by show (match aWalk (pic mc sa ka nx ou wl wd) m s j with | none => none | some a => if wd j < ka m then some (nx (160 * m + (a * 4 + wd j))) else none) = none; rw [haw]; exact if_neg (by omega)
            have hnw : aWalk (pic mc sa ka nx ou wl wd) m s wl = none := aWalk_none hnn wl (by omega)
            exact v_iret hx hr d_Mo_along_47 ⟨_, 0, (pic mc sa ka nx ou wl wd), rfl, rfl, Ff1, ⟨hG, _, _, _, _, _, _, _, _, _, _, _, _, _, mf1, rfl, rfl⟩, rfl, (by show _ = sAlong (pic mc sa ka nx ou wl wd) _ _; have em_ : ix (nI m) mc = some m := em; simp only [sAlong, em_, es]; exact (congrArg oI hnw).symm), rfl⟩
    exact H21 _ 0 s (Nat.lt_succ_self _) (Nat.zero_le _) hs rfl
  · refine v_iconst (v := (-1)) hx d_Mo_along_14 rfl ?_
    exact v_iret hx hr d_Mo_along_15 ⟨_, 0, (pic mc sa ka nx ou wl wd), rfl, rfl, Ff1, ⟨hG, _, _, _, _, _, _, _, _, _, _, _, _, _, mf1, rfl, rfl⟩, rfl, (sAlong_no (σ := (pic mc sa ka nx ou wl wd)) (ixS_none c11)).symm, rfl⟩
