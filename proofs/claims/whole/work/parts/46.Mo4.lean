/-! ===== the reference's rows of places, and words told ===== -/
def ReQ (fo : Nat) (se : Nat → Nat) (fr : Nat → Option Nat) (B : Nat → Nat) (is : Nat → Bool) (q : Qu) : Prop := fo = q.length ∧ (∀ i, i < fo → se i = qP q i ∧ fr i = (if i = 0 then none else some (qF q i)) ∧ B i = qB q i) ∧ ∀ p, p < 4096 → (is p = true ↔ p ∈ qPs q)
theorem ReQ.add {fo : Nat} {se : Nat → Nat} {fr : Nat → Option Nat} {B : Nat → Nat} {is : Nat → Bool} {q : Qu} (h : ReQ fo se fr B is q) {x a i : Nat} {y : Option Nat} (hx : x < 4096) (hy : y = if q.length = 0 then none else some a) : ReQ (fo + 1) (va_up se fo x) (va_up fr fo y) (va_up B fo i) (va_up is x true) (q ++ [(x, a, i)]) := by
  have e0 := h.1
  refine ⟨by simp [e0], fun j hj => ?_, fun p hp => ?_⟩
  · by_cases e : j = fo
    · subst e
      rw [va_up_self, va_up_self, va_up_self, hy, e0, qP_new, qF_new, qB_new]
      exact ⟨rfl, rfl, rfl⟩
    · rw [va_up_ne _ _ e, va_up_ne _ _ e, va_up_ne _ _ e, qP_old (by omega), qF_old (by omega), qB_old (by omega)]
      exact h.2.1 j (by omega)
  · have e1 : qPs (q ++ [(x, a, i)]) = qPs q ++ [x] := by simp [qPs]
    rw [e1]
    by_cases e : p = x
    · subst e
      rw [va_up_self]
      simp
    · rw [va_up_ne _ _ e]
      rw [h.2.2 p hp]
      simp [e]
theorem ReQ.nil {se : Nat → Nat} {fr : Nat → Option Nat} {B : Nat → Nat} {is : Nat → Bool} (h : ∀ p, p < 4096 → is p = false) : ReQ 0 se fr B is [] := ⟨rfl, fun _ hj => absurd hj (Nat.not_lt_zero _), fun p hp => by rw [h p hp]; simp⟩
/-- the word W told at number a: from where and by what -/
def TlR (fr : Nat → Option Nat) (B : Nat → Nat) (a N : Nat) (W : List Nat) : Prop := a < N ∧ N ≤ 4096 ∧ (∀ b, b < N → b = 0 ∧ fr b = none ∨ ∃ d, fr b = some d ∧ d < b) ∧ (∀ b, 0 < b → b < N → B b < 4) ∧ wdA (fun b => (fr b).getD 0) B a = W
theorem TlR.F {fr : Nat → Option Nat} {B : Nat → Nat} {a N : Nat} {W : List Nat} (h : TlR fr B a N W) : ∀ b, 0 < b → b < N → (fr b).getD 0 < b := fun b h0 hb => by
  rcases h.2.2.1 b hb with q | ⟨d, q1, q2⟩
  · omega
  · rw [q1]; exact q2
theorem TlR.z {fr : Nat → Option Nat} {B : Nat → Nat} {a N : Nat} {W : List Nat} (h : TlR fr B a N W) {b : Nat} (hb : b < N) (e : oI (fr b) = -1) : b = 0 := by
  rcases h.2.2.1 b hb with q | ⟨d, q1, q2⟩
  · exact q.1
  · rw [q1] at e
    have := h.2.1
    exact absurd e (nI_m1 (by omega))
theorem TlR.p {fr : Nat → Option Nat} {B : Nat → Nat} {a N : Nat} {W : List Nat} (h : TlR fr B a N W) {b : Nat} (hb : b < N) (e : ¬ oI (fr b) = -1) : 0 < b ∧ oI (fr b) = nI ((fr b).getD 0) ∧ (fr b).getD 0 < b ∧ wdA (fun b => (fr b).getD 0) B b = wdA (fun b => (fr b).getD 0) B ((fr b).getD 0) ++ [B b] := by
  rcases h.2.2.1 b hb with ⟨q1, q2⟩ | ⟨d, q1, q2⟩
  · rw [q2] at e; exact absurd rfl e
  · have h0 : 0 < b := by omega
    exact ⟨h0, by rw [q1]; rfl, h.F b h0 hb, wdA_s h.F h0 hb⟩
theorem TlR.ok {fr : Nat → Option Nat} {B : Nat → Nat} {a N : Nat} {W : List Nat} (h : TlR fr B a N W) : W.length ≤ a ∧ ∀ x ∈ W, x < 4 := by
  have hF := h.F
  obtain ⟨h1, h2, h3, h4, rfl⟩ := h
  refine ⟨wdA_len hF a a (Nat.le_refl _) h1, ?_⟩
  have key : ∀ (m b : Nat), b ≤ m → b < N → ∀ x ∈ wdA (fun b => (fr b).getD 0) B b, x < 4 := by
    intro m
    induction m with
    | zero =>
      intro b hb _ x hx
      have : b = 0 := by omega
      subst this
      rw [wdA_0] at hx
      cases hx
    | succ m ih =>
      intro b hb hbN x hx
      rcases Nat.eq_zero_or_pos b with z | z
      · subst z; rw [wdA_0] at hx; cases hx
      · rw [wdA_s hF z hbN] at hx
        have hlt := hF b z hbN
        have hlt : (fr b).getD 0 < b := hlt
        rcases List.mem_append.mp hx with q | q
        · exact ih ((fr b).getD 0) (by omega) (by omega) x q
        · simp at q; rw [q]; exact h4 b z hbN
  exact key a a (Nat.le_refl _) h1
theorem ReQ.tl {fo : Nat} {se : Nat → Nat} {fr : Nat → Option Nat} {B : Nat → Nat} {is : Nat → Bool} {q : Qu} {D a : Nat} (h : ReQ fo se fr B is q) (ho : qOK q D) (hD : D ≤ 4096) (ha : a < q.length) : TlR fr B a q.length (qW q a) := by
  have hl := ho.len
  have e0 := h.1
  refine ⟨ha, by omega, fun b hb => ?_, fun b _ hb => ?_, ?_⟩
  · have h1 := (h.2.1 b (by omega)).2.1
    by_cases e : b = 0
    · rw [if_pos e] at h1; exact Or.inl ⟨e, h1⟩
    · rw [if_neg e] at h1; exact Or.inr ⟨_, h1, ho.F b (by omega) hb⟩
  · rw [(h.2.1 b (by omega)).2.2]; exact (ho.2.2 b hb).1
  · refine (wdA_congr ho.F (fun b h0 hb => ?_) a a (Nat.le_refl _) ha).symm
    have h1 := h.2.1 b (by omega)
    rw [h1.2.1, h1.2.2, if_neg (by omega)]
    exact ⟨rfl, rfl⟩
theorem TlR.sub {fr fr' : Nat → Option Nat} {B B' : Nat → Nat} {a N : Nat} {W : List Nat} (h : TlR fr B a N W) (e : ∀ b, b < N → fr' b = fr b ∧ B' b = B b) : TlR fr' B' a N W := by
  refine ⟨h.1, h.2.1, fun b hb => by rw [(e b hb).1]; exact h.2.2.1 b hb, fun b h0 hb => by rw [(e b hb).2]; exact h.2.2.2.1 b h0 hb, ?_⟩
  rw [← h.2.2.2.2]
  refine (wdA_congr h.F (fun b _ hb => ?_) a a (Nat.le_refl _) h.1).symm
  show (fr b).getD 0 = (fr' b).getD 0 ∧ B b = B' b
  rw [(e b hb).1, (e b hb).2]
  exact ⟨rfl, rfl⟩
theorem getD_app {l r : List Nat} {j : Nat} : (l ++ r).getD (l.length + j) 0 = r.getD j 0 := by
  simp [List.getD_eq_getElem?_getD, List.getElem?_append_right]
theorem okG_word {mc : Nat} {sa ka nx ou : Nat → Nat} {wl : Nat} {wd : Nat → Nat} (hG : okG (pic mc sa ka nx ou wl wd)) {W : List Nat} {g : Nat → Nat} (h1 : W.length ≤ 4096) (h4 : ∀ x ∈ W, x < 4) (hg : ∀ j, j < W.length → g j = W.getD j 0) : okG (pic mc sa ka nx ou W.length g) := by
  refine ⟨hG.1, hG.2.1, h1, fun j hj => ?_⟩
  have hj : j < W.length := hj
  show g j < 4
  rw [hg j hj, List.getD_eq_getElem?_getD, List.getElem?_eq_getElem hj]
  exact h4 _ (List.getElem_mem hj)
set_option maxHeartbeats 4000000 in
set_option maxRecDepth 100000 in
theorem c_Mo_come {G : GT} {L : List Nat} {f : Nat → va_E} {w A : Nat → Nat} {th : Nat} {mc : Nat} {sa : Nat → Nat} {ka : Nat → Nat} {nx : Nat → Nat} {ou : Nat → Nat} {wl : Nat} {wd : Nat → Nat} {ap : Nat → Bool} {fo : Nat} {se : Nat → Nat} {fr : Nat → Option Nat} {by_ : Nat → Nat} {is : Nat → Bool} {tr : Nat} {my : Nat → Nat} {ss : Nat → Nat} {tf : Nat → Option Nat} {tb : Nat → Nat} (hM : MoAt G L f w 100 A th mc sa ka nx ou wl wd ap fo se fr by_ is tr my ss tf tb) {q : Qu} (hQ : ReQ fo se fr by_ is q) (hq : qOK q 4096) (a i : Nat) (y : Option Nat) (x1 : Nat) (hx1 : x1 < 4096) (hy : y = if q.length = 0 then none else some a) (ha : a < q.length ∨ q.length = 0 ∧ a = 0) (hi : i < 4) : Con G y_Mo_come (.code y_Mo_come b_Mo_come 4 none :: BIG) 0 0 0 0 [.ref (A 0), .int (nI x1), .int (oI y), .int (nI i)] L f (fun v L' f' => v = none ∧ L' = L ∧ gF w 100 f f' ∧ ∃ (fo' : Nat) (se' : Nat → Nat) (fr' : Nat → Option Nat) (by' : Nat → Nat) (is' : Nat → Bool), MoAt G L f' w 100 A th mc sa ka nx ou wl wd ap fo' se' fr' by' is' tr my ss tf tb ∧ ReQ fo' se' fr' by' is' (qr q x1 a i)) := by
  refine con_of (cc := b_Mo_come) (mL := 4) (lv := [some (.ref (A 0)), some (.int (nI x1)), some (.int (oI y)), some (.int (nI i))]) (by decide) (by intro w hw; simp at hw; rcases hw with rfl | rfl | rfl | rfl <;> rfl) (by first | exact Nat.le_of_ble_eq_true rfl | decide) rfl ?_
  intro x hx hr hin
  have hF0 := gF.rf (w := w) (id := 100) (f := f)
  refine v_aload_n hx d_Mo_come_0 rfl rfl ?_
  refine v_get hx cf_Mo 13 (by decide) k_Mo_38 d_Mo_come_1 hM.m0 hM.f0 rfl ?_
  refine v_iload_n hx d_Mo_come_4 rfl rfl ?_
  refine n_zald hx d_Mo_come_5 hM.m10 hM.f10 (by omega) (by decide) ?_
  refine v_if_eq (tgt := 10) hx d_Mo_come_6 (by decide) (fun c6 => ?_) (fun c6 => ?_)
  · have hnm : x1 ∉ qPs q := fun z => by rw [(hQ.2.2 x1 hx1).mpr z] at c6; exact absurd c6 (show ¬ (1 : Int32) = 0 by decide)
    have hadd := (hq.add hx1 ha hi hnm).len
    have hfo := hQ.1
    have hlen : q.length + 1 ≤ 4096 := by simpa using hadd
    refine v_aload_n hx d_Mo_come_10 rfl rfl ?_
    refine v_get hx cf_Mo 13 (by decide) k_Mo_38 d_Mo_come_11 hM.m0 hM.f0 rfl ?_
    refine v_iload_n hx d_Mo_come_14 rfl rfl ?_
    refine v_iconst (v := (nI 1)) hx d_Mo_come_15 rfl ?_
    refine nz_ast (v := true) hx d_Mo_come_16 hM.m10 hM.f10 (by omega) (by decide) (fun f1 hf1 => ?_)
    have mf1 := hM.up10 hf1
    have Ff1 := hF0.up hf1 hM.o10
    refine v_aload_n hx d_Mo_come_17 rfl rfl ?_
    refine v_get hx cf_Mo 10 (by decide) k_Mo_29 d_Mo_come_18 mf1.m0 mf1.f0 rfl ?_
    refine v_aload_n hx d_Mo_come_21 rfl rfl ?_
    refine v_get hx cf_Mo 9 (by decide) k_Mo_87 d_Mo_come_22 mf1.m0 mf1.f0 rfl ?_
    refine v_iload_n hx d_Mo_come_25 rfl rfl ?_
    refine nn_iast hx d_Mo_come_26 mf1.m7 mf1.f7 (by omega) (by decide) (fun f2 hf2 => ?_)
    have mf2 := mf1.up7 hf2
    have Ff2 := Ff1.up hf2 mf1.o7
    refine v_aload_n hx d_Mo_come_27 rfl rfl ?_
    refine v_get hx cf_Mo 11 (by decide) k_Mo_32 d_Mo_come_28 mf2.m0 mf2.f0 rfl ?_
    refine v_aload_n hx d_Mo_come_31 rfl rfl ?_
    refine v_get hx cf_Mo 9 (by decide) k_Mo_87 d_Mo_come_32 mf2.m0 mf2.f0 rfl ?_
    refine v_iload_n hx d_Mo_come_35 rfl rfl ?_
    refine no_iast (v := y) hx d_Mo_come_36 mf2.m8 mf2.f8 (by omega) (by decide) (fun f3 hf3 => ?_)
    have mf3 := mf2.up8 hf3
    have Ff3 := Ff2.up hf3 mf2.o8
    refine v_aload_n hx d_Mo_come_37 rfl rfl ?_
    refine v_get hx cf_Mo 12 (by decide) k_Mo_35 d_Mo_come_38 mf3.m0 mf3.f0 rfl ?_
    refine v_aload_n hx d_Mo_come_41 rfl rfl ?_
    refine v_get hx cf_Mo 9 (by decide) k_Mo_87 d_Mo_come_42 mf3.m0 mf3.f0 rfl ?_
    refine v_iload_n hx d_Mo_come_45 rfl rfl ?_
    refine nn_iast hx d_Mo_come_46 mf3.m9 mf3.f9 (by omega) (by decide) (fun f4 hf4 => ?_)
    have mf4 := mf3.up9 hf4
    have Ff4 := Ff3.up hf4 mf3.o9
    refine v_aload_n hx d_Mo_come_47 rfl rfl ?_
    refine v_dup hx d_Mo_come_48 rfl ?_
    refine v_get hx cf_Mo 9 (by decide) k_Mo_87 d_Mo_come_49 mf4.m0 mf4.f0 rfl ?_
    refine v_iconst (v := (nI 1)) hx d_Mo_come_52 rfl ?_
    refine n_iadd hx d_Mo_come_53 ?_
    refine v_put hx cf_Mo 9 (by decide) k_Mo_87 rfl rfl rfl d_Mo_come_54 mf4.m0 mf4.f0 (Nat.le_of_ble_eq_true rfl) (fun f5 hf5 => ?_)
    have mf5 := mf4.up0 hf5
    have Ff5 := Ff4.up hf5 mf4.o0
    exact v_vret hx hr d_Mo_come_57 ⟨rfl, rfl, Ff5, _, _, _, _, _, mf5, by unfold qr; rw [if_neg hnm]; exact hQ.add hx1 hy⟩
  · have hmem : x1 ∈ qPs q := (hQ.2.2 x1 hx1).mp (Bool.of_not_eq_false (fun z => c6 ((bI_0 _).mpr z)))
    exact v_vret hx hr d_Mo_come_9 ⟨rfl, rfl, hF0, fo, se, fr, by_, is, hM, by unfold qr; rw [if_pos hmem]; exact hQ⟩
set_option maxHeartbeats 4000000 in
set_option maxRecDepth 100000 in
theorem c_Mo_begin {G : GT} {L : List Nat} {f : Nat → va_E} {w A : Nat → Nat} {th : Nat} {mc : Nat} {sa : Nat → Nat} {ka : Nat → Nat} {nx : Nat → Nat} {ou : Nat → Nat} {wl : Nat} {wd : Nat → Nat} {ap : Nat → Bool} {fo : Nat} {se : Nat → Nat} {fr : Nat → Option Nat} {by_ : Nat → Nat} {is : Nat → Bool} {tr : Nat} {my : Nat → Nat} {ss : Nat → Nat} {tf : Nat → Option Nat} {tb : Nat → Nat} (hM : MoAt G L f w 100 A th mc sa ka nx ou wl wd ap fo se fr by_ is tr my ss tf tb) (x1 : Nat) (hx1 : x1 < 4096) : Con G y_Mo_begin (.code y_Mo_begin b_Mo_begin 3 none :: BIG) 1 23 0 0 [.ref (A 0), .int (nI x1)] L f (fun v L' f' => v = none ∧ L' = L ∧ gF w 100 f f' ∧ ∃ (fo' : Nat) (se' : Nat → Nat) (fr' : Nat → Option Nat) (by' : Nat → Nat) (is' : Nat → Bool), MoAt G L f' w 100 A th mc sa ka nx ou wl wd ap fo' se' fr' by' is' tr my ss tf tb ∧ ReQ fo' se' fr' by' is' [(x1, 0, 0)]) := by
  refine con_of (cc := b_Mo_begin) (mL := 3) (lv := [some (.ref (A 0)), some (.int (nI x1)), none]) (by decide) (by intro w hw; simp at hw; rcases hw with rfl | rfl <;> rfl) (by first | exact Nat.le_of_ble_eq_true rfl | decide) rfl ?_
  intro x hx hr hin
  have hF0 := gF.rf (w := w) (id := 100) (f := f)
  refine v_iconst (v := (nI 0)) hx d_Mo_begin_0 rfl ?_
  refine v_istore_n (lv' := [some (.ref (A 0)), some (.int (nI x1)), some (.int (nI 0))]) hx d_Mo_begin_1 rfl (by decide) rfl ?_
  have H2 : ∀ (fu : Nat) (q : Nat) (f1 : Nat → va_E) (is1 : Nat → Bool), 4096 - q < fu → (q ≤ 4096) → (MoAt G L f1 w 100 A th mc sa ka nx ou wl wd ap fo se fr by_ is1 tr my ss tf tb) → (gF w 100 f f1) → (∀ p, p < q → is1 p = false) → V G { frames := 1, cells := 0, slots := 0, locals := 23 } 3 x L f1 0 0 [some (.ref (A 0)), some (.int (nI x1)), some (.int (nI q))] 2 [] := by
    intro fu
    induction fu with
    | zero => intro q f1 is1 hm; exact absurd hm (Nat.not_lt_zero _)
    | succ fu ih =>
      intro q f1 is1 hm hq hM1 hF1 hz
      refine v_iload_n hx d_Mo_begin_2 rfl rfl ?_
      refine v_sipush (v := (nI 4096)) hx d_Mo_begin_3 rfl ?_
      refine n_icmp_ge (tgt := 22) hx d_Mo_begin_6 (by decide) (by omega) (by omega) (fun c6 => ?_) (fun c6 => ?_)
      · refine v_aload_n hx d_Mo_begin_22 rfl rfl ?_
        refine v_iconst (v := (nI 0)) hx d_Mo_begin_23 rfl ?_
        refine v_put hx cf_Mo 9 (by decide) k_Mo_87 rfl rfl rfl d_Mo_begin_24 hM1.m0 hM1.f0 (Nat.le_of_ble_eq_true rfl) (fun f1 hf1 => ?_)
        have mf1 := hM1.up0 hf1
        have Ff1 := hF1.up hf1 hM1.o0
        refine v_aload_n hx d_Mo_begin_27 rfl rfl ?_
        refine v_iload_n hx d_Mo_begin_28 rfl rfl ?_
        refine v_iconst (v := (-1)) hx d_Mo_begin_29 rfl ?_
        refine v_iconst (v := (nI 0)) hx d_Mo_begin_30 rfl ?_
        refine v_callV (as := [.int (nI x1), .int (-1), .int (nI 0)]) (q := (R_Mo, T_Mo, 19)) hx (c_Mo_come mf1 (ReQ.nil (fun p hp => hz p (by omega))) (qOK_nil _) 0 0 none x1 hx1 rfl (Or.inr ⟨rfl, rfl⟩) (by decide)) cy_Mo_come k_Mo_90 ki_Mo_come kl_Mo_come d_Mo_begin_31 (by decide) (ci := 4) rfl mf1.m0 mf1.f0 (by decide) rfl rfl (Nat.le_of_ble_eq_true rfl) (fun v2 L f7 p2 => ?_)
        obtain ⟨rfl, rfl, hF7, fo7, se7, fr7, by7, is7, hM7, hQ7⟩ := p2
        have hF8 := Ff1.tr hF7
        exact v_vret hx hr d_Mo_begin_34 ⟨rfl, rfl, hF8, _, _, _, _, _, hM7, hQ7⟩
      · refine v_aload_n hx d_Mo_begin_9 rfl rfl ?_
        refine v_get hx cf_Mo 13 (by decide) k_Mo_38 d_Mo_begin_10 hM1.m0 hM1.f0 rfl ?_
        refine v_iload_n hx d_Mo_begin_13 rfl rfl ?_
        refine v_iconst (v := (nI 0)) hx d_Mo_begin_14 rfl ?_
        refine nz_ast (v := false) hx d_Mo_begin_15 hM1.m10 hM1.f10 (by omega) (by decide) (fun f3 hf3 => ?_)
        have mf3 := hM1.up10 hf3
        have Ff3 := hF1.up hf3 hM1.o10
        refine n_iinc (lv' := [some (.ref (A 0)), some (.int (nI x1)), some (.int (nI (q + 1)))]) hx d_Mo_begin_16 rfl (by decide) rfl ?_
        refine v_goto (tgt := 2) hx d_Mo_begin_19 (by decide) ?_
        refine ih (q + 1) f3 _ (by omega) (by omega) mf3 Ff3 (fun p hp => ?_)
        by_cases e : p = q
        · rw [e, va_up_self]
        · rw [va_up_ne _ _ e]; exact hz p (by omega)
  exact H2 _ 0 f is (Nat.lt_succ_self _) (Nat.zero_le _) hM hF0 (fun _ h => absurd h (Nat.not_lt_zero _))
set_option maxHeartbeats 4000000 in
set_option maxRecDepth 100000 in
theorem c_Mo_tellS {G : GT} {L : List Nat} {f : Nat → va_E} {w A : Nat → Nat} {th : Nat} {mc : Nat} {sa : Nat → Nat} {ka : Nat → Nat} {nx : Nat → Nat} {ou : Nat → Nat} {wl : Nat} {wd : Nat → Nat} {ap : Nat → Bool} {fo : Nat} {se : Nat → Nat} {fr : Nat → Option Nat} {by_ : Nat → Nat} {is : Nat → Bool} {tr : Nat} {my : Nat → Nat} {ss : Nat → Nat} {tf : Nat → Option Nat} {tb : Nat → Nat} (hM : MoAt G L f w 100 A th mc sa ka nx ou wl wd ap fo se fr by_ is tr my ss tf tb) {N : Nat} {W : List Nat} (a : Nat) (hT : TlR fr by_ a N W) (i : Nat) (hi : i < 4) : Con G y_Mo_tell (.code y_Mo_tell b_Mo_tell 5 none :: BIG) 0 0 0 0 [.ref (A 0), .int (nI a), .int (nI i)] L f (fun v L' f' => v = none ∧ L' = L ∧ gF w 100 f f' ∧ ∃ (wd' : Nat → Nat), MoAt G L f' w 100 A th mc sa ka nx ou ((W ++ [i]).length) wd' ap fo se fr by_ is tr my ss tf tb ∧ ∀ j, j < (W ++ [i]).length → wd' j = (W ++ [i]).getD j 0) := by
  refine con_of (cc := b_Mo_tell) (mL := 5) (lv := [some (.ref (A 0)), some (.int (nI a)), some (.int (nI i)), none, none]) (by decide) (by intro w hw; simp at hw; rcases hw with rfl | rfl | rfl <;> rfl) (by first | exact Nat.le_of_ble_eq_true rfl | decide) rfl ?_
  intro x hx hr hin
  have hF0 := gF.rf (w := w) (id := 100) (f := f)
  have hok := hT.ok
  obtain ⟨ha, hN, -, hB, hWa⟩ := id hT
  have hFF := hT.F
  have hWl : (W ++ [i]).length = W.length + 1 := by simp
  refine v_aload_n hx d_Mo_tell_0 rfl rfl ?_
  refine v_iload_n hx d_Mo_tell_1 rfl rfl ?_
  refine n_if_ge (tgt := 9) hx d_Mo_tell_2 (by decide) (by omega) ?_
  refine v_iconst (v := (nI 1)) hx d_Mo_tell_9 rfl ?_
  refine v_put hx cf_Mo 6 (by decide) k_Mo_94 rfl rfl rfl d_Mo_tell_10 hM.m0 hM.f0 (Nat.le_of_ble_eq_true rfl) (fun f1 hf1 => ?_)
  have mf1 := hM.up0 hf1
  have Ff1 := hF0.up hf1 hM.o0
  refine v_iload_n hx d_Mo_tell_13 rfl rfl ?_
  refine v_istore_n (lv' := [some (.ref (A 0)), some (.int (nI a)), some (.int (nI i)), some (.int (nI a)), none]) hx d_Mo_tell_14 rfl (by decide) rfl ?_
  have H15 : ∀ (fu : Nat) (k : Nat) (wl1 : Nat) (f1 : Nat → va_E), k < fu → (k < N) → (MoAt G L f1 w 100 A th mc sa ka nx ou wl1 wd ap fo se fr by_ is tr my ss tf tb) → (gF w 100 f f1) → (wl1 + (wdA (fun b => (fr b).getD 0) by_ k).length = W.length + 1) → V G { frames := 0, cells := 0, slots := 0, locals := 0 } 5 x L f1 0 0 [some (.ref (A 0)), some (.int (nI a)), some (.int (nI i)), some (.int (nI k)), none] 15 [] := by
    intro fu
    induction fu with
    | zero => intro k wl1 f1 hm; exact absurd hm (Nat.not_lt_zero _)
    | succ fu ih =>
      intro k wl1 f1 hm hk hM1 hF1 hl
      refine v_aload_n hx d_Mo_tell_15 rfl rfl ?_
      refine v_get hx cf_Mo 11 (by decide) k_Mo_32 d_Mo_tell_16 hM1.m0 hM1.f0 rfl ?_
      refine v_iload_n hx d_Mo_tell_19 rfl rfl ?_
      refine n_iald hx d_Mo_tell_20 hM1.m8 hM1.f8 (by omega) (by decide) ?_
      refine v_iconst (v := (-1)) hx d_Mo_tell_21 rfl ?_
      refine v_icmp_eq (tgt := 45) hx d_Mo_tell_22 (by decide) (fun c22 => ?_) (fun c22 => ?_)
      · have hk0 := hT.z hk c22
        subst hk0
        rw [wdA_0] at hl
        have hl : wl1 + 0 = W.length + 1 := hl
        refine v_aload_n hx d_Mo_tell_45 rfl rfl ?_
        refine v_get hx cf_Mo 6 (by decide) k_Mo_94 d_Mo_tell_46 hM1.m0 hM1.f0 rfl ?_
        refine v_istore_n (lv' := [some (.ref (A 0)), some (.int (nI a)), some (.int (nI i)), some (.int (nI wl1)), none]) hx d_Mo_tell_49 rfl (by decide) rfl ?_
        refine v_iload_n hx d_Mo_tell_50 rfl rfl ?_
        refine n_if_lt (tgt := 64) hx d_Mo_tell_51 (by decide) (by omega) ?_
        refine n_idec (lv' := [some (.ref (A 0)), some (.int (nI a)), some (.int (nI i)), some (.int (nI (wl1 - 1))), none]) hx d_Mo_tell_54 rfl (by omega) (by decide) rfl ?_
        refine v_aload_n hx d_Mo_tell_57 rfl rfl ?_
        refine v_get hx cf_Mo 7 (by decide) k_Mo_22 d_Mo_tell_58 hM1.m0 hM1.f0 rfl ?_
        refine v_iload_n hx d_Mo_tell_61 rfl rfl ?_
        refine v_iload_n hx d_Mo_tell_62 rfl rfl ?_
        refine nn_iast hx d_Mo_tell_63 hM1.m5 hM1.f5 (by omega) (by decide) (fun f2 hf2 => ?_)
        have mf2 := hM1.up5 hf2
        have Ff2 := hF1.up hf2 hM1.o5
        refine v_iload_n hx d_Mo_tell_64 rfl rfl ?_
        refine v_istore (lv' := [some (.ref (A 0)), some (.int (nI a)), some (.int (nI i)), some (.int (nI (wl1 - 1))), some (.int (nI a))]) hx d_Mo_tell_65 (by decide) rfl ?_
        have H67 : ∀ (fu : Nat) (k : Nat) (lf : Nat) (f2 : Nat → va_E) (wd2 : Nat → Nat) (rs : List Nat), k < fu → (k < N) → (MoAt G L f2 w 100 A th mc sa ka nx ou wl1 wd2 ap fo se fr by_ is tr my ss tf tb) → (gF w 100 f f2) → ((W ++ [i]) = (wdA (fun b => (fr b).getD 0) by_ k) ++ rs) → (lf = (wdA (fun b => (fr b).getD 0) by_ k).length) → (∀ j, j < rs.length → wd2 (lf + j) = rs.getD j 0) → V G { frames := 0, cells := 0, slots := 0, locals := 0 } 5 x L f2 0 0 [some (.ref (A 0)), some (.int (nI a)), some (.int (nI i)), some (.int (nI lf)), some (.int (nI k))] 67 [] := by
          intro fu
          induction fu with
          | zero => intro k lf f2 wd2 rs hm; exact absurd hm (Nat.not_lt_zero _)
          | succ fu ih =>
            intro k lf f2 wd2 rs hm hk hM2 hF2 hsp hlf hwd
            refine v_aload_n hx d_Mo_tell_67 rfl rfl ?_
            refine v_get hx cf_Mo 11 (by decide) k_Mo_32 d_Mo_tell_68 hM2.m0 hM2.f0 rfl ?_
            refine v_iload hx d_Mo_tell_71 rfl ?_
            refine n_iald hx d_Mo_tell_73 hM2.m8 hM2.f8 (by omega) (by decide) ?_
            refine v_iconst (v := (-1)) hx d_Mo_tell_74 rfl ?_
            refine v_icmp_eq (tgt := 106) hx d_Mo_tell_75 (by decide) (fun c75 => ?_) (fun c75 => ?_)
            · have hk0 := hT.z hk c75
              subst hk0
              rw [wdA_0] at hsp hlf
              have hlf : lf = 0 := hlf
              subst hlf
              have hsp : (W ++ [i]) = rs := hsp
              subst hsp
              have hwl1 : wl1 = (W ++ [i]).length := by omega
              subst hwl1
              exact v_vret hx hr d_Mo_tell_106 ⟨rfl, rfl, hF2, wd2, hM2, fun j hj => by have := hwd j hj; rw [Nat.zero_add] at this; exact this⟩
            · have hkp := hT.p hk c75
              have hkb := hkp.2.2.1
              have hlf1 : 1 ≤ lf := by rw [hlf, hkp.2.2.2]; simp
              have hlN : lf ≤ k := by rw [hlf]; exact wdA_len hFF k k (Nat.le_refl _) hk
              refine n_idec (lv' := [some (.ref (A 0)), some (.int (nI a)), some (.int (nI i)), some (.int (nI (lf - 1))), some (.int (nI k))]) hx d_Mo_tell_78 rfl (by omega) (by decide) rfl ?_
              refine v_aload_n hx d_Mo_tell_81 rfl rfl ?_
              refine v_get hx cf_Mo 7 (by decide) k_Mo_22 d_Mo_tell_82 hM2.m0 hM2.f0 rfl ?_
              refine v_iload_n hx d_Mo_tell_85 rfl rfl ?_
              refine v_aload_n hx d_Mo_tell_86 rfl rfl ?_
              refine v_get hx cf_Mo 12 (by decide) k_Mo_35 d_Mo_tell_87 hM2.m0 hM2.f0 rfl ?_
              refine v_iload hx d_Mo_tell_90 rfl ?_
              refine n_iald hx d_Mo_tell_92 hM2.m9 hM2.f9 (by omega) (by decide) ?_
              refine nn_iast hx d_Mo_tell_93 hM2.m5 hM2.f5 (by omega) (by decide) (fun f2 hf2 => ?_)
              have mf2 := hM2.up5 hf2
              have Ff2 := hF2.up hf2 hM2.o5
              refine v_aload_n hx d_Mo_tell_94 rfl rfl ?_
              refine v_get hx cf_Mo 11 (by decide) k_Mo_32 d_Mo_tell_95 mf2.m0 mf2.f0 rfl ?_
              refine v_iload hx d_Mo_tell_98 rfl ?_
              refine n_iald hx d_Mo_tell_100 mf2.m8 mf2.f8 (by omega) (by decide) ?_
              rw [hkp.2.1]
              refine v_istore (lv' := [some (.ref (A 0)), some (.int (nI a)), some (.int (nI i)), some (.int (nI (lf - 1))), some (.int (nI ((fr k).getD 0)))]) hx d_Mo_tell_101 (by decide) rfl ?_
              refine v_goto (tgt := 67) hx d_Mo_tell_103 (by decide) ?_
              refine ih ((fr k).getD 0) (lf - 1) f2 _ (by_ k :: rs) (by omega) (by omega) mf2 Ff2 (by rw [hsp, hkp.2.2.2]; simp) (by rw [hlf, hkp.2.2.2]; simp) (fun j hj => ?_)
              cases j with
              | zero => rw [Nat.add_zero, va_up_self]; rfl
              | succ j =>
                rw [va_up_ne _ _ (by omega), show lf - 1 + (j + 1) = lf + j by omega, hwd j (by simpa using hj)]
                rfl
        exact H67 _ a (wl1 - 1) f2 _ [i] (Nat.lt_succ_self _) ha mf2 Ff2 (by rw [hWa]) (by rw [hWa]; omega) (fun j hj => by have hj0 : j = 0 := (by simpa using hj); subst hj0; rw [Nat.add_zero, va_up_self]; rfl)
      · have hkp := hT.p hk c22
        have hkb := hkp.2.2.1
        refine v_aload_n hx d_Mo_tell_25 rfl rfl ?_
        refine v_dup hx d_Mo_tell_26 rfl ?_
        refine v_get hx cf_Mo 6 (by decide) k_Mo_94 d_Mo_tell_27 hM1.m0 hM1.f0 rfl ?_
        refine v_iconst (v := (nI 1)) hx d_Mo_tell_30 rfl ?_
        refine n_iadd hx d_Mo_tell_31 ?_
        refine v_put hx cf_Mo 6 (by decide) k_Mo_94 rfl rfl rfl d_Mo_tell_32 hM1.m0 hM1.f0 (Nat.le_of_ble_eq_true rfl) (fun f3 hf3 => ?_)
        have mf3 := hM1.up0 hf3
        have Ff3 := hF1.up hf3 hM1.o0
        refine v_aload_n hx d_Mo_tell_35 rfl rfl ?_
        refine v_get hx cf_Mo 11 (by decide) k_Mo_32 d_Mo_tell_36 mf3.m0 mf3.f0 rfl ?_
        refine v_iload_n hx d_Mo_tell_39 rfl rfl ?_
        refine n_iald hx d_Mo_tell_40 mf3.m8 mf3.f8 (by omega) (by decide) ?_
        rw [hkp.2.1]
        refine v_istore_n (lv' := [some (.ref (A 0)), some (.int (nI a)), some (.int (nI i)), some (.int (nI ((fr k).getD 0))), none]) hx d_Mo_tell_41 rfl (by decide) rfl ?_
        refine v_goto (tgt := 15) hx d_Mo_tell_42 (by decide) ?_
        exact ih ((fr k).getD 0) (wl1 + 1) f3 (by omega) (by omega) mf3 Ff3 (by rw [hkp.2.2.2] at hl; simp at hl; omega)
  exact v_weak (by simp [vsub]) (H15 _ a 1 f1 (Nat.lt_succ_self _) ha mf1 Ff1 (by rw [hWa]; omega))
set_option maxHeartbeats 4000000 in
set_option maxRecDepth 100000 in
theorem c_Mo_tellN {G : GT} {L : List Nat} {f : Nat → va_E} {w A : Nat → Nat} {th : Nat} {mc : Nat} {sa : Nat → Nat} {ka : Nat → Nat} {nx : Nat → Nat} {ou : Nat → Nat} {wl : Nat} {wd : Nat → Nat} {ap : Nat → Bool} {fo : Nat} {se : Nat → Nat} {fr : Nat → Option Nat} {by_ : Nat → Nat} {is : Nat → Bool} {tr : Nat} {my : Nat → Nat} {ss : Nat → Nat} {tf : Nat → Option Nat} {tb : Nat → Nat} (hM : MoAt G L f w 100 A th mc sa ka nx ou wl wd ap fo se fr by_ is tr my ss tf tb) {N : Nat} {W : List Nat} (a : Nat) (hT : TlR fr by_ a N W) : Con G y_Mo_tell (.code y_Mo_tell b_Mo_tell 5 none :: BIG) 0 0 0 0 [.ref (A 0), .int (nI a), .int (-1)] L f (fun v L' f' => v = none ∧ L' = L ∧ gF w 100 f f' ∧ ∃ (wd' : Nat → Nat), MoAt G L f' w 100 A th mc sa ka nx ou W.length wd' ap fo se fr by_ is tr my ss tf tb ∧ ∀ j, j < W.length → wd' j = W.getD j 0) := by
  refine con_of (cc := b_Mo_tell) (mL := 5) (lv := [some (.ref (A 0)), some (.int (nI a)), some (.int (-1)), none, none]) (by decide) (by intro w hw; simp at hw; rcases hw with rfl | rfl | rfl <;> rfl) (by first | exact Nat.le_of_ble_eq_true rfl | decide) rfl ?_
  intro x hx hr hin
  have hF0 := gF.rf (w := w) (id := 100) (f := f)
  have hok := hT.ok
  obtain ⟨ha, hN, -, hB, hWa⟩ := id hT
  have hFF := hT.F
  have hWl : W.length = W.length + 0 := rfl
  refine v_aload_n hx d_Mo_tell_0 rfl rfl ?_
  refine v_iload_n hx d_Mo_tell_1 rfl rfl ?_
  refine v_if_ge (tgt := 9) hx d_Mo_tell_2 (by decide) (fun c2 => ?_) (fun c2 => ?_)
  · exact absurd c2 (by decide)
  · refine v_iconst (v := (nI 0)) hx d_Mo_tell_5 rfl ?_
    refine v_goto (tgt := 10) hx d_Mo_tell_6 (by decide) ?_
    refine v_put hx cf_Mo 6 (by decide) k_Mo_94 rfl rfl rfl d_Mo_tell_10 hM.m0 hM.f0 (Nat.le_of_ble_eq_true rfl) (fun f1 hf1 => ?_)
    have mf1 := hM.up0 hf1
    have Ff1 := hF0.up hf1 hM.o0
    refine v_iload_n hx d_Mo_tell_13 rfl rfl ?_
    refine v_istore_n (lv' := [some (.ref (A 0)), some (.int (nI a)), some (.int (-1)), some (.int (nI a)), none]) hx d_Mo_tell_14 rfl (by decide) rfl ?_
    have H15 : ∀ (fu : Nat) (k : Nat) (wl1 : Nat) (f1 : Nat → va_E), k < fu → (k < N) → (MoAt G L f1 w 100 A th mc sa ka nx ou wl1 wd ap fo se fr by_ is tr my ss tf tb) → (gF w 100 f f1) → (wl1 + (wdA (fun b => (fr b).getD 0) by_ k).length = W.length + 0) → V G { frames := 0, cells := 0, slots := 0, locals := 0 } 5 x L f1 0 0 [some (.ref (A 0)), some (.int (nI a)), some (.int (-1)), some (.int (nI k)), none] 15 [] := by
      intro fu
      induction fu with
      | zero => intro k wl1 f1 hm; exact absurd hm (Nat.not_lt_zero _)
      | succ fu ih =>
        intro k wl1 f1 hm hk hM1 hF1 hl
        refine v_aload_n hx d_Mo_tell_15 rfl rfl ?_
        refine v_get hx cf_Mo 11 (by decide) k_Mo_32 d_Mo_tell_16 hM1.m0 hM1.f0 rfl ?_
        refine v_iload_n hx d_Mo_tell_19 rfl rfl ?_
        refine n_iald hx d_Mo_tell_20 hM1.m8 hM1.f8 (by omega) (by decide) ?_
        refine v_iconst (v := (-1)) hx d_Mo_tell_21 rfl ?_
        refine v_icmp_eq (tgt := 45) hx d_Mo_tell_22 (by decide) (fun c22 => ?_) (fun c22 => ?_)
        · have hk0 := hT.z hk c22
          subst hk0
          rw [wdA_0] at hl
          have hl : wl1 + 0 = W.length + 0 := hl
          refine v_aload_n hx d_Mo_tell_45 rfl rfl ?_
          refine v_get hx cf_Mo 6 (by decide) k_Mo_94 d_Mo_tell_46 hM1.m0 hM1.f0 rfl ?_
          refine v_istore_n (lv' := [some (.ref (A 0)), some (.int (nI a)), some (.int (-1)), some (.int (nI wl1)), none]) hx d_Mo_tell_49 rfl (by decide) rfl ?_
          refine v_iload_n hx d_Mo_tell_50 rfl rfl ?_
          refine v_if_lt (tgt := 64) hx d_Mo_tell_51 (by decide) (fun c51 => ?_) (fun c51 => ?_)
          · refine v_iload_n hx d_Mo_tell_64 rfl rfl ?_
            refine v_istore (lv' := [some (.ref (A 0)), some (.int (nI a)), some (.int (-1)), some (.int (nI wl1)), some (.int (nI a))]) hx d_Mo_tell_65 (by decide) rfl ?_
            have H67 : ∀ (fu : Nat) (k : Nat) (lf : Nat) (f2 : Nat → va_E) (wd2 : Nat → Nat) (rs : List Nat), k < fu → (k < N) → (MoAt G L f2 w 100 A th mc sa ka nx ou wl1 wd2 ap fo se fr by_ is tr my ss tf tb) → (gF w 100 f f2) → (W = (wdA (fun b => (fr b).getD 0) by_ k) ++ rs) → (lf = (wdA (fun b => (fr b).getD 0) by_ k).length) → (∀ j, j < rs.length → wd2 (lf + j) = rs.getD j 0) → V G { frames := 0, cells := 0, slots := 0, locals := 0 } 5 x L f2 0 0 [some (.ref (A 0)), some (.int (nI a)), some (.int (-1)), some (.int (nI lf)), some (.int (nI k))] 67 [] := by
              intro fu
              induction fu with
              | zero => intro k lf f2 wd2 rs hm; exact absurd hm (Nat.not_lt_zero _)
              | succ fu ih =>
                intro k lf f2 wd2 rs hm hk hM2 hF2 hsp hlf hwd
                refine v_aload_n hx d_Mo_tell_67 rfl rfl ?_
                refine v_get hx cf_Mo 11 (by decide) k_Mo_32 d_Mo_tell_68 hM2.m0 hM2.f0 rfl ?_
                refine v_iload hx d_Mo_tell_71 rfl ?_
                refine n_iald hx d_Mo_tell_73 hM2.m8 hM2.f8 (by omega) (by decide) ?_
                refine v_iconst (v := (-1)) hx d_Mo_tell_74 rfl ?_
                refine v_icmp_eq (tgt := 106) hx d_Mo_tell_75 (by decide) (fun c75 => ?_) (fun c75 => ?_)
                · have hk0 := hT.z hk c75
                  subst hk0
                  rw [wdA_0] at hsp hlf
                  have hlf : lf = 0 := hlf
                  subst hlf
                  have hsp : W = rs := hsp
                  subst hsp
                  have hwl1 : wl1 = W.length := by omega
                  subst hwl1
                  exact v_vret hx hr d_Mo_tell_106 ⟨rfl, rfl, hF2, wd2, hM2, fun j hj => by have := hwd j hj; rw [Nat.zero_add] at this; exact this⟩
                · have hkp := hT.p hk c75
                  have hkb := hkp.2.2.1
                  have hlf1 : 1 ≤ lf := by rw [hlf, hkp.2.2.2]; simp
                  have hlN : lf ≤ k := by rw [hlf]; exact wdA_len hFF k k (Nat.le_refl _) hk
                  refine n_idec (lv' := [some (.ref (A 0)), some (.int (nI a)), some (.int (-1)), some (.int (nI (lf - 1))), some (.int (nI k))]) hx d_Mo_tell_78 rfl (by omega) (by decide) rfl ?_
                  refine v_aload_n hx d_Mo_tell_81 rfl rfl ?_
                  refine v_get hx cf_Mo 7 (by decide) k_Mo_22 d_Mo_tell_82 hM2.m0 hM2.f0 rfl ?_
                  refine v_iload_n hx d_Mo_tell_85 rfl rfl ?_
                  refine v_aload_n hx d_Mo_tell_86 rfl rfl ?_
                  refine v_get hx cf_Mo 12 (by decide) k_Mo_35 d_Mo_tell_87 hM2.m0 hM2.f0 rfl ?_
                  refine v_iload hx d_Mo_tell_90 rfl ?_
                  refine n_iald hx d_Mo_tell_92 hM2.m9 hM2.f9 (by omega) (by decide) ?_
                  refine nn_iast hx d_Mo_tell_93 hM2.m5 hM2.f5 (by omega) (by decide) (fun f2 hf2 => ?_)
                  have mf2 := hM2.up5 hf2
                  have Ff2 := hF2.up hf2 hM2.o5
                  refine v_aload_n hx d_Mo_tell_94 rfl rfl ?_
                  refine v_get hx cf_Mo 11 (by decide) k_Mo_32 d_Mo_tell_95 mf2.m0 mf2.f0 rfl ?_
                  refine v_iload hx d_Mo_tell_98 rfl ?_
                  refine n_iald hx d_Mo_tell_100 mf2.m8 mf2.f8 (by omega) (by decide) ?_
                  rw [hkp.2.1]
                  refine v_istore (lv' := [some (.ref (A 0)), some (.int (nI a)), some (.int (-1)), some (.int (nI (lf - 1))), some (.int (nI ((fr k).getD 0)))]) hx d_Mo_tell_101 (by decide) rfl ?_
                  refine v_goto (tgt := 67) hx d_Mo_tell_103 (by decide) ?_
                  refine ih ((fr k).getD 0) (lf - 1) f2 _ (by_ k :: rs) (by omega) (by omega) mf2 Ff2 (by rw [hsp, hkp.2.2.2]; simp) (by rw [hlf, hkp.2.2.2]; simp) (fun j hj => ?_)
                  cases j with
                  | zero => rw [Nat.add_zero, va_up_self]; rfl
                  | succ j =>
                    rw [va_up_ne _ _ (by omega), show lf - 1 + (j + 1) = lf + j by omega, hwd j (by simpa using hj)]
                    rfl
            exact H67 _ a wl1 f1 wd [] (Nat.lt_succ_self _) ha hM1 hF1 (by rw [hWa]; simp) (by rw [hWa]; omega) (fun j hj => absurd hj (by simp))
          · exact absurd (show (-1 : Int32) < 0 by decide) c51
        · have hkp := hT.p hk c22
          have hkb := hkp.2.2.1
          refine v_aload_n hx d_Mo_tell_25 rfl rfl ?_
          refine v_dup hx d_Mo_tell_26 rfl ?_
          refine v_get hx cf_Mo 6 (by decide) k_Mo_94 d_Mo_tell_27 hM1.m0 hM1.f0 rfl ?_
          refine v_iconst (v := (nI 1)) hx d_Mo_tell_30 rfl ?_
          refine n_iadd hx d_Mo_tell_31 ?_
          refine v_put hx cf_Mo 6 (by decide) k_Mo_94 rfl rfl rfl d_Mo_tell_32 hM1.m0 hM1.f0 (Nat.le_of_ble_eq_true rfl) (fun f2 hf2 => ?_)
          have mf2 := hM1.up0 hf2
          have Ff2 := hF1.up hf2 hM1.o0
          refine v_aload_n hx d_Mo_tell_35 rfl rfl ?_
          refine v_get hx cf_Mo 11 (by decide) k_Mo_32 d_Mo_tell_36 mf2.m0 mf2.f0 rfl ?_
          refine v_iload_n hx d_Mo_tell_39 rfl rfl ?_
          refine n_iald hx d_Mo_tell_40 mf2.m8 mf2.f8 (by omega) (by decide) ?_
          rw [hkp.2.1]
          refine v_istore_n (lv' := [some (.ref (A 0)), some (.int (nI a)), some (.int (-1)), some (.int (nI ((fr k).getD 0))), none]) hx d_Mo_tell_41 rfl (by decide) rfl ?_
          refine v_goto (tgt := 15) hx d_Mo_tell_42 (by decide) ?_
          exact ih ((fr k).getD 0) (wl1 + 1) f2 (by omega) (by omega) mf2 Ff2 (by rw [hkp.2.2.2] at hl; simp at hl; omega)
    exact v_weak (by simp [vsub]) (H15 _ a 0 f1 (Nat.lt_succ_self _) ha mf1 Ff1 (by rw [hWa]; omega))
set_option maxHeartbeats 4000000 in
set_option maxRecDepth 100000 in
theorem c_Mo_alike {G : GT} {L : List Nat} {f : Nat → va_E} {w A : Nat → Nat} {th : Nat} {mc : Nat} {sa : Nat → Nat} {ka : Nat → Nat} {nx : Nat → Nat} {ou : Nat → Nat} {wl : Nat} {wd : Nat → Nat} {ap : Nat → Bool} {fo : Nat} {se : Nat → Nat} {fr : Nat → Option Nat} {by_ : Nat → Nat} {is : Nat → Bool} {tr : Nat} {my : Nat → Nat} {ss : Nat → Nat} {tf : Nat → Option Nat} {tb : Nat → Nat} (hM : MoAt G L f w 100 A th mc sa ka nx ou wl wd ap fo se fr by_ is tr my ss tf tb) (hG : okG (pic mc sa ka nx ou wl wd)) (p q u t : Int32) : Con G y_Mo_alike (.code y_Mo_alike b_Mo_alike 9 (some .boolean) :: BIG) 3 65 0 0 [.ref (A 0), .int p, .int q, .int u, .int t] L f (fun v L' f' => ∃ (vi : Int32) (th' : Nat) (σ' : SG), v = some (.int vi) ∧ L' = L ∧ gF w 100 f f' ∧ MoS G L f' w A th' σ' ∧ (th' = 0 ∧ rAlike (pic mc sa ka nx ou wl wd) p q u t (some vi) σ' ∨ th' = 1 ∧ rAlike (pic mc sa ka nx ou wl wd) p q u t none σ')) := by
  refine con_of (cc := b_Mo_alike) (mL := 9) (lv := [some (.ref (A 0)), some (.int p), some (.int q), some (.int u), some (.int t), none, none, none, none]) (by decide) (by intro w hw; simp at hw; rcases hw with rfl | rfl | rfl | rfl | rfl <;> rfl) (by first | exact Nat.le_of_ble_eq_true rfl | decide) rfl ?_
  intro x hx hr hin
  have hF0 := gF.rf (w := w) (id := 100) (f := f)
  obtain ⟨hmc, hok, hwl, hwd⟩ := id hG
  have hmc : mc ≤ 12 := hmc
  have hok : ∀ j, j < mc → okA (fun t => nx (160 * j + t)) (fun t => ou (160 * j + t)) (sa j) (ka j) := hok
  have hwl : wl ≤ 4096 := hwl
  have hwd : ∀ j, j < wl → wd j < 4 := hwd
  have hsa : ∀ j, j < mc → sa j ≤ 40 := fun j hj => (hok j hj).2.1
  have hka : ∀ j, j < mc → ka j ≤ 4 := fun j hj => (hok j hj).2.2.2.1
  refine v_aload_n hx d_Mo_alike_0 rfl rfl ?_
  refine v_iconst (v := (nI 0)) hx d_Mo_alike_1 rfl ?_
  refine v_put hx cf_Mo 0 (by decide) k_Mo_53 rfl rfl rfl d_Mo_alike_2 hM.m0 hM.f0 (Nat.le_of_ble_eq_true rfl) (fun f1 hf1 => ?_)
  have mf1 := hM.up0 hf1
  have Ff1 := hF0.up hf1 hM.o0
  refine v_aload_n hx d_Mo_alike_5 rfl rfl ?_
  refine v_iload_n hx d_Mo_alike_6 rfl rfl ?_
  refine v_iload_n hx d_Mo_alike_7 rfl rfl ?_
  refine v_callV (as := [.int p, .int q]) (q := (R_Mo, T_Mo, 19)) hx (c_Mo_isState mf1 hmc hsa p q) cy_Mo_isState k_Mo_72 ki_Mo_isState kl_Mo_isState d_Mo_alike_8 (by decide) (ci := 4) rfl mf1.m0 mf1.f0 (by decide) rfl rfl (Nat.le_of_ble_eq_true rfl) (fun v2 L f1 p2 => ?_)
  obtain ⟨rfl, rfl, rfl⟩ := p2
  refine v_if_eq (tgt := 39) hx d_Mo_alike_11 (by decide) (fun c11 => ?_) (fun c11 => ?_)
  · refine v_aload_n hx d_Mo_alike_39 rfl rfl ?_
    refine v_iconst (v := (nI 1)) hx d_Mo_alike_40 rfl ?_
    refine v_put hx cf_Mo 0 (by decide) k_Mo_53 rfl rfl rfl d_Mo_alike_41 mf1.m0 mf1.f0 (Nat.le_of_ble_eq_true rfl) (fun f3 hf3 => ?_)
    have mf3 := mf1.up0 hf3
    have Ff3 := Ff1.up hf3 mf1.o0
    refine v_iconst (v := (nI 0)) hx d_Mo_alike_44 rfl ?_
    exact v_zret hx hr d_Mo_alike_45 rfl ⟨_, 1, (pic mc sa ka nx ou wl wd), rfl, rfl, Ff3, ⟨hG, _, _, _, _, _, _, _, _, _, _, _, _, _, mf3, rfl, rfl⟩, Or.inr ⟨rfl, Or.inl ⟨fun ⟨m_, s_, n_, o_, g1, g2, g3, g4, g5⟩ => ixS_none c11 ⟨m_, s_, g1, g2⟩, rfl, Rel.rf _⟩⟩⟩
  · obtain ⟨m, s, em, es⟩ := ixS_some c11
    obtain ⟨hm, zm⟩ := ix_some (by omega) em
    have hAm := hok m hm
    have hsm := hsa m hm
    have hkm := hka m hm
    obtain ⟨hs, zs⟩ := ix_some (by omega) es
    subst zm
    subst zs
    refine v_aload_n hx d_Mo_alike_14 rfl rfl ?_
    refine v_iload_n hx d_Mo_alike_15 rfl rfl ?_
    refine v_iload hx d_Mo_alike_16 rfl ?_
    refine v_callV (as := [.int u, .int t]) (q := (R_Mo, T_Mo, 19)) hx (c_Mo_isState mf1 hmc hsa u t) cy_Mo_isState k_Mo_72 ki_Mo_isState kl_Mo_isState d_Mo_alike_18 (by decide) (ci := 4) rfl mf1.m0 mf1.f0 (by decide) rfl rfl (Nat.le_of_ble_eq_true rfl) (fun v4 L f1 p4 => ?_)
    obtain ⟨rfl, rfl, rfl⟩ := p4
    refine v_if_eq (tgt := 39) hx d_Mo_alike_21 (by decide) (fun c21 => ?_) (fun c21 => ?_)
    · refine v_aload_n hx d_Mo_alike_39 rfl rfl ?_
      refine v_iconst (v := (nI 1)) hx d_Mo_alike_40 rfl ?_
      refine v_put hx cf_Mo 0 (by decide) k_Mo_53 rfl rfl rfl d_Mo_alike_41 mf1.m0 mf1.f0 (Nat.le_of_ble_eq_true rfl) (fun f5 hf5 => ?_)
      have mf5 := mf1.up0 hf5
      have Ff5 := Ff1.up hf5 mf1.o0
      refine v_iconst (v := (nI 0)) hx d_Mo_alike_44 rfl ?_
      exact v_zret hx hr d_Mo_alike_45 rfl ⟨_, 1, (pic mc sa ka nx ou wl wd), rfl, rfl, Ff5, ⟨hG, _, _, _, _, _, _, _, _, _, _, _, _, _, mf5, rfl, rfl⟩, Or.inr ⟨rfl, Or.inl ⟨fun ⟨m_, s_, n_, o_, g1, g2, g3, g4, g5⟩ => ixS_none c21 ⟨n_, o_, g3, g4⟩, rfl, Rel.rf _⟩⟩⟩
    · obtain ⟨m2, z, em2, ez⟩ := ixS_some c21
      obtain ⟨hm2, zm2⟩ := ix_some (by omega) em2
      have hAm2 := hok m2 hm2
      have hsm2 := hsa m2 hm2
      have hkm2 := hka m2 hm2
      obtain ⟨hz, zz⟩ := ix_some (by omega) ez
      subst zm2
      subst zz
      refine v_aload_n hx d_Mo_alike_24 rfl rfl ?_
      refine v_get hx cf_Mo 3 (by decide) k_Mo_13 d_Mo_alike_25 mf1.m0 mf1.f0 rfl ?_
      refine v_iload_n hx d_Mo_alike_28 rfl rfl ?_
      refine n_iald hx d_Mo_alike_29 mf1.m2 mf1.f2 (by omega) (by decide) ?_
      refine v_aload_n hx d_Mo_alike_30 rfl rfl ?_
      refine v_get hx cf_Mo 3 (by decide) k_Mo_13 d_Mo_alike_31 mf1.m0 mf1.f0 rfl ?_
      refine v_iload_n hx d_Mo_alike_34 rfl rfl ?_
      refine n_iald hx d_Mo_alike_35 mf1.m2 mf1.f2 (by omega) (by decide) ?_
      refine n_icmp_eq (tgt := 46) hx d_Mo_alike_36 (by decide) (by omega) (by omega) (fun c36 => ?_) (fun c36 => ?_)
      · have hB1 : okA (fun t => nx (160 * m2 + t)) (fun t => ou (160 * m2 + t)) (sa m2) (ka m) := by rw [c36]; exact hAm2
        have hlt := wP_lt hAm hB1
        have hnP := wP_nx hAm hB1
        have hP0 : wP (sa m) (sa m2) (s * 40 + z) := wP_mk hs hz hsm2
        have hq0 : qOK [(s * 40 + z, 0, 0)] 1600 := q0_ok (hlt _ hP0)
        have hI0 : qI (wP (sa m) (sa m2)) [(s * 40 + z, 0, 0)] := q0_I hP0
        have hm_ := hm
        have hm2_ := hm2
        refine v_aload_n hx d_Mo_alike_46 rfl rfl ?_
        refine v_bipush (v := (nI 40)) hx d_Mo_alike_47 rfl ?_
        refine v_iload_n hx d_Mo_alike_49 rfl rfl ?_
        refine n_imul hx d_Mo_alike_50 ?_
        refine v_iload hx d_Mo_alike_51 rfl ?_
        refine n_iadd hx d_Mo_alike_53 ?_
        rw [show 40 * s + z = s * 40 + z by omega]
        refine v_callV (as := [.int (nI (s * 40 + z))]) (q := (R_Mo, T_Mo, 19)) hx (c_Mo_begin mf1 (s * 40 + z) (by have := hlt _ hP0; omega)) cy_Mo_begin k_Mo_97 ki_Mo_begin kl_Mo_begin d_Mo_alike_54 (by decide) (ci := 4) rfl mf1.m0 mf1.f0 (by decide) rfl rfl (Nat.le_of_ble_eq_true rfl) (fun v6 L f1 p6 => ?_)
        obtain ⟨rfl, rfl, hF1, fo1, se1, fr1, by1, is1, hM1, hQ1⟩ := p6
        have hF1_ := Ff1.tr hF1
        refine v_iconst (v := (nI 0)) hx d_Mo_alike_57 rfl ?_
        refine v_istore (lv' := [some (.ref (A 0)), some (.int (nI m)), some (.int (nI s)), some (.int (nI m2)), some (.int (nI z)), some (.int (nI 0)), none, none, none]) hx d_Mo_alike_58 (by decide) rfl ?_
        have H60 : ∀ (fu : Nat) (a : Nat) (f1 : Nat → va_E) (fo1 : Nat) (se1 : Nat → Nat) (fr1 : Nat → Option Nat) (by1 : Nat → Nat) (is1 : Nat → Bool), 1601 - a < fu → (a ≤ 1600) → (∀ b, b < a → b < (bout (wNx (fun t => nx (160 * m + t)) (fun t => nx (160 * m2 + t))) (ka m) [(s * 40 + z, 0, 0)] b).length) → (∀ b, b < a → ∀ j, j < ka m → ¬ (wBad (fun t => ou (160 * m + t)) (fun t => ou (160 * m2 + t))) (qP (bout (wNx (fun t => nx (160 * m + t)) (fun t => nx (160 * m2 + t))) (ka m) [(s * 40 + z, 0, 0)] b) b) j) → (MoAt G L f1 w 100 A 0 mc sa ka nx ou wl wd ap fo1 se1 fr1 by1 is1 tr my ss tf tb) → (ReQ fo1 se1 fr1 by1 is1 (bout (wNx (fun t => nx (160 * m + t)) (fun t => nx (160 * m2 + t))) (ka m) [(s * 40 + z, 0, 0)] a)) → (gF w 100 f f1) → V G { frames := 3, cells := 0, slots := 0, locals := 65 } 9 x L f1 0 0 [some (.ref (A 0)), some (.int (nI m)), some (.int (nI s)), some (.int (nI m2)), some (.int (nI z)), some (.int (nI a)), none, none, none] 60 [] := by
          intro fu
          induction fu with
          | zero => intro a f1 fo1 se1 fr1 by1 is1 hm; exact absurd hm (Nat.not_lt_zero _)
          | succ fu ih =>
            intro a f1 fo1 se1 fr1 by1 is1 hm ha0 hr1 hg1 hM1 hQ hF1_
            have ihO := ih
            have hok := bout_ok hq0 hI0 hkm hlt hnP a hr1
            have hlen := hok.1.len
            have hce := hQ.1
            refine v_iload hx d_Mo_alike_60 rfl ?_
            refine v_aload_n hx d_Mo_alike_62 rfl rfl ?_
            refine v_get hx cf_Mo 9 (by decide) k_Mo_87 d_Mo_alike_63 hM1.m0 hM1.f0 rfl ?_
            refine n_icmp_ge (tgt := 194) hx d_Mo_alike_66 (by decide) (by omega) (by omega) (fun c66 => ?_) (fun c66 => ?_)
            · refine v_iconst (v := (nI 1)) hx d_Mo_alike_194 rfl ?_
              have hBE : BEnd (wNx (fun t => nx (160 * m + t)) (fun t => nx (160 * m2 + t))) (ka m) [(s * 40 + z, 0, 0)] a := ⟨by omega, hr1⟩
              exact v_zret hx hr d_Mo_alike_195 rfl ⟨_, 0, (pic mc sa ka nx ou wl wd), rfl, rfl, hF1_, ⟨hG, _, _, _, _, _, _, _, _, _, _, _, _, _, hM1, rfl, rfl⟩, Or.inl ⟨rfl, Or.inr ⟨m, s, m2, z, none, em, es, em2, ez, c36, ⟨a, hBE, hg1⟩, rfl, Rel.rf _⟩⟩⟩
            · have haL : a < (bout (wNx (fun t => nx (160 * m + t)) (fun t => nx (160 * m2 + t))) (ka m) [(s * 40 + z, 0, 0)] a).length := by omega
              have hpa : se1 a = qP (bout (wNx (fun t => nx (160 * m + t)) (fun t => nx (160 * m2 + t))) (ka m) [(s * 40 + z, 0, 0)] a) a := (hQ.2.1 a (by omega)).1
              have hPa : wP (sa m) (sa m2) (se1 a) := by rw [hpa]; exact hok.2 _ (qP_mem haL)
              have hPa1 := hPa.1
              have hPa2 := hPa.2
              have hpl := hlt _ hPa
              refine v_iconst (v := (nI 0)) hx d_Mo_alike_69 rfl ?_
              refine v_istore (lv' := [some (.ref (A 0)), some (.int (nI m)), some (.int (nI s)), some (.int (nI m2)), some (.int (nI z)), some (.int (nI a)), some (.int (nI 0)), none, none]) hx d_Mo_alike_70 (by decide) rfl ?_
              have H72 : ∀ (fu : Nat) (i : Nat) (f2 : Nat → va_E) (fo2 : Nat) (se2 : Nat → Nat) (fr2 : Nat → Option Nat) (by2 : Nat → Nat) (is2 : Nat → Bool), ka m - i < fu → (i ≤ ka m) → (∀ j, j < i → ¬ (wBad (fun t => ou (160 * m + t)) (fun t => ou (160 * m2 + t))) (se1 a) j) → (MoAt G L f2 w 100 A 0 mc sa ka nx ou wl wd ap fo2 se2 fr2 by2 is2 tr my ss tf tb) → (ReQ fo2 se2 fr2 by2 is2 (bin (wNx (fun t => nx (160 * m + t)) (fun t => nx (160 * m2 + t))) (bout (wNx (fun t => nx (160 * m + t)) (fun t => nx (160 * m2 + t))) (ka m) [(s * 40 + z, 0, 0)] a) a i)) → (gF w 100 f f2) → V G { frames := 3, cells := 0, slots := 0, locals := 65 } 9 x L f2 0 0 [some (.ref (A 0)), some (.int (nI m)), some (.int (nI s)), some (.int (nI m2)), some (.int (nI z)), some (.int (nI a)), some (.int (nI i)), none, none] 72 [] := by
                intro fu
                induction fu with
                | zero => intro i f2 fo2 se2 fr2 by2 is2 hm; exact absurd hm (Nat.not_lt_zero _)
                | succ fu ih =>
                  intro i f2 fo2 se2 fr2 by2 is2 hm hi hgi hM2_ hQ2_ hF2
                  have hoki := bin_ok hok.1 hok.2 haL hkm hlt hnP i hi
                  have hlen2 := hoki.1.len
                  have hce2 := hQ2_.1
                  have hbl := bin_len (wNx (fun t => nx (160 * m + t)) (fun t => nx (160 * m2 + t))) (bout (wNx (fun t => nx (160 * m + t)) (fun t => nx (160 * m2 + t))) (ka m) [(s * 40 + z, 0, 0)] a) a i
                  have hsub := bin_sub (wNx (fun t => nx (160 * m + t)) (fun t => nx (160 * m2 + t))) (bout (wNx (fun t => nx (160 * m + t)) (fun t => nx (160 * m2 + t))) (ka m) [(s * 40 + z, 0, 0)] a) a i
                  have hse2 : se2 a = se1 a := by rw [(hQ2_.2.1 a (by omega)).1, hpa, (hsub.2 a haL).1]
                  refine v_iload hx d_Mo_alike_72 rfl ?_
                  refine v_aload_n hx d_Mo_alike_74 rfl rfl ?_
                  refine v_get hx cf_Mo 3 (by decide) k_Mo_13 d_Mo_alike_75 hM2_.m0 hM2_.f0 rfl ?_
                  refine v_iload_n hx d_Mo_alike_78 rfl rfl ?_
                  refine n_iald hx d_Mo_alike_79 hM2_.m2 hM2_.f2 (by omega) (by decide) ?_
                  refine n_icmp_ge (tgt := 188) hx d_Mo_alike_80 (by decide) (by omega) (by omega) (fun c80 => ?_) (fun c80 => ?_)
                  · refine n_iinc (lv' := [some (.ref (A 0)), some (.int (nI m)), some (.int (nI s)), some (.int (nI m2)), some (.int (nI z)), some (.int (nI (a + 1))), some (.int (nI i)), none, none]) hx d_Mo_alike_188 rfl (by decide) rfl ?_
                    refine v_goto (tgt := 60) hx d_Mo_alike_191 (by decide) ?_
                    have e6 : i = ka m := by omega
                    refine v_weak (by simp [vsub]) (ihO (a + 1) f2 fo2 se2 fr2 by2 is2 (by omega) (by omega) (lt_s hr1 haL) (lt_s hg1 (fun j hj => by rw [← hpa]; exact hgi j (by omega))) hM2_ (by rw [e6] at hQ2_; exact hQ2_) hF2)
                  · refine v_sipush (v := (nI 160)) hx d_Mo_alike_83 rfl ?_
                    refine v_iload_n hx d_Mo_alike_86 rfl rfl ?_
                    refine n_imul hx d_Mo_alike_87 ?_
                    refine v_iconst (v := (nI 4)) hx d_Mo_alike_88 rfl ?_
                    refine v_aload_n hx d_Mo_alike_89 rfl rfl ?_
                    refine v_get hx cf_Mo 10 (by decide) k_Mo_29 d_Mo_alike_90 hM2_.m0 hM2_.f0 rfl ?_
                    refine v_iload hx d_Mo_alike_93 rfl ?_
                    refine n_iald hx d_Mo_alike_95 hM2_.m7 hM2_.f7 (by omega) (by decide) ?_
                    rw [hse2]
                    refine v_bipush (v := (nI 40)) hx d_Mo_alike_96 rfl ?_
                    refine n_idiv hx d_Mo_alike_98 (by omega) (by decide) (by decide) ?_
                    refine n_imul hx d_Mo_alike_99 ?_
                    refine n_iadd hx d_Mo_alike_100 ?_
                    refine v_iload hx d_Mo_alike_101 rfl ?_
                    refine n_iadd hx d_Mo_alike_103 ?_
                    refine v_istore (lv' := [some (.ref (A 0)), some (.int (nI m)), some (.int (nI s)), some (.int (nI m2)), some (.int (nI z)), some (.int (nI a)), some (.int (nI i)), some (.int (nI (((160 * m) + (4 * ((se1 a) / 40))) + i))), none]) hx d_Mo_alike_104 (by decide) rfl ?_
                    refine v_sipush (v := (nI 160)) hx d_Mo_alike_106 rfl ?_
                    refine v_iload_n hx d_Mo_alike_109 rfl rfl ?_
                    refine n_imul hx d_Mo_alike_110 ?_
                    refine v_iconst (v := (nI 4)) hx d_Mo_alike_111 rfl ?_
                    refine v_aload_n hx d_Mo_alike_112 rfl rfl ?_
                    refine v_get hx cf_Mo 10 (by decide) k_Mo_29 d_Mo_alike_113 hM2_.m0 hM2_.f0 rfl ?_
                    refine v_iload hx d_Mo_alike_116 rfl ?_
                    refine n_iald hx d_Mo_alike_118 hM2_.m7 hM2_.f7 (by omega) (by decide) ?_
                    rw [hse2]
                    refine v_bipush (v := (nI 40)) hx d_Mo_alike_119 rfl ?_
                    refine n_irem hx d_Mo_alike_121 (by omega) (by decide) (by decide) ?_
                    refine n_imul hx d_Mo_alike_122 ?_
                    refine n_iadd hx d_Mo_alike_123 ?_
                    refine v_iload hx d_Mo_alike_124 rfl ?_
                    refine n_iadd hx d_Mo_alike_126 ?_
                    refine v_istore (lv' := [some (.ref (A 0)), some (.int (nI m)), some (.int (nI s)), some (.int (nI m2)), some (.int (nI z)), some (.int (nI a)), some (.int (nI i)), some (.int (nI (((160 * m) + (4 * ((se1 a) / 40))) + i))), some (.int (nI (((160 * m2) + (4 * ((se1 a) % 40))) + i)))]) hx d_Mo_alike_127 (by decide) rfl ?_
                    have hxa : nx (160 * m + 4 * (se1 a / 40) + i) < sa m ∧ ou (160 * m + 4 * (se1 a / 40) + i) < 10 := by rw [pic_ix]; exact hAm.2.2.2.2 (se1 a / 40) i hPa1 (by omega)
                    have hxb : nx (160 * m2 + 4 * (se1 a % 40) + i) < sa m2 ∧ ou (160 * m2 + 4 * (se1 a % 40) + i) < 10 := by rw [pic_ix]; exact hB1.2.2.2.2 (se1 a % 40) i hPa2 (by omega)
                    have hbe : (wBad (fun t => ou (160 * m + t)) (fun t => ou (160 * m2 + t))) (se1 a) i ↔ ¬ ou (160 * m + 4 * (se1 a / 40) + i) = ou (160 * m2 + 4 * (se1 a % 40) + i) := by rw [pic_ix, pic_ix]; exact Iff.rfl
                    refine v_aload_n hx d_Mo_alike_129 rfl rfl ?_
                    refine v_get hx cf_Mo 5 (by decide) k_Mo_19 d_Mo_alike_130 hM2_.m0 hM2_.f0 rfl ?_
                    refine v_iload hx d_Mo_alike_133 rfl ?_
                    refine n_iald hx d_Mo_alike_135 hM2_.m4 hM2_.f4 (by omega) (by decide) ?_
                    refine v_aload_n hx d_Mo_alike_136 rfl rfl ?_
                    refine v_get hx cf_Mo 5 (by decide) k_Mo_19 d_Mo_alike_137 hM2_.m0 hM2_.f0 rfl ?_
                    refine v_iload hx d_Mo_alike_140 rfl ?_
                    refine n_iald hx d_Mo_alike_142 hM2_.m4 hM2_.f4 (by omega) (by decide) ?_
                    refine n_icmp_eq (tgt := 156) hx d_Mo_alike_143 (by decide) (by omega) (by omega) (fun c143 => ?_) (fun c143 => ?_)
                    · refine v_aload_n hx d_Mo_alike_156 rfl rfl ?_
                      refine v_bipush (v := (nI 40)) hx d_Mo_alike_157 rfl ?_
                      refine v_aload_n hx d_Mo_alike_159 rfl rfl ?_
                      refine v_get hx cf_Mo 4 (by decide) k_Mo_16 d_Mo_alike_160 hM2_.m0 hM2_.f0 rfl ?_
                      refine v_iload hx d_Mo_alike_163 rfl ?_
                      refine n_iald hx d_Mo_alike_165 hM2_.m3 hM2_.f3 (by omega) (by decide) ?_
                      refine n_imul hx d_Mo_alike_166 ?_
                      refine v_aload_n hx d_Mo_alike_167 rfl rfl ?_
                      refine v_get hx cf_Mo 4 (by decide) k_Mo_16 d_Mo_alike_168 hM2_.m0 hM2_.f0 rfl ?_
                      refine v_iload hx d_Mo_alike_171 rfl ?_
                      refine n_iald hx d_Mo_alike_173 hM2_.m3 hM2_.f3 (by omega) (by decide) ?_
                      refine n_iadd hx d_Mo_alike_174 ?_
                      rw [show 40 * nx (160 * m + 4 * (se1 a / 40) + i) + nx (160 * m2 + 4 * (se1 a % 40) + i) = (wNx (fun t => nx (160 * m + t)) (fun t => nx (160 * m2 + t))) (se1 a) i by rw [pic_ix, pic_ix]; exact congrArg (· + _) (Nat.mul_comm _ _)]
                      refine v_iload hx d_Mo_alike_175 rfl ?_
                      refine v_iload hx d_Mo_alike_177 rfl ?_
                      refine v_callV (as := [.int (nI ((wNx (fun t => nx (160 * m + t)) (fun t => nx (160 * m2 + t))) (se1 a) i)), .int (nI a), .int (nI i)]) (q := (R_Mo, T_Mo, 19)) hx (c_Mo_come hM2_ hQ2_ ⟨hoki.1.1, fun p hp => Nat.lt_of_lt_of_le (hoki.1.2.1 p hp) (by decide), hoki.1.2.2⟩ a i (some a) ((wNx (fun t => nx (160 * m + t)) (fun t => nx (160 * m2 + t))) (se1 a) i) (Nat.lt_of_lt_of_le (hlt _ (hnP _ i hPa (by omega))) (by decide)) (by rw [if_neg (by omega)]) (Or.inl (by omega)) (by omega)) cy_Mo_come k_Mo_90 ki_Mo_come kl_Mo_come d_Mo_alike_179 (by decide) (ci := 4) rfl hM2_.m0 hM2_.f0 (by decide) rfl rfl (Nat.le_of_ble_eq_true rfl) (fun v7 L f5 p7 => ?_)
                      obtain ⟨rfl, rfl, hF5, fo5, se5, fr5, by5, is5, hM5, hQ5⟩ := p7
                      refine n_iinc (lv' := [some (.ref (A 0)), some (.int (nI m)), some (.int (nI s)), some (.int (nI m2)), some (.int (nI z)), some (.int (nI a)), some (.int (nI (i + 1))), some (.int (nI (((160 * m) + (4 * ((se1 a) / 40))) + i))), some (.int (nI (((160 * m2) + (4 * ((se1 a) % 40))) + i)))]) hx d_Mo_alike_182 rfl (by decide) rfl ?_
                      refine v_goto (tgt := 72) hx d_Mo_alike_185 (by decide) ?_
                      have e5 : (bin (wNx (fun t => nx (160 * m + t)) (fun t => nx (160 * m2 + t))) (bout (wNx (fun t => nx (160 * m + t)) (fun t => nx (160 * m2 + t))) (ka m) [(s * 40 + z, 0, 0)] a) a (i + 1)) = qr (bin (wNx (fun t => nx (160 * m + t)) (fun t => nx (160 * m2 + t))) (bout (wNx (fun t => nx (160 * m + t)) (fun t => nx (160 * m2 + t))) (ka m) [(s * 40 + z, 0, 0)] a) a i) ((wNx (fun t => nx (160 * m + t)) (fun t => nx (160 * m2 + t))) (se1 a) i) a i := by rw [hpa]; rfl
                      refine v_weak (by simp [vsub]) (ih (i + 1) f5 fo5 se5 fr5 by5 is5 (by omega) (by omega) (lt_s hgi (fun z => hbe.mp z c143)) hM5 ?_ (hF2.tr hF5))
                      rw [e5]
                      exact hQ5
                    · have hTl := hQ2_.tl hoki.1 (by decide) (show a < (bin (wNx (fun t => nx (160 * m + t)) (fun t => nx (160 * m2 + t))) (bout (wNx (fun t => nx (160 * m + t)) (fun t => nx (160 * m2 + t))) (ka m) [(s * 40 + z, 0, 0)] a) a i).length by omega)
                      have hWe : qW (bin (wNx (fun t => nx (160 * m + t)) (fun t => nx (160 * m2 + t))) (bout (wNx (fun t => nx (160 * m + t)) (fun t => nx (160 * m2 + t))) (ka m) [(s * 40 + z, 0, 0)] a) a i) a = qW (bout (wNx (fun t => nx (160 * m + t)) (fun t => nx (160 * m2 + t))) (ka m) [(s * 40 + z, 0, 0)] a) a := qW_sub hok.1 hsub haL
                      rw [hWe] at hTl
                      generalize hWW : qW (bout (wNx (fun t => nx (160 * m + t)) (fun t => nx (160 * m2 + t))) (ka m) [(s * 40 + z, 0, 0)] a) a = W at hTl
                      have hWok := hTl.ok
                      have hWit : Wit (wNx (fun t => nx (160 * m + t)) (fun t => nx (160 * m2 + t))) (wBad (fun t => ou (160 * m + t)) (fun t => ou (160 * m2 + t))) (ka m) [(s * 40 + z, 0, 0)] (some (a, i)) := ⟨lt_le hr1 haL, hg1, by omega, by rw [← hpa]; exact hbe.mpr c143, fun j hj => by rw [← hpa]; exact hgi j hj⟩
                      refine v_aload_n hx d_Mo_alike_146 rfl rfl ?_
                      refine v_iload hx d_Mo_alike_147 rfl ?_
                      refine v_iload hx d_Mo_alike_149 rfl ?_
                      refine v_callV (as := [.int (nI a), .int (nI i)]) (q := (R_Mo, T_Mo, 19)) hx (c_Mo_tellS hM2_ a hTl i (by omega)) cy_Mo_tell k_Mo_100 ki_Mo_tell kl_Mo_tell d_Mo_alike_151 (by decide) (ci := 4) rfl hM2_.m0 hM2_.f0 (by decide) rfl rfl (Nat.le_of_ble_eq_true rfl) (fun v8 L f6 p8 => ?_)
                      obtain ⟨rfl, rfl, hF6, wd6, hM6, hwd6⟩ := p8
                      have hF6_ := hF2.tr hF6
                      refine v_iconst (v := (nI 0)) hx d_Mo_alike_154 rfl ?_
                      exact v_zret hx hr d_Mo_alike_155 rfl ⟨_, 0, (pic mc sa ka nx ou ((W ++ [i]).length) wd6), rfl, rfl, hF6_, ⟨okG_word hG (by have := hWok.1; simp; omega) (fun x hx => by rcases List.mem_append.mp hx with h | h; exact hWok.2 x h; simp at h; omega) hwd6, _, _, _, _, _, _, _, _, _, _, _, _, _, hM6, rfl, rfl⟩, Or.inl ⟨rfl, Or.inr ⟨m, s, m2, z, some (a, i), em, es, em2, ez, c36, hWit, rfl, relT.rf _, by rw [hWW], by rw [hWW]; exact hwd6⟩⟩⟩
              exact v_weak (by simp [vsub]) (H72 _ 0 f1 fo1 se1 fr1 by1 is1 (Nat.lt_succ_self _) (Nat.zero_le _) (fun _ h => absurd h (Nat.not_lt_zero _)) hM1 hQ hF1_)
        exact v_weak (by simp [vsub]) (H60 _ 0 f1 fo1 se1 fr1 by1 is1 (Nat.lt_succ_self _) (Nat.zero_le _) (fun _ h => absurd h (Nat.not_lt_zero _)) (fun _ h => absurd h (Nat.not_lt_zero _)) hM1 hQ1 hF1_)
      · refine v_aload_n hx d_Mo_alike_39 rfl rfl ?_
        refine v_iconst (v := (nI 1)) hx d_Mo_alike_40 rfl ?_
        refine v_put hx cf_Mo 0 (by decide) k_Mo_53 rfl rfl rfl d_Mo_alike_41 mf1.m0 mf1.f0 (Nat.le_of_ble_eq_true rfl) (fun f7 hf7 => ?_)
        have mf7 := mf1.up0 hf7
        have Ff7 := Ff1.up hf7 mf1.o0
        refine v_iconst (v := (nI 0)) hx d_Mo_alike_44 rfl ?_
        exact v_zret hx hr d_Mo_alike_45 rfl ⟨_, 1, (pic mc sa ka nx ou wl wd), rfl, rfl, Ff7, ⟨hG, _, _, _, _, _, _, _, _, _, _, _, _, _, mf7, rfl, rfl⟩, Or.inr ⟨rfl, Or.inl ⟨fun ⟨m_, s_, n_, o_, g1, g2, g3, g4, g5⟩ => (by have h1 : some m = some m_ := em.symm.trans g1; have h2 : some m2 = some n_ := em2.symm.trans g3; cases h1; cases h2; exact c36 g5), rfl, Rel.rf _⟩⟩⟩
