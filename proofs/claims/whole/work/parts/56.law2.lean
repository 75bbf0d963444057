/-! ===== the law's helpers ===== -/
theorem SysS.fr {G : GT} {L : List Nat} {f f' : Nat → va_E} {w A : Nat → Nat} {σ : SG} {id : Nat} (h : SysS G L f w A σ) (hid : 100 ≤ id) (hF : gF w id f f') : SysS G L f' w A σ := by
  obtain ⟨S, Fm, wa, mp, M, lo, fi, b, nm, pl, st, sc, ss, sz, bo, fc, hC⟩ := h
  obtain ⟨h1, h2, h3, ⟨h4, h5, h6⟩, h7, h8, h9⟩ := hC
  refine ⟨S, Fm, wa, mp, M, lo, fi, b, nm, pl, st, sc, ss, sz, bo, fc, h1.fr hF (by omega), h2.fr hF (by omega), h3.fr hF (by omega), ⟨h4, h5, (hF wa (by omega)).trans h6⟩, h7, fun j hj => ?_, h9⟩
  rcases h8 j hj with q | ⟨q1, q2⟩
  · exact Or.inl q
  · exact Or.inr ⟨q1, q2.fr hF (by omega)⟩
theorem SysS.obj {G : GT} {L : List Nat} {f : Nat → va_E} {w A : Nat → Nat} {σ : SG} (h : SysS G L f w A σ) : A 0 ∈ L ∧ ∃ vs, f (A 0) = .inr (3, vs) := by
  obtain ⟨S, Fm, wa, mp, M, lo, fi, b, nm, pl, st, sc, ss, sz, bo, fc, hC⟩ := h
  exact ⟨hC.1.m0, _, hC.1.f0⟩
/-- what a helper leaves: 0 and the answer in out, or 1 where the class threw -/
def HPost (G : GT) (L : List Nat) (f : Nat → va_E) (w A : Nat → Nat) (oa : Nat) (R : Option Int32 → SG → Prop) (cv : Int32 → Int64) (v : Option Value) (L' : List Nat) (f' : Nat → va_E) : Prop :=
  ∃ (vi : Int32) (w' : Nat → Nat) (σ' : SG) (h' : Nat → Int64), v = some (.int vi) ∧ (∀ q, q ∈ L → q ∈ L') ∧ (∀ q, q ∈ L → w' q = w q) ∧ (∀ q, q ∈ L → 100 ≤ w q → q ≠ oa → f' q = f q) ∧ SysS G L' f' w' A σ' ∧ f' oa = aL G h' ∧ (vi = nI 0 ∧ (∃ b, R (some b) σ' ∧ h' 0 = cv b) ∨ vi = nI 1 ∧ R none σ')
set_option maxHeartbeats 4000000 in
set_option maxRecDepth 100000 in
theorem c_La_letter {G : GT} {L : List Nat} {f : Nat → va_E} (hoff : G.1.stackTraces = false) {w A : Nat → Nat} {c : Nat} {n k : Nat → Nat} {nx ou : Nat → Nat → Nat} {wl : Nat} {wd : Nat → Nat} (hY : SysS G L f w A (c, n, k, nx, ou, wl, wd)) {oa : Nat} {h : Nat → Int64} (ho : oa ∈ L) (hw : w oa = 101) (hfo : f oa = aL G h) (p : Int32) : ConH G y_La_letter (.codeWith y_La_letter b_La_letter 4 (some .int) [(0, 9, 12, 28)] :: BIG) 7 103 1 6 [.ref (A 0), .int p, .ref oa] L f (HPost G L f w A oa (fun vo σ' => vo = sLetter (c, n, k, nx, ou, wl, wd) p ∧ σ' = (c, n, k, nx, ou, wl, wd)) (fun b => b.toInt64)) := by
  refine con_ofH (cc := b_La_letter) (mL := 4) (lv := [some (.ref (A 0)), some (.int p), some (.ref oa), none]) (by decide) (by intro w hw; simp at hw; rcases hw with rfl | rfl | rfl <;> rfl) (by first | exact Nat.le_of_ble_eq_true rfl | decide) rfl ?_
  intro x z hx hr ht hz hTX
  obtain ⟨hA0, vsA, hA0f⟩ := hY.obj
  refine v_aload_n hx d_La_letter_0 rfl rfl ?_
  refine v_iconst (v := (nI 0)) hx d_La_letter_1 rfl ?_
  refine v_aload_n hx d_La_letter_2 rfl rfl ?_
  refine v_iload_n hx d_La_letter_3 rfl rfl ?_
  refine v_callVT (as := [.int p]) (q := (R_MT, T_MT, 5)) hx hTX (c_MT_letter hoff hY p) cy_MT_letter k_La_25 ki_MT_letter kl_MT_letter d_La_letter_4 (by decide) (ci := 3) rfl hA0 hA0f (by decide) rfl rfl (Nat.le_of_ble_eq_true rfl) ht (by show (decide (z.startPc ≤ 4) && decide (4 < z.endPc)) = true; rw [hz.1, hz.2.1]; decide) (by rw [hz.2.2.2]; decide) (by rw [hz.2.2.2]; exact k_La_28) (by decide) hz.2.2.1 (fun v L1 f1 p1 => ?_) (fun a L1 f1 p1 => ?_)
  · obtain ⟨vi, w1, σ1, rfl, hO, hY1, hrel⟩ := p1
    have ho1 := hO.1 oa ho
    have hw1 : w1 oa = 101 := (hO.2.1 oa ho).trans hw
    have hf1 : f1 oa = aL G h := (hO.2.2 oa ho (by omega)).trans hfo
    refine v_i2l hx d_La_letter_7 rfl ?_
    refine v_last hx d_La_letter_8 ho1 hf1 (fun f2 hf2 => ?_)
    have hF2 : gF w1 101 f1 f2 := gF.up gF.rf hf2 hw1
    have hY2 := hY1.fr (by decide) hF2
    refine v_goto (tgt := 15) hx d_La_letter_9 (by decide) ?_
    refine v_iconst (v := (nI 0)) hx d_La_letter_15 rfl ?_
    exact v_iret hx hr d_La_letter_16 ⟨_, w1, σ1, _, rfl, hO.1, hO.2.1, fun q hq h1 h2 => by rw [hf2, va_up_ne _ _ h2]; exact hO.2.2 q hq h1, hY2, by rw [hf2, va_up_self], Or.inl ⟨rfl, vi, hrel, rfl⟩⟩
  · obtain ⟨w1, σ1, hO, hY1, hrel⟩ := p1
    refine v_astore_n (lv' := [some (.ref (A 0)), some (.int p), some (.ref oa), some (.ref a)]) hx d_La_letter_12 rfl (by decide) rfl ?_
    refine v_iconst (v := (nI 1)) hx d_La_letter_13 rfl ?_
    exact v_iret hx hr d_La_letter_14 ⟨_, w1, σ1, h, rfl, hO.1, hO.2.1, fun q hq h1 _ => hO.2.2 q hq h1, hY1, (hO.2.2 oa ho (by omega)).trans hfo, Or.inr ⟨rfl, hrel⟩⟩
set_option maxHeartbeats 4000000 in
set_option maxRecDepth 100000 in
theorem c_La_home {G : GT} {L : List Nat} {f : Nat → va_E} (hoff : G.1.stackTraces = false) {w A : Nat → Nat} {c : Nat} {n k : Nat → Nat} {nx ou : Nat → Nat → Nat} {wl : Nat} {wd : Nat → Nat} (hY : SysS G L f w A (c, n, k, nx, ou, wl, wd)) {oa : Nat} {h : Nat → Int64} (ho : oa ∈ L) (hw : w oa = 101) (hfo : f oa = aL G h) (p : Int32) : ConH G y_La_home (.codeWith y_La_home b_La_home 4 (some .int) [(0, 9, 12, 19)] :: BIG) 7 143 1 4096 [.ref (A 0), .int p, .ref oa] L f (HPost G L f w A oa (fun vo σ' => rHome (c, n, k, nx, ou, wl, wd) p vo σ') (fun b => b.toInt64)) := by
  refine con_ofH (cc := b_La_home) (mL := 4) (lv := [some (.ref (A 0)), some (.int p), some (.ref oa), none]) (by decide) (by intro w hw; simp at hw; rcases hw with rfl | rfl | rfl <;> rfl) (by first | exact Nat.le_of_ble_eq_true rfl | decide) rfl ?_
  intro x z hx hr ht hz hTX
  obtain ⟨hA0, vsA, hA0f⟩ := hY.obj
  refine v_aload_n hx d_La_home_0 rfl rfl ?_
  refine v_iconst (v := (nI 0)) hx d_La_home_1 rfl ?_
  refine v_aload_n hx d_La_home_2 rfl rfl ?_
  refine v_iload_n hx d_La_home_3 rfl rfl ?_
  refine v_callVT (as := [.int p]) (q := (R_MT, T_MT, 5)) hx hTX (c_MT_home hoff hY p) cy_MT_home k_La_15 ki_MT_home kl_MT_home d_La_home_4 (by decide) (ci := 3) rfl hA0 hA0f (by decide) rfl rfl (Nat.le_of_ble_eq_true rfl) ht (by show (decide (z.startPc ≤ 4) && decide (4 < z.endPc)) = true; rw [hz.1, hz.2.1]; decide) (by rw [hz.2.2.2]; decide) (by rw [hz.2.2.2]; exact k_La_19) (by decide) hz.2.2.1 (fun v L1 f1 p1 => ?_) (fun a L1 f1 p1 => ?_)
  · obtain ⟨vi, w1, σ1, rfl, hO, hY1, hrel⟩ := p1
    have ho1 := hO.1 oa ho
    have hw1 : w1 oa = 101 := (hO.2.1 oa ho).trans hw
    have hf1 : f1 oa = aL G h := (hO.2.2 oa ho (by omega)).trans hfo
    refine v_i2l hx d_La_home_7 rfl ?_
    refine v_last hx d_La_home_8 ho1 hf1 (fun f2 hf2 => ?_)
    have hF2 : gF w1 101 f1 f2 := gF.up gF.rf hf2 hw1
    have hY2 := hY1.fr (by decide) hF2
    refine v_goto (tgt := 15) hx d_La_home_9 (by decide) ?_
    refine v_iconst (v := (nI 0)) hx d_La_home_15 rfl ?_
    exact v_iret hx hr d_La_home_16 ⟨_, w1, σ1, _, rfl, hO.1, hO.2.1, fun q hq h1 h2 => by rw [hf2, va_up_ne _ _ h2]; exact hO.2.2 q hq h1, hY2, by rw [hf2, va_up_self], Or.inl ⟨rfl, vi, hrel, rfl⟩⟩
  · obtain ⟨w1, σ1, hO, hY1, hrel⟩ := p1
    refine v_astore_n (lv' := [some (.ref (A 0)), some (.int p), some (.ref oa), some (.ref a)]) hx d_La_home_12 rfl (by decide) rfl ?_
    refine v_iconst (v := (nI 1)) hx d_La_home_13 rfl ?_
    exact v_iret hx hr d_La_home_14 ⟨_, w1, σ1, h, rfl, hO.1, hO.2.1, fun q hq h1 _ => hO.2.2 q hq h1, hY1, (hO.2.2 oa ho (by omega)).trans hfo, Or.inr ⟨rfl, hrel⟩⟩
set_option maxHeartbeats 4000000 in
set_option maxRecDepth 100000 in
theorem c_La_chain {G : GT} {L : List Nat} {f : Nat → va_E} (hoff : G.1.stackTraces = false) {w A : Nat → Nat} {c : Nat} {n k : Nat → Nat} {nx ou : Nat → Nat → Nat} {wl : Nat} {wd : Nat → Nat} (hY : SysS G L f w A (c, n, k, nx, ou, wl, wd)) {oa : Nat} {h : Nat → Int64} (ho : oa ∈ L) (hw : w oa = 101) (hfo : f oa = aL G h) (p q : Int32) : ConH G y_La_chain (.codeWith y_La_chain b_La_chain 5 (some .int) [(0, 10, 13, 19)] :: BIG) 7 122 5 407 [.ref (A 0), .int p, .int q, .ref oa] L f (HPost G L f w A oa (fun vo σ' => rChain (c, n, k, nx, ou, wl, wd) p q vo σ') (fun b => b.toInt64)) := by
  refine con_ofH (cc := b_La_chain) (mL := 5) (lv := [some (.ref (A 0)), some (.int p), some (.int q), some (.ref oa), none]) (by decide) (by intro w hw; simp at hw; rcases hw with rfl | rfl | rfl | rfl <;> rfl) (by first | exact Nat.le_of_ble_eq_true rfl | decide) rfl ?_
  intro x z hx hr ht hz hTX
  obtain ⟨hA0, vsA, hA0f⟩ := hY.obj
  refine v_aload_n hx d_La_chain_0 rfl rfl ?_
  refine v_iconst (v := (nI 0)) hx d_La_chain_1 rfl ?_
  refine v_aload_n hx d_La_chain_2 rfl rfl ?_
  refine v_iload_n hx d_La_chain_3 rfl rfl ?_
  refine v_iload_n hx d_La_chain_4 rfl rfl ?_
  refine v_callVT (as := [.int p, .int q]) (q := (R_MT, T_MT, 5)) hx hTX (c_MT_chain hoff hY p q) cy_MT_chain k_La_21 ki_MT_chain kl_MT_chain d_La_chain_5 (by decide) (ci := 3) rfl hA0 hA0f (by decide) rfl rfl (Nat.le_of_ble_eq_true rfl) ht (by show (decide (z.startPc ≤ 5) && decide (5 < z.endPc)) = true; rw [hz.1, hz.2.1]; decide) (by rw [hz.2.2.2]; decide) (by rw [hz.2.2.2]; exact k_La_19) (by decide) hz.2.2.1 (fun v L1 f1 p1 => ?_) (fun a L1 f1 p1 => ?_)
  · obtain ⟨vi, w1, σ1, rfl, hO, hY1, hrel⟩ := p1
    have ho1 := hO.1 oa ho
    have hw1 : w1 oa = 101 := (hO.2.1 oa ho).trans hw
    have hf1 : f1 oa = aL G h := (hO.2.2 oa ho (by omega)).trans hfo
    refine v_i2l hx d_La_chain_8 rfl ?_
    refine v_last hx d_La_chain_9 ho1 hf1 (fun f2 hf2 => ?_)
    have hF2 : gF w1 101 f1 f2 := gF.up gF.rf hf2 hw1
    have hY2 := hY1.fr (by decide) hF2
    refine v_goto (tgt := 17) hx d_La_chain_10 (by decide) ?_
    refine v_iconst (v := (nI 0)) hx d_La_chain_17 rfl ?_
    exact v_iret hx hr d_La_chain_18 ⟨_, w1, σ1, _, rfl, hO.1, hO.2.1, fun q hq h1 h2 => by rw [hf2, va_up_ne _ _ h2]; exact hO.2.2 q hq h1, hY2, by rw [hf2, va_up_self], Or.inl ⟨rfl, vi, hrel, rfl⟩⟩
  · obtain ⟨w1, σ1, hO, hY1, hrel⟩ := p1
    refine v_astore (lv' := [some (.ref (A 0)), some (.int p), some (.int q), some (.ref oa), some (.ref a)]) hx d_La_chain_13 (by decide) rfl ?_
    refine v_iconst (v := (nI 1)) hx d_La_chain_15 rfl ?_
    exact v_iret hx hr d_La_chain_16 ⟨_, w1, σ1, h, rfl, hO.1, hO.2.1, fun q hq h1 _ => hO.2.2 q hq h1, hY1, (hO.2.2 oa ho (by omega)).trans hfo, Or.inr ⟨rfl, hrel⟩⟩
set_option maxHeartbeats 4000000 in
set_option maxRecDepth 100000 in
theorem c_La_alike {G : GT} {L : List Nat} {f : Nat → va_E} (hoff : G.1.stackTraces = false) {w A : Nat → Nat} {c : Nat} {n k : Nat → Nat} {nx ou : Nat → Nat → Nat} {wl : Nat} {wd : Nat → Nat} (hY : SysS G L f w A (c, n, k, nx, ou, wl, wd)) {oa : Nat} {h : Nat → Int64} (ho : oa ∈ L) (hw : w oa = 101) (hfo : f oa = aL G h) (p q r t : Int32) : ConH G y_La_alike (.codeWith y_La_alike b_La_alike 7 (some .int) [(0, 21, 24, 13)] :: BIG) 7 122 1 4096 [.ref (A 0), .int p, .int q, .int r, .int t, .ref oa] L f (HPost G L f w A oa (fun vo σ' => rAlike (c, n, k, nx, ou, wl, wd) p q r t vo σ') (fun b => if b = 0 then 0 else 1)) := by
  refine con_ofH (cc := b_La_alike) (mL := 7) (lv := [some (.ref (A 0)), some (.int p), some (.int q), some (.int r), some (.int t), some (.ref oa), none]) (by decide) (by intro w hw; simp at hw; rcases hw with rfl | rfl | rfl | rfl | rfl | rfl <;> rfl) (by first | exact Nat.le_of_ble_eq_true rfl | decide) rfl ?_
  intro x z hx hr ht hz hTX
  obtain ⟨hA0, vsA, hA0f⟩ := hY.obj
  refine v_aload hx d_La_alike_0 rfl ?_
  refine v_iconst (v := (nI 0)) hx d_La_alike_2 rfl ?_
  refine v_aload_n hx d_La_alike_3 rfl rfl ?_
  refine v_iload_n hx d_La_alike_4 rfl rfl ?_
  refine v_iload_n hx d_La_alike_5 rfl rfl ?_
  refine v_iload_n hx d_La_alike_6 rfl rfl ?_
  refine v_iload hx d_La_alike_7 rfl ?_
  refine v_callVT (as := [.int p, .int q, .int r, .int t]) (q := (R_MT, T_MT, 5)) hx hTX (c_MT_alike hoff hY p q r t) cy_MT_alike k_La_7 ki_MT_alike kl_MT_alike d_La_alike_9 (by decide) (ci := 3) rfl hA0 hA0f (by decide) rfl rfl (Nat.le_of_ble_eq_true rfl) ht (by show (decide (z.startPc ≤ 9) && decide (9 < z.endPc)) = true; rw [hz.1, hz.2.1]; decide) (by rw [hz.2.2.2]; decide) (by rw [hz.2.2.2]; exact k_La_13) (by decide) hz.2.2.1 (fun v L1 f1 p1 => ?_) (fun a L1 f1 p1 => ?_)
  · obtain ⟨vi, w1, σ1, rfl, hO, hY1, hrel⟩ := p1
    have ho1 := hO.1 oa ho
    have hw1 : w1 oa = 101 := (hO.2.1 oa ho).trans hw
    have hf1 : f1 oa = aL G h := (hO.2.2 oa ho (by omega)).trans hfo
    refine v_if_eq (tgt := 19) hx d_La_alike_12 (by decide) (fun c12 => ?_) (fun c12 => ?_)
    · refine v_lconst (v := 0) hx d_La_alike_19 rfl ?_
      refine v_last hx d_La_alike_20 ho1 hf1 (fun f2 hf2 => ?_)
      have hF2 : gF w1 101 f1 f2 := gF.up gF.rf hf2 hw1
      have hY2 := hY1.fr (by decide) hF2
      refine v_goto (tgt := 28) hx d_La_alike_21 (by decide) ?_
      refine v_iconst (v := (nI 0)) hx d_La_alike_28 rfl ?_
      exact v_iret hx hr d_La_alike_29 ⟨_, w1, σ1, _, rfl, hO.1, hO.2.1, fun q hq h1 h2 => by rw [hf2, va_up_ne _ _ h2]; exact hO.2.2 q hq h1, hY2, by rw [hf2, va_up_self], Or.inl ⟨rfl, vi, hrel, (by show vp_updL h 0 0 0 = if vi = 0 then (0 : Int64) else 1; rw [if_pos c12]; rfl)⟩⟩
    · refine v_lconst (v := 1) hx d_La_alike_15 rfl ?_
      refine v_goto (tgt := 20) hx d_La_alike_16 (by decide) ?_
      refine v_last hx d_La_alike_20 ho1 hf1 (fun f2 hf2 => ?_)
      have hF2 : gF w1 101 f1 f2 := gF.up gF.rf hf2 hw1
      have hY2 := hY1.fr (by decide) hF2
      refine v_goto (tgt := 28) hx d_La_alike_21 (by decide) ?_
      refine v_iconst (v := (nI 0)) hx d_La_alike_28 rfl ?_
      exact v_iret hx hr d_La_alike_29 ⟨_, w1, σ1, _, rfl, hO.1, hO.2.1, fun q hq h1 h2 => by rw [hf2, va_up_ne _ _ h2]; exact hO.2.2 q hq h1, hY2, by rw [hf2, va_up_self], Or.inl ⟨rfl, vi, hrel, (by show vp_updL h 0 1 0 = if vi = 0 then (0 : Int64) else 1; rw [if_neg c12]; rfl)⟩⟩
  · obtain ⟨w1, σ1, hO, hY1, hrel⟩ := p1
    refine v_astore (lv' := [some (.ref (A 0)), some (.int p), some (.int q), some (.int r), some (.int t), some (.ref oa), some (.ref a)]) hx d_La_alike_24 (by decide) rfl ?_
    refine v_iconst (v := (nI 1)) hx d_La_alike_26 rfl ?_
    exact v_iret hx hr d_La_alike_27 ⟨_, w1, σ1, h, rfl, hO.1, hO.2.1, fun q hq h1 _ => hO.2.2 q hq h1, hY1, (hO.2.2 oa ho (by omega)).trans hfo, Or.inr ⟨rfl, hrel⟩⟩
