/-! ===== the answers depend on the picture alone ===== -/
def agr2 (n k : Nat) (X O X' O' : Nat → Nat) : Prop := ∀ s i, s < n → i < k → X (s * 4 + i) = X' (s * 4 + i) ∧ O (s * 4 + i) = O' (s * 4 + i)
theorem agr2.sym {n k : Nat} {X O X' O' : Nat → Nat} (h : agr2 n k X O X' O') : agr2 n k X' O' X O := fun s i hs hi => ⟨(h s i hs hi).1.symm, (h s i hs hi).2.symm⟩
def cgr (P : Nat → Prop) (nxt nxt' : Nat → Nat → Nat) (K D : Nat) (q : Qu) : Prop := qOK q D ∧ qI P q ∧ K ≤ 4 ∧ (∀ p, P p → p < D) ∧ (∀ p i, P p → i < K → P (nxt p i)) ∧ ∀ p i, P p → i < K → nxt p i = nxt' p i
section CGS
variable {P : Nat → Prop} {nxt nxt' : Nat → Nat → Nat} {K D : Nat} {q : Qu}
theorem cgr_b (h : cgr P nxt nxt' K D q) {a : Nat} (hr : ∀ b, b < a → b < (bout nxt K q b).length) : bout nxt K q a = bout nxt' K q a := bout_congr h.1 h.2.1 h.2.2.1 h.2.2.2.1 h.2.2.2.2.1 h.2.2.2.2.2 a hr
theorem cgr_r (h : cgr P nxt nxt' K D q) {a : Nat} (hr : ∀ b, b < a → b < (bout nxt K q b).length) : ∀ b, b < a → b < (bout nxt' K q b).length := fun b hb => by
  rw [← cgr_b h (fun c hc => hr c (by omega))]
  exact hr b hb
theorem cgr_p (h : cgr P nxt nxt' K D q) {a : Nat} (hr : ∀ b, b ≤ a → b < (bout nxt K q b).length) : P (qP (bout nxt K q a) a) := (bout_ok h.1 h.2.1 h.2.2.1 h.2.2.2.1 h.2.2.2.2.1 a (fun b hb => hr b (by omega))).2 _ (qP_mem (hr a (Nat.le_refl _)))
theorem cgr_end (h : cgr P nxt nxt' K D q) {N : Nat} (hN : BEnd nxt K q N) : BEnd nxt' K q N := ⟨by rw [← cgr_b h hN.2]; exact hN.1, cgr_r h hN.2⟩
theorem cgr_wit (h : cgr P nxt nxt' K D q) {bad bad' : Nat → Nat → Prop} (hb : ∀ p i, P p → i < K → (bad p i ↔ bad' p i)) {r : Option (Nat × Nat)} (hw : Wit nxt bad K q r) : Wit nxt' bad' K q r := by
  rcases r with _ | ⟨a, i⟩
  · obtain ⟨N, hN, hg⟩ := hw
    refine ⟨N, cgr_end h hN, fun a ha i hi hz => hg a ha i hi ?_⟩
    rw [← cgr_b h (fun c hc => hN.2 c (by omega))] at hz
    exact (hb _ i (cgr_p h (fun b hb => hN.2 b (by omega))) hi).mpr hz
  · obtain ⟨g1, g2, g3, g4, g5⟩ := hw
    have e : ∀ b, b ≤ a → bout nxt' K q b = bout nxt K q b := fun b hb => (cgr_b h (fun c hc => g1 c (by omega))).symm
    refine ⟨fun b hb => by rw [e b hb]; exact g1 b hb, fun b hb2 j hj hz => g2 b hb2 j hj ?_, g3, ?_, fun j hj hz => g5 j hj ?_⟩
    · rw [e b (by omega)] at hz
      exact (hb _ j (cgr_p h (fun c hc => g1 c (by omega))) hj).mpr hz
    · rw [e a (Nat.le_refl _)]
      exact (hb _ i (cgr_p h g1) g3).mp g4
    · rw [e a (Nat.le_refl _)] at hz
      exact (hb _ j (cgr_p h g1) (by omega)).mpr hz
theorem cgr_fst (h : cgr P nxt nxt' K D q) {ok : Nat → Prop} {r : Option Nat} (hw : Fst nxt ok K q r) : Fst nxt' ok K q r := by
  rcases r with _ | a
  · obtain ⟨N, hN, hg⟩ := hw
    refine ⟨N, cgr_end h hN, fun a ha hz => hg a ha ?_⟩
    rw [← cgr_b h (fun c hc => hN.2 c (by omega))] at hz
    exact hz
  · obtain ⟨g1, g2, g3⟩ := hw
    have e : ∀ b, b ≤ a → bout nxt' K q b = bout nxt K q b := fun b hb => (cgr_b h (fun c hc => g1 c (by omega))).symm
    refine ⟨fun b hb => by rw [e b hb]; exact g1 b hb, fun b hb hz => g2 b hb ?_, ?_⟩
    · rw [e b (by omega)] at hz
      exact hz
    · rw [e a (Nat.le_refl _)]
      exact g3
end CGS
section AGR
variable {n k : Nat} {X O X' O' : Nat → Nat}
theorem Bis.cg (hA : okA X O n k) (he : agr2 n k X O X' O') {a b : Nat} (ha : a < n) (hb : b < n) (h : Bis X O k a b) : Bis X' O' k a b := by
  obtain ⟨R, hR, hab⟩ := h
  refine ⟨fun x y => x < n ∧ y < n ∧ R x y, fun x y ⟨h1, h2, h3⟩ i hi => ?_, ha, hb, hab⟩
  have q := hR x y h3 i hi
  have e1 := he x i h1 hi
  have e2 := he y i h2 hi
  rw [← e1.1, ← e1.2, ← e2.1, ← e2.2]
  exact ⟨q.1, (hA.2.2.2.2 x i h1 hi).1, (hA.2.2.2.2 y i h2 hi).1, q.2⟩
theorem okA.cg (hA : okA X O n k) (he : agr2 n k X O X' O') : okA X' O' n k := ⟨hA.1, hA.2.1, hA.2.2.1, hA.2.2.2.1, fun s i hs hi => by rw [← (he s i hs hi).1, ← (he s i hs hi).2]; exact hA.2.2.2.2 s i hs hi⟩
theorem Lk.cg {lo : Nat → Nat} (hA : okA X O n k) (he : agr2 n k X O X' O') (h : Lk X O n k lo) : Lk X' O' n k lo := fun s hs => by
  obtain ⟨h1, h2, h3⟩ := h s hs
  exact ⟨h1, h2.cg hA he (by omega) hs, fun t ht hb => h3 t ht (hb.cg (hA.cg he) he.sym ht hs)⟩
theorem cg_n {lo : Nat → Nat} (hA : okA X O n k) (he : agr2 n k X O X' O') (hlo : ∀ s, s < n → lo s ≤ s) : cgr (fun p => p < n) (nNx lo X) (nNx lo X') k n [(lo 0, 0, 0)] := by
  have h0 := hA.1
  have hl : ∀ s, s < n → lo s < n := fun s hs => by have := hlo s hs; omega
  refine ⟨q0_ok (hl 0 (by omega)), q0_I (hl 0 (by omega)), hA.2.2.2.1, fun _ h => h, fun p i hp hi => hl _ (hA.2.2.2.2 p i hp hi).1, fun p i hp hi => ?_⟩
  unfold nNx
  rw [(he p i hp hi).1]
theorem cg_r (hA : okA X O n k) (he : agr2 n k X O X' O') (hn : n ≤ 12) : cgr (rP n) (rNx X n) (rNx X' n) k 4096 (rQ n) := by
  have hp0 : rP n (2 ^ n - 1) := by
    have := Nat.two_pow_pos n
    show 2 ^ n - 1 < 2 ^ n
    omega
  refine ⟨q0_ok (rP_lt hn _ hp0), q0_I hp0, hA.2.2.2.1, rP_lt hn, rP_nx hA hn, fun p i hp hi => ?_⟩
  unfold rNx
  exact mv_congr (fun s hs => (he s i hs hi).1) n (Nat.le_refl _)
theorem cg_w {n2 : Nat} {Y Q Y' Q' : Nat → Nat} (hA : okA X O n k) (he : agr2 n k X O X' O') (hB : okA Y Q n2 k) (hf : agr2 n2 k Y Q Y' Q') {s t : Nat} (hs : s < n) (ht : t < n2) : cgr (wP n n2) (wNx X Y) (wNx X' Y') k 1600 [(s * 40 + t, 0, 0)] ∧ ∀ p i, wP n n2 p → i < k → (wBad O Q p i ↔ wBad O' Q' p i) := by
  have hp := wP_mk hs ht hB.2.1
  refine ⟨⟨q0_ok (wP_lt hA hB _ hp), q0_I hp, hA.2.2.2.1, wP_lt hA hB, wP_nx hA hB, fun p i hp hi => ?_⟩, fun p i hp hi => ?_⟩
  · unfold wNx
    rw [(he _ i hp.1 hi).1, (hf _ i hp.2 hi).1]
  · unfold wBad
    rw [(he _ i hp.1 hi).2, (hf _ i hp.2 hi).2]
theorem fpart_cg {S m : Nat} {og g og' g' : Nat → Nat} {l : List Nat} (h : ∀ s, s < m → g s = g' s ∧ og s = og' s) : ∀ o, fpart S og g m l o = fpart S og' g' m l o
  | 0 => rfl
  | o + 1 => by
    simp only [fpart]
    rw [mo_congr h m (Nat.le_refl _), fpart_cg h o]
theorem ffol_cg {m : Nat} {og g og' g' : Nat → Nat} {l : List Nat} (h : ∀ s, s < m → g s = g' s ∧ og s = og' s) : ∀ i, ffol og g m l i = ffol og' g' m l i
  | 0 => rfl
  | i + 1 => by
    simp only [ffol]
    rw [ffol_cg h i, fpart_cg h 10]
theorem hNx_cg {lo : Nat → Nat} (he : agr2 n k X O X' O') (p : Nat) {i : Nat} (hi : i < k) : hNx X O lo n p i = hNx X' O' lo n p i := by
  unfold hNx
  rw [ffol_cg (fun s hs => ⟨by rw [(he s i hs hi).1], (he s i hs hi).2⟩)]
theorem cg_h {lo : Nat → Nat} (hA : okA X O n k) (he : agr2 n k X O X' O') (hn : n ≤ 12) (hlo : ∀ s, s < n → lo s ≤ s) : cgr fP (hNx X O lo n) (hNx X' O' lo n) k fD (hQ0 lo n) ∧ ∀ p i, fP p → i < k → (hBad X O lo n p i ↔ hBad X' O' lo n p i) := by
  have hal := fP_enc (alm_ok hA.1 hn hlo)
  refine ⟨⟨q0_ok (fP_lt _ hal), q0_I hal, hA.2.2.2.1, fP_lt, hP_nx hA hn hlo, fun p i _ hi => hNx_cg he p hi⟩, fun p i _ hi => ?_⟩
  unfold hBad
  rw [hNx_cg he p hi]
theorem cg_c {n2 k2 : Nat} {Y Q Y' Q' : Nat → Nat} (hA : okA X O n k) (he : agr2 n k X O X' O') (hB : okA Y Q n2 k2) (hf : agr2 n2 k2 Y Q Y' Q') : cgr (wP n n2) (cNx X O Y k2) (cNx X' O' Y' k2) k 1600 [(0, 0, 0)] ∧ ∀ p i, wP n n2 p → i < k → (cBad O k2 p i ↔ cBad O' k2 p i) := by
  have hp : wP n n2 0 := wP_mk (a := 0) (b := 0) hA.1 hB.1 hB.2.1
  refine ⟨⟨q0_ok (by decide), q0_I hp, hA.2.2.2.1, wP_lt hA hB, cP_nx hA hB, fun p i hp hi => ?_⟩, fun p i hp hi => ?_⟩
  · unfold cNx
    have e := he _ i hp.1 hi
    rw [← e.1, ← e.2]
    by_cases c : O (p / 40 * 4 + i) < k2
    · rw [if_pos c, if_pos c, (hf _ _ hp.2 c).1]
    · rw [if_neg c, if_neg c]
  · unfold cBad
    rw [(he _ i hp.1 hi).2]
end AGR
theorem plus.inv {σ τ τ' : SG} {n k : Nat} {x o : Nat → Nat} (hR : Rel σ τ) (h : plus τ τ' n k x o) : plus σ τ' n k x o := by
  have e := hR.1.1
  refine ⟨by rw [e]; exact h.1, fun j hj => (hR.1.2 j hj).tr (h.2.1 j (by rw [← e]; exact hj)), by rw [e]; exact h.2.2.1, hR.2.tr h.2.2.2⟩
theorem plus.det {σ σ' τ' : SG} {n k : Nat} {x o x' o' : Nat → Nat} (h : plus σ σ' n k x o) (h2 : plus σ τ' n k x' o') (e : ∀ s i, s < n → i < k → x (s * 4 + i) = x' (s * 4 + i) ∧ o (s * 4 + i) = o' (s * 4 + i)) : Rel σ' τ' := by
  refine ⟨⟨by rw [h.1, h2.1], fun j hj => ?_⟩, h.2.2.2.sym.tr h2.2.2.2⟩
  rw [h.1] at hj
  rcases Nat.lt_succ_iff_lt_or_eq.mp hj with c | c
  · exact (h.2.1 j c).sym.tr (h2.2.1 j c)
  · subst c
    exact h.2.2.1.sym.tr (relM.tr ⟨rfl, rfl, e⟩ h2.2.2.1)
theorem isW.inv {σ τ τ' : SG} {W : List Nat} (hR : Rel σ τ) (h : isW τ τ' W) : isW σ τ' W := ⟨hR.1.tr h.1, h.2⟩
theorem isW.det {σ σ' τ' : SG} {W : List Nat} (h : isW σ σ' W) (h2 : isW σ τ' W) : Rel σ' τ' := ⟨h.1.sym.tr h2.1, by rw [h.2.1, h2.2.1], fun j hj => by
  rw [h.2.1] at hj
  rw [h.2.2 j hj, h2.2.2 j hj]⟩
/-- what a machine has alike in two pictures -/
theorem rel_at {σ τ : SG} (hR : Rel σ τ) (h1 : okG σ) {m : Nat} (hm : m < gc σ) : gn σ m = gn τ m ∧ gk σ m = gk τ m ∧ okA (gx σ m) (go σ m) (gn σ m) (gk σ m) ∧ agr2 (gn σ m) (gk σ m) (gx σ m) (go σ m) (gx τ m) (go τ m) := by
  obtain ⟨a, b, c⟩ := hR.1.2 m hm
  exact ⟨a, b, h1.2.1 m hm, c⟩
theorem ix_lt {p : Int32} {n m : Nat} (h : ix p n = some m) : m < n := by
  unfold ix at h
  split at h
  · rename_i c
    cases h
    omega
  · cases h
