/-! ===== rows for arrays of machines; the tables' own cells ===== -/
section VQ
variable {G : GT} {R : Room} {nL : Nat} {x : XT} {cc : ByteArray} {own : String} {L : List Nat} {f : Nat → va_E} {k n : Nat} {lv : List (Option Value)} {pc : Nat} {rest : List Value}
theorem n_aald (hx : KX G nL x cc own) {a N : Nat} {g : Nat → Option Nat} {i : Nat} (hd : decode cc pc = .ok (.aaload, 1)) (ha : a ∈ L) (hf : f a = aQ G N g) (hi : i < N) (hN : N < 2 ^ 31) (kk : V G R nL x L f k n lv (pc + 1) (va_rf (g i) :: rest)) : V G R nL x L f k n lv pc (.int (nI i) :: .ref a :: rest) := by
  intro H locs ls hP hS hl
  obtain ⟨q0, hq⟩ := gP.pos (G := G) (f := f) (H := H) ha
  rw [hf] at hq
  refine va_aldq (C := "MachineTables$Machine") hx.1 hx.2.1 hx.2.2.2.2.2.1.1 hP.1 q0 2 hq rfl (vp_in_nI hi hN) hd ?_
  rw [nI_clamp (Nat.lt_trans hi hN)]
  exact kk H locs ls hP hS hl
theorem n_aaldS (hx : KX G nL x cc own) {a N b : Nat} {g : Nat → Option Nat} {i : Nat} (hd : decode cc pc = .ok (.aaload, 1)) (ha : a ∈ L) (hf : f a = aQ G N g) (hi : i < N) (hN : N < 2 ^ 31) (hb : g i = some b) (kk : V G R nL x L f k n lv (pc + 1) (.ref b :: rest)) : V G R nL x L f k n lv pc (.int (nI i) :: .ref a :: rest) := n_aald hx hd ha hf hi hN (by rw [hb]; exact kk)
theorem n_aaldN (hx : KX G nL x cc own) {a N : Nat} {g : Nat → Option Nat} {i : Nat} (hd : decode cc pc = .ok (.aaload, 1)) (ha : a ∈ L) (hf : f a = aQ G N g) (hi : i < N) (hN : N < 2 ^ 31) (hb : g i = none) (kk : V G R nL x L f k n lv (pc + 1) (.null :: rest)) : V G R nL x L f k n lv pc (.int (nI i) :: .ref a :: rest) := n_aald hx hd ha hf hi hN (by rw [hb]; exact kk)
theorem n_aast (hx : KX G nL x cc own) {a N b : Nat} {g : Nat → Option Nat} {i : Nat} {vs : List Value} (hd : decode cc pc = .ok (.aastore, 1)) (ha : a ∈ L) (hf : f a = aQ G N g) (hi : i < N) (hN : N < 2 ^ 31) (hb : b ∈ L) (hfb : f b = .inr (1, vs)) (kk : ∀ f' : Nat → va_E, f' = va_up f a (aQ G N (va_up g i (some b))) → V G R nL x L f' k n lv (pc + 1) rest) : V G R nL x L f k n lv pc (.ref b :: .int (nI i) :: .ref a :: rest) := by
  intro H locs ls hP hS hl
  obtain ⟨q0, hq⟩ := gP.pos (G := G) (f := f) (H := H) ha
  obtain ⟨q1, hq1⟩ := gP.pos (G := G) (f := f) (H := H) hb
  have hq' := hq
  rw [hf] at hq'
  rw [hfb] at hq1
  refine va_astq (r := (R_Ma, T_Ma, 7)) hx.1 hx.2.1 hx.2.2.2.2.2.1.1 hP.1 hP.2 hS q0 2 q1 1 hq' rfl hq1 rfl (vp_in_nI hi hN) hd (fun H1 locs1 h1 h2 h3 => kk _ rfl H1 locs1 ls ?_ h3 hl)
  rw [nI_clamp (Nat.lt_trans hi hN)] at h1 h2
  exact hP.set ha hq h1 h2
theorem m_anew (hx : KX G nL x cc own) {N index : Nat} (hcl : Cond.classLink own index "MachineTables$Machine" ∈ BIG) (hd : decode cc pc = .ok (.anewarray index, 3)) (hN : N < 2 ^ 26) (hk : k + 1 ≤ R.cells) (hs : n + N ≤ R.slots) (kk : ∀ (q : Nat) (f' : Nat → va_E), q ∉ L → f' = va_up f q (aQ G N (fun _ => none)) → V G R nL x (L ++ [q]) f' (k + 1) (n + N) lv (pc + 3) (.ref q :: rest)) : V G R nL x L f k n lv pc (.int (nI N) :: rest) := by
  intro H locs ls hP hS hl
  refine va_newq (C := "MachineTables$Machine") (N' := N) hx.1 hx.2.1 hx.2.2.2.1 (hx.2.2.2.2.1 _ hcl) (hx.2.2.2.2.2.1.2 _ kN_over) hx.2.2.2.2.2.1.1 hP.1 hP.2 hS hx.hA (nI_pos (by omega)) (nI_clamp (by omega)) (by omega) hk hs hd (fun q cA H1 h0 h1 h2 h3 => ?_)
  have e1 := (h0.2 (TY G.2.2.1).length (cA, .object "MachineTables$Machine") (by simp)).2
  have e2 := (hx.2.2.2.2.2.1.1.2 2 (G.2.2.1 2, .object "MachineTables$Machine") rfl).2
  obtain ⟨_, _, _, _, _, d1⟩ := e1
  obtain ⟨_, _, _, _, _, d2⟩ := e2
  have e3 : cA = G.2.2.1 2 := Option.some.inj (d1.symm.trans d2)
  subst e3
  obtain ⟨g1, g2⟩ := gP.push h1 h2
  exact kk q _ g1 rfl H1 locs ls g2 h3 hl
end VQ
def TbAt (G : GT) (L : List Nat) (f : Nat → va_E) (w : Nat → Nat) (id : Nat) (A : Nat → Nat) (sa : Nat) (fa : Nat) (c : Nat) (wa : Nat) (mp : Nat → Option Nat) : Prop := Own L w id A 2 ∧ f (A 0) = .inr (3, [.ref (A 1), .ref sa, .ref fa, .int (nI c), .ref wa]) ∧ f (A 1) = aQ G 12 mp
theorem TbAt.m0 {G : GT} {L : List Nat} {f : Nat → va_E} {w : Nat → Nat} {id : Nat} {A : Nat → Nat} {sa : Nat} {fa : Nat} {c : Nat} {wa : Nat} {mp : Nat → Option Nat} (h : TbAt G L f w id A sa fa c wa mp) : A 0 ∈ L := h.1.mem (by decide)
theorem TbAt.o0 {G : GT} {L : List Nat} {f : Nat → va_E} {w : Nat → Nat} {id : Nat} {A : Nat → Nat} {sa : Nat} {fa : Nat} {c : Nat} {wa : Nat} {mp : Nat → Option Nat} (h : TbAt G L f w id A sa fa c wa mp) : w (A 0) = id := h.1.own (by decide)
theorem TbAt.f0 {G : GT} {L : List Nat} {f : Nat → va_E} {w : Nat → Nat} {id : Nat} {A : Nat → Nat} {sa : Nat} {fa : Nat} {c : Nat} {wa : Nat} {mp : Nat → Option Nat} (h : TbAt G L f w id A sa fa c wa mp) : f (A 0) = .inr (3, [.ref (A 1), .ref sa, .ref fa, .int (nI c), .ref wa]) := h.2.1
theorem TbAt.m1 {G : GT} {L : List Nat} {f : Nat → va_E} {w : Nat → Nat} {id : Nat} {A : Nat → Nat} {sa : Nat} {fa : Nat} {c : Nat} {wa : Nat} {mp : Nat → Option Nat} (h : TbAt G L f w id A sa fa c wa mp) : A 1 ∈ L := h.1.mem (by decide)
theorem TbAt.o1 {G : GT} {L : List Nat} {f : Nat → va_E} {w : Nat → Nat} {id : Nat} {A : Nat → Nat} {sa : Nat} {fa : Nat} {c : Nat} {wa : Nat} {mp : Nat → Option Nat} (h : TbAt G L f w id A sa fa c wa mp) : w (A 1) = id := h.1.own (by decide)
theorem TbAt.f1 {G : GT} {L : List Nat} {f : Nat → va_E} {w : Nat → Nat} {id : Nat} {A : Nat → Nat} {sa : Nat} {fa : Nat} {c : Nat} {wa : Nat} {mp : Nat → Option Nat} (h : TbAt G L f w id A sa fa c wa mp) : f (A 1) = aQ G 12 mp := h.2.2
theorem TbAt.up0 {G : GT} {L : List Nat} {f : Nat → va_E} {w : Nat → Nat} {id : Nat} {A : Nat → Nat} {sa : Nat} {fa : Nat} {c : Nat} {wa : Nat} {mp : Nat → Option Nat} {sa' : Nat} {fa' : Nat} {c' : Nat} {wa' : Nat} {f' : Nat → va_E} (h : TbAt G L f w id A sa fa c wa mp) (e : f' = va_up f (A 0) (.inr (3, [.ref (A 1), .ref sa', .ref fa', .int (nI c'), .ref wa']))) : TbAt G L f' w id A sa' fa' c' wa' mp := by
  subst e
  exact ⟨h.1, va_up_self _ _ _, (va_up_ne _ _ (h.1.ne (by decide) (by decide) (by decide))).trans h.f1⟩
theorem TbAt.up1 {G : GT} {L : List Nat} {f : Nat → va_E} {w : Nat → Nat} {id : Nat} {A : Nat → Nat} {sa : Nat} {fa : Nat} {c : Nat} {wa : Nat} {mp : Nat → Option Nat} {mp' : Nat → Option Nat} {f' : Nat → va_E} (h : TbAt G L f w id A sa fa c wa mp) (e : f' = va_up f (A 1) (aQ G 12 mp')) : TbAt G L f' w id A sa fa c wa mp' := by
  subst e
  exact ⟨h.1, (va_up_ne _ _ (h.1.ne (by decide) (by decide) (by decide))).trans h.f0, va_up_self _ _ _⟩
theorem TbAt.move {G : GT} {L : List Nat} {f : Nat → va_E} {w : Nat → Nat} {id : Nat} {A : Nat → Nat} {sa : Nat} {fa : Nat} {c : Nat} {wa : Nat} {mp : Nat → Option Nat} {L' : List Nat} {w' : Nat → Nat} {f' : Nat → va_E} (h : TbAt G L f w id A sa fa c wa mp) (hL : ∀ q, q ∈ L → q ∈ L') (hw : ∀ q, q ∈ L → w' q = w q) (hf : ∀ q, q ∈ L → w q = id → f' q = f q) : TbAt G L' f' w' id A sa fa c wa mp := ⟨h.1.move hL hw, (hf _ h.m0 h.o0).trans h.f0, (hf _ h.m1 h.o1).trans h.f1⟩
theorem TbAt.fr {G : GT} {L : List Nat} {f f' : Nat → va_E} {w : Nat → Nat} {id idM : Nat} {B : Nat → Nat} {sa fa c wa : Nat} {mp : Nat → Option Nat} (h : TbAt G L f w idM B sa fa c wa mp) (hF : gF w id f f') (hne : idM ≠ id) : TbAt G L f' w idM B sa fa c wa mp := h.move (fun _ q => q) (fun _ _ => rfl) (fun q _ hw => hF q (by rw [hw]; exact hne))
