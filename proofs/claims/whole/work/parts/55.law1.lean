/-! ===== rows for the law: the script, the switch, longs, methods with a catch ===== -/
abbrev aL (G : GT) (h : Nat → Int64) : va_E := .inl (G.2.2.1 3, 1, .inr (.inl h))
section VLAW
variable {G : GT} {R : Room} {nL : Nat} {x : XT} {cc : ByteArray} {own : String} {L : List Nat} {f : Nat → va_E} {k n : Nat} {lv : List (Option Value)} {pc : Nat} {rest st0 : List Value}
theorem v_sld (hx : KX G nL x cc own) {b Ln i : Nat} {xs : Nat → Int32} (hX : va_X b Ln xs x.2.2.1 x.2.2.1.heap) (hb : b < G.2.2.2) (hi : i < Ln) (hN : Ln < 2 ^ 31) (hd : decode cc pc = .ok (.iaload, 1)) (kk : V G R nL x L f k n lv (pc + 1) (.int (xs i) :: rest)) : V G R nL x L f k n lv pc (.int (nI i) :: .ref b :: rest) := by
  intro H locs ls hP hS hl
  refine va_sld hx.1 hx.2.1 hX (Nat.lt_of_lt_of_le hb hx.2.2.2.2.2.2.1) (Nat.not_le.mpr hb) hS (vp_in_nI hi hN) hd ?_
  rw [nI_clamp (Nat.lt_trans hi hN)]
  exact kk H locs ls hP hS hl
theorem v_slen (hx : KX G nL x cc own) {b Ln : Nat} {xs : Nat → Int32} (hX : va_X b Ln xs x.2.2.1 x.2.2.1.heap) (hb : b < G.2.2.2) (hd : decode cc pc = .ok (.arraylength, 1)) (kk : V G R nL x L f k n lv (pc + 1) (.int (nI Ln) :: rest)) : V G R nL x L f k n lv pc (.ref b :: rest) := by
  intro H locs ls hP hS hl
  exact va_slen hx.1 hx.2.1 hX (Nat.lt_of_lt_of_le hb hx.2.2.2.2.2.2.1) (Nat.not_le.mpr hb) hS hd (kk H locs ls hP hS hl)
theorem v_tabIn (hx : KX G nL x cc own) {dflt lo hi off : Int} {offs : Array Int} {len tgt : Nat} {z : Int32} (hd : decode cc pc = .ok (.tableswitch dflt lo hi offs, len)) (h1 : ¬ z.toInt < lo) (h2 : ¬ hi < z.toInt) (ho : offs[(z.toInt - lo).toNat]? = some off) (ht : (pc : Int) + off = (tgt : Int)) (kk : V G R nL x L f k n lv tgt rest) : V G R nL x L f k n lv pc (.int z :: rest) := fun H locs ls hP hS hl => lv_tableIn hx.1 hx.2.1 hd h1 h2 ho ht (kk H locs ls hP hS hl)
theorem v_tabOut (hx : KX G nL x cc own) {dflt lo hi : Int} {offs : Array Int} {len tgt : Nat} {z : Int32} (hd : decode cc pc = .ok (.tableswitch dflt lo hi offs, len)) (h : z.toInt < lo ∨ hi < z.toInt) (ht : (pc : Int) + dflt = (tgt : Int)) (kk : V G R nL x L f k n lv tgt rest) : V G R nL x L f k n lv pc (.int z :: rest) := fun H locs ls hP hS hl => lv_tableOut hx.1 hx.2.1 hd h ht (kk H locs ls hP hS hl)
theorem v_last (hx : KX G nL x cc own) {a : Nat} {h : Nat → Int64} {y : Int64} (hd : decode cc pc = .ok (.lastore, 1)) (ha : a ∈ L) (hf : f a = aL G h) (kk : ∀ f' : Nat → va_E, f' = va_up f a (aL G (vp_updL h 0 y)) → V G R nL x L f' k n lv (pc + 1) rest) : V G R nL x L f k n lv pc (.long y :: .int (nI 0) :: .ref a :: rest) := by
  intro H locs ls hP hS hl
  obtain ⟨q0, hq⟩ := gP.pos (G := G) (f := f) (H := H) ha
  have hq' := hq
  rw [hf] at hq'
  refine va_last hx.1 hx.2.1 hx.2.2.2.2.2.1.1 hP.1 hP.2 hS q0 3 hq' rfl (vp_in_nI (by decide) (by decide)) hd (fun H1 locs1 h1 h2 h3 => kk _ rfl H1 locs1 ls ?_ h3 hl)
  rw [nI_clamp (by decide)] at h1 h2
  exact hP.set ha hq h1 h2
theorem v_lald (hx : KX G nL x cc own) {a : Nat} {h : Nat → Int64} (hd : decode cc pc = .ok (.laload, 1)) (ha : a ∈ L) (hf : f a = aL G h) (kk : V G R nL x L f k n lv (pc + 1) (.long (h 0) :: rest)) : V G R nL x L f k n lv pc (.int (nI 0) :: .ref a :: rest) := by
  intro H locs ls hP hS hl
  obtain ⟨q0, hq⟩ := gP.pos (G := G) (f := f) (H := H) ha
  rw [hf] at hq
  refine va_lald hx.1 hx.2.1 hx.2.2.2.2.2.1.1 hP.1 q0 3 hq rfl (vp_in_nI (by decide) (by decide)) hd ?_
  rw [nI_clamp (by decide)]
  exact kk H locs ls hP hS hl
theorem v_lcmp (hx : KX G nL x cc own) {a b : Int64} (hd : decode cc pc = .ok (.lcmp, 1)) (kk : V G R nL x L f k n lv (pc + 1) (.int (lg_cmp a b) :: rest)) : V G R nL x L f k n lv pc (.long b :: .long a :: rest) := fun H locs ls hP hS hl => W.lcmp hx.1 hx.2.1 hd (kk H locs ls hP hS hl)
theorem m_newl (hx : KX G nL x cc own) (hd : decode cc pc = .ok (.newarray .long, 2)) (hk : k + 1 ≤ R.cells) (hs : n + 1 ≤ R.slots) (kk : ∀ (q : Nat) (f' : Nat → va_E), q ∉ L → f' = va_up f q (aL G (fun _ => 0)) → V G R nL x (L ++ [q]) f' (k + 1) (n + 1) lv (pc + 2) (.ref q :: rest)) : V G R nL x L f k n lv pc (.int (nI 1) :: rest) := by
  intro H locs ls hP hS hl
  refine va_newa (atype := .long) (ty := .long) (N' := 1) (a0 := (1, .inr (.inl (fun _ => 0)))) hx.1 hx.2.1 (hx.2.2.2.2.1 _ ka_long) rfl hx.2.2.2.2.2.1.1 hP.1 hP.2 hS hx.hA (fun _ => rfl) (nI_pos (by omega)) (nI_clamp (by omega)) (by show 1 * 8 ≤ 536870912; omega) hk hs hd (fun q cA H1 h0 h1 h2 h3 => ?_)
  have e1 : x.2.2.1.vm.findClass ("[" ++ FieldType.toString .long) = some cA := (h0.2 (TY G.2.2.1).length (cA, .long) (by simp)).2
  have e2 : x.2.2.1.vm.findClass ("[" ++ FieldType.toString .long) = some (G.2.2.1 3) := (hx.2.2.2.2.2.1.1.2 3 (G.2.2.1 3, .long) rfl).2
  have e3 : cA = G.2.2.1 3 := Option.some.inj (e1.symm.trans e2)
  subst e3
  obtain ⟨g1, g2⟩ := gP.push h1 h2
  exact kk q _ g1 rfl H1 locs ls g2 h3 hl
end VLAW
/-- a contract of a method with a catch -/
def ConH (G : GT) (y : MethodName) (ws : List Cond) (fr lo mc ms : Nat) (as : List Value) (L : List Nat) (f : Nat → va_E) (Post : Option Value → List Nat → (Nat → va_E) → Prop) : Prop :=
  Met G.1 y ws { frames := fr, cells := mc, slots := ms, locals := lo } (cPreT G as L f) (cPost G Post) mc ms (gB G)
theorem con_ofH {G : GT} {y : MethodName} {fr lo mc ms mL a0 a1 hp ct : Nat} {as : List Value} {L : List Nat} {f : Nat → va_E} {Post : Option Value → List Nat → (Nat → va_E) → Prop} {cc : ByteArray} {ret : Option FieldType} {lv : List (Option Value)} (hy : plainName y.cls = true) (hc : ∀ w ∈ as, w.category = 1) (h : (lg_sl as).length ≤ mL) (hlv : lvE as mL = lv)
    (body : ∀ (x : XT) (z : ExceptionTableEntry), KX G mL x cc y.cls → RX G x Post mc ms ret → x.2.2.2.2.2.2.2.1.exceptionTable.toList = [z] → z.startPc = a0 ∧ z.endPc = a1 ∧ z.handlerPc = hp ∧ z.catchType = ct → TXb G x.2.2.1 → V G { frames := fr, cells := mc, slots := ms, locals := lo } mL x L f 0 0 lv 0 []) : ConH G y (.codeWith y cc mL ret [(a0, a1, hp, ct)] :: BIG) fr lo mc ms as L f Post := by
  refine va_MetW (cc := cc) (maxL := mL) (ret := ret) hy rfl ?_
  intro p e s m args below meth c s₁ B hml hv
  obtain ⟨⟨rfl, hbase, hP, hK⟩, hTX⟩ := hv
  have hts := atoms_spec (ws := .codeWith y cc mL ret [(a0, a1, hp, ct)] :: BIG) B.pre
  have hown : s.vm.findClass y.cls = some m.cls := findClass_of_methodNamed B.named
  obtain ⟨m9, meth9, c9, hn9, hm9, hc9, -, -, hh, -⟩ := Cond.codeWith_spec (hts _ List.mem_cons_self)
  cases B.named.symm.trans hn9
  cases B.method.symm.trans hm9
  cases (Stand.of_body B).code.symm.trans hc9
  obtain ⟨z, hz, hz2⟩ : ∃ z, c.exceptionTable.toList = [z] ∧ (z.startPc, z.endPc, z.handlerPc, z.catchType) = (a0, a1, hp, ct) := by
    cases hT : c.exceptionTable.toList with
    | nil => rw [hT] at hh; cases hh
    | cons z t =>
      rw [hT] at hh
      cases t with
      | nil => exact ⟨z, rfl, by simpa using hh⟩
      | cons z2 t => simp at hh
  simp only [Prod.mk.injEq] at hz2
  have hV := body (p, e, s, m, as.toArray, below, meth, c, MQ below (cPost G Post) as.toArray s mc ms (gB G)) z ⟨B.exec, B.bytes, hml, hown, fun w h => hts w (List.mem_cons_of_mem _ h), hK, hbase, B.notSynchronized⟩ ⟨rfl, B.returns⟩ hz hz2 hTX
  subst hlv
  rw [lg_entry_eq]
  exact hV s.heap [] _ hP va_S.rf (lvE_has hc h)
theorem big_goodW {w : Cond} (h : w ∈ BIG) : GoodIn BIG (w :: BIG) := fun v hv => by
  rcases List.mem_cons.mp hv with rfl | hv
  · exact BIG_ok _ h
  · exact BIG_ok _ hv
section TCS
variable {p : Program} {l : Launch} {e : Env} {R : Room} {s : State} {m : MethodId} {args : Array Value} {below : List Frame} {meth : Method} {c : Code} {T : State} {locs : List Loc} {cells slots : Nat}
theorem t_callSW (X : Stand p l e R s m args below meth c T locs cells slots) (hexec : p.tables.exec = Jvm.exec) {own : String} {index : Nat} {y : MethodName} {bytes : ByteArray} {maxL : Nat} {ret : Option FieldType} {hh : List (Nat × Nat × Nat × Nat)}
    (hown : s.vm.findClass own = some m.cls) (hlink : (Cond.methodLink own index y).before args s = true) (hstat : (Cond.static y).before args s = true) (hinit : (Cond.initialized y.cls).before args s = true)
    (hcode : (Cond.codeWith y bytes maxL ret hh).before args s = true) (hy : y.cls ≠ "java/lang/invoke/MethodHandle" ∧ y.cls ≠ "java/lang/invoke/VarHandle")
    {W0 : Nat} {Pre : Pt → Array Value → Prop} {Post : Pt → Array Value → Option Value → Pt → Prop} (hK : Back l R p e below s args y 3 W0 Pre Post)
    {g : JFrame} (hg : g.method = m) (hsize : g.locals.size = c.maxLocals) {argsL rest : List Value} (hlen : ∀ sig, parseMethodDescriptor y.desc = some sig → argsL.length = sig.parameters.length)
    (hstack : g.stack = argsL.reverse ++ rest) (hW : 2 * g.monitorRoom + (rest.map fun v => v.category).sum ≤ W0) (hdg : decode c.code g.pc = .ok (.invokestatic index, 3))
    (hpre : ∀ vm₁, s.WarmedH vm₁ → Pre ⟨T.setVm vm₁, locs, cells, slots⟩ argsL.toArray) :
    ∃ (v : Option Value) (vm₁ : Vm) (B : Pt), s.WarmedH vm₁ ∧ Stand p l e R s m args below meth c B.U B.locs B.cells B.slots ∧ Post ⟨T.setVm vm₁, locs, cells, slots⟩ argsL.toArray v B ∧
      ∀ target, Steps p.tables e below (B.U.setTop { g with pc := g.pc + 3, stack := v.toList ++ rest }) target → Steps p.tables e below (T.setTop g) target := by
  obtain ⟨mk, methM, cM, hnamed, hmethM, -, -, -, -, -, -, hsigM⟩ := Cond.codeWith_spec hcode
  have hstatic : methM.isStatic = true := Cond.static_spec hnamed hmethM hstat
  obtain ⟨kP, hkP, -⟩ := className_of_methodNamed hnamed
  have hinitP : kP.init = .initialized := Cond.initialized_spec (findClass_of_methodNamed hnamed) hkP hinit
  obtain ⟨vm₁, X₁, hstep₁⟩ := X.invokestatic hexec hown hlink hnamed hmethM hstatic hkP hinitP hy (g := g) hg (argsL := argsL) (rest := rest) (hlen _ hsigM) hstack hdg
  obtain ⟨v, B, X', hpost, hsteps⟩ := hK m meth c ⟨T.setVm vm₁, locs, cells, slots⟩ { g with stack := rest } (.invokestatic index) mk argsL.toArray X₁ hg hsize hdg hW (X₁.named hnamed) (hpre vm₁ X₁.warmed)
  exact ⟨v, vm₁, B, X₁.warmed, X', hpost, fun target h => hstep₁ _ fun acts => by rw [doInvoke_state]; exact hsteps.trans h⟩
end TCS
section VCSW
variable {G : GT} {R : Room} {nL : Nat} {x : XT} {cc : ByteArray} {own : String} {L : List Nat} {f : Nat → va_E} {k n : Nat} {lv : List (Option Value)} {pc : Nat} {rest st0 : List Value}
theorem v_callSW (hx : KX G nL x cc own) (hTX : TXb G x.2.2.1) {y : MethodName} {b : ByteArray} {mL np fr lo mc ms index : Nat} {ret : Option FieldType} {hh : List (Nat × Nat × Nat × Nat)} {as : List Value} {Post : Option Value → List Nat → (Nat → va_E) → Prop} (hM : ConH G y (.codeWith y b mL ret hh :: BIG) fr lo mc ms as L f Post) (hcw : Cond.codeWith y b mL ret hh ∈ BIG) (hini : Cond.initialized y.cls ∈ BIG) (hY : y.cls ≠ "java/lang/invoke/MethodHandle" ∧ y.cls ≠ "java/lang/invoke/VarHandle" ∧ (parseMethodDescriptor y.desc).map (fun d => d.parameters.length) = some np) (hlink : Cond.methodLink own index y ∈ BIG) (hst : Cond.static y ∈ BIG) (hd : decode cc pc = .ok (.invokestatic index, 3)) (hR : fr + 1 ≤ R.frames ∧ 8 + (mL + 11) + lo ≤ R.locals) (hf : k + mc ≤ R.cells ∧ n + ms ≤ R.slots) (hnp : as.length = np) (hstk : st0 = as.reverse ++ rest) (hro : (rest.map fun v => v.category).sum ≤ 8)
    (kk : ∀ (v : Option Value) (L' : List Nat) (f' : Nat → va_E), Post v L' f' → V G R nL x L' f' (k + mc) (n + ms) lv (pc + 3) (v.toList ++ rest)) : V G R nL x L f k n lv pc st0 := by
  intro H locs ls hP hS hl T hT X
  have hbase := hx.2.2.2.2.2.2.1
  have hK : Back G.1 R x.1 x.2.1 x.2.2.2.2.2.1 x.2.2.1 x.2.2.2.2.1 y 3 8 (PreOf R mc ms (cPreT G as L f)) (PostOf (cPost G Post) mc ms (gB G)) := va_backW hM cPreT_blind rfl rfl hR.1 hR.2 (pay_in hx.2.2.2.2.1 (big_goodW hcw)) List.mem_cons_self (fun a' U hW => word_at hW (Or.inl (by first | rfl | simp [Cond.onTables, Cond.keeps, Cond.steady])) (hx.2.2.2.2.1 _ hini))
  obtain ⟨v, vm₁, ⟨U', l2, c2, s2⟩, hW₁, X', ⟨g', mk, t, L1, e1, e2, hq, h1, hL, h2, h3⟩, st⟩ := t_callSW X hx.1 hx.2.2.2.1 (hx.2.2.2.2.1 _ hlink) (hx.2.2.2.2.1 _ hst) (hx.2.2.2.2.1 _ hini) (hx.2.2.2.2.1 _ hcw) ⟨hY.1, hY.2.1⟩ hK (g := F0 x.2.2.2.1 pc ls st0) rfl (hl.1.trans hx.2.2.1.symm) (argsL := as) (rest := rest) (fun sig h => by
      have h9 := hY.2.2
      rw [h] at h9
      exact hnp.trans (Option.some.inj h9).symm) hstk (lv_room hro) (by rw [hx.2.1]; exact hd)
    (fun vm₁ hW₁ => ⟨hf.1, hf.2, ⟨rfl, by show G.2.2.2 ≤ T.heap.size; rw [hT]; exact Nat.le_trans hbase hS.1, by show gP G L f T.heap; rw [hT]; exact hP, hx.2.2.2.2.2.1.moved (U := T.setVm vm₁) hW₁⟩, hTX.moved (U := T.setVm vm₁) hW₁ (fun q hq => by show T.heap[q]? = _; rw [hT]; exact hS.2.1 q (Nat.lt_of_lt_of_le hq hbase) (Nat.not_le.mpr hq))⟩)
  dsimp only [Pt.U, Pt.locs, Pt.cells, Pt.slots] at X' e1 e2 h1 h2 h3 st
  subst h1; subst h2; subst h3
  obtain ⟨⟨v', L', f', hv, hp, hg⟩, hz, hk⟩ := hq
  cases hv
  have h0 : ((T.setVm vm₁).calling g' mk as.toArray).heap = H := hT
  rw [h0] at hz hk
  obtain ⟨t2, a1, b1⟩ := kk v L' f' hp U'.heap (locs ++ L1) ls (by rw [e1]; exact hg)
    ⟨Nat.le_trans hS.1 (by rw [e1]; exact hz), fun q h1 h2 => by rw [e1, hk q (Nat.lt_of_lt_of_le h1 hS.1) h2]; exact hS.2.1 q h1 h2, fun q hq => by
      rcases List.mem_append.mp hq with h | h
      · exact hS.2.2 q h
      · exact hL q h⟩ hl U' rfl X'
  exact ⟨t2, st t2 a1, b1⟩
end VCSW
