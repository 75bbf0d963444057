/-! ===== contracts that may throw ===== -/
def SW : List (Nat × String) := [(80, "no such machine or state"), (88, "not as many inputs"), (123, "given up"), (130, "an output is no input, or too many pairs"), (144, "no such input of the word")]
/-- beside BIG: what exceptions need of the law's start s0, of which U is a later state -/
def TXb (G : GT) (U : State) : Prop := ∃ s0 : State, (∀ w ∈ XW, w.before #[] s0 = true) ∧ (∀ z ∈ SW, ∃ q, vk_R "MachineTables" z.1 z.2 q s0) ∧ s0.WarmedH U.vm ∧ s0.heap.size ≤ G.2.2.2 ∧ ∀ q, q < s0.heap.size → U.heap[q]? = s0.heap[q]?
theorem TXb.moved {G : GT} {s U : State} (h : TXb G s) (hW : s.WarmedH U.vm) (hh : ∀ q, q < G.2.2.2 → U.heap[q]? = s.heap[q]?) : TXb G U := by
  obtain ⟨s0, h1, h2, h3, h4, h5⟩ := h
  exact ⟨s0, h1, h2, State.WarmedH.trans h3 hW, h4, fun q hq => (hh q (by omega)).trans (h5 q hq)⟩
theorem tx_lays {s0 U : State} (h3 : s0.WarmedH U.vm) (h5 : ∀ q, q < s0.heap.size → U.heap[q]? = s0.heap[q]?) {args : Array Value} {n d : String} (hw : (Cond.laysStatic "java/lang/Throwable" n d).before #[] s0 = true) : ∃ c k i f a cell, U.vm.findClass "java/lang/Throwable" = some c ∧ U.fieldFound? "java/lang/Throwable" n d = some (c, k, i, f) ∧ f.isStatic = true ∧ k.statics = some a ∧ U.heap[a]? = some cell ∧ cell.vm.isStatics = true ∧ cell.cls = c ∧ f.slot < cell.slots.size ∧ k.staticTypes[f.slot]? = some f.type ∧ a < s0.heap.size ∧ ((Cond.isRef (.static "java/lang/Throwable" n d)).before #[] s0 = true → (Cond.isRef (.static "java/lang/Throwable" n d)).before args U = true) := by
  obtain ⟨c, k, i, f, a, cell, hc, hi, hst, ha, hcell, hs, hcls, hlt, hty⟩ := Cond.laysStatic_spec hw
  have hal := h3.alike
  obtain ⟨k', hi', hek⟩ := State.fieldFound?_setVm hal hi
  have hal' : a < s0.heap.size := (Array.getElem?_eq_some_iff.mp hcell).1
  have hi2 : U.fieldFound? "java/lang/Throwable" n d = some (c, k', i, f) := hi'
  have hcU : U.heap[a]? = some cell := (h5 a hal').trans hcell
  have haU : k'.statics = some a := by rw [hek]; exact ha
  refine ⟨c, k', i, f, a, cell, by rw [hal.findClass]; exact hc, hi2, hst, haU, hcU, hs, hcls, hlt, by rw [hek]; exact hty, hal', fun hv => ?_⟩
  have e1 : (Term.static "java/lang/Throwable" n d).eval #[] s0 none [] s0 = cell.slots[f.slot]? := by
    simp [Term.eval, State.fieldNamed?, hi, hst, ha, hcell, hs]
  have e2 : (Term.static "java/lang/Throwable" n d).eval args U none [] U = cell.slots[f.slot]? := by
    simp [Term.eval, State.fieldNamed?, hi2, hst, haU, hcU, hs]
  simp only [Cond.before, Cond.holds, Cond.value, e1] at hv
  simp only [Cond.before, Cond.holds, Cond.value, e2]
  exact hv
theorem TXb.use {G : GT} {U : State} (h : TXb G U) {args : Array Value} : ∀ w ∈ XW, w.before args U = true := by
  obtain ⟨s0, h1, -, hW, -, h5⟩ := h
  obtain ⟨c, k, i, f, a, cell, hc, hi, hst, ha, hcell, hs, hcls, hlt, hty, -, hr1⟩ := tx_lays hW h5 (args := args) (h1 (.laysStatic "java/lang/Throwable" "UNASSIGNED_STACK" "[Ljava/lang/StackTraceElement;") (by decide))
  obtain ⟨c', k', i', f', a', cell', hc', hi', hst', ha', hcell', hs', hcls', hlt', hty', -, hr2⟩ := tx_lays hW h5 (args := args) (h1 (.laysStatic "java/lang/Throwable" "SUPPRESSED_SENTINEL" "Ljava/util/List;") (by decide))
  intro w hw
  have hw2 := hw
  simp only [XW, List.mem_cons, List.not_mem_nil, or_false] at hw
  rcases hw with rfl | rfl | rfl | rfl | rfl | rfl | rfl | rfl | rfl | rfl
  · exact Cond.laysStatic_of hc hi hst ha hcell hs hcls hlt hty
  · exact Cond.laysStatic_of hc' hi' hst' ha' hcell' hs' hcls' hlt' hty'
  · exact hr1 (h1 _ hw2)
  · exact hr2 (h1 _ hw2)
  · exact va_Nw.use rfl (va_Nw.warmD hW (h1 _ hw2))
  · exact va_Nw.use rfl (va_Nw.warmD hW (h1 _ hw2))
  · exact va_Nw.use rfl (va_Nw.warmD hW (h1 _ hw2))
  · exact va_Nw.use rfl (va_Nw.warmC hW (h1 _ hw2))
  · exact va_Nw.use rfl (va_Nw.warmC hW (h1 _ hw2))
  · exact va_Nw.use rfl (va_Nw.warmC hW (h1 _ hw2))
theorem TXb.stat {G : GT} {U : State} (h : TXb G U) {cT : ClassId} {kT : Class} {q : Addr} (g1 : U.vm.findClass "java/lang/Throwable" = some cT) (g2 : U.vm.classes[cT]? = some kT) (g3 : kT.statics = some q) : q < G.2.2.2 := by
  obtain ⟨s0, h1, -, hW, h4, h5⟩ := h
  obtain ⟨c, k, i, f, a, cell, hc, hi, hst, ha, hcell, -, -, -, -, hlt, -⟩ := tx_lays hW h5 (args := #[]) (h1 (.laysStatic "java/lang/Throwable" "UNASSIGNED_STACK" "[Ljava/lang/StackTraceElement;") (by decide))
  cases hc.symm.trans g1
  have hk := (State.fieldFound?_spec hi).1
  cases g2.symm.trans hk
  have e9 : a = q := Option.some.inj (ha.symm.trans g3)
  exact e9 ▸ Nat.lt_of_lt_of_le hlt h4
theorem TXb.str {G : GT} {U : State} (h : TXb G U) {z : Nat × String} (hz : z ∈ SW) : ∃ q, vk_R "MachineTables" z.1 z.2 q U := by
  obtain ⟨s0, -, h2, hW, -, -⟩ := h
  obtain ⟨q, hq⟩ := h2 z hz
  exact ⟨q, vk_R.warm hW hq⟩
/-- what has changed when a method has ended, by a return or by a throw -/
def FE (first t : State) (L : List Loc) (k n : Nat) : Prop := first.WarmedH t.vm ∧ first.sameButNew ({ t with vm := first.vm } : State) L k n
def MetT (l : Launch) (y : MethodName) (ws : List Cond) (rm : Room) (Pc : Array Value → State → Prop) (Qc : Array Value → State → Outcome → State → Prop) (mc ms : Nat) (free : Addr → Prop) : Prop :=
  MetFree l y (headSpec ws rm) Pc (fun _ _ _ _ _ => True) (fun a st o t => Qc a st o t ∧ ∃ L, FE st t L mc ms ∧ ∀ q ∈ L, free q.base)
def MQT (below : List Frame) (Qc : Array Value → State → Outcome → State → Prop) (a : Array Value) (s : State) (mc ms : Nat) (free : Addr → Prop) : State → Prop := fun t =>
  ∃ o, t.status = .running ∧ Ended t below o ∧ Qc a s o t ∧ ∃ L, FE s t L mc ms ∧ ∀ q ∈ L, free q.base
def cPreT (G : GT) (as : List Value) (L : List Nat) (f : Nat → va_E) : Array Value → State → Prop := fun v U => cPre G as L f v U ∧ TXb G U
def cPostT (G : GT) (E : String) (PR : Option Value → List Nat → (Nat → va_E) → Prop) (PX : List Nat → (Nat → va_E) → Prop) : Array Value → State → Outcome → State → Prop := fun _ st oc t =>
  ((∃ (v : Option Value) (L' : List Nat) (f' : Nat → va_E), oc = .returned v ∧ PR v L' f' ∧ gP G L' f' t.heap) ∨ ∃ (a : Addr) (L' : List Nat) (f' : Nat → va_E) (ce : Cell), oc = .threw a ∧ PX L' f' ∧ gP G L' f' t.heap ∧ t.heap[a]? = some ce ∧ st.vm.findClass E = some ce.cls ∧ ce.vm = .none) ∧ va_F (gB G) st t
/-- a contract of a method that may throw an E -/
def ConT (G : GT) (y : MethodName) (ws : List Cond) (fr lo mc ms : Nat) (as : List Value) (L : List Nat) (f : Nat → va_E) (E : String) (PR : Option Value → List Nat → (Nat → va_E) → Prop) (PX : List Nat → (Nat → va_E) → Prop) : Prop :=
  MetT G.1 y ws { frames := fr, cells := mc, slots := ms, locals := lo } (cPreT G as L f) (cPostT G E PR PX) mc ms (gB G)
def RXT (G : GT) (x : XT) (E : String) (PR : Option Value → List Nat → (Nat → va_E) → Prop) (PX : List Nat → (Nat → va_E) → Prop) (mc ms : Nat) (ret : Option FieldType) : Prop :=
  x.2.2.2.2.2.2.2.2 = MQT x.2.2.2.2.2.1 (cPostT G E PR PX) x.2.2.2.2.1 x.2.2.1 mc ms (gB G) ∧ x.2.2.2.2.2.2.1.sig.returnType = ret
theorem cPreT_blind {G : GT} {as : List Value} {L : List Nat} {f : Nat → va_E} : FrameBlind (cPreT G as L f) := fun a U g mk h => ⟨cPre_blind a U g mk h.1, h.2⟩
section TW
variable {p : Program} {l : Launch} {e : Env} {R : Room} {s : State} {m : MethodId} {args : Array Value} {below : List Frame} {meth : Method} {c : Code} {H : Heap} {locs : List Loc} {cells slots : Nat} {Q Q' : State → Prop}
theorem w_mono {g : JFrame} (h : ∀ t, Q t → Q' t) (k : W p l e R s m args below meth c H locs cells slots Q g) : W p l e R s m args below meth c H locs cells slots Q' g := by
  intro T hT X
  obtain ⟨t, a1, b1⟩ := k T hT X
  exact ⟨t, a1, h t b1⟩
theorem mq_T {G : GT} {E : String} {PR : Option Value → List Nat → (Nat → va_E) → Prop} {PX : List Nat → (Nat → va_E) → Prop} {mc ms : Nat} (t : State) (h : MQ below (cPost G PR) args s mc ms (gB G) t) : MQT below (cPostT G E PR PX) args s mc ms (gB G) t := by
  obtain ⟨o, h1, h2, h3, L, h4, h5⟩ := h
  exact ⟨o, h1, h2, ⟨Or.inl h3.1, h3.2⟩, L, ⟨h4.2.1, h4.2.2⟩, h5⟩
end TW
section TROW
variable {G : GT} {R : Room} {nL : Nat} {x : XT} {cc : ByteArray} {own : String} {L : List Nat} {f : Nat → va_E} {k n : Nat} {lv : List (Option Value)} {pc : Nat} {rest st0 : List Value} {E : String} {PR : Option Value → List Nat → (Nat → va_E) → Prop} {PX : List Nat → (Nat → va_E) → Prop}
theorem v_iretT (hx : KX G nL x cc own) {v : Int32} (hr : RXT G x E PR PX k n (some .int)) (hd : decode cc pc = .ok (.ireturn, 1)) (hp : PR (some (.int v)) L f) : V G R nL x L f k n lv pc [.int v] := by
  intro H locs ls hP hS hl
  rw [hr.1]
  exact w_mono mq_T (W.iret hx.1 hx.2.1 hr.2 (fun t ht _ => ⟨⟨some (.int v), L, f, rfl, hp, by rw [ht]; exact hP⟩, hS.F ht⟩) hS.2.2 hd hx.2.2.2.2.2.2.2)
theorem v_zretT (hx : KX G nL x cc own) {v : Int32} (hr : RXT G x E PR PX k n (some .boolean)) (hd : decode cc pc = .ok (.ireturn, 1)) (hv : narrow .boolean (.int v) = .int v) (hp : PR (some (.int v)) L f) : V G R nL x L f k n lv pc [.int v] := by
  intro H locs ls hP hS hl
  rw [hr.1]
  exact w_mono mq_T (W.zret hx.1 hx.2.1 hr.2 hv (fun t ht _ => ⟨⟨some (.int v), L, f, rfl, hp, by rw [ht]; exact hP⟩, hS.F ht⟩) hS.2.2 hd hx.2.2.2.2.2.2.2)
theorem gP.keep {H H1 : Heap} (hP : gP G L f H) (h : ∀ q, q < H.size → H1[q]? = H[q]?) : gP G L f H1 := ⟨hP.1.kept (fun k y hy => h y.1 ((hP.1 k y hy).lt)), hP.2⟩
set_option maxHeartbeats 1000000 in
/-- throw new E(text) -/
theorem v_throw (hx : KX G nL x cc "MachineTables") (hnh : x.2.2.2.2.2.2.2.1.exceptionTable.isEmpty = true) (hTX : TXb G x.2.2.1) (hoff : G.1.stackTraces = false) {ic ix icl : Nat} {bx : ByteArray} {z : Nat × String} (hz : z ∈ SW) (hat : ∀ w ∈ tAtoms "MachineTables" ic E ix bx, w ∈ BIG ∨ w ∈ XW) (hfit : Bundle.fit E = true) (b0 : decode bx 0 = .ok (.aload_n 0, 1)) (b1 : decode bx 1 = .ok (.aload_n 1, 1)) (b2 : decode bx 2 = .ok (.invokespecial ix, 3)) (b5 : decode bx 5 = .ok (.return_, 1))
    (h1 : Cond.classLink "MachineTables" icl E ∈ BIG) (h2 : Cond.instantiable E 6 ∈ BIG) (h3 : Cond.initialized E ∈ BIG) (hd0 : decode cc pc = .ok (.new icl, 3)) (hd3 : decode cc (pc + 3) = .ok (.dup, 1)) (hd4 : decode cc (pc + 3 + 1) = .ok (.ldc z.1, 2)) (hd6 : decode cc (pc + 3 + 1 + 2) = .ok (.invokespecial ic, 3)) (hd9 : decode cc (pc + 3 + 1 + 2 + 3) = .ok (.athrow, 1))
    {ret : Option FieldType} (hr : RXT G x E PR PX (k + 1) (n + 6) ret) (hR : 5 < R.frames ∧ 82 ≤ R.locals) (hk : k + 1 ≤ R.cells) (hs : n + 6 ≤ R.slots) (hp : PX L f) : V G R nL x L f k n lv pc [] := by
  intro H locs ls hP hS hl
  rw [hr.1]
  obtain ⟨c1, kX, hc1, hkX, -⟩ := Cond.instantiable_spec (hx.2.2.2.2.1 _ h2)
  obtain ⟨qs, hqs⟩ := hTX.str hz
  have hG := hx.2.2.2.2.2.2.1
  refine W.newcK hx.1 hx.2.1 hx.2.2.2.1 (hx.2.2.2.2.1 _ h1) (hx.2.2.2.2.1 _ h2) (hx.2.2.2.2.1 _ h3) rfl hd0 hk hs hc1 rfl fun H1 kC hkC e1 z1 o1 => ?_
  refine lv_dup hx.1 hx.2.1 hd3 rfl ?_
  refine va_ldcS hx.1 hx.2.1 hx.2.2.2.1 hqs hd4 ?_
  intro T hT X
  have hpl := X.admits.platform
  obtain ⟨U, L5, ce, st, hrun, hend, hW, hsame, hL5, hcA, hoth, hsz, hcc, hcv⟩ := t_ctor X hx.1 (by rw [hpl]; exact hoff) hx.2.2.2.1 hfit b0 b1 b2 b5 (fun w hw => by
      rcases hat w hw with h | h
      · exact hx.2.2.2.2.1 _ h
      · exact hTX.use _ h) (fun cT kT q g1 g2 g3 => by
      have hq := hTX.stat g1 g2 g3
      have hlt : q < x.2.2.1.heap.size := Nat.lt_of_lt_of_le hq hG
      rw [hT, o1 q (Nat.lt_of_lt_of_le hlt hS.1)]
      exact hS.2.1 q hlt (Nat.not_le.mpr hq)) hc1 hkC (a := H.size) (by rw [hT]; exact e1) hS.1 (msg := .ref qs) rfl (g := F0 x.2.2.2.1 (pc + 3 + 1 + 2) ls [.ref qs, .ref H.size, .ref H.size]) rfl (hl.1.trans hx.2.2.1.symm) rfl rfl rfl (by rw [hx.2.1]; exact hd6) (by rw [hx.2.1]; exact hd9) (fun y hy => by
      have : x.2.2.2.2.2.2.2.1.exceptionTable.toList = [] := by simpa [Array.isEmpty_iff] using hnh
      rw [this] at hy; cases hy) hR.1 hR.2 hx.2.2.2.2.2.2.2
  have hUq : ∀ q, q < H.size → U.heap[q]? = H[q]? := fun q hq => by
    rw [hoth q (Nat.ne_of_lt hq), hT]; exact o1 q hq
  refine ⟨U, st, .threw H.size, hrun, hend, ⟨Or.inr ⟨H.size, L, f, ce, rfl, hp, gP.keep hP hUq, hcA, by rw [hcc]; exact hc1, hcv⟩, ?_, ?_⟩, locs ++ L5, ⟨hW, hsame⟩, fun q hq => ?_⟩
  · have := hS.1
    have e2 : U.heap.size = H.size + 1 := by rw [hsz, hT]; exact z1
    omega
  · intro q h1 h2
    rw [hUq q (Nat.lt_of_lt_of_le h1 hS.1)]
    exact hS.2.1 q h1 h2
  · rcases List.mem_append.mp hq with h | h
    · exact hS.2.2 q h
    · show G.2.2.2 ≤ q.base
      rw [hL5 q h]
      have := hS.1
      omega
end TROW
