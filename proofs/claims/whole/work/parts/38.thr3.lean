/-! ===== contracts by walks; a call that may throw, and the catch ===== -/
theorem con_ofT {G : GT} {y : MethodName} {fr lo mc ms mL : Nat} {as : List Value} {L : List Nat} {f : Nat → va_E} {E : String} {PR : Option Value → List Nat → (Nat → va_E) → Prop} {PX : List Nat → (Nat → va_E) → Prop} {cc : ByteArray} {ret : Option FieldType} {lv : List (Option Value)} (hy : plainName y.cls = true) (hc : ∀ w ∈ as, w.category = 1) (h : (lg_sl as).length ≤ mL) (hlv : lvE as mL = lv)
    (body : ∀ x : XT, KX G mL x cc y.cls → RXT G x E PR PX mc ms ret → x.2.2.2.2.2.2.1.name = y.name → x.2.2.2.2.2.2.2.1.exceptionTable.isEmpty = true → TXb G x.2.2.1 → V G { frames := fr, cells := mc, slots := ms, locals := lo } mL x L f 0 0 lv 0 []) : ConT G y (.code y cc mL ret :: BIG) fr lo mc ms as L f E PR PX := by
  unfold ConT MetT
  refine MetFree.of_bodyS (code := cc) (maxLocals := mL) (ret := ret) hy ?_ ?_
  · intro args s m h hn
    obtain ⟨meth, c, h1, h2, h3, h4, h5, h6, -, -⟩ := Cond.code_spec hn (atoms_spec (ws := .code y cc mL ret :: BIG) h _ List.mem_cons_self)
    exact ⟨meth, c, h1, h2, h3, h4, h5, h6⟩
  · intro p e s m args below meth c s₁ B hml hv _
    have hh0 : s₁.heap = s.heap := by rw [B.state]; rfl
    obtain ⟨⟨rfl, hbase, hP, hK⟩, hTX⟩ := hv
    have hts := atoms_spec (ws := .code y cc mL ret :: BIG) B.pre
    have hown : s.vm.findClass y.cls = some m.cls := findClass_of_methodNamed B.named
    have hV := body (p, e, s, m, as.toArray, below, meth, c, MQT below (cPostT G E PR PX) as.toArray s mc ms (gB G)) ⟨B.exec, B.bytes, hml, hown, fun w h => hts w (List.mem_cons_of_mem _ h), hK, hbase, B.notSynchronized⟩ ⟨rfl, B.returns⟩ (name_of_methodNamed B.named B.method).1 (B.noHandlers (hts _ List.mem_cons_self)) hTX
    subst hlv
    have hW : W p G.1 e (headSpec (.code y cc mL ret :: BIG) { frames := fr, cells := mc, slots := ms, locals := lo }).room s m as.toArray below meth c s.heap [] 0 0 (MQT below (cPostT G E PR PX) as.toArray s mc ms (gB G)) (entryFrame m as.toArray mL) := by
      rw [lg_entry_eq]
      exact hV s.heap [] _ hP va_S.rf (lvE_has hc h)
    obtain ⟨t, a1, o, b1, b2, b3⟩ := hW s₁ hh0 (Stand.of_body B)
    exact ⟨t, o, a1, b1, b2, ⟨b3.1, b3.2⟩⟩
section TCALL
variable {p : Program} {l : Launch} {e : Env} {R : Room} {s : State} {m : MethodId} {args : Array Value} {below : List Frame} {meth : Method} {c : Code} {H : Heap} {locs : List Loc} {cells slots : Nat}
  {Ts ws : List Cond} {cc bytes : ByteArray} {nL maxL index n mc ms : Nat} {own C : String} {y : MethodName} {ret : Option FieldType} {rm : Room} {Pc : Array Value → State → Prop} {Qc : Array Value → State → Outcome → State → Prop} {free : Addr → Prop} {b : Addr} {As rest : List Value} {g : JFrame}
set_option maxHeartbeats 1000000 in
theorem t_runV (S : CallFix p m c cc nL s args Ts own) (hM : MetT l y ws rm Pc Qc mc ms free) (cw : CallW R s args own C index y bytes maxL ret ws rm mc ms n) (hp : PreV s H C b Pc As)
    (hg : g.method = m) (hn : As.length = n) (hsize : g.locals.size = nL) (hstack : g.stack = As.reverse ++ .ref b :: rest) (hW : 2 * g.monitorRoom + (rest.map fun v => v.category).sum ≤ 8) (hdg : decode cc g.pc = .ok (.invokevirtual index, 3)) (hf : cells + mc ≤ R.cells ∧ slots + ms ≤ R.slots) (T : State) (hT : T.heap = H) (X : Stand p l e R s m args below meth c T locs cells slots) :
    ∃ (o : Outcome) (st₀ t T' : State) (L : List Loc), st₀.heap = H ∧ s.WarmedH st₀.vm ∧ Stand p l e R s m args below meth c T' (locs ++ L) (cells + mc) (slots + ms) ∧ (∀ q ∈ L, free q.base) ∧ T'.heap = t.heap ∧ T'.vm = t.vm ∧ Qc (Value.ref b :: As).toArray st₀ o t ∧
      ((∃ v, o = .returned v ∧ ∀ tg, Steps p.tables e below (T'.setTop { g with pc := g.pc + 3, stack := v.toList ++ rest }) tg → Steps p.tables e below (T.setTop g) tg) ∨ ∃ a, o = .threw a ∧ Steps p.tables e below (T.setTop g) ((T'.setTop { g with stack := rest }).pushFrame (.throwing a))) := by
  obtain ⟨⟨hrc, hrs, hfr, hlo, hws, hcw, hcode, hini, hy, hlen, hl⟩, hin, hse⟩ := cw
  obtain ⟨hx, hb, hml, ho, -⟩ := S
  obtain ⟨hbl, ⟨cellB, hcB, hoB, hclB⟩, hPc⟩ := hp
  obtain ⟨mk, methM, hnamed, hmethM, hstM, habM⟩ := Cond.instanceMethod_spec hin
  obtain ⟨methM', cM, hmethM', hcodeM, -, hlM, -, -, -, hsigM⟩ := Cond.code_spec hnamed hcode
  cases hmethM.symm.trans hmethM'
  obtain ⟨c2, r2, m2, q1, q2, q3, q4, kP, hkP, hkPi⟩ := Cond.selects_spec hse
  cases hclB.symm.trans q1
  cases (State.methodFound?_of_named hnamed hy).symm.trans q2
  cases hnamed.symm.trans q3
  have hselP : selectMethod e.platform s.vm cellB.cls mk = .method mk := by rw [Launch.admits_selectMethod X.admits]; exact q4
  have hdg' : decode c.code g.pc = .ok (.invokevirtual index, 3) := by rw [hb]; exact hdg
  obtain ⟨vm₁, X₁, hstep₁⟩ := X.invokevirtual hx ho hl hnamed hmethM hstM hkP hkPi hy (a := b) (cell := cellB) (by rw [hT]; exact hcB)
    (fun z h => by rw [h] at hoB; cases hoB) hselP hmethM habM hkP hkPi (g := g) hg (argsL := As) (rest := rest) (hn.trans (hlen _ hsigM)) hstack hdg'
  have h : At (T.setVm vm₁) ({ g with stack := rest } : JFrame).method c below := by rw [show ({ g with stack := rest } : JFrame).method = m from hg]; exact X₁.here
  have hn1 := X₁.named hnamed
  obtain ⟨kY, hkY, -⟩ := className_of_methodNamed hn1
  have hinitY : kY.init = .initialized := Cond.initialized_spec (findClass_of_methodNamed hn1) hkY (word_at (a' := args) (U := T.setVm vm₁) X₁.warmed (Or.inl (by first | rfl | simp [Cond.onTables, Cond.keeps, Cond.steady])) hini)
  have hmY : (T.setVm vm₁).vm.method? mk = some methM := by rw [X₁.warmed.alike.method?]; exact hmethM
  have happ : (headSpec ws rm).appliesLoose y e.platform ((T.setVm vm₁).calling { g with stack := rest } mk (Value.ref b :: As).toArray) = true :=
    Spec.appliesLoose_calling (g := { g with stack := rest }) h hdg' hn1 hkY hinitY
      (X₁.room_calling (g := { g with stack := rest }) (R' := rm) (hsize.trans hml.symm) hmY hcodeM hfr (by rw [hlM]; exact Nat.le_trans (Nat.add_le_add_right (Nat.add_le_add_right hW _) _) hlo) (by rw [hrc]; exact hf.1) (by rw [hrs]; exact hf.2)) (atoms_intro fun w hw => hws w hw _ _ X₁.warmed)
  obtain ⟨mid, hmid⟩ := h.above
  have hfr' : ((T.setVm vm₁).setTop { g with stack := rest }).frames = (.java { g with stack := rest } :: mid) ++ below := by rw [State.frames_setTop' _ h.top, hmid]; rfl
  obtain ⟨o, s₂, hsteps, -, hend, hQ, L, ⟨hW2, hsame⟩, hL⟩ := Steps.callFree hM p X.admits X.cas X.clock (acts := []) hfr' happ (hbl _ _ _ _ (hPc (T.setVm vm₁) hT X₁.warmed)) trivial
  rw [State.frames_setTop' _ h.top, X₁.tail] at hend
  cases o with
  | returned v =>
    obtain ⟨T', X', -, -, et⟩ := X₁.outOf (g := { g with stack := rest }) hg hdg' hend hW2 hsame
    refine ⟨.returned v, (T.setVm vm₁).calling { g with stack := rest } mk (Value.ref b :: As).toArray, s₂, T', L, hT, X₁.warmed, X', hL, by rw [et]; rfl, by rw [et]; rfl, hQ, Or.inl ⟨v, rfl, fun tg htg => hstep₁ _ fun acts => ?_⟩⟩
    rw [doInvoke_state]
    rw [et] at hsteps
    exact hsteps.trans htg
  | threw a =>
    obtain ⟨T', X', -, -, et⟩ := X₁.outOfThrown (g := { g with stack := rest }) hg hend hW2 hsame
    refine ⟨.threw a, (T.setVm vm₁).calling { g with stack := rest } mk (Value.ref b :: As).toArray, s₂, T', L, hT, X₁.warmed, X', hL, by rw [et, Stand.throwing_heap], by rw [et, Stand.throwing_vm], hQ, Or.inr ⟨a, rfl, hstep₁ _ fun acts => ?_⟩⟩
    rw [doInvoke_state]
    rw [et] at hsteps
    exact hsteps
/-- what the search for a handler finds, where its table has one row, and the tables behind it -/
def HFnd (e : Env) (s : State) (f : JFrame) (a : Addr) (h : Handler) (vm' : Vm) : Prop := ∀ (Q : Handler → Bool → List Action → State → Prop) (E : Control → List Action → State → Prop) (d : Bool) (acts : List Action), wp (findHandler f a) Q E e d acts s ↔ Q h d acts (s.setVm vm')
theorem hf_one {s : State} {f : JFrame} {a : Addr} {meth : Method} {code : Code} (hm : s.vm.method? f.method = some meth) (hc : meth.code = some code) {x : ExceptionTableEntry} (ht : code.exceptionTable.toList = [x]) (hx : covers x f.pc = true) (h0 : x.catchType ≠ 0) {c : ClassId} {cell : Cell}
    (hl : s.vm.ClassLinks e.platform f.method.cls x.catchType c) (hcell : s.heap[a]? = some cell) (hobj : ∀ k, cell.vm ≠ .statics k) (hk : ∃ k, s.vm.classes[cell.cls]? = some k) (hcl : ∃ k, s.vm.classes[c]? = some k) (hfit : s.vm.assignable cell.cls c = true) : HFnd e s f a (.found x.handlerPc) (s.vm.noted f.method.cls x.catchType (.cls c)) := by
  intro Q E d acts
  rw [W.findHandler_eq hm hc, ht]
  simp only [covers] at hx
  obtain ⟨ha, hb⟩ := (resolveClass_links e.toSetting hl).op (op := VmOp.resolveClass f.method.cls x.catchType) rfl
  have hal : s.vm.Alike (s.vm.noted f.method.cls x.catchType (.cls c)) := (Vm.Alike.refl s.vm).noted _ _ _
  obtain ⟨k1, hk1⟩ := hk
  obtain ⟨k2, hk2⟩ := hcl
  obtain ⟨k1', hk1', -⟩ := hal.2.2 _ _ hk1
  obtain ⟨k2', hk2', -⟩ := hal.2.2 _ _ hk2
  have hfit' : (s.vm.noted f.method.cls x.catchType (.cls c)).assignable cell.cls c = true := by rw [hal.assignable]; exact hfit
  simp [findHandler.go, hx, h0, ha, hb, hcell, hobj, hk1', hk2', hfit', VmOp.dirties, VmOp.acts]
theorem hf_step {s : State} {a : Addr} {f : JFrame} {r : List Frame} {pc : Nat} {vm' : Vm} (hfind : HFnd e s f a (.found pc) vm') : (stepThrowing e s a (.java f :: r)).Is ((s.setVm vm').setFrames (.java { f with pc := pc, stack := [.ref a] } :: r)) [] := by
  simp only [stepThrowing, searchFrame, vmDo]
  generalize hr : Sem.go _ e false [] s = res
  obtain ⟨as, rfl, ha⟩ := Sem.eq_ok_of hr (a := Handler.found pc) (s' := s.setVm vm') (acts' := []) (by simp [hfind _ _ _ _])
  exact ⟨rfl, ha⟩
theorem hf_caught {tb : Tables} {s target : State} {g : JFrame} {a : Addr} (h : At s g.method c below) {pc : Nat} {vm' : Vm}
    (hfind : HFnd e ((s.setTop g).pushFrame (.throwing a)) g a (.found pc) vm') (hrest : Steps tb e below ((s.setVm vm').setTop { g with pc := pc, stack := [.ref a] }) target) :
    Steps tb e below ((s.setTop g).pushFrame (.throwing a)) target := by
  obtain ⟨hgo, hw⟩ := h.throwing a
  refine Steps.head hgo hw ?_
  rw [stepThread_throwing (frames_entered h.top _), (hf_step (s := (s.setTop g).pushFrame (.throwing a)) hfind).1]
  obtain ⟨g₀, hg⟩ := Option.isSome_iff_exists.mp h.top
  obtain ⟨r, hr⟩ := State.topJava?_eq_some.mp hg
  have hr' : (s.setVm vm').frames = .java g₀ :: r := hr
  have e1 : ∀ (u : State) (F G : List Frame), ((u.setFrames F).setVm vm').setFrames G = (u.setVm vm').setFrames G := fun u F G => by
    have h1 : (u.setFrames F).setVm vm' = (u.setVm vm').setFrames F := rfl
    rw [h1, State.setFrames_setFrames]
  rw [State.setTop_of_frames _ hr'] at hrest
  rw [hr, List.tail_cons, State.pushFrame, e1, State.setTop_of_frames _ hr, e1]
  exact hrest
/-- the one row of the table catches it -/
theorem t_catch {T : State} (X : Stand p l e R s m args below meth c T locs cells slots) (a : Addr) (hg : g.method = m) {name : String} (hown : s.vm.findClass own = some m.cls) {x : ExceptionTableEntry} (ht : c.exceptionTable.toList = [x]) (hx : covers x g.pc = true) (h0 : x.catchType ≠ 0)
    (hlink : (Cond.classLink own x.catchType name).before args s = true) {cell : Cell} (hcell : T.heap[a]? = some cell) (hobj : cell.vm = .none) (hcls : s.vm.findClass name = some cell.cls) (hcast : (Cond.castable name name).before args s = true) :
    ∃ vm', Stand p l e R s m args below meth c (T.setVm vm') locs cells slots ∧ ∀ target, Steps p.tables e below ((T.setVm vm').setTop { g with pc := x.handlerPc, stack := [.ref a] }) target → Steps p.tables e below ((T.setTop g).pushFrame (.throwing a)) target := by
  have hpl : e.platform.magicAccessors = ({} : Platform).magicAccessors := by rw [X.admits.platform]
  obtain ⟨c', hc', hcl⟩ := Cond.classLink_spec hown hlink e.platform hpl
  cases hcls.symm.trans hc'
  obtain ⟨c3, c4, hc3, hc4, hasg⟩ := Cond.castable_spec hcast
  cases hcls.symm.trans hc3
  cases hcls.symm.trans hc4
  obtain ⟨dk, _, _, kt, hd, _, _, _, _, hkt, _, hopen⟩ := hcl.here
  have hcl₀ := X.warmed.classLinks hcl
  have hW' : s.WarmedH (T.vm.noted m.cls x.catchType (.cls cell.cls)) := X.warmed.noted hd hopen (State.rightAt_cls hcl)
  have hal := X.warmed.alike
  obtain ⟨kt', hkt', -⟩ := hal.2.2 _ _ hkt
  have hfit' : T.vm.assignable cell.cls cell.cls = true := by rw [hal.assignable]; exact hasg
  refine ⟨_, X.noted hW', fun target hrest => ?_⟩
  subst hg
  refine hf_caught X.here (hf_one (s := (T.setTop g).pushFrame (.throwing a)) (meth := meth) (code := c) (by rw [Stand.throwing_vm]; exact X.method') X.code ht hx h0 (c := cell.cls) (cell := cell) (by rw [Stand.throwing_vm]; exact hcl₀) (by rw [Stand.throwing_heap]; exact hcell) (fun k h => by rw [hobj] at h; cases h) (by rw [Stand.throwing_vm]; exact ⟨kt', hkt'⟩) (by rw [Stand.throwing_vm]; exact ⟨kt', hkt'⟩) (by rw [Stand.throwing_vm]; exact hfit')) ?_
  rw [Stand.throwing_vm]
  exact hrest
end TCALL
section TCALLV
variable {G : GT} {R : Room} {nL : Nat} {x : XT} {cc : ByteArray} {own : String} {L : List Nat} {f : Nat → va_E} {k n : Nat} {lv : List (Option Value)} {pc : Nat} {rest st0 : List Value}
/-- a call that may throw, in a method whose table has one row, which catches it -/
theorem v_callVT (hx : KX G nL x cc own) (hTX : TXb G x.2.2.1) {y : MethodName} {b : ByteArray} {mL np fr lo mc ms index o ci : Nat} {ret : Option FieldType} {as fs : List Value} {q : vw_C} {E : String} {PR : Option Value → List Nat → (Nat → va_E) → Prop} {PX : List Nat → (Nat → va_E) → Prop} (hM : ConT G y (.code y b mL ret :: BIG) fr lo mc ms (.ref o :: as) L f E PR PX) (hY : CY y b mL ret np) (hlink : Cond.methodLink own index y ∈ BIG) (hin : Cond.instanceMethod y ∈ BIG) (hsel : Cond.selects q.1 y y ∈ BIG) (hd : decode cc pc = .ok (.invokevirtual index, 3)) (hR : fr + 1 ≤ R.frames ∧ 8 + (mL + 11) + lo ≤ R.locals) (hc : CL[ci]? = some q) (ho : o ∈ L) (hfo : f o = .inr (ci, fs)) (hf : k + mc ≤ R.cells ∧ n + ms ≤ R.slots) (hnp : as.length = np) (hstk : st0 = as.reverse ++ .ref o :: rest) (hro : (rest.map fun v => v.category).sum ≤ 8)
    {z : ExceptionTableEntry} (ht : x.2.2.2.2.2.2.2.1.exceptionTable.toList = [z]) (hz : covers z pc = true) (h0 : z.catchType ≠ 0) (hcl : Cond.classLink own z.catchType E ∈ BIG) (hcast : Cond.castable E E ∈ XW) {hp : Nat} (hhp : z.handlerPc = hp)
    (kk : ∀ (v : Option Value) (L' : List Nat) (f' : Nat → va_E), PR v L' f' → V G R nL x L' f' (k + mc) (n + ms) lv (pc + 3) (v.toList ++ rest))
    (kx : ∀ (a : Nat) (L' : List Nat) (f' : Nat → va_E), PX L' f' → V G R nL x L' f' (k + mc) (n + ms) lv hp [.ref a]) : V G R nL x L f k n lv pc st0 := by
  intro H locs ls hP hS hl T hT X
  have hbase := hx.2.2.2.2.2.2.1
  obtain ⟨oc, st₀, t, T', L1, h0', hw0, X', hL, e1, e2, ⟨hpost, hz1, hk1⟩, hend⟩ := t_runV (As := as) (g := F0 x.2.2.2.1 pc ls st0) (rest := rest) ⟨hx.1, hx.2.1, hx.2.2.1, hx.2.2.2.1, hx.2.2.2.2.1⟩ hM ⟨callB_of np hx.2.2.2.2.1 (big_good hY.1) rfl rfl rfl (hx.2.2.2.2.1 _ hY.2.1) (hx.2.2.2.2.1 _ hlink) hY.2.2 hR, hx.2.2.2.2.1 _ hin, hx.2.2.2.2.1 _ hsel⟩ ⟨cPreT_blind, vx_recv hx hP ho hfo hc, fun U hU hW => ⟨⟨rfl, by rw [hU]; exact Nat.le_trans hbase hS.1, by rw [hU]; exact hP, hx.2.2.2.2.2.1.moved hW⟩, hTX.moved hW (fun q hq => by rw [hU]; exact hS.2.1 q (Nat.lt_of_lt_of_le hq hbase) (Nat.not_le.mpr hq))⟩⟩ rfl hnp hl.1 hstk (lv_room hro) hd hf T hT X
  rw [h0'] at hz1 hk1
  have hS' : va_S (gB G) x.2.2.1.heap T'.heap (locs ++ L1) := ⟨Nat.le_trans hS.1 (by rw [e1]; exact hz1), fun q h1 h2 => by rw [e1, hk1 q (Nat.lt_of_lt_of_le h1 hS.1) h2]; exact hS.2.1 q h1 h2, fun q hq => by
      rcases List.mem_append.mp hq with h | h
      · exact hS.2.2 q h
      · exact hL q h⟩
  rcases hend with ⟨v, rfl, st⟩ | ⟨a, rfl, st⟩
  · rcases hpost with ⟨v', L', f', hv, hp1, hg⟩ | ⟨a', L', f', ce, hv, -⟩
    · cases hv
      obtain ⟨t2, a1, b1⟩ := kk v L' f' hp1 T'.heap (locs ++ L1) ls (by rw [e1]; exact hg) hS' hl T' rfl X'
      exact ⟨t2, st t2 a1, b1⟩
    · cases hv
  · rcases hpost with ⟨v', L', f', hv, hp1, hg⟩ | ⟨a', L', f', ce, hv, hp1, hg, hce, hfc, hvm⟩
    · cases hv
    · cases hv
      have hfc' : x.2.2.1.vm.findClass E = some ce.cls := by rw [← hw0.alike.findClass]; exact hfc
      obtain ⟨vm', X2, st2⟩ := t_catch X' a (g := { F0 x.2.2.2.1 pc ls st0 with stack := rest }) rfl hx.2.2.2.1 ht hz h0 (hx.2.2.2.2.1 _ hcl) (by rw [e1]; exact hce) hvm hfc' (hTX.use _ hcast)
      subst hhp
      obtain ⟨t2, a1, b1⟩ := kx a L' f' hp1 T'.heap (locs ++ L1) ls (by rw [e1]; exact hg) hS' hl (T'.setVm vm') rfl X2
      exact ⟨t2, st.trans (st2 t2 a1), b1⟩
end TCALLV
