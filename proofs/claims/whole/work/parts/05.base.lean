/-! ===== MY BASE: a walk over one pool of cells (L, f), locals by place ===== -/
/-- launch, the numbers of the classes and slots, the array classes, the first address that is ours -/
abbrev GT : Type := Launch × va_G × (Nat → ClassId) × Nat
/-- what stays along a walk: program, env, start, method id, arguments, frames below, method, code, goal -/
abbrev XT : Type := Program × Env × State × MethodId × Array Value × List Frame × Method × Code × (State → Prop)
abbrev gB (G : GT) : Nat → Prop := fun q => G.2.2.2 ≤ q
def oI : Option Nat → Int32
  | none => -1
  | some k => nI k
def bI (b : Bool) : Int32 := if b then 1 else 0
abbrev aI (G : GT) (N : Nat) (g : Nat → Nat) : va_E := .inl (G.2.2.1 0, N, .inl (fun k => nI (g k)))
abbrev aO (G : GT) (N : Nat) (g : Nat → Option Nat) : va_E := .inl (G.2.2.1 0, N, .inl (fun k => oI (g k)))
abbrev aB (G : GT) (N : Nat) (g : Nat → Bool) : va_E := .inl (G.2.2.1 1, N, .inl (fun k => bI (g k)))
abbrev aQ (G : GT) (N : Nat) (g : Nat → Option Nat) : va_E := .inl (G.2.2.1 2, N, .inr (.inr (.inr (.inr g))))
def vl_has (ls : Array Slot) (nL : Nat) (lv : List (Option Value)) : Prop := ls.size = nL ∧ lv_wf ls ∧ ∀ (i : Nat) (v : Value), lv[i]? = some (some v) → v.category = 1 ∧ ls[i]? = some (.val v)
def gP (G : GT) (L : List Nat) (f : Nat → va_E) (H : Heap) : Prop := va_P G.2.1 CL (va_pl L f) H ∧ va_D (gB G) (va_pl L f)
/-- the classes, the array classes, the nest words at a state -/
def gK (G : GT) (U : State) : Prop := va_K G.2.1 CL (TY G.2.2.1) U ∧ ∀ w ∈ NW, va_Nw w U
def V (G : GT) (R : Room) (nL : Nat) (x : XT) (L : List Nat) (f : Nat → va_E) (k n : Nat) (lv : List (Option Value)) (pc : Nat) (st : List Value) : Prop :=
  ∀ (H : Heap) (locs : List Loc) (ls : Array Slot), gP G L f H → va_S (gB G) x.2.2.1.heap H locs → vl_has ls nL lv → W x.1 G.1 x.2.1 R x.2.2.1 x.2.2.2.1 x.2.2.2.2.1 x.2.2.2.2.2.1 x.2.2.2.2.2.2.1 x.2.2.2.2.2.2.2.1 H locs k n x.2.2.2.2.2.2.2.2 (F0 x.2.2.2.1 pc ls st)
/-- what is known of a walk: the machine, the bytes, the words, the classes -/
def KX (G : GT) (nL : Nat) (x : XT) (cc : ByteArray) (own : String) : Prop :=
  x.1.tables.exec = Jvm.exec ∧ x.2.2.2.2.2.2.2.1.code = cc ∧ x.2.2.2.2.2.2.2.1.maxLocals = nL ∧ x.2.2.1.vm.findClass own = some x.2.2.2.1.cls ∧ (∀ w ∈ BIG, w.before x.2.2.2.2.1 x.2.2.1 = true) ∧ gK G x.2.2.1 ∧ G.2.2.2 ≤ x.2.2.1.heap.size ∧ x.2.2.2.2.2.2.1.locks = false
def cPre (G : GT) (as : List Value) (L : List Nat) (f : Nat → va_E) : Array Value → State → Prop := fun v U => v = as.toArray ∧ G.2.2.2 ≤ U.heap.size ∧ gP G L f U.heap ∧ gK G U
def cPost (G : GT) (Post : Option Value → List Nat → (Nat → va_E) → Prop) : Array Value → State → Outcome → State → Prop := fun _ st oc t => (∃ (v : Option Value) (L' : List Nat) (f' : Nat → va_E), oc = .returned v ∧ Post v L' f' ∧ gP G L' f' t.heap) ∧ va_F (gB G) st t
/-- a method's contract over the pool -/
def Con (G : GT) (y : MethodName) (ws : List Cond) (fr lo mc ms : Nat) (as : List Value) (L : List Nat) (f : Nat → va_E) (Post : Option Value → List Nat → (Nat → va_E) → Prop) : Prop :=
  Met G.1 y ws { frames := fr, cells := mc, slots := ms, locals := lo } (cPre G as L f) (cPost G Post) mc ms (gB G)
/-- the walk's goal is a contract's -/
def RX (G : GT) (x : XT) (Post : Option Value → List Nat → (Nat → va_E) → Prop) (mc ms : Nat) (ret : Option FieldType) : Prop :=
  x.2.2.2.2.2.2.2.2 = MQ x.2.2.2.2.2.1 (cPost G Post) x.2.2.2.2.1 x.2.2.1 mc ms (gB G) ∧ x.2.2.2.2.2.2.1.sig.returnType = ret
def vl_pl (lv : List (Option Value)) : List (Nat × Value) := (List.range lv.length).filterMap (fun i => match lv[i]? with | some (some v) => some (i, v) | _ => none)
theorem vl_pl_mem {lv : List (Option Value)} {j : Nat} {w : Value} : (j, w) ∈ vl_pl lv ↔ lv[j]? = some (some w) := by
  unfold vl_pl
  rw [List.mem_filterMap]
  constructor
  · rintro ⟨i, -, h⟩
    split at h
    · rename_i v hv
      cases h
      exact hv
    · cases h
  · intro h
    refine ⟨j, List.mem_range.mpr ?_, ?_⟩
    · exact (List.getElem?_eq_some_iff.mp h).1
    · rw [h]
theorem vl_has.lv {ls : Array Slot} {nL : Nat} {lv : List (Option Value)} (h : vl_has ls nL lv) : lv_has ls nL (vl_pl lv) := ⟨h.1, h.2.1, fun q hq => (h.2.2 q.1 q.2 (vl_pl_mem.mp hq)).2⟩
theorem vl_has.put {ls ls' : Array Slot} {nL i : Nat} {lv : List (Option Value)} {v : Value} (h : vl_has ls nL lv) (hv : v.category = 1) (h' : lv_has ls' nL ((i, v) :: (vl_pl lv).filter (fun q => !(q.1 == i) && !(q.1 + 1 == i && q.2.category == 2)))) : vl_has ls' nL (lv.set i (some v)) := by
  refine ⟨h'.1, h'.2.1, fun j w hj => ?_⟩
  rw [List.getElem?_set] at hj
  by_cases e : i = j
  · subst e
    rw [if_pos rfl] at hj
    split at hj
    · cases hj
      exact ⟨hv, h'.2.2 (i, v) List.mem_cons_self⟩
    · cases hj
  · rw [if_neg e] at hj
    have hc := (h.2.2 j w hj).1
    refine ⟨hc, h'.2.2 (j, w) (List.mem_cons_of_mem _ (List.mem_filter.mpr ⟨vl_pl_mem.mpr hj, ?_⟩))⟩
    have e1 : (j == i) = false := by simpa using fun h => e h.symm
    simp [e1, hc]
section VROWS
variable {G : GT} {R : Room} {nL : Nat} {x : XT} {cc : ByteArray} {own : String} {L : List Nat} {f : Nat → va_E} {k n : Nat} {lv : List (Option Value)} {pc : Nat} {rest : List Value}
theorem v_iconst (hx : KX G nL x cc own) {z : Int} {v : Int32} (hd : decode cc pc = .ok (.iconst z, 1)) (hv : Int32.ofInt z = v) (kk : V G R nL x L f k n lv (pc + 1) (.int v :: rest)) : V G R nL x L f k n lv pc (rest) := fun H locs ls hP hS hl => lv_iconst hx.1 hx.2.1 hd hv (kk H locs ls hP hS hl)
theorem v_bipush (hx : KX G nL x cc own) {z : Int} {v : Int32} (hd : decode cc pc = .ok (.bipush z, 2)) (hv : (Int8.ofInt z).toInt32 = v) (kk : V G R nL x L f k n lv (pc + 2) (.int v :: rest)) : V G R nL x L f k n lv pc (rest) := fun H locs ls hP hS hl => lv_bipush hx.1 hx.2.1 hd hv (kk H locs ls hP hS hl)
theorem v_sipush (hx : KX G nL x cc own) {z : Int} {v : Int32} (hd : decode cc pc = .ok (.sipush z, 3)) (hv : (Int16.ofInt z).toInt32 = v) (kk : V G R nL x L f k n lv (pc + 3) (.int v :: rest)) : V G R nL x L f k n lv pc (rest) := fun H locs ls hP hS hl => lv_sipush hx.1 hx.2.1 hd hv (kk H locs ls hP hS hl)
theorem v_null (hx : KX G nL x cc own)  (hd : decode cc pc = .ok (.aconst_null, 1))  (kk : V G R nL x L f k n lv (pc + 1) (.null :: rest)) : V G R nL x L f k n lv pc (rest) := fun H locs ls hP hS hl => lv_null hx.1 hx.2.1 hd (kk H locs ls hP hS hl)
theorem v_iload_n (hx : KX G nL x cc own) {j : Fin 4} {i : Nat} {v : Int32} (hd : decode cc pc = .ok (.iload_n j, 1)) (hi : (j : Nat) = i) (hv : lv[i]? = some (some (.int v))) (kk : V G R nL x L f k n lv (pc + 1) (.int v :: rest)) : V G R nL x L f k n lv pc (rest) := fun H locs ls hP hS hl => lv_iload_n hx.1 hx.2.1 hd hi (hl.2.2 i _ hv).2 (kk H locs ls hP hS hl)
theorem v_iload (hx : KX G nL x cc own) {i : Nat} {v : Int32} (hd : decode cc pc = .ok (.iload i, 2)) (hv : lv[i]? = some (some (.int v))) (kk : V G R nL x L f k n lv (pc + 2) (.int v :: rest)) : V G R nL x L f k n lv pc (rest) := fun H locs ls hP hS hl => lv_iload hx.1 hx.2.1 hd (hl.2.2 i _ hv).2 (kk H locs ls hP hS hl)
theorem v_aload_n (hx : KX G nL x cc own) {j : Fin 4} {i : Nat} {v : Nat} (hd : decode cc pc = .ok (.aload_n j, 1)) (hi : (j : Nat) = i) (hv : lv[i]? = some (some (.ref v))) (kk : V G R nL x L f k n lv (pc + 1) (.ref v :: rest)) : V G R nL x L f k n lv pc (rest) := fun H locs ls hP hS hl => lv_aload_n hx.1 hx.2.1 hd hi (hl.2.2 i _ hv).2 (kk H locs ls hP hS hl)
theorem v_aload (hx : KX G nL x cc own) {i : Nat} {v : Nat} (hd : decode cc pc = .ok (.aload i, 2)) (hv : lv[i]? = some (some (.ref v))) (kk : V G R nL x L f k n lv (pc + 2) (.ref v :: rest)) : V G R nL x L f k n lv pc (rest) := fun H locs ls hP hS hl => lv_aload hx.1 hx.2.1 hd (hl.2.2 i _ hv).2 (kk H locs ls hP hS hl)
theorem v_aload_nN (hx : KX G nL x cc own) {j : Fin 4} {i : Nat} (hd : decode cc pc = .ok (.aload_n j, 1)) (hi : (j : Nat) = i) (hv : lv[i]? = some (some .null)) (kk : V G R nL x L f k n lv (pc + 1) (.null :: rest)) : V G R nL x L f k n lv pc (rest) := fun H locs ls hP hS hl => lv_aload_nN hx.1 hx.2.1 hd hi (hl.2.2 i _ hv).2 (kk H locs ls hP hS hl)
theorem v_aloadN (hx : KX G nL x cc own) {i : Nat} (hd : decode cc pc = .ok (.aload i, 2)) (hv : lv[i]? = some (some .null)) (kk : V G R nL x L f k n lv (pc + 2) (.null :: rest)) : V G R nL x L f k n lv pc (rest) := fun H locs ls hP hS hl => lv_aloadN hx.1 hx.2.1 hd (hl.2.2 i _ hv).2 (kk H locs ls hP hS hl)
theorem v_istore_n (hx : KX G nL x cc own) {j : Fin 4} {i : Nat} {v : Int32} (hd : decode cc pc = .ok (.istore_n j, 1)) (hi : (j : Nat) = i) (hn : i < nL) {lv' : List (Option Value)} (he : lv.set i (some (.int v)) = lv') (kk : V G R nL x L f k n lv' (pc + 1) rest) : V G R nL x L f k n lv pc (.int v :: rest) := fun H locs ls hP hS hl => lv_istore_n hx.1 hx.2.1 hd hi hl.lv hn rfl (fun ls' hl' => kk H locs ls' hP hS (he ▸ hl.put rfl hl'))
theorem v_istore (hx : KX G nL x cc own) {i : Nat} {v : Int32} (hd : decode cc pc = .ok (.istore i, 2)) (hn : i < nL) {lv' : List (Option Value)} (he : lv.set i (some (.int v)) = lv') (kk : V G R nL x L f k n lv' (pc + 2) rest) : V G R nL x L f k n lv pc (.int v :: rest) := fun H locs ls hP hS hl => lv_istore hx.1 hx.2.1 hd hl.lv hn rfl (fun ls' hl' => kk H locs ls' hP hS (he ▸ hl.put rfl hl'))
theorem v_astore_n (hx : KX G nL x cc own) {j : Fin 4} {i : Nat} {v : Nat} (hd : decode cc pc = .ok (.astore_n j, 1)) (hi : (j : Nat) = i) (hn : i < nL) {lv' : List (Option Value)} (he : lv.set i (some (.ref v)) = lv') (kk : V G R nL x L f k n lv' (pc + 1) rest) : V G R nL x L f k n lv pc (.ref v :: rest) := fun H locs ls hP hS hl => lv_astore_n hx.1 hx.2.1 hd hi hl.lv hn rfl (fun ls' hl' => kk H locs ls' hP hS (he ▸ hl.put rfl hl'))
theorem v_astore (hx : KX G nL x cc own) {i : Nat} {v : Nat} (hd : decode cc pc = .ok (.astore i, 2)) (hn : i < nL) {lv' : List (Option Value)} (he : lv.set i (some (.ref v)) = lv') (kk : V G R nL x L f k n lv' (pc + 2) rest) : V G R nL x L f k n lv pc (.ref v :: rest) := fun H locs ls hP hS hl => lv_astore hx.1 hx.2.1 hd hl.lv hn rfl (fun ls' hl' => kk H locs ls' hP hS (he ▸ hl.put rfl hl'))
theorem v_astore_nN (hx : KX G nL x cc own) {j : Fin 4} {i : Nat} (hd : decode cc pc = .ok (.astore_n j, 1)) (hi : (j : Nat) = i) (hn : i < nL) {lv' : List (Option Value)} (he : lv.set i (some .null) = lv') (kk : V G R nL x L f k n lv' (pc + 1) rest) : V G R nL x L f k n lv pc (.null :: rest) := fun H locs ls hP hS hl => lv_astore_nN hx.1 hx.2.1 hd hi hl.lv hn rfl (fun ls' hl' => kk H locs ls' hP hS (he ▸ hl.put rfl hl'))
theorem v_astoreN (hx : KX G nL x cc own) {i : Nat} (hd : decode cc pc = .ok (.astore i, 2)) (hn : i < nL) {lv' : List (Option Value)} (he : lv.set i (some .null) = lv') (kk : V G R nL x L f k n lv' (pc + 2) rest) : V G R nL x L f k n lv pc (.null :: rest) := fun H locs ls hP hS hl => lv_astoreN hx.1 hx.2.1 hd hl.lv hn rfl (fun ls' hl' => kk H locs ls' hP hS (he ▸ hl.put rfl hl'))
theorem v_iinc (hx : KX G nL x cc own) {i : Nat} {z : Int} {a v : Int32} (hd : decode cc pc = .ok (.iinc i z, 3)) (ha : lv[i]? = some (some (.int a))) (hv : a + Int32.ofInt z = v) (hn : i < nL) {lv' : List (Option Value)} (he : lv.set i (some (.int v)) = lv') (kk : V G R nL x L f k n lv' (pc + 3) rest) : V G R nL x L f k n lv pc rest := by
  intro H locs ls hP hS hl
  obtain ⟨q, hq⟩ := List.mem_iff_getElem?.mp (vl_pl_mem.mpr ha)
  exact lv_iinc hx.1 hx.2.1 hd hl.lv hq hv hn rfl (fun ls' hl' => kk H locs ls' hP hS (he ▸ hl.put rfl hl'))
theorem v_iadd (hx : KX G nL x cc own) {a b v : Int32} (hd : decode cc pc = .ok (.iadd, 1)) (hv : a + b = v) (kk : V G R nL x L f k n lv (pc + 1) (.int v :: rest)) : V G R nL x L f k n lv pc (.int b :: .int a :: rest) := fun H locs ls hP hS hl => lv_iadd hx.1 hx.2.1 hd (hv ▸ kk H locs ls hP hS hl)
theorem v_isub (hx : KX G nL x cc own) {a b v : Int32} (hd : decode cc pc = .ok (.isub, 1)) (hv : a - b = v) (kk : V G R nL x L f k n lv (pc + 1) (.int v :: rest)) : V G R nL x L f k n lv pc (.int b :: .int a :: rest) := fun H locs ls hP hS hl => lv_isub hx.1 hx.2.1 hd (hv ▸ kk H locs ls hP hS hl)
theorem v_imul (hx : KX G nL x cc own) {a b v : Int32} (hd : decode cc pc = .ok (.imul, 1)) (hv : a * b = v) (kk : V G R nL x L f k n lv (pc + 1) (.int v :: rest)) : V G R nL x L f k n lv pc (.int b :: .int a :: rest) := fun H locs ls hP hS hl => lv_imul hx.1 hx.2.1 hd (hv ▸ kk H locs ls hP hS hl)
theorem v_iand (hx : KX G nL x cc own) {a b v : Int32} (hd : decode cc pc = .ok (.iand, 1)) (hv : a &&& b = v) (kk : V G R nL x L f k n lv (pc + 1) (.int v :: rest)) : V G R nL x L f k n lv pc (.int b :: .int a :: rest) := fun H locs ls hP hS hl => lv_iand hx.1 hx.2.1 hd (hv ▸ kk H locs ls hP hS hl)
theorem v_ior (hx : KX G nL x cc own) {a b v : Int32} (hd : decode cc pc = .ok (.ior, 1)) (hv : a ||| b = v) (kk : V G R nL x L f k n lv (pc + 1) (.int v :: rest)) : V G R nL x L f k n lv pc (.int b :: .int a :: rest) := fun H locs ls hP hS hl => lv_ior hx.1 hx.2.1 hd (hv ▸ kk H locs ls hP hS hl)
theorem v_ixor (hx : KX G nL x cc own) {a b v : Int32} (hd : decode cc pc = .ok (.ixor, 1)) (hv : a ^^^ b = v) (kk : V G R nL x L f k n lv (pc + 1) (.int v :: rest)) : V G R nL x L f k n lv pc (.int b :: .int a :: rest) := fun H locs ls hP hS hl => lv_ixor hx.1 hx.2.1 hd (hv ▸ kk H locs ls hP hS hl)
theorem v_ishl (hx : KX G nL x cc own) {a b v : Int32} (hd : decode cc pc = .ok (.ishl, 1)) (hv : a <<< (b &&& 31) = v) (kk : V G R nL x L f k n lv (pc + 1) (.int v :: rest)) : V G R nL x L f k n lv pc (.int b :: .int a :: rest) := fun H locs ls hP hS hl => lv_ishl hx.1 hx.2.1 hd (hv ▸ kk H locs ls hP hS hl)
theorem v_ishr (hx : KX G nL x cc own) {a b v : Int32} (hd : decode cc pc = .ok (.ishr, 1)) (hv : a >>> (b &&& 31) = v) (kk : V G R nL x L f k n lv (pc + 1) (.int v :: rest)) : V G R nL x L f k n lv pc (.int b :: .int a :: rest) := fun H locs ls hP hS hl => lv_ishr hx.1 hx.2.1 hd (hv ▸ kk H locs ls hP hS hl)
theorem v_idiv (hx : KX G nL x cc own) {a b v : Int32} (hd : decode cc pc = .ok (.idiv, 1)) (hne : ¬ b = 0) (hv : a / b = v) (kk : V G R nL x L f k n lv (pc + 1) (.int v :: rest)) : V G R nL x L f k n lv pc (.int b :: .int a :: rest) := fun H locs ls hP hS hl => lv_idiv hx.1 hx.2.1 hd hne (hv ▸ kk H locs ls hP hS hl)
theorem v_irem (hx : KX G nL x cc own) {a b v : Int32} (hd : decode cc pc = .ok (.irem, 1)) (hne : ¬ b = 0) (hv : a - a / b * b = v) (kk : V G R nL x L f k n lv (pc + 1) (.int v :: rest)) : V G R nL x L f k n lv pc (.int b :: .int a :: rest) := fun H locs ls hP hS hl => lv_irem hx.1 hx.2.1 hd hne (hv ▸ kk H locs ls hP hS hl)
theorem v_ineg (hx : KX G nL x cc own) {a v : Int32} (hd : decode cc pc = .ok (.ineg, 1)) (hv : -a = v) (kk : V G R nL x L f k n lv (pc + 1) (.int v :: rest)) : V G R nL x L f k n lv pc (.int a :: rest) := fun H locs ls hP hS hl => lv_ineg hx.1 hx.2.1 hd (hv ▸ kk H locs ls hP hS hl)
theorem v_iushr (hx : KX G nL x cc own) {a b v : Int32} (hd : decode cc pc = .ok (.iushr, 1)) (hv : (a.toUInt32 >>> (b.toUInt32 &&& Int32.toUInt32 31)).toInt32 = v) (kk : V G R nL x L f k n lv (pc + 1) (.int v :: rest)) : V G R nL x L f k n lv pc (.int b :: .int a :: rest) := fun H locs ls hP hS hl => lv_iushr hx.1 hx.2.1 hd hv (kk H locs ls hP hS hl)
theorem v_i2l (hx : KX G nL x cc own) {a : Int32} {v : Int64} (hd : decode cc pc = .ok (.i2l, 1)) (hv : a.toInt64 = v) (kk : V G R nL x L f k n lv (pc + 1) (.long v :: rest)) : V G R nL x L f k n lv pc (.int a :: rest) := fun H locs ls hP hS hl => lv_i2l hx.1 hx.2.1 hd hv (kk H locs ls hP hS hl)
theorem v_lconst (hx : KX G nL x cc own) {z : Fin 2} {v : Int64} (hd : decode cc pc = .ok (.lconst z, 1)) (hv : Int64.ofNat (z : Nat) = v) (kk : V G R nL x L f k n lv (pc + 1) (.long v :: rest)) : V G R nL x L f k n lv pc rest := fun H locs ls hP hS hl => lv_lconst hx.1 hx.2.1 hd hv (kk H locs ls hP hS hl)
theorem n_iadd (hx : KX G nL x cc own) {a b : Nat} (hd : decode cc pc = .ok (.iadd, 1))  (kk : V G R nL x L f k n lv (pc + 1) (.int (nI (a + b)) :: rest)) : V G R nL x L f k n lv pc (.int (nI b) :: .int (nI a) :: rest) := v_iadd hx hd (nI_add a b) kk
theorem n_imul (hx : KX G nL x cc own) {a b : Nat} (hd : decode cc pc = .ok (.imul, 1))  (kk : V G R nL x L f k n lv (pc + 1) (.int (nI (a * b)) :: rest)) : V G R nL x L f k n lv pc (.int (nI b) :: .int (nI a) :: rest) := v_imul hx hd (pk_mul a b) kk
theorem n_isub (hx : KX G nL x cc own) {a b : Nat} (hd : decode cc pc = .ok (.isub, 1)) (h : b ≤ a) (kk : V G R nL x L f k n lv (pc + 1) (.int (nI (a - b)) :: rest)) : V G R nL x L f k n lv pc (.int (nI b) :: .int (nI a) :: rest) := v_isub hx hd (pk_sub h) kk
theorem n_idiv (hx : KX G nL x cc own) {a b : Nat} (hd : decode cc pc = .ok (.idiv, 1)) (ha : a < 2 ^ 31) (h0 : 0 < b) (hb : b < 2 ^ 31) (kk : V G R nL x L f k n lv (pc + 1) (.int (nI (a / b)) :: rest)) : V G R nL x L f k n lv pc (.int (nI b) :: .int (nI a) :: rest) := v_idiv hx hd (nI_ne0 h0 hb) (pk_div ha h0 hb) kk
theorem n_irem (hx : KX G nL x cc own) {a b : Nat} (hd : decode cc pc = .ok (.irem, 1)) (ha : a < 2 ^ 31) (h0 : 0 < b) (hb : b < 2 ^ 31) (kk : V G R nL x L f k n lv (pc + 1) (.int (nI (a % b)) :: rest)) : V G R nL x L f k n lv pc (.int (nI b) :: .int (nI a) :: rest) := v_irem hx hd (nI_ne0 h0 hb) (pk_rem ha h0 hb) kk
theorem n_iinc (hx : KX G nL x cc own) {i : Nat} {a : Nat} (hd : decode cc pc = .ok (.iinc i 1, 3)) (ha : lv[i]? = some (some (.int (nI a)))) (hn : i < nL) {lv' : List (Option Value)} (he : lv.set i (some (.int (nI (a + 1)))) = lv') (kk : V G R nL x L f k n lv' (pc + 3) rest) : V G R nL x L f k n lv pc rest := v_iinc hx hd ha (nI_1 a) hn he kk
theorem n_idec (hx : KX G nL x cc own) {i : Nat} {a : Nat} (hd : decode cc pc = .ok (.iinc i (-1), 3)) (ha : lv[i]? = some (some (.int (nI a)))) (h0 : 0 < a) (hn : i < nL) {lv' : List (Option Value)} (he : lv.set i (some (.int (nI (a - 1)))) = lv') (kk : V G R nL x L f k n lv' (pc + 3) rest) : V G R nL x L f k n lv pc rest := v_iinc hx hd ha (sb_m1 h0) hn he kk
theorem v_dup (hx : KX G nL x cc own) {a : Value} (hd : decode cc pc = .ok (.dup, 1)) (ha : a.category = 1) (kk : V G R nL x L f k n lv (pc + 1) (a :: a :: rest)) : V G R nL x L f k n lv pc (a :: rest) := fun H locs ls hP hS hl => lv_dup hx.1 hx.2.1 hd ha (kk H locs ls hP hS hl)
theorem v_pop (hx : KX G nL x cc own) {a : Value} (hd : decode cc pc = .ok (.pop, 1)) (ha : a.category = 1) (kk : V G R nL x L f k n lv (pc + 1) (rest)) : V G R nL x L f k n lv pc (a :: rest) := fun H locs ls hP hS hl => lv_pop hx.1 hx.2.1 hd ha (kk H locs ls hP hS hl)
theorem v_dup_x1 (hx : KX G nL x cc own) {a b : Value} (hd : decode cc pc = .ok (.dup_x1, 1)) (ha : a.category = 1) (hb : b.category = 1) (kk : V G R nL x L f k n lv (pc + 1) (a :: b :: a :: rest)) : V G R nL x L f k n lv pc (a :: b :: rest) := fun H locs ls hP hS hl => lv_dup_x1 hx.1 hx.2.1 hd ha hb (kk H locs ls hP hS hl)
theorem v_dup_x2 (hx : KX G nL x cc own) {a b d : Value} (hd : decode cc pc = .ok (.dup_x2, 1)) (ha : a.category = 1) (hb : b.category = 1) (hc : d.category = 1) (kk : V G R nL x L f k n lv (pc + 1) (a :: b :: d :: a :: rest)) : V G R nL x L f k n lv pc (a :: b :: d :: rest) := fun H locs ls hP hS hl => lv_dup_x2 hx.1 hx.2.1 hd ha hb hc (kk H locs ls hP hS hl)
theorem v_dup2 (hx : KX G nL x cc own) {a b : Value} (hd : decode cc pc = .ok (.dup2, 1)) (ha : a.category = 1) (hb : b.category = 1) (kk : V G R nL x L f k n lv (pc + 1) (a :: b :: a :: b :: rest)) : V G R nL x L f k n lv pc (a :: b :: rest) := fun H locs ls hP hS hl => lv_dup2_11 hx.1 hx.2.1 hd ha hb (kk H locs ls hP hS hl)
theorem v_if_eq (hx : KX G nL x cc own) {a : Int32} {off : Int} {tgt : Nat} (hd : decode cc pc = .ok (.ifCond .eq off, 3)) (ht : (pc : Int) + off = (tgt : Int)) (kt : a = 0 → V G R nL x L f k n lv tgt rest) (kf : ¬ a = 0 → V G R nL x L f k n lv (pc + 3) rest) : V G R nL x L f k n lv pc (.int a :: rest) := fun H locs ls hP hS hl => lv_if_eq hx.1 hx.2.1 hd ht (fun h => kt h H locs ls hP hS hl) (fun h => kf h H locs ls hP hS hl)
theorem v_icmp_eq (hx : KX G nL x cc own) {a b : Int32} {off : Int} {tgt : Nat} (hd : decode cc pc = .ok (.if_icmp .eq off, 3)) (ht : (pc : Int) + off = (tgt : Int)) (kt : a = b → V G R nL x L f k n lv tgt rest) (kf : ¬ a = b → V G R nL x L f k n lv (pc + 3) rest) : V G R nL x L f k n lv pc (.int b :: .int a :: rest) := fun H locs ls hP hS hl => lv_icmp_eq hx.1 hx.2.1 hd ht (fun h => kt h H locs ls hP hS hl) (fun h => kf h H locs ls hP hS hl)
theorem v_if_ne (hx : KX G nL x cc own) {a : Int32} {off : Int} {tgt : Nat} (hd : decode cc pc = .ok (.ifCond .ne off, 3)) (ht : (pc : Int) + off = (tgt : Int)) (kt : ¬ a = 0 → V G R nL x L f k n lv tgt rest) (kf : a = 0 → V G R nL x L f k n lv (pc + 3) rest) : V G R nL x L f k n lv pc (.int a :: rest) := fun H locs ls hP hS hl => lv_if_ne hx.1 hx.2.1 hd ht (fun h => kt h H locs ls hP hS hl) (fun h => kf h H locs ls hP hS hl)
theorem v_icmp_ne (hx : KX G nL x cc own) {a b : Int32} {off : Int} {tgt : Nat} (hd : decode cc pc = .ok (.if_icmp .ne off, 3)) (ht : (pc : Int) + off = (tgt : Int)) (kt : ¬ a = b → V G R nL x L f k n lv tgt rest) (kf : a = b → V G R nL x L f k n lv (pc + 3) rest) : V G R nL x L f k n lv pc (.int b :: .int a :: rest) := fun H locs ls hP hS hl => lv_icmp_ne hx.1 hx.2.1 hd ht (fun h => kt h H locs ls hP hS hl) (fun h => kf h H locs ls hP hS hl)
theorem v_if_lt (hx : KX G nL x cc own) {a : Int32} {off : Int} {tgt : Nat} (hd : decode cc pc = .ok (.ifCond .lt off, 3)) (ht : (pc : Int) + off = (tgt : Int)) (kt : a < 0 → V G R nL x L f k n lv tgt rest) (kf : ¬ a < 0 → V G R nL x L f k n lv (pc + 3) rest) : V G R nL x L f k n lv pc (.int a :: rest) := fun H locs ls hP hS hl => lv_if_lt hx.1 hx.2.1 hd ht (fun h => kt h H locs ls hP hS hl) (fun h => kf h H locs ls hP hS hl)
theorem v_icmp_lt (hx : KX G nL x cc own) {a b : Int32} {off : Int} {tgt : Nat} (hd : decode cc pc = .ok (.if_icmp .lt off, 3)) (ht : (pc : Int) + off = (tgt : Int)) (kt : a < b → V G R nL x L f k n lv tgt rest) (kf : ¬ a < b → V G R nL x L f k n lv (pc + 3) rest) : V G R nL x L f k n lv pc (.int b :: .int a :: rest) := fun H locs ls hP hS hl => lv_icmp_lt hx.1 hx.2.1 hd ht (fun h => kt h H locs ls hP hS hl) (fun h => kf h H locs ls hP hS hl)
theorem v_if_ge (hx : KX G nL x cc own) {a : Int32} {off : Int} {tgt : Nat} (hd : decode cc pc = .ok (.ifCond .ge off, 3)) (ht : (pc : Int) + off = (tgt : Int)) (kt : 0 ≤ a → V G R nL x L f k n lv tgt rest) (kf : ¬ 0 ≤ a → V G R nL x L f k n lv (pc + 3) rest) : V G R nL x L f k n lv pc (.int a :: rest) := fun H locs ls hP hS hl => lv_if_ge hx.1 hx.2.1 hd ht (fun h => kt h H locs ls hP hS hl) (fun h => kf h H locs ls hP hS hl)
theorem v_icmp_ge (hx : KX G nL x cc own) {a b : Int32} {off : Int} {tgt : Nat} (hd : decode cc pc = .ok (.if_icmp .ge off, 3)) (ht : (pc : Int) + off = (tgt : Int)) (kt : b ≤ a → V G R nL x L f k n lv tgt rest) (kf : ¬ b ≤ a → V G R nL x L f k n lv (pc + 3) rest) : V G R nL x L f k n lv pc (.int b :: .int a :: rest) := fun H locs ls hP hS hl => lv_icmp_ge hx.1 hx.2.1 hd ht (fun h => kt h H locs ls hP hS hl) (fun h => kf h H locs ls hP hS hl)
theorem v_if_gt (hx : KX G nL x cc own) {a : Int32} {off : Int} {tgt : Nat} (hd : decode cc pc = .ok (.ifCond .gt off, 3)) (ht : (pc : Int) + off = (tgt : Int)) (kt : 0 < a → V G R nL x L f k n lv tgt rest) (kf : ¬ 0 < a → V G R nL x L f k n lv (pc + 3) rest) : V G R nL x L f k n lv pc (.int a :: rest) := fun H locs ls hP hS hl => lv_if_gt hx.1 hx.2.1 hd ht (fun h => kt h H locs ls hP hS hl) (fun h => kf h H locs ls hP hS hl)
theorem v_icmp_gt (hx : KX G nL x cc own) {a b : Int32} {off : Int} {tgt : Nat} (hd : decode cc pc = .ok (.if_icmp .gt off, 3)) (ht : (pc : Int) + off = (tgt : Int)) (kt : b < a → V G R nL x L f k n lv tgt rest) (kf : ¬ b < a → V G R nL x L f k n lv (pc + 3) rest) : V G R nL x L f k n lv pc (.int b :: .int a :: rest) := fun H locs ls hP hS hl => lv_icmp_gt hx.1 hx.2.1 hd ht (fun h => kt h H locs ls hP hS hl) (fun h => kf h H locs ls hP hS hl)
theorem v_if_le (hx : KX G nL x cc own) {a : Int32} {off : Int} {tgt : Nat} (hd : decode cc pc = .ok (.ifCond .le off, 3)) (ht : (pc : Int) + off = (tgt : Int)) (kt : a ≤ 0 → V G R nL x L f k n lv tgt rest) (kf : ¬ a ≤ 0 → V G R nL x L f k n lv (pc + 3) rest) : V G R nL x L f k n lv pc (.int a :: rest) := fun H locs ls hP hS hl => lv_if_le hx.1 hx.2.1 hd ht (fun h => kt h H locs ls hP hS hl) (fun h => kf h H locs ls hP hS hl)
theorem v_icmp_le (hx : KX G nL x cc own) {a b : Int32} {off : Int} {tgt : Nat} (hd : decode cc pc = .ok (.if_icmp .le off, 3)) (ht : (pc : Int) + off = (tgt : Int)) (kt : a ≤ b → V G R nL x L f k n lv tgt rest) (kf : ¬ a ≤ b → V G R nL x L f k n lv (pc + 3) rest) : V G R nL x L f k n lv pc (.int b :: .int a :: rest) := fun H locs ls hP hS hl => lv_icmp_le hx.1 hx.2.1 hd ht (fun h => kt h H locs ls hP hS hl) (fun h => kf h H locs ls hP hS hl)
theorem n_icmp_eq (hx : KX G nL x cc own) {a b : Nat} {off : Int} {tgt : Nat} (hd : decode cc pc = .ok (.if_icmp .eq off, 3)) (ht : (pc : Int) + off = (tgt : Int)) (ha : a < 2 ^ 31) (hb : b < 2 ^ 31) (kt : a = b → V G R nL x L f k n lv tgt rest) (kf : a ≠ b → V G R nL x L f k n lv (pc + 3) rest) : V G R nL x L f k n lv pc (.int (nI b) :: .int (nI a) :: rest) := v_icmp_eq hx hd ht (fun h => kt ((nI_eq ha hb).mp h)) (fun h => kf (fun e => h ((nI_eq ha hb).mpr e)))
theorem n_icmp_ne (hx : KX G nL x cc own) {a b : Nat} {off : Int} {tgt : Nat} (hd : decode cc pc = .ok (.if_icmp .ne off, 3)) (ht : (pc : Int) + off = (tgt : Int)) (ha : a < 2 ^ 31) (hb : b < 2 ^ 31) (kt : a ≠ b → V G R nL x L f k n lv tgt rest) (kf : a = b → V G R nL x L f k n lv (pc + 3) rest) : V G R nL x L f k n lv pc (.int (nI b) :: .int (nI a) :: rest) := v_icmp_ne hx hd ht (fun h => kt (fun e => h ((nI_eq ha hb).mpr e))) (fun h => kf ((nI_eq ha hb).mp h))
theorem n_icmp_lt (hx : KX G nL x cc own) {a b : Nat} {off : Int} {tgt : Nat} (hd : decode cc pc = .ok (.if_icmp .lt off, 3)) (ht : (pc : Int) + off = (tgt : Int)) (ha : a < 2 ^ 31) (hb : b < 2 ^ 31) (kt : a < b → V G R nL x L f k n lv tgt rest) (kf : b ≤ a → V G R nL x L f k n lv (pc + 3) rest) : V G R nL x L f k n lv pc (.int (nI b) :: .int (nI a) :: rest) := v_icmp_lt hx hd ht (fun h => kt ((nI_ltI ha hb).mp h)) (fun h => kf (Nat.le_of_not_lt (fun e => h ((nI_ltI ha hb).mpr e))))
theorem n_icmp_ge (hx : KX G nL x cc own) {a b : Nat} {off : Int} {tgt : Nat} (hd : decode cc pc = .ok (.if_icmp .ge off, 3)) (ht : (pc : Int) + off = (tgt : Int)) (ha : a < 2 ^ 31) (hb : b < 2 ^ 31) (kt : b ≤ a → V G R nL x L f k n lv tgt rest) (kf : a < b → V G R nL x L f k n lv (pc + 3) rest) : V G R nL x L f k n lv pc (.int (nI b) :: .int (nI a) :: rest) := v_icmp_ge hx hd ht (fun h => kt ((nI_leI hb ha).mp h)) (fun h => kf (Nat.lt_of_not_le (fun e => h ((nI_leI hb ha).mpr e))))
theorem n_icmp_gt (hx : KX G nL x cc own) {a b : Nat} {off : Int} {tgt : Nat} (hd : decode cc pc = .ok (.if_icmp .gt off, 3)) (ht : (pc : Int) + off = (tgt : Int)) (ha : a < 2 ^ 31) (hb : b < 2 ^ 31) (kt : b < a → V G R nL x L f k n lv tgt rest) (kf : a ≤ b → V G R nL x L f k n lv (pc + 3) rest) : V G R nL x L f k n lv pc (.int (nI b) :: .int (nI a) :: rest) := v_icmp_gt hx hd ht (fun h => kt ((nI_ltI hb ha).mp h)) (fun h => kf (Nat.le_of_not_lt (fun e => h ((nI_ltI hb ha).mpr e))))
theorem n_icmp_le (hx : KX G nL x cc own) {a b : Nat} {off : Int} {tgt : Nat} (hd : decode cc pc = .ok (.if_icmp .le off, 3)) (ht : (pc : Int) + off = (tgt : Int)) (ha : a < 2 ^ 31) (hb : b < 2 ^ 31) (kt : a ≤ b → V G R nL x L f k n lv tgt rest) (kf : b < a → V G R nL x L f k n lv (pc + 3) rest) : V G R nL x L f k n lv pc (.int (nI b) :: .int (nI a) :: rest) := v_icmp_le hx hd ht (fun h => kt ((nI_leI ha hb).mp h)) (fun h => kf (Nat.lt_of_not_le (fun e => h ((nI_leI ha hb).mpr e))))
theorem n_if_eq (hx : KX G nL x cc own) {a : Nat} {off : Int} {tgt : Nat} (hd : decode cc pc = .ok (.ifCond .eq off, 3)) (ht : (pc : Int) + off = (tgt : Int)) (ha : a < 2 ^ 31) (kt : a = 0 → V G R nL x L f k n lv tgt rest) (kf : 0 < a → V G R nL x L f k n lv (pc + 3) rest) : V G R nL x L f k n lv pc (.int (nI a) :: rest) := v_if_eq hx hd ht (fun h => kt (Nat.eq_zero_of_not_pos (fun e => nI_ne0 e ha h))) (fun h => kf (Nat.pos_of_ne_zero (fun e => h (e ▸ nI_0))))
theorem n_if_ne (hx : KX G nL x cc own) {a : Nat} {off : Int} {tgt : Nat} (hd : decode cc pc = .ok (.ifCond .ne off, 3)) (ht : (pc : Int) + off = (tgt : Int)) (ha : a < 2 ^ 31) (kt : 0 < a → V G R nL x L f k n lv tgt rest) (kf : a = 0 → V G R nL x L f k n lv (pc + 3) rest) : V G R nL x L f k n lv pc (.int (nI a) :: rest) := v_if_ne hx hd ht (fun h => kt (Nat.pos_of_ne_zero (fun e => h (e ▸ nI_0)))) (fun h => kf (Nat.eq_zero_of_not_pos (fun e => nI_ne0 e ha h)))
theorem n_if_lt (hx : KX G nL x cc own) {a : Nat} {off : Int} {tgt : Nat} (hd : decode cc pc = .ok (.ifCond .lt off, 3)) (ht : (pc : Int) + off = (tgt : Int)) (ha : a < 2 ^ 31) (kf : V G R nL x L f k n lv (pc + 3) rest) : V G R nL x L f k n lv pc (.int (nI a) :: rest) := v_if_lt hx hd ht (fun h => absurd h (nI_pos ha)) (fun _ => kf)
theorem n_if_ge (hx : KX G nL x cc own) {a : Nat} {off : Int} {tgt : Nat} (hd : decode cc pc = .ok (.ifCond .ge off, 3)) (ht : (pc : Int) + off = (tgt : Int)) (ha : a < 2 ^ 31) (kt : V G R nL x L f k n lv tgt rest) : V G R nL x L f k n lv pc (.int (nI a) :: rest) := v_if_ge hx hd ht (fun _ => kt) (fun h => absurd (nI_pos' ha) h)
theorem n_if_gt (hx : KX G nL x cc own) {a : Nat} {off : Int} {tgt : Nat} (hd : decode cc pc = .ok (.ifCond .gt off, 3)) (ht : (pc : Int) + off = (tgt : Int)) (ha : a < 2 ^ 31) (kt : 0 < a → V G R nL x L f k n lv tgt rest) (kf : a = 0 → V G R nL x L f k n lv (pc + 3) rest) : V G R nL x L f k n lv pc (.int (nI a) :: rest) := v_if_gt hx hd ht (fun h => kt (Nat.pos_of_ne_zero (fun e => by subst e; rw [nI_0] at h; exact absurd h (by decide)))) (fun h => kf (Nat.eq_zero_of_not_pos (fun e => h (by have := nI_lt e ha; rwa [nI_0] at this))))
theorem n_if_le (hx : KX G nL x cc own) {a : Nat} {off : Int} {tgt : Nat} (hd : decode cc pc = .ok (.ifCond .le off, 3)) (ht : (pc : Int) + off = (tgt : Int)) (ha : a < 2 ^ 31) (kt : a = 0 → V G R nL x L f k n lv tgt rest) (kf : 0 < a → V G R nL x L f k n lv (pc + 3) rest) : V G R nL x L f k n lv pc (.int (nI a) :: rest) := v_if_le hx hd ht (fun h => kt (Nat.eq_zero_of_not_pos (fun e => nI_nle e ha h))) (fun h => kf (Nat.pos_of_ne_zero (fun e => by subst e; rw [nI_0] at h; exact absurd (by decide) h)))
theorem v_goto (hx : KX G nL x cc own) {off : Int} {tgt : Nat} (hd : decode cc pc = .ok (.goto off, 3)) (ht : (pc : Int) + off = (tgt : Int)) (kk : V G R nL x L f k n lv tgt rest) : V G R nL x L f k n lv pc rest := fun H locs ls hP hS hl => lv_goto hx.1 hx.2.1 hd ht (kk H locs ls hP hS hl)
theorem v_ifnull (hx : KX G nL x cc own) {a : Nat} {off : Int} (hd : decode cc pc = .ok (.ifnull off, 3)) (kk : V G R nL x L f k n lv (pc + 3) rest) : V G R nL x L f k n lv pc (.ref a :: rest) := fun H locs ls hP hS hl => lv_ifnull hx.1 hx.2.1 hd (kk H locs ls hP hS hl)
theorem v_ifnonnull (hx : KX G nL x cc own) {a : Nat} {off : Int} {tgt : Nat} (hd : decode cc pc = .ok (.ifnonnull off, 3)) (ht : (pc : Int) + off = (tgt : Int)) (kk : V G R nL x L f k n lv tgt rest) : V G R nL x L f k n lv pc (.ref a :: rest) := fun H locs ls hP hS hl => lv_ifnonnull hx.1 hx.2.1 hd ht (kk H locs ls hP hS hl)
theorem v_ifnullN (hx : KX G nL x cc own) {off : Int} {tgt : Nat} (hd : decode cc pc = .ok (.ifnull off, 3)) (ht : (pc : Int) + off = (tgt : Int)) (kk : V G R nL x L f k n lv tgt rest) : V G R nL x L f k n lv pc (.null :: rest) := fun H locs ls hP hS hl => lv_ifnullN hx.1 hx.2.1 hd ht (kk H locs ls hP hS hl)
theorem v_ifnonnullN (hx : KX G nL x cc own) {off : Int} (hd : decode cc pc = .ok (.ifnonnull off, 3)) (kk : V G R nL x L f k n lv (pc + 3) rest) : V G R nL x L f k n lv pc (.null :: rest) := fun H locs ls hP hS hl => lv_ifnonnullN hx.1 hx.2.1 hd (kk H locs ls hP hS hl)
theorem v_widen {k' n' : Nat} (h1 : k ≤ k') (h2 : n ≤ n') {lv : List (Option Value)} (kk : V G R nL x L f k' n' lv pc rest) : V G R nL x L f k n lv pc rest := fun H locs ls hP hS hl => W.widen h1 h2 (kk H locs ls hP hS hl)
end VROWS
theorem gP.pos {G : GT} {L : List Nat} {f : Nat → va_E} {H : Heap} {a : Nat} (ha : a ∈ L) : ∃ q : Nat, (va_pl L f)[q]? = some (a, f a) := va_pl_get (X := []) ha
theorem gP.set {G : GT} {L : List Nat} {f : Nat → va_E} {H H1 : Heap} {a q : Nat} {e : va_E} (hP : gP G L f H) (ha : a ∈ L) (hq : (va_pl L f)[q]? = some (a, f a)) (h1 : va_P G.2.1 CL ((va_pl L f).set q (a, e)) H1) (h2 : va_D (gB G) ((va_pl L f).set q (a, e))) : gP G L (va_up f a e) H1 := by
  have e1 : (va_pl L f).set q (a, e) = va_pl L (va_up f a e) := va_pl_set (X := []) hP.2 ha hq
  rw [e1] at h1 h2
  exact ⟨h1, h2⟩
theorem gP.push {G : GT} {L : List Nat} {f : Nat → va_E} {H1 : Heap} {q : Nat} {e : va_E} (h1 : va_P G.2.1 CL (va_pl L f ++ [(q, e)]) H1) (h2 : va_D (gB G) (va_pl L f ++ [(q, e)])) : q ∉ L ∧ gP G (L ++ [q]) (va_up f q e) H1 := by
  have h : q ∉ L := va_pl_fresh2 (X := []) h2
  have e1 := va_pl_push (f := f) (e := e) h
  rw [e1] at h1 h2
  exact ⟨h, h1, h2⟩
theorem KX.hA {G : GT} {nL : Nat} {x : XT} {cc : ByteArray} {own : String} (hx : KX G nL x cc own) : ∀ q, x.2.2.1.heap.size ≤ q → gB G q := fun _ h => Nat.le_trans hx.2.2.2.2.2.2.1 h
section VHEAP
variable {G : GT} {R : Room} {nL : Nat} {x : XT} {cc : ByteArray} {own : String} {L : List Nat} {f : Nat → va_E} {k n : Nat} {lv : List (Option Value)} {pc : Nat} {rest : List Value}
/-- class number ci of CL is C with fields T, N of them, of types ty; its words are among BIG -/
def CF (ci : Nat) (C : String) (T : u_T) (N : Nat) (ty : Nat → FieldType) : Prop := CL[ci]? = some (C, T, N) ∧ (∀ w ∈ u_ws C T N, w ∈ BIG) ∧ (∀ k, k < N → parseFieldDescriptor (T k).2.2.1 = some (ty k)) ∧ (∀ a, a < N → ∀ b, b < N → a ≠ b → (T a).2.1 ≠ (T b).2.1)
theorem v_get (hx : KX G nL x cc own) {C : String} {T : u_T} {N ci index a : Nat} {ty : Nat → FieldType} {fs : List Value} {v : Value} (hC : CF ci C T N ty) (j : Nat) (hj : j < N) (hlink : Cond.fieldLink own index (T j).1 (T j).2.1 (T j).2.2.1 ∈ BIG) (hd : decode cc pc = .ok (.getfield index, 3)) (ha : a ∈ L) (hf : f a = .inr (ci, fs)) (hv : fs[j]? = some v) (kk : V G R nL x L f k n lv (pc + 3) (v :: rest)) : V G R nL x L f k n lv pc (.ref a :: rest) := by
  intro H locs ls hP hS hl
  obtain ⟨q0, hq⟩ := gP.pos (G := G) (f := f) (H := H) ha
  rw [hf] at hq
  exact va_get hx.1 hx.2.1 hx.2.2.2.2.1 hC.2.1 hx.2.2.2.1 hx.2.2.2.2.2.1.1 hP.1 q0 hq hC.1 j hj (hx.2.2.2.2.1 _ hlink) (fun _ h => h) hv hd (kk H locs ls hP hS hl)
theorem v_getN (hx : KX G nL x cc own) {C host : String} {T : u_T} {N ci index a : Nat} {ty : Nat → FieldType} {fs : List Value} {v : Value} (hC : CF ci C T N ty) (j : Nat) (hj : j < N) (hlink : Cond.fieldLinkNest own index (T j).1 (T j).2.1 (T j).2.2.1 host ∈ NW) (hd : decode cc pc = .ok (.getfield index, 3)) (ha : a ∈ L) (hf : f a = .inr (ci, fs)) (hv : fs[j]? = some v) (kk : V G R nL x L f k n lv (pc + 3) (v :: rest)) : V G R nL x L f k n lv pc (.ref a :: rest) := by
  intro H locs ls hP hS hl
  obtain ⟨q0, hq⟩ := gP.pos (G := G) (f := f) (H := H) ha
  rw [hf] at hq
  exact va_getN hx.1 hx.2.1 hx.2.2.2.2.1 hC.2.1 hx.2.2.2.1 hx.2.2.2.2.2.1.1 hP.1 q0 hq hC.1 j hj (va_Nw.use rfl (hx.2.2.2.2.2.1.2 _ hlink)) (fun _ h => h) hv hd (kk H locs ls hP hS hl)
theorem v_put (hx : KX G nL x cc own) {C : String} {T : u_T} {N ci index a : Nat} {ty : Nat → FieldType} {fs : List Value} {v : Value} (hC : CF ci C T N ty) (j : Nat) (hj : j < N) (hlink : Cond.fieldLink own index (T j).1 (T j).2.1 (T j).2.2.1 ∈ BIG) (hfin : (T j).2.2.2 = false) (hn : narrow (ty j) v = v) (hfit : fits (ty j) v = true) (hd : decode cc pc = .ok (.putfield index, 3)) (ha : a ∈ L) (hf : f a = .inr (ci, fs)) (hl0 : j < fs.length) (kk : ∀ f' : Nat → va_E, f' = va_up f a (.inr (ci, fs.set j v)) → V G R nL x L f' k n lv (pc + 3) rest) : V G R nL x L f k n lv pc (v :: .ref a :: rest) := by
  intro H locs ls hP hS hl
  obtain ⟨q0, hq⟩ := gP.pos (G := G) (f := f) (H := H) ha
  have hq' := hq
  rw [hf] at hq'
  exact va_put hx.1 hx.2.1 hx.2.2.2.2.1 hC.2.1 ty hC.2.2.1 hC.2.2.2 hx.2.2.2.1 hx.2.2.2.2.2.1.1 hP.1 hP.2 hS q0 hq' hC.1 j hj (hx.2.2.2.2.1 _ hlink) (fun _ h => h) hfin (hC.2.2.1 j hj) hn hfit hl0 hd (fun H1 locs1 h1 h2 h3 => kk _ rfl H1 locs1 ls (hP.set ha hq h1 h2) h3 hl)
theorem v_putN (hx : KX G nL x cc own) {C host : String} {T : u_T} {N ci index a : Nat} {ty : Nat → FieldType} {fs : List Value} {v : Value} (hC : CF ci C T N ty) (j : Nat) (hj : j < N) (hlink : Cond.fieldLinkNest own index (T j).1 (T j).2.1 (T j).2.2.1 host ∈ NW) (hfin : (T j).2.2.2 = false) (hn : narrow (ty j) v = v) (hfit : fits (ty j) v = true) (hd : decode cc pc = .ok (.putfield index, 3)) (ha : a ∈ L) (hf : f a = .inr (ci, fs)) (hl0 : j < fs.length) (kk : ∀ f' : Nat → va_E, f' = va_up f a (.inr (ci, fs.set j v)) → V G R nL x L f' k n lv (pc + 3) rest) : V G R nL x L f k n lv pc (v :: .ref a :: rest) := by
  intro H locs ls hP hS hl
  obtain ⟨q0, hq⟩ := gP.pos (G := G) (f := f) (H := H) ha
  have hq' := hq
  rw [hf] at hq'
  exact va_putN hx.1 hx.2.1 hx.2.2.2.2.1 hC.2.1 ty hC.2.2.1 hC.2.2.2 hx.2.2.2.1 hx.2.2.2.2.2.1.1 hP.1 hP.2 hS q0 hq' hC.1 j hj (va_Nw.use rfl (hx.2.2.2.2.2.1.2 _ hlink)) (fun _ h => h) hfin (hC.2.2.1 j hj) hn hfit hl0 hd (fun H1 locs1 h1 h2 h3 => kk _ rfl H1 locs1 ls (hP.set ha hq h1 h2) h3 hl)
theorem v_putF (hx : KX G nL x cc own) {C : String} {T : u_T} {N ci index a : Nat} {ty : Nat → FieldType} {fs : List Value} {v : Value} (hC : CF ci C T N ty) (j : Nat) (hj : j < N) (hlink : Cond.fieldLink own index (T j).1 (T j).2.1 (T j).2.2.1 ∈ BIG) (hfin : (T j).2.2.2 = true) (hin : x.2.2.2.2.2.2.1.name = "<init>") (ho : (T j).1 = own) (hn : narrow (ty j) v = v) (hfit : fits (ty j) v = true) (hd : decode cc pc = .ok (.putfield index, 3)) (ha : a ∈ L) (hf : f a = .inr (ci, fs)) (hl0 : j < fs.length) (kk : ∀ f' : Nat → va_E, f' = va_up f a (.inr (ci, fs.set j v)) → V G R nL x L f' k n lv (pc + 3) rest) : V G R nL x L f k n lv pc (v :: .ref a :: rest) := by
  intro H locs ls hP hS hl
  obtain ⟨q0, hq⟩ := gP.pos (G := G) (f := f) (H := H) ha
  have hq' := hq
  rw [hf] at hq'
  exact va_putF hx.1 hx.2.1 hx.2.2.2.2.1 hC.2.1 ty hC.2.2.1 hC.2.2.2 hx.2.2.2.1 hx.2.2.2.2.2.1.1 hP.1 hP.2 hS q0 hq' hC.1 j hj (hx.2.2.2.2.1 _ hlink) (fun _ h => h) hfin hin ho (hC.2.2.1 j hj) hn hfit hl0 hd (fun H1 locs1 h1 h2 h3 => kk _ rfl H1 locs1 ls (hP.set ha hq h1 h2) h3 hl)
/-- int arrays: class G.2.2.1 0 -/
theorem v_iald (hx : KX G nL x cc own) {a N : Nat} {h : Nat → Int32} {i : Int32} (hd : decode cc pc = .ok (.iaload, 1)) (ha : a ∈ L) (hf : f a = .inl (G.2.2.1 0, N, .inl h)) (hin : vp_in i N) (kk : V G R nL x L f k n lv (pc + 1) (.int (h i.toNatClampNeg) :: rest)) : V G R nL x L f k n lv pc (.int i :: .ref a :: rest) := by
  intro H locs ls hP hS hl
  obtain ⟨q0, hq⟩ := gP.pos (G := G) (f := f) (H := H) ha
  rw [hf] at hq
  exact va_iald hx.1 hx.2.1 hx.2.2.2.2.2.1.1 hP.1 q0 0 hq rfl hin hd (kk H locs ls hP hS hl)
theorem n_iald (hx : KX G nL x cc own) {a N : Nat} {h : Nat → Int32} {i : Nat} (hd : decode cc pc = .ok (.iaload, 1)) (ha : a ∈ L) (hf : f a = .inl (G.2.2.1 0, N, .inl h)) (hi : i < N) (hN : N < 2 ^ 31) (kk : V G R nL x L f k n lv (pc + 1) (.int (h i) :: rest)) : V G R nL x L f k n lv pc (.int (nI i) :: .ref a :: rest) := by
  refine v_iald hx hd ha hf (vp_in_nI hi hN) ?_
  rw [nI_clamp (Nat.lt_trans hi hN)]
  exact kk
theorem v_iast (hx : KX G nL x cc own) {a N : Nat} {h : Nat → Int32} {i v : Int32} (hd : decode cc pc = .ok (.iastore, 1)) (ha : a ∈ L) (hf : f a = .inl (G.2.2.1 0, N, .inl h)) (hin : vp_in i N) (kk : V G R nL x L (va_up f a (.inl (G.2.2.1 0, N, .inl (upd h i.toNatClampNeg v)))) k n lv (pc + 1) rest) : V G R nL x L f k n lv pc (.int v :: .int i :: .ref a :: rest) := by
  intro H locs ls hP hS hl
  obtain ⟨q0, hq⟩ := gP.pos (G := G) (f := f) (H := H) ha
  have hq' := hq
  rw [hf] at hq'
  exact va_iast hx.1 hx.2.1 hx.2.2.2.2.2.1.1 hP.1 hP.2 hS q0 0 hq' rfl hin hd (fun H1 locs1 h1 h2 h3 => kk H1 locs1 ls (hP.set ha hq h1 h2) h3 hl)
theorem n_iast (hx : KX G nL x cc own) {a N : Nat} {h : Nat → Int32} {i : Nat} {v : Int32} (hd : decode cc pc = .ok (.iastore, 1)) (ha : a ∈ L) (hf : f a = .inl (G.2.2.1 0, N, .inl h)) (hi : i < N) (hN : N < 2 ^ 31) (kk : V G R nL x L (va_up f a (.inl (G.2.2.1 0, N, .inl (upd h i v)))) k n lv (pc + 1) rest) : V G R nL x L f k n lv pc (.int v :: .int (nI i) :: .ref a :: rest) := by
  refine v_iast hx hd ha hf (vp_in_nI hi hN) ?_
  rw [nI_clamp (Nat.lt_trans hi hN)]
  exact kk
theorem v_alen (hx : KX G nL x cc own) {a N : Nat} {h : Nat → Int32} (hd : decode cc pc = .ok (.arraylength, 1)) (ha : a ∈ L) (hf : f a = .inl (G.2.2.1 0, N, .inl h)) (kk : V G R nL x L f k n lv (pc + 1) (.int (nI N) :: rest)) : V G R nL x L f k n lv pc (.ref a :: rest) := by
  intro H locs ls hP hS hl
  obtain ⟨q0, hq⟩ := gP.pos (G := G) (f := f) (H := H) ha
  rw [hf] at hq
  exact va_alen hx.1 hx.2.1 hx.2.2.2.2.2.1.1 hP.1 q0 0 hq (ty := .int) rfl rfl hd (kk H locs ls hP hS hl)
theorem v_newa (hx : KX G nL x cc own) {N : Nat} (hw : Cond.arrayClass .int ∈ BIG) (hd : decode cc pc = .ok (.newarray .int, 2)) (hN : N < 2 ^ 26) (hk : k + 1 ≤ R.cells) (hs : n + N ≤ R.slots) (kk : ∀ q, q ∉ L → V G R nL x (L ++ [q]) (va_up f q (.inl (G.2.2.1 0, N, .inl (fun _ => 0)))) (k + 1) (n + N) lv (pc + 2) (.ref q :: rest)) : V G R nL x L f k n lv pc (.int (nI N) :: rest) := by
  intro H locs ls hP hS hl
  refine va_newa (atype := .int) (ty := .int) (N' := N) (a0 := (N, .inl (fun _ => 0))) hx.1 hx.2.1 (hx.2.2.2.2.1 _ hw) rfl hx.2.2.2.2.2.1.1 hP.1 hP.2 hS hx.hA (fun _ => rfl) (nI_pos (by omega)) (nI_clamp (by omega)) (by show N * 4 ≤ 536870912; omega) hk hs hd (fun q cA H1 h0 h1 h2 h3 => ?_)
  have e1 : x.2.2.1.vm.findClass ("[" ++ FieldType.toString .int) = some cA := (h0.2 (TY G.2.2.1).length (cA, .int) (by simp)).2
  have e2 : x.2.2.1.vm.findClass ("[" ++ FieldType.toString .int) = some (G.2.2.1 0) := (hx.2.2.2.2.2.1.1.2 0 (G.2.2.1 0, .int) rfl).2
  have e3 : cA = G.2.2.1 0 := Option.some.inj (e1.symm.trans e2)
  subst e3
  obtain ⟨g1, g2⟩ := gP.push h1 h2
  exact kk q g1 H1 locs ls g2 h3 hl
theorem v_new (hx : KX G nL x cc own) {C : String} {T : u_T} {N ci index : Nat} {ty : Nat → FieldType} (hC : CF ci C T N ty) {fs : List Value} (hfs : ∀ j, j < N → defaultValue (ty j) = vp_V fs j) (h1 : Cond.classLink own index C ∈ BIG) (h2 : Cond.instantiable C N ∈ BIG) (h3 : Cond.initialized C ∈ BIG) (hd : decode cc pc = .ok (.new index, 3)) (hk : k + 1 ≤ R.cells) (hs : n + N ≤ R.slots) (kk : ∀ q, q ∉ L → V G R nL x (L ++ [q]) (va_up f q (.inr (ci, fs))) (k + 1) (n + N) lv (pc + 3) (.ref q :: rest)) : V G R nL x L f k n lv pc rest := by
  intro H locs ls hP hS hl
  refine va_new (ci := ci) (fs := fs) (C := C) (T := T) (N := N) hx.1 hx.2.1 hx.2.2.2.2.1 hC.2.1 ty hC.2.2.1 hx.2.2.2.1 (hx.2.2.2.2.1 _ h1) (hx.2.2.2.2.1 _ h2) (hx.2.2.2.2.1 _ h3) hx.2.2.2.2.2.1.1 hP.1 hP.2 hS hx.hA hC.1 hfs hk hs hd (fun q H1 p1 p2 p3 => ?_)
  obtain ⟨g1, g2⟩ := gP.push p1 p2
  exact kk q g1 H1 locs ls g2 p3 hl
theorem nn_iast (hx : KX G nL x cc own) {a N : Nat} {g : Nat → Nat} {i v : Nat} (hd : decode cc pc = .ok (.iastore, 1)) (ha : a ∈ L) (hf : f a = aI G N g) (hi : i < N) (hN : N < 2 ^ 31) (kk : ∀ f' : Nat → va_E, f' = va_up f a (aI G N (va_up g i v)) → V G R nL x L f' k n lv (pc + 1) rest) : V G R nL x L f k n lv pc (.int (nI v) :: .int (nI i) :: .ref a :: rest) := by
  refine n_iast hx hd ha hf hi hN ?_
  have e : upd (fun k => nI (g k)) i (nI v) = fun k => nI (va_up g i v k) := by
    funext j
    simp only [upd, va_up]
    split <;> rfl
  exact kk _ (by rw [e])
theorem no_iast (hx : KX G nL x cc own) {a N : Nat} {g : Nat → Option Nat} {i : Nat} {v : Option Nat} (hd : decode cc pc = .ok (.iastore, 1)) (ha : a ∈ L) (hf : f a = aO G N g) (hi : i < N) (hN : N < 2 ^ 31) (kk : ∀ f' : Nat → va_E, f' = va_up f a (aO G N (va_up g i v)) → V G R nL x L f' k n lv (pc + 1) rest) : V G R nL x L f k n lv pc (.int (oI v) :: .int (nI i) :: .ref a :: rest) := by
  refine n_iast hx hd ha hf hi hN ?_
  have e : upd (fun k => oI (g k)) i (oI v) = fun k => oI (va_up g i v k) := by
    funext j
    simp only [upd, va_up]
    split <;> rfl
  exact kk _ (by rw [e])
theorem n_zald (hx : KX G nL x cc own) {a N : Nat} {g : Nat → Bool} {i : Nat} (hd : decode cc pc = .ok (.baload, 1)) (ha : a ∈ L) (hf : f a = aB G N g) (hi : i < N) (hN : N < 2 ^ 31) (kk : V G R nL x L f k n lv (pc + 1) (.int (bI (g i)) :: rest)) : V G R nL x L f k n lv pc (.int (nI i) :: .ref a :: rest) := by
  intro H locs ls hP hS hl
  obtain ⟨q0, hq⟩ := gP.pos (G := G) (f := f) (H := H) ha
  rw [hf] at hq
  refine va_zald hx.1 hx.2.1 hx.2.2.2.2.2.1.1 hP.1 q0 1 hq rfl (vp_in_nI hi hN) hd ?_
  rw [nI_clamp (Nat.lt_trans hi hN)]
  exact kk H locs ls hP hS hl
theorem nz_ast (hx : KX G nL x cc own) {a N : Nat} {g : Nat → Bool} {i : Nat} {v : Bool} (hd : decode cc pc = .ok (.bastore, 1)) (ha : a ∈ L) (hf : f a = aB G N g) (hi : i < N) (hN : N < 2 ^ 31) (kk : ∀ f' : Nat → va_E, f' = va_up f a (aB G N (va_up g i v)) → V G R nL x L f' k n lv (pc + 1) rest) : V G R nL x L f k n lv pc (.int (bI v) :: .int (nI i) :: .ref a :: rest) := by
  intro H locs ls hP hS hl
  obtain ⟨q0, hq⟩ := gP.pos (G := G) (f := f) (H := H) ha
  have hq' := hq
  rw [hf] at hq'
  refine va_zast hx.1 hx.2.1 hx.2.2.2.2.2.1.1 hP.1 hP.2 hS q0 1 hq' rfl (vp_in_nI hi hN) hd (fun H1 locs1 h1 h2 h3 => kk _ rfl H1 locs1 ls ?_ h3 hl)
  have e : (Sum.inl (G.2.2.1 1, N, .inl (upd (fun k => bI (g k)) (nI i).toNatClampNeg (vp_nar .boolean (bI v)))) : va_E) = aB G N (va_up g i v) := by
    rw [nI_clamp (Nat.lt_trans hi hN)]
    have e : upd (fun k => bI (g k)) i (vp_nar .boolean (bI v)) = fun k => bI (va_up g i v k) := by
      funext j
      simp only [upd, va_up]
      split
      · cases v <;> rfl
      · rfl
    rw [e]
  rw [e] at h1 h2
  exact hP.set ha hq h1 h2
end VHEAP
/-- less is known of the locals -/
def vsub : List (Option Value) → List (Option Value) → Prop
  | [], _ => True
  | none :: l, _ :: l' => vsub l l'
  | some v :: l, w :: l' => w = some v ∧ vsub l l'
  | _ :: _, [] => False
theorem vsub_at : ∀ (l l' : List (Option Value)), vsub l l' → ∀ (i : Nat) (v : Value), l[i]? = some (some v) → l'[i]? = some (some v)
  | [], _, _, i, v, h => by simp at h
  | none :: l, w :: l', hs, i, v, h => by
    cases i with
    | zero => simp at h
    | succ i => simpa using vsub_at l l' hs i v (by simpa using h)
  | some u :: l, w :: l', hs, i, v, h => by
    obtain ⟨h1, h2⟩ := hs
    cases i with
    | zero => simp at h; subst h; simp [h1]
    | succ i => simpa using vsub_at l l' h2 i v (by simpa using h)
  | none :: l, [], hs, i, v, h => hs.elim
  | some u :: l, [], hs, i, v, h => hs.elim
section VHEAP2
variable {G : GT} {R : Room} {nL : Nat} {x : XT} {cc : ByteArray} {own : String} {L : List Nat} {f : Nat → va_E} {k n : Nat} {lv : List (Option Value)} {pc : Nat} {rest : List Value}
/-- raw: an int into an int array, by numbers -/
theorem nr_iast (hx : KX G nL x cc own) {a N : Nat} {h : Nat → Int32} {i : Nat} {v : Int32} (hd : decode cc pc = .ok (.iastore, 1)) (ha : a ∈ L) (hf : f a = .inl (G.2.2.1 0, N, .inl h)) (hi : i < N) (hN : N < 2 ^ 31) (kk : ∀ f' : Nat → va_E, f' = va_up f a (.inl (G.2.2.1 0, N, .inl (upd h i v))) → V G R nL x L f' k n lv (pc + 1) rest) : V G R nL x L f k n lv pc (.int v :: .int (nI i) :: .ref a :: rest) := n_iast hx hd ha hf hi hN (kk _ rfl)
theorem v_weak {lv lv' : List (Option Value)} {st : List Value} (h : vsub lv lv') (kk : V G R nL x L f k n lv pc st) : V G R nL x L f k n lv' pc st := fun H locs ls hP hS hl => kk H locs ls hP hS ⟨hl.1, hl.2.1, fun i v hi => hl.2.2 i v (vsub_at lv lv' h i v hi)⟩
theorem m_newa (hx : KX G nL x cc own) {N : Nat} (hd : decode cc pc = .ok (.newarray .int, 2)) (hN : N < 2 ^ 26) (hk : k + 1 ≤ R.cells) (hs : n + N ≤ R.slots) (kk : ∀ (q : Nat) (f' : Nat → va_E), q ∉ L → f' = va_up f q (aI G N (fun _ => 0)) → V G R nL x (L ++ [q]) f' (k + 1) (n + N) lv (pc + 2) (.ref q :: rest)) : V G R nL x L f k n lv pc (.int (nI N) :: rest) := v_newa hx ka_int hd hN hk hs (fun q hq => kk q _ hq rfl)
theorem m_new (hx : KX G nL x cc own) {C : String} {T : u_T} {N ci index : Nat} {ty : Nat → FieldType} (hC : CF ci C T N ty) {fs : List Value} (hfs : ∀ j, j < N → defaultValue (ty j) = vp_V fs j) (h1 : Cond.classLink own index C ∈ BIG) (h2 : Cond.instantiable C N ∈ BIG) (h3 : Cond.initialized C ∈ BIG) (hd : decode cc pc = .ok (.new index, 3)) (hk : k + 1 ≤ R.cells) (hs : n + N ≤ R.slots) (kk : ∀ (q : Nat) (f' : Nat → va_E), q ∉ L → f' = va_up f q (.inr (ci, fs)) → V G R nL x (L ++ [q]) f' (k + 1) (n + N) lv (pc + 3) (.ref q :: rest)) : V G R nL x L f k n lv pc rest := v_new hx hC hfs h1 h2 h3 hd hk hs (fun q hq => kk q _ hq rfl)
theorem v_ldcw (hx : KX G nL x cc own) {index : Nat} {v : Int32} (hw : Cond.constant own index v ∈ BIG) (hd : decode cc pc = .ok (.ldc_w index, 3)) (kk : V G R nL x L f k n lv (pc + 3) (.int v :: rest)) : V G R nL x L f k n lv pc rest := fun H locs ls hP hS hl => lv_ldcw hx.1 hx.2.1 hx.2.2.2.1 (hx.2.2.2.2.1 _ hw) hd (kk H locs ls hP hS hl)
theorem nn_copy (hx : KX G nL x cc own) {a0 a N0 N1 c index : Nat} {g0 g1 : Nat → Nat} (hlink : Cond.methodLink own index arraycopyName ∈ BIG) (hnat : Cond.native arraycopyName ∈ BIG) (hst : Cond.static arraycopyName ∈ BIG) (hini : Cond.initialized "java/lang/System" ∈ BIG) (hd : decode cc pc = .ok (.invokestatic index, 3)) (ha0 : a0 ∈ L) (hf0 : f a0 = aI G N0 g0) (ha : a ∈ L) (hf1 : f a = aI G N1 g1) (h0 : c ≤ N0) (h1 : c ≤ N1) (hN : N0 < 2 ^ 31) (hr : 1 ≤ R.frames) (hlo : (rest.map fun v => v.category).sum + (nativeFrameWords "java/lang/System" "arraycopy" 5 + 11) ≤ R.locals)
    (kk : ∀ f' : Nat → va_E, f' = va_up f a (aI G N1 (fun j => if j < c then g0 j else g1 j)) → V G R nL x L f' k n lv (pc + 3) rest) : V G R nL x L f k n lv pc (.int (nI c) :: .int (nI 0) :: .ref a :: .int (nI 0) :: .ref a0 :: rest) := by
  intro H locs ls hP hS hl
  obtain ⟨q0, hq0⟩ := gP.pos (G := G) (f := f) (H := H) ha0
  obtain ⟨q1, hq1⟩ := gP.pos (G := G) (f := f) (H := H) ha
  have hq0' := hq0
  have hq1' := hq1
  rw [hf0] at hq0'
  rw [hf1] at hq1'
  have ec : (nI c).toNatClampNeg = c := nI_clamp (by omega)
  have ez : (nI 0).toNatClampNeg = 0 := nI_clamp (by omega)
  refine va_copyi hx.1 hx.2.1 (hx.2.2.1.trans hl.1.symm) hx.2.2.2.1 (hx.2.2.2.2.1 _ hlink) (hx.2.2.2.2.1 _ hnat) (hx.2.2.2.2.1 _ hst) (hx.2.2.2.2.1 _ hini) hx.2.2.2.2.2.1.1 hP.1 hP.2 hS q0 q1 0 0 hq0' hq1' (ty := .int) rfl rfl rfl (nI_pos (by omega)) (nI_pos (by omega)) (nI_pos (by omega)) (by rw [ec, ez]; omega) (by rw [ec, ez]; omega) (fun _ _ => rfl) hr hlo hd (fun H1 locs1 p1 p2 p3 => kk _ rfl H1 locs1 ls ?_ p3 hl)
  have e : va_cpy (fun k => nI (g0 k)) (fun k => nI (g1 k)) (nI 0).toNatClampNeg (nI 0).toNatClampNeg (nI c).toNatClampNeg = fun j => nI (if j < c then g0 j else g1 j) := by
    funext j
    rw [ec, ez]
    simp only [va_cpy, Nat.zero_le, true_and, Nat.zero_add, Nat.sub_zero]
    split <;> rfl
  rw [e] at p1 p2
  exact hP.set ha hq1 p1 p2
end VHEAP2
theorem up_same (f : Nat → va_E) (a : Nat) : va_up f a (f a) = f := by
  funext j
  simp only [va_up]
  split
  · rename_i h; rw [h]
  · rfl
/-- the words that move along a run: nest links, casts, arrays over a class -/
def nwOK : Cond → Bool
  | .fieldLinkNest .. => true
  | .methodLinkNest .. => true
  | .castable .. => true
  | .declares .. => true
  | .arrayOver (.object _) => true
  | _ => false
theorem nw_moved {w : Cond} (h : nwOK w = true) {s U : State} (hW : s.WarmedH U.vm) (hz : va_Nw w s) : va_Nw w U := by
  unfold nwOK at h
  split at h
  · exact hz.warmF hW
  · exact hz.warmM hW
  · exact hz.warmC hW
  · exact hz.warmD hW
  · exact va_AO.moved hW.alike hz
  · cases h
theorem nw_same {w : Cond} (h : nwOK w = true) {u U : State} (e : u.vm = U.vm) (hz : va_Nw w u) : va_Nw w U := by
  unfold nwOK at h
  split at h
  · exact va_Nw.same rfl e hz
  · exact va_Nw.same rfl e hz
  · exact va_Nw.same rfl e hz
  · exact va_Nw.same rfl e hz
  · exact va_AO.moved (by rw [e]; exact Vm.Alike.refl _) hz
  · cases h
theorem NW_ok : ∀ w ∈ NW, nwOK w = true := by decide +kernel
theorem gK.moved {G : GT} {s U : State} (h : gK G s) (hW : s.WarmedH U.vm) : gK G U := ⟨va_K.moved hW.alike h.1, fun w hw => nw_moved (NW_ok w hw) hW (h.2 w hw)⟩
theorem gK.same {G : GT} {u U : State} (h : gK G u) (e : u.vm = U.vm) : gK G U := ⟨va_K.moved (by rw [e]; exact Vm.Alike.refl _) h.1, fun w hw => nw_same (NW_ok w hw) e (h.2 w hw)⟩
theorem cPre_blind {G : GT} {as : List Value} {L : List Nat} {f : Nat → va_E} : FrameBlind (cPre G as L f) := fun _ _ _ _ h => ⟨h.1, h.2.1, h.2.2.1, h.2.2.2.same rfl⟩
theorem big_good {y : MethodName} {b : ByteArray} {mL : Nat} {ret : Option FieldType} (h : Cond.code y b mL ret ∈ BIG) : GoodIn BIG (.code y b mL ret :: BIG) := fun w hw => by
  rcases List.mem_cons.mp hw with rfl | hw
  · exact BIG_ok _ h
  · exact BIG_ok _ hw
/-- what is known of a method that is called: its code, its class is initialised, how many parameters -/
def CY (y : MethodName) (b : ByteArray) (mL : Nat) (ret : Option FieldType) (np : Nat) : Prop := Cond.code y b mL ret ∈ BIG ∧ Cond.initialized y.cls ∈ BIG ∧ (y.cls ≠ "java/lang/invoke/MethodHandle" ∧ y.cls ≠ "java/lang/invoke/VarHandle" ∧ (parseMethodDescriptor y.desc).map (fun d => d.parameters.length) = some np)
section VCALL
variable {G : GT} {R : Room} {nL : Nat} {x : XT} {cc : ByteArray} {own : String} {L : List Nat} {f : Nat → va_E} {k n : Nat} {lv : List (Option Value)} {pc : Nat} {rest st0 : List Value}
theorem v_run {mc ms : Nat} {Post : Option Value → List Nat → (Nat → va_E) → Prop} {a : Array Value} (hr : ∀ (H : Heap) (locs : List Loc) (ls : Array Slot), gP G L f H → x.2.2.1.heap.size ≤ H.size → ls.size = nL → va_Run x.1 G.1 x.2.1 R x.2.2.1 x.2.2.2.1 x.2.2.2.2.1 x.2.2.2.2.2.1 x.2.2.2.2.2.2.1 x.2.2.2.2.2.2.2.1 H locs k n mc ms (F0 x.2.2.2.1 pc ls st0) rest (cPost G Post a) (gB G))
    (kk : ∀ (v : Option Value) (L' : List Nat) (f' : Nat → va_E), Post v L' f' → V G R nL x L' f' (k + mc) (n + ms) lv (pc + 3) (v.toList ++ rest)) : V G R nL x L f k n lv pc st0 := by
  intro H locs ls hP hS hl T hT X
  obtain ⟨v, st₀, t, T', L1, h0, X', hL, e1, e2, ⟨⟨v', L', f', hv, hp, hg⟩, hz, hk⟩, st⟩ := hr H locs ls hP hS.1 hl.1 T hT X
  cases hv
  rw [h0] at hz hk
  obtain ⟨t2, a1, b1⟩ := kk v L' f' hp T'.heap (locs ++ L1) ls (by rw [e1]; exact hg)
    ⟨Nat.le_trans hS.1 (by rw [e1]; exact hz), fun q h1 h2 => by rw [e1, hk q (Nat.lt_of_lt_of_le h1 hS.1) h2]; exact hS.2.1 q h1 h2, fun q hq => by
      rcases List.mem_append.mp hq with h | h
      · exact hS.2.2 q h
      · exact hL q h⟩ hl T' rfl X'
  exact ⟨t2, st t2 a1, b1⟩
theorem vx_pre (hx : KX G nL x cc own) {as : List Value} {H : Heap} (hP : gP G L f H) (hz : x.2.2.1.heap.size ≤ H.size) : PreS x.2.2.1 H (cPre G as L f) as := ⟨cPre_blind, fun U hU hW => ⟨rfl, by rw [hU]; exact Nat.le_trans hx.2.2.2.2.2.2.1 hz, by rw [hU]; exact hP, hx.2.2.2.2.2.1.moved hW⟩⟩
theorem vx_recv (hx : KX G nL x cc own) {b ci : Nat} {fs : List Value} {q : vw_C} {H : Heap} (hP : gP G L f H) (hb : b ∈ L) (hf : f b = .inr (ci, fs)) (hc : CL[ci]? = some q) : ∃ cell : Cell, H[b]? = some cell ∧ cell.vm.isStatics = false ∧ x.2.2.1.vm.findClass q.1 = some cell.cls := by
  obtain ⟨q0, hq⟩ := gP.pos (G := G) (f := f) (H := H) hb
  rw [hf] at hq
  exact va_recv hx.2.2.2.2.2.1.1 hP.1 hc hq
theorem v_callS (hx : KX G nL x cc own) {y : MethodName} {b : ByteArray} {mL np fr lo mc ms index : Nat} {ret : Option FieldType} {as : List Value} {Post : Option Value → List Nat → (Nat → va_E) → Prop} (hM : Con G y (.code y b mL ret :: BIG) fr lo mc ms as L f Post) (hY : CY y b mL ret np) (hlink : Cond.methodLink own index y ∈ BIG) (hst : Cond.static y ∈ BIG) (hd : decode cc pc = .ok (.invokestatic index, 3)) (hR : fr + 1 ≤ R.frames ∧ 8 + (mL + 11) + lo ≤ R.locals) (hf : k + mc ≤ R.cells ∧ n + ms ≤ R.slots) (hnp : as.length = np) (hstk : st0 = as.reverse ++ rest) (hro : (rest.map fun v => v.category).sum ≤ 8)
    (kk : ∀ (v : Option Value) (L' : List Nat) (f' : Nat → va_E), Post v L' f' → V G R nL x L' f' (k + mc) (n + ms) lv (pc + 3) (v.toList ++ rest)) : V G R nL x L f k n lv pc st0 :=
  v_run (fun H locs ls hP hz hs => va_runS (As := as) ⟨hx.1, hx.2.1, hx.2.2.1, hx.2.2.2.1, hx.2.2.2.2.1⟩ hM ⟨callB_of np hx.2.2.2.2.1 (big_good hY.1) rfl rfl rfl (hx.2.2.2.2.1 _ hY.2.1) (hx.2.2.2.2.1 _ hlink) hY.2.2 hR, hx.2.2.2.2.1 _ hst⟩ (vx_pre hx hP hz) rfl hnp hs hstk (lv_room hro) hd hf) kk
theorem v_callSN (hx : KX G nL x cc own) {y : MethodName} {b : ByteArray} {mL np fr lo mc ms index : Nat} {ret : Option FieldType} {host : String} {as : List Value} {Post : Option Value → List Nat → (Nat → va_E) → Prop} (hM : Con G y (.code y b mL ret :: BIG) fr lo mc ms as L f Post) (hY : CY y b mL ret np) (hlink : Cond.methodLinkNest own index y host ∈ NW) (hst : Cond.static y ∈ BIG) (hd : decode cc pc = .ok (.invokestatic index, 3)) (hR : fr + 1 ≤ R.frames ∧ 8 + (mL + 11) + lo ≤ R.locals) (hf : k + mc ≤ R.cells ∧ n + ms ≤ R.slots) (hnp : as.length = np) (hstk : st0 = as.reverse ++ rest) (hro : (rest.map fun v => v.category).sum ≤ 8)
    (kk : ∀ (v : Option Value) (L' : List Nat) (f' : Nat → va_E), Post v L' f' → V G R nL x L' f' (k + mc) (n + ms) lv (pc + 3) (v.toList ++ rest)) : V G R nL x L f k n lv pc st0 :=
  v_run (fun H locs ls hP hz hs => va_runSN (As := as) ⟨hx.1, hx.2.1, hx.2.2.1, hx.2.2.2.1, hx.2.2.2.2.1⟩ hM ⟨va_cnB np hx.2.2.2.2.1 (big_good hY.1) rfl rfl rfl (hx.2.2.2.2.2.1.2 _ hlink) (hx.2.2.2.2.1 _ hY.2.1) hY.2.2 hR, hx.2.2.2.2.1 _ hst, trivial⟩ (vx_pre hx hP hz) rfl hnp hs hstk (lv_room hro) hd hf) kk
theorem v_callV (hx : KX G nL x cc own) {y : MethodName} {b : ByteArray} {mL np fr lo mc ms index o ci : Nat} {ret : Option FieldType} {as fs : List Value} {q : vw_C} {Post : Option Value → List Nat → (Nat → va_E) → Prop} (hM : Con G y (.code y b mL ret :: BIG) fr lo mc ms (.ref o :: as) L f Post) (hY : CY y b mL ret np) (hlink : Cond.methodLink own index y ∈ BIG) (hin : Cond.instanceMethod y ∈ BIG) (hsel : Cond.selects q.1 y y ∈ BIG) (hd : decode cc pc = .ok (.invokevirtual index, 3)) (hR : fr + 1 ≤ R.frames ∧ 8 + (mL + 11) + lo ≤ R.locals) (hc : CL[ci]? = some q) (ho : o ∈ L) (hfo : f o = .inr (ci, fs)) (hf : k + mc ≤ R.cells ∧ n + ms ≤ R.slots) (hnp : as.length = np) (hstk : st0 = as.reverse ++ .ref o :: rest) (hro : (rest.map fun v => v.category).sum ≤ 8)
    (kk : ∀ (v : Option Value) (L' : List Nat) (f' : Nat → va_E), Post v L' f' → V G R nL x L' f' (k + mc) (n + ms) lv (pc + 3) (v.toList ++ rest)) : V G R nL x L f k n lv pc st0 :=
  v_run (fun H locs ls hP hz hs => va_runV (As := as) ⟨hx.1, hx.2.1, hx.2.2.1, hx.2.2.2.1, hx.2.2.2.2.1⟩ hM ⟨callB_of np hx.2.2.2.2.1 (big_good hY.1) rfl rfl rfl (hx.2.2.2.2.1 _ hY.2.1) (hx.2.2.2.2.1 _ hlink) hY.2.2 hR, hx.2.2.2.2.1 _ hin, hx.2.2.2.2.1 _ hsel⟩ ⟨(vx_pre hx hP hz).1, vx_recv hx hP ho hfo hc, (vx_pre hx hP hz).2⟩ rfl hnp hs hstk (lv_room hro) hd hf) kk
theorem v_callVN (hx : KX G nL x cc own) {y : MethodName} {b : ByteArray} {mL np fr lo mc ms index o ci : Nat} {ret : Option FieldType} {host : String} {as fs : List Value} {q : vw_C} {Post : Option Value → List Nat → (Nat → va_E) → Prop} (hM : Con G y (.code y b mL ret :: BIG) fr lo mc ms (.ref o :: as) L f Post) (hY : CY y b mL ret np) (hlink : Cond.methodLinkNest own index y host ∈ NW) (hin : Cond.instanceMethod y ∈ BIG) (hsel : Cond.selects q.1 y y ∈ BIG) (hd : decode cc pc = .ok (.invokevirtual index, 3)) (hR : fr + 1 ≤ R.frames ∧ 8 + (mL + 11) + lo ≤ R.locals) (hc : CL[ci]? = some q) (ho : o ∈ L) (hfo : f o = .inr (ci, fs)) (hf : k + mc ≤ R.cells ∧ n + ms ≤ R.slots) (hnp : as.length = np) (hstk : st0 = as.reverse ++ .ref o :: rest) (hro : (rest.map fun v => v.category).sum ≤ 8)
    (kk : ∀ (v : Option Value) (L' : List Nat) (f' : Nat → va_E), Post v L' f' → V G R nL x L' f' (k + mc) (n + ms) lv (pc + 3) (v.toList ++ rest)) : V G R nL x L f k n lv pc st0 :=
  v_run (fun H locs ls hP hz hs => va_runVN (As := as) ⟨hx.1, hx.2.1, hx.2.2.1, hx.2.2.2.1, hx.2.2.2.2.1⟩ hM ⟨va_cnB np hx.2.2.2.2.1 (big_good hY.1) rfl rfl rfl (hx.2.2.2.2.2.1.2 _ hlink) (hx.2.2.2.2.1 _ hY.2.1) hY.2.2 hR, hx.2.2.2.2.1 _ hin, hx.2.2.2.2.1 _ hsel⟩ ⟨(vx_pre hx hP hz).1, vx_recv hx hP ho hfo hc, (vx_pre hx hP hz).2⟩ rfl hnp hs hstk (lv_room hro) hd hf) kk
theorem v_callI (hx : KX G nL x cc own) {y : MethodName} {b : ByteArray} {mL np fr lo mc ms index o : Nat} {as : List Value} {Post : Option Value → List Nat → (Nat → va_E) → Prop} (hM : Con G y (.code y b mL none :: BIG) fr lo mc ms (.ref o :: as) L f Post) (hY : CY y b mL none np) (hlink : Cond.methodLink own index y ∈ BIG) (hin : Cond.instanceMethod y ∈ BIG) (hy1 : y.name = "<init>") (hd : decode cc pc = .ok (.invokespecial index, 3)) (hR : fr + 1 ≤ R.frames ∧ 8 + (mL + 11) + lo ≤ R.locals) (hf : k + mc ≤ R.cells ∧ n + ms ≤ R.slots) (hnp : as.length = np) (hstk : st0 = as.reverse ++ .ref o :: rest) (hro : (rest.map fun v => v.category).sum ≤ 8)
    (kk : ∀ (v : Option Value) (L' : List Nat) (f' : Nat → va_E), Post v L' f' → V G R nL x L' f' (k + mc) (n + ms) lv (pc + 3) (v.toList ++ rest)) : V G R nL x L f k n lv pc st0 :=
  v_run (fun H locs ls hP hz hs => va_runI (As := as) ⟨hx.1, hx.2.1, hx.2.2.1, hx.2.2.2.1, hx.2.2.2.2.1⟩ hM ⟨callB_of np hx.2.2.2.2.1 (big_good hY.1) rfl rfl rfl (hx.2.2.2.2.1 _ hY.2.1) (hx.2.2.2.2.1 _ hlink) hY.2.2 hR, hy1, hx.2.2.2.2.1 _ hin⟩ (vx_pre hx hP hz) rfl hnp hs hstk (lv_room hro) hd hf) kk
theorem v_callIN (hx : KX G nL x cc own) {y : MethodName} {b : ByteArray} {mL np fr lo mc ms index o : Nat} {host : String} {as : List Value} {Post : Option Value → List Nat → (Nat → va_E) → Prop} (hM : Con G y (.code y b mL none :: BIG) fr lo mc ms (.ref o :: as) L f Post) (hY : CY y b mL none np) (hlink : Cond.methodLinkNest own index y host ∈ NW) (hin : Cond.instanceMethod y ∈ BIG) (hy1 : y.name = "<init>") (hd : decode cc pc = .ok (.invokespecial index, 3)) (hR : fr + 1 ≤ R.frames ∧ 8 + (mL + 11) + lo ≤ R.locals) (hf : k + mc ≤ R.cells ∧ n + ms ≤ R.slots) (hnp : as.length = np) (hstk : st0 = as.reverse ++ .ref o :: rest) (hro : (rest.map fun v => v.category).sum ≤ 8)
    (kk : ∀ (v : Option Value) (L' : List Nat) (f' : Nat → va_E), Post v L' f' → V G R nL x L' f' (k + mc) (n + ms) lv (pc + 3) (v.toList ++ rest)) : V G R nL x L f k n lv pc st0 :=
  v_run (fun H locs ls hP hz hs => va_runIN (As := as) ⟨hx.1, hx.2.1, hx.2.2.1, hx.2.2.2.1, hx.2.2.2.2.1⟩ hM ⟨va_cnB np hx.2.2.2.2.1 (big_good hY.1) rfl rfl rfl (hx.2.2.2.2.2.1.2 _ hlink) (hx.2.2.2.2.1 _ hY.2.1) hY.2.2 hR, hy1, hx.2.2.2.2.1 _ hin⟩ (vx_pre hx hP hz) rfl hnp hs hstk (lv_room hro) hd hf) kk
/-- Object's constructor -/
theorem v_objInit (hx : KX G nL x cc own) {o index : Nat} (h1 : Cond.methodLink own index objectInit ∈ BIG) (h2 : Cond.instanceMethod objectInit ∈ BIG) (h3 : Cond.code objectInit ⟨#[0xb1]⟩ 1 none ∈ BIG) (hd : decode cc pc = .ok (.invokespecial index, 3)) (hR : 1 ≤ R.frames ∧ 12 ≤ R.locals) (kk : V G R nL x L f k n lv (pc + 3) []) : V G R nL x L f k n lv pc [.ref o] := by
  intro H locs ls hP hS hl
  exact W.objInit hx.1 hx.2.1 hx.2.2.2.1 (hx.2.2.2.2.1 _ h1) (hx.2.2.2.2.1 _ h2) (hx.2.2.2.2.1 _ h3) rfl (by rw [hx.2.2.1]; exact hl.1) rfl hd hR.1 hR.2 (kk H locs ls hP hS hl)
theorem v_iret (hx : KX G nL x cc own) {Post : Option Value → List Nat → (Nat → va_E) → Prop} {v : Int32} (hr : RX G x Post k n (some .int)) (hd : decode cc pc = .ok (.ireturn, 1)) (hp : Post (some (.int v)) L f) : V G R nL x L f k n lv pc [.int v] := by
  intro H locs ls hP hS hl
  rw [hr.1]
  exact W.iret hx.1 hx.2.1 hr.2 (fun t ht _ => ⟨⟨some (.int v), L, f, rfl, hp, by rw [ht]; exact hP⟩, hS.F ht⟩) hS.2.2 hd hx.2.2.2.2.2.2.2
theorem v_zret (hx : KX G nL x cc own) {Post : Option Value → List Nat → (Nat → va_E) → Prop} {v : Int32} (hr : RX G x Post k n (some .boolean)) (hd : decode cc pc = .ok (.ireturn, 1)) (hv : narrow .boolean (.int v) = .int v) (hp : Post (some (.int v)) L f) : V G R nL x L f k n lv pc [.int v] := by
  intro H locs ls hP hS hl
  rw [hr.1]
  exact W.zret hx.1 hx.2.1 hr.2 hv (fun t ht _ => ⟨⟨some (.int v), L, f, rfl, hp, by rw [ht]; exact hP⟩, hS.F ht⟩) hS.2.2 hd hx.2.2.2.2.2.2.2
theorem v_vret (hx : KX G nL x cc own) {Post : Option Value → List Nat → (Nat → va_E) → Prop} (hr : RX G x Post k n none) (hd : decode cc pc = .ok (.return_, 1)) (hp : Post none L f) : V G R nL x L f k n lv pc [] := by
  intro H locs ls hP hS hl
  rw [hr.1]
  exact W.vret hx.1 hx.2.1 hr.2 (fun t ht _ => ⟨⟨none, L, f, rfl, hp, by rw [ht]; exact hP⟩, hS.F ht⟩) hS.2.2 hd hx.2.2.2.2.2.2.2
theorem v_aret (hx : KX G nL x cc own) {Post : Option Value → List Nat → (Nat → va_E) → Prop} {v : Value} {rt : FieldType} (hr : RX G x Post k n (some rt)) (hrt : (∃ n, rt = .object n) ∨ ∃ t, rt = .array t) (hv : v = .null ∨ ∃ a, v = .ref a) (hd : decode cc pc = .ok (.areturn, 1)) (hp : Post (some v) L f) : V G R nL x L f k n lv pc [v] := by
  intro H locs ls hP hS hl
  rw [hr.1]
  exact W.aret hx.1 hx.2.1 hr.2 hrt hv (fun t ht _ => ⟨⟨some v, L, f, rfl, hp, by rw [ht]; exact hP⟩, hS.F ht⟩) hS.2.2 hd hx.2.2.2.2.2.2.2
end VCALL
theorem lv_args_at : ∀ (as : List Value) (o i : Nat) (v : Value), (∀ w ∈ as, w.category = 1) → as[i]? = some v → (o + i, v) ∈ lv_args o as
  | [], _, _, _, _, h => by simp at h
  | a :: as, o, i, v, hc, h => by
    have ha : ¬ a.category = 2 := by rw [hc a List.mem_cons_self]; decide
    simp only [lv_args, if_neg ha]
    cases i with
    | zero => simp at h; subst h; exact List.mem_cons_self
    | succ i =>
      have h2 : as[i]? = some v := by simpa using h
      have := lv_args_at as (o + 1) i v (fun w hw => hc w (List.mem_cons_of_mem _ hw)) h2
      rw [show o + (i + 1) = o + 1 + i by omega]
      exact List.mem_cons_of_mem _ this
def lvE (as : List Value) (nL : Nat) : List (Option Value) := as.map some ++ List.replicate (nL - as.length) none
theorem lvE_has {as : List Value} {nL : Nat} (hc : ∀ w ∈ as, w.category = 1) (h : (lg_sl as).length ≤ nL) : vl_has ((lg_sl as ++ List.replicate (nL - (lg_sl as).length) Slot.unset).toArray) nL (lvE as nL) := by
  have hl := lv_entry as h
  refine ⟨hl.1, hl.2.1, fun i v hi => ?_⟩
  have hi2 : as[i]? = some v := by
    unfold lvE at hi
    rw [List.getElem?_append] at hi
    split at hi
    · rename_i h1
      rw [List.getElem?_map] at hi
      cases h2 : as[i]? with
      | none => rw [h2] at hi; cases hi
      | some w => rw [h2] at hi; simp at hi; rw [hi]
    · rw [List.getElem?_replicate] at hi
      split at hi <;> cases hi
  refine ⟨hc v (List.mem_of_getElem? hi2), ?_⟩
  have := hl.2.2 (0 + i, v) (lv_args_at as 0 i v hc hi2)
  rw [Nat.zero_add] at this
  exact this
/-- a contract by a walk from the entry -/
theorem con_of {G : GT} {y : MethodName} {fr lo mc ms mL : Nat} {as : List Value} {L : List Nat} {f : Nat → va_E} {Post : Option Value → List Nat → (Nat → va_E) → Prop} {cc : ByteArray} {ret : Option FieldType} {lv : List (Option Value)} (hy : plainName y.cls = true) (hc : ∀ w ∈ as, w.category = 1) (h : (lg_sl as).length ≤ mL) (hlv : lvE as mL = lv)
    (body : ∀ x : XT, KX G mL x cc y.cls → RX G x Post mc ms ret → x.2.2.2.2.2.2.1.name = y.name → V G { frames := fr, cells := mc, slots := ms, locals := lo } mL x L f 0 0 lv 0 []) : Con G y (.code y cc mL ret :: BIG) fr lo mc ms as L f Post := by
  refine Met.ofW (cc := cc) (maxL := mL) (ret := ret) hy rfl ?_
  intro p e s m args below meth c s₁ B hml hv
  obtain ⟨rfl, hbase, hP, hK⟩ := hv
  have hts := atoms_spec (ws := .code y cc mL ret :: BIG) B.pre
  have hown : s.vm.findClass y.cls = some m.cls := findClass_of_methodNamed B.named
  have hV := body (p, e, s, m, as.toArray, below, meth, c, MQ below (cPost G Post) as.toArray s mc ms (gB G)) ⟨B.exec, B.bytes, hml, hown, fun w h => hts w (List.mem_cons_of_mem _ h), hK, hbase, B.notSynchronized⟩ ⟨rfl, B.returns⟩ (name_of_methodNamed B.named B.method).1
  subst hlv
  rw [lg_entry_eq]
  exact hV s.heap [] _ hP va_S.rf (lvE_has hc h)
