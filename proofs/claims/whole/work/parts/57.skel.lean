/-! THE CLAIM OUT OF ONE WALK OF THE LAW'S BODY. Your part is whole_start (and what it stands on); all else here is the same for every law, but numbers. -/
def R_law : String := "MachineTablesLaw"
def lw_P (b : Addr) (xs : List Int32) (args : Array Value) (s : State) : Prop := args = #[.ref b] ∧ s.IntsAt b xs ∧ xs.length ≤ 3072 ∧ (Jvm.Cond.and given_1 narrow_1).before args s = true
def lw_Q (_ : Array Value) (s : State) (o : Outcome) (t : State) : Prop := o = .returned (some (.int 1)) ∧ Framed s o t [] 601024 7293034
def lw_Z (below : List Frame) (a : Array Value) (s : State) : State → Prop := fun t => ∃ o, t.status = .running ∧ Ended t below o ∧ lw_Q a s o t
/-- the law's own end, with 1 on the stack, nothing written that was there before, its room as the claim has it -/
theorem lw_ret {p : Program} {l : Launch} {e : Env} {s : State} {m : MethodId} {below : List Frame} {meth : Method} {c : Code} {b : Nat} (hx : p.tables.exec = Jvm.exec) (hb : c.code = code) (hr : meth.sig.returnType = ret) (hlocks : meth.locks = false) {pc : Nat} {H : Heap} {ls : Array Slot} (hdg : decode code pc = .ok (.ireturn, 1)) : W p l e room_1 s m #[Value.ref b] below meth c H [] 601024 7293034 (lw_Z below #[Value.ref b] s) (F0 m pc ls [.int 1]) := by
  intro T hT X
  obtain ⟨fs, hret, hrun, hended, hW, hframe⟩ := X.leave (v := some (.int 1)) (hlocks := hlocks) (fun h => by rw [hr] at h; cases h)
  have hmeth' : T.vm.method? m = some meth := X.method'
  refine ⟨T.setFrames fs, ?_, .returned (some (.int 1)), hrun, hended, rfl, ⟨_, rfl⟩, hW, hframe⟩
  jvm_step X.here [X.here.top, hx, hb, hdg, hmeth', hr, ret, narrow_b1]
  (try refine ⟨rfl, ?_⟩); (try refine ⟨rfl, ?_⟩)
  first | (intro acts; rw [hret _ acts rfl rfl rfl]) | rw [hret _ _ rfl rfl rfl]
  exact Steps.refl _
/-- what holds at the law's entry: the machine, the code, the tables' words (any of lw_tbl by 'hts w (by decide +kernel)'), the script of L ints xs at the cell b, what the Statement gives of the start (any of its parts by flat_of_before) -/
def lw_At (p : Program) (s : State) (m : MethodId) (meth : Method) (c : Code) (b L : Nat) (xs : Nat → Int32) : Prop :=
  p.tables.exec = Jvm.exec ∧ c.code = code ∧ meth.sig.returnType = ret ∧ c.maxLocals = 7 ∧ s.vm.findClass R_law = some m.cls ∧ (∀ w ∈ lw_tbl, w.before #[Value.ref b] s = true) ∧ va_X b L xs s s.heap ∧ b < s.heap.size ∧ meth.locks = false ∧ (Jvm.Cond.and given_1 narrow_1).before #[Value.ref b] s = true
/-! ===== what holds between two calls of the law ===== -/
theorem MoS.op {G : GT} {L : List Nat} {f : Nat → va_E} {w B : Nat → Nat} {th : Nat} {τ : SG} (h : MoS G L f w B th τ) : ∃ (mc : Nat) (sa ka nx ou : Nat → Nat) (wl : Nat) (wd : Nat → Nat) (ap : Nat → Bool) (fo : Nat) (se : Nat → Nat) (fr : Nat → Option Nat) (by_ : Nat → Nat) (is : Nat → Bool) (tr : Nat) (my ss : Nat → Nat) (tf : Nat → Option Nat) (tb : Nat → Nat), τ = pic mc sa ka nx ou wl wd ∧ okG (pic mc sa ka nx ou wl wd) ∧ MoAt G L f w 100 B th mc sa ka nx ou wl wd ap fo se fr by_ is tr my ss tf tb := by
  obtain ⟨c, n, k, x, o, l, d⟩ := τ
  obtain ⟨h1, nx, ou, ap, fo, se, fr, by_, is, tr, my, ss, tf, tb, h2, h3, h4⟩ := h
  have h3 : x = fun m t => nx (160 * m + t) := h3
  have h4 : o = fun m t => ou (160 * m + t) := h4
  subst h3
  subst h4
  exact ⟨c, n, k, nx, ou, l, d, ap, fo, se, fr, by_, is, tr, my, ss, tf, tb, rfl, h1, h2⟩
/-- the class's tables, the reference's, alike; the cell for answers -/
def LI (G : GT) (L : List Nat) (f : Nat → va_E) (w A B : Nat → Nat) (oa : Nat) (σ τ : SG) : Prop := SysS G L f w A σ ∧ (∃ th, MoS G L f w B th τ) ∧ Rel σ τ ∧ oa ∈ L ∧ w oa = 101 ∧ ∃ h, f oa = aL G h
theorem and15 (z : Int32) : ∃ d, d ≤ 15 ∧ z &&& nI 15 = nI d := by
  refine ⟨(z &&& nI 15).toBitVec.toNat, ?_, ?_⟩
  · rw [Int32.toBitVec_and, BitVec.toNat_and]
    exact Nat.and_le_right
  · apply Int32.toBitVec_inj.mp
    show (z &&& nI 15).toBitVec = (Int32.ofNat (z &&& nI 15).toBitVec.toNat).toBitVec
    rw [Int32.toBitVec_ofNat']
    simp
theorem le6 {i n : Nat} (hi : i < 2 ^ 30) (hn : n < 2 ^ 30) (h : ¬ nI n - nI 6 < nI i) : i + 6 ≤ n := by
  rcases Nat.lt_or_ge n 6 with c | c
  · exfalso
    apply h
    have e : ∀ n, n < 6 → nI n - nI 6 < 0 := by decide
    refine Int32.lt_of_lt_of_le (e n c) ?_
    rw [Int32.le_iff_toInt_le, nI_toInt (by omega)]
    show (0 : Int) ≤ _
    omega
  · rw [pk_sub c] at h
    have h9 : ¬ (nI (n - 6)).toInt < (nI i).toInt := fun q => h (Int32.lt_iff_toInt_lt.mpr q)
    rw [nI_toInt (by omega), nI_toInt (by omega)] at h9
    omega
theorem lg_same (a : Int64) : lg_cmp a a = 0 := by
  unfold lg_cmp
  rw [if_neg (show ¬ a > a from Int64.lt_irrefl), if_pos rfl]
