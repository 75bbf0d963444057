theorem gk_prim {A : Array Value} {s : State} {ty : FieldType} (h : (Cond.arrayClass ty).before A s = true) : ∃ cA : ClassId, ArrOfT s cA ty ∧ s.vm.findClass ("[" ++ ty.toString) = some cA := by
  obtain ⟨c, k, comp, h1, h2, h3⟩ := Cond.arrayClass_spec h
  exact ⟨c, fun n z => ⟨fun k h => (by cases h), k, h2, comp, h3⟩, h1⟩
theorem gk_obj {A : Array Value} {s : State} {C : String} (h : (Cond.arrayOver (.object C)).before A s = true) : ∃ cA : ClassId, ArrOfT s cA (.object C) ∧ va_RA s cA (.object C) := by
  obtain ⟨comp, c, k, h1, -, h2, h3, h4⟩ := Cond.arrayOver_spec h
  exact ⟨c, fun n z => ⟨fun k h => (by cases h), k, h2, comp, h3⟩, k, comp, h2, h3, h1, h4⟩
theorem sw_one {A : Array Value} {s : State} {cM : ClassId} (hM : s.vm.findClass "MachineTables" = some cM) {k : Nat} {t : String} (h : (Cond.stringRef "MachineTables" k t).before A s = true) : ∃ q, vk_R "MachineTables" k t q s := by
  obtain ⟨-, -, -, a, -, -, -, -, -, hev⟩ := Cond.stringRef_spec hM h
  exact ⟨a, vk_R.of h hev⟩
set_option maxHeartbeats 4000000 in
set_option maxRecDepth 100000 in
/-- THE LAW, from its entry -/
theorem whole_start {p : Program} {e : Env} {s : State} {m : MethodId} {below : List Frame} {meth : Method} {c : Code} (l : Launch) (hoff : l.stackTraces = false) {b L : Nat} {xs : Nat → Int32} (hL : L ≤ 3072) (C0 : lw_At p s m meth c b L xs) : W p l e room_1 s m #[Value.ref b] below meth c s.heap [] 0 0 (lw_Z below #[Value.ref b] s) (entryFrame m ([Value.ref b] : List Value).toArray 7) := by
  obtain ⟨hx, hb, hr, hml, hown, hts, hX, hbl, hlocks, hgv⟩ := id C0
  have hB : ∀ w ∈ BIG, w.before #[Value.ref b] s = true := fun w h => hts w (BIG_tbl w h)
  obtain ⟨c0, i0, k0⟩ := u_known (C := R_Fa) (T := T_Fa) (N := 4) (n := 4) hB uw_Fa (hB _ kt_Fa)
  obtain ⟨c1, i1, k1⟩ := u_known (C := R_Ma) (T := T_Ma) (N := 7) (n := 7) hB uw_Ma (hB _ kt_Ma)
  obtain ⟨c2, i2, k2⟩ := u_known (C := R_Se) (T := T_Se) (N := 4) (n := 4) hB uw_Se (hB _ kt_Se)
  obtain ⟨c3, i3, k3⟩ := u_known (C := R_MT) (T := T_MT) (N := 5) (n := 5) hB uw_MT (hB _ kt_MT)
  obtain ⟨c4, i4, k4⟩ := u_known (C := R_Mo) (T := T_Mo) (N := 19) (n := 19) hB uw_Mo (hB _ kt_Mo)
  obtain ⟨c5, i5, k5⟩ := u_known (C := R_XI) (T := T_XI) (N := 6) (n := 6) hB uw_XI (hB _ kt_XI)
  obtain ⟨c6, i6, k6⟩ := u_known (C := R_XA) (T := T_XA) (N := 6) (n := 6) hB uw_XA (hB _ kt_XA)
  obtain ⟨c7, i7, k7⟩ := u_known (C := R_XN) (T := T_XN) (N := 6) (n := 6) hB uw_XN (hB _ kt_XN)
  have hNW : ∀ w ∈ NW, va_Nw w s := NW_at hts
  obtain ⟨a0, r0, f0⟩ := gk_prim (hB _ ka_int)
  obtain ⟨a1, r1, f1⟩ := gk_prim (hB _ ka_boolean)
  obtain ⟨a2, r2, f2⟩ := gk_obj (C := "MachineTables$Machine") (A := #[]) (hNW _ List.mem_cons_self)
  obtain ⟨a3, r3, f3⟩ := gk_prim (hB _ ka_long)
  obtain ⟨dC, dI, hKc⟩ : ∃ (dC : Nat → ClassId) (dI : Nat → Nat → Nat), ∀ (k : Nat) (q : vw_C), CL[k]? = some q → u_Kn s q.1 q.2.1 q.2.2 (dC k) (dI k) := by
    refine ⟨fun k => [c0, c1, c2, c3, c4, c5, c6, c7].getD k c0, fun k => [i0, i1, i2, i3, i4, i5, i6, i7].getD k i0, ?_⟩
    intro k q hq
    match k, hq with
    | 0, hq => cases hq; exact k0
    | 1, hq => cases hq; exact k1
    | 2, hq => cases hq; exact k2
    | 3, hq => cases hq; exact k3
    | 4, hq => cases hq; exact k4
    | 5, hq => cases hq; exact k5
    | 6, hq => cases hq; exact k6
    | 7, hq => cases hq; exact k7
    | k + 8, hq => simp [CL] at hq
  obtain ⟨g, hKa⟩ : ∃ g : Nat → ClassId, ∀ (k : Nat) (q : ClassId × FieldType), (TY g)[k]? = some q → ArrOfT s q.1 q.2 ∧ va_RA s q.1 q.2 := by
    refine ⟨fun k => [a0, a1, a2, a3].getD k a0, ?_⟩
    intro k q hq
    match k, hq with
    | 0, hq => cases hq; exact ⟨r0, f0⟩
    | 1, hq => cases hq; exact ⟨r1, f1⟩
    | 2, hq => cases hq; exact ⟨r2, f2⟩
    | 3, hq => cases hq; exact ⟨r3, f3⟩
    | k + 4, hq => simp [TY] at hq
  have hMT : s.vm.findClass "MachineTables" = some c3 := k3.2.1
  have hTX : TXb (l, (dC, dI), g, s.heap.size) s := ⟨s, xw_ok hts hgv, fun z hz => by
    simp only [SW, List.mem_cons, List.not_mem_nil, or_false] at hz
    rcases hz with rfl | rfl | rfl | rfl | rfl
    · exact sw_one hMT (hts _ sw_0)
    · exact sw_one hMT (hts _ sw_1)
    · exact sw_one hMT (hts _ sw_2)
    · exact sw_one hMT (hts _ sw_3)
    · exact sw_one hMT (hts _ sw_4), State.WarmedH.refl s, Nat.le_refl _, fun _ _ => rfl⟩
  have hKX : KX (l, (dC, dI), g, s.heap.size) 7 (p, e, s, m, #[Value.ref b], below, meth, c, lw_Z below #[Value.ref b] s) b_La_law "MachineTablesLaw" := ⟨hx, hb, hml, hown, hB, ⟨⟨hKc, hKa⟩, hNW⟩, Nat.le_refl _, hlocks⟩
  have hV := la_entry (G := (l, (dC, dI), g, s.heap.size)) hKX hTX hoff hX hbl hL (fun L f k n lv h1 h2 => by
    refine v_iconst (v := 1) hKX d_La_law_794 rfl ?_
    intro H locs ls hP hS hl
    exact va_forget (fun q hq => hS.2.2 q hq) (W.widen h1 h2 (lw_ret hx hb hr hlocks d_La_law_795)))
  rw [lg_entry_eq]
  exact hV s.heap [] _ ⟨fun k q h => by simp [va_pl] at h, fun i j p q h => by simp [va_pl] at h, fun k q h => by simp [va_pl] at h⟩ va_S.rf (lvE_has (as := [Value.ref b]) (nL := 7) (by intro w hw; simp at hw; subst hw; rfl) (by first | exact Nat.le_of_ble_eq_true rfl | decide))
