/-! ===== what each call answers and does, over one picture of the tables (machines, the word told) ===== -/
/-- how many machines; states, inputs, next, output of each (arrow s, i at s * 4 + i); the word's length and inputs -/
abbrev SG : Type := Nat × (Nat → Nat) × (Nat → Nat) × (Nat → Nat → Nat) × (Nat → Nat → Nat) × Nat × (Nat → Nat)
abbrev gc (σ : SG) : Nat := σ.1
abbrev gn (σ : SG) : Nat → Nat := σ.2.1
abbrev gk (σ : SG) : Nat → Nat := σ.2.2.1
abbrev gx (σ : SG) : Nat → Nat → Nat := σ.2.2.2.1
abbrev go (σ : SG) : Nat → Nat → Nat := σ.2.2.2.2.1
abbrev gl (σ : SG) : Nat := σ.2.2.2.2.2.1
abbrev gd (σ : SG) : Nat → Nat := σ.2.2.2.2.2.2
/-- machine a of one is machine b of the other -/
def relM (n1 k1 : Nat) (x1 o1 : Nat → Nat) (n2 k2 : Nat) (x2 o2 : Nat → Nat) : Prop := n1 = n2 ∧ k1 = k2 ∧ ∀ s i, s < n1 → i < k1 → x1 (s * 4 + i) = x2 (s * 4 + i) ∧ o1 (s * 4 + i) = o2 (s * 4 + i)
def relT (σ τ : SG) : Prop := gc σ = gc τ ∧ ∀ j, j < gc σ → relM (gn σ j) (gk σ j) (gx σ j) (go σ j) (gn τ j) (gk τ j) (gx τ j) (go τ j)
def relW (σ τ : SG) : Prop := gl σ = gl τ ∧ ∀ j, j < gl σ → gd σ j = gd τ j
def Rel (σ τ : SG) : Prop := relT σ τ ∧ relW σ τ
theorem relM.rf {n k : Nat} {x o : Nat → Nat} : relM n k x o n k x o := ⟨rfl, rfl, fun _ _ _ _ => ⟨rfl, rfl⟩⟩
theorem relM.sym {n1 k1 n2 k2 : Nat} {x1 o1 x2 o2 : Nat → Nat} (h : relM n1 k1 x1 o1 n2 k2 x2 o2) : relM n2 k2 x2 o2 n1 k1 x1 o1 := by
  obtain ⟨rfl, rfl, h3⟩ := h
  exact ⟨rfl, rfl, fun s i hs hi => ⟨(h3 s i hs hi).1.symm, (h3 s i hs hi).2.symm⟩⟩
theorem relM.tr {n1 k1 n2 k2 n3 k3 : Nat} {x1 o1 x2 o2 x3 o3 : Nat → Nat} (h : relM n1 k1 x1 o1 n2 k2 x2 o2) (h2 : relM n2 k2 x2 o2 n3 k3 x3 o3) : relM n1 k1 x1 o1 n3 k3 x3 o3 := by
  obtain ⟨rfl, rfl, h3⟩ := h
  obtain ⟨rfl, rfl, h4⟩ := h2
  exact ⟨rfl, rfl, fun s i hs hi => ⟨(h3 s i hs hi).1.trans (h4 s i hs hi).1, (h3 s i hs hi).2.trans (h4 s i hs hi).2⟩⟩
theorem relT.rf (σ : SG) : relT σ σ := ⟨rfl, fun _ _ => relM.rf⟩
theorem relT.sym {σ τ : SG} (h : relT σ τ) : relT τ σ := ⟨h.1.symm, fun j hj => (h.2 j (by rw [h.1]; exact hj)).sym⟩
theorem relT.tr {σ τ υ : SG} (h : relT σ τ) (h2 : relT τ υ) : relT σ υ := ⟨h.1.trans h2.1, fun j hj => (h.2 j hj).tr (h2.2 j (by rw [← h.1]; exact hj))⟩
theorem relW.rf (σ : SG) : relW σ σ := ⟨rfl, fun _ _ => rfl⟩
theorem relW.sym {σ τ : SG} (h : relW σ τ) : relW τ σ := ⟨h.1.symm, fun j hj => (h.2 j (by rw [h.1]; exact hj)).symm⟩
theorem relW.tr {σ τ υ : SG} (h : relW σ τ) (h2 : relW τ υ) : relW σ υ := ⟨h.1.trans h2.1, fun j hj => (h.2 j hj).trans (h2.2 j (by rw [← h.1]; exact hj))⟩
theorem Rel.rf (σ : SG) : Rel σ σ := ⟨relT.rf σ, relW.rf σ⟩
theorem Rel.sym {σ τ : SG} (h : Rel σ τ) : Rel τ σ := ⟨h.1.sym, h.2.sym⟩
theorem Rel.tr {σ τ υ : SG} (h : Rel σ τ) (h2 : Rel τ υ) : Rel σ υ := ⟨h.1.tr h2.1, h.2.tr h2.2⟩
/-- all machines are such as the document has them -/
def okG (σ : SG) : Prop := gc σ ≤ 12 ∧ (∀ j, j < gc σ → okA (gx σ j) (go σ j) (gn σ j) (gk σ j)) ∧ gl σ ≤ 4096 ∧ ∀ j, j < gl σ → gd σ j < 4
/-- the machines of σ, and one more behind them -/
def plus (σ σ' : SG) (n k : Nat) (x o : Nat → Nat) : Prop := gc σ' = gc σ + 1 ∧ (∀ j, j < gc σ → relM (gn σ j) (gk σ j) (gx σ j) (go σ j) (gn σ' j) (gk σ' j) (gx σ' j) (go σ' j)) ∧ relM n k x o (gn σ' (gc σ)) (gk σ' (gc σ)) (gx σ' (gc σ)) (go σ' (gc σ)) ∧ relW σ σ'
def rMachine (σ : SG) (p q v : Int32) (σ' : SG) : Prop := (∃ a b, p = nI a ∧ q = nI b ∧ 1 ≤ a ∧ a ≤ 40 ∧ 1 ≤ b ∧ b ≤ 4 ∧ gc σ < 12 ∧ v = nI (gc σ) ∧ plus σ σ' a b (fun t => t / 4) (fun _ => 0)) ∨ (¬ (∃ a b, p = nI a ∧ q = nI b ∧ 1 ≤ a ∧ a ≤ 40 ∧ 1 ≤ b ∧ b ≤ 4 ∧ gc σ < 12)) ∧ v = -1 ∧ Rel σ σ'
def isArr (σ : SG) (p q r t o : Int32) (m s i a b : Nat) : Prop := ix p (gc σ) = some m ∧ ix q (gn σ m) = some s ∧ ix r (gk σ m) = some i ∧ ix t (gn σ m) = some a ∧ ix o 10 = some b
def rArrow (σ : SG) (p q r t o v : Int32) (σ' : SG) : Prop := (∃ m s i a b, isArr σ p q r t o m s i a b ∧ v = 1 ∧ gc σ' = gc σ ∧ relW σ σ' ∧ (∀ j, j < gc σ → j ≠ m → relM (gn σ j) (gk σ j) (gx σ j) (go σ j) (gn σ' j) (gk σ' j) (gx σ' j) (go σ' j)) ∧ relM (gn σ m) (gk σ m) (va_up (gx σ m) (s * 4 + i) a) (va_up (go σ m) (s * 4 + i) b) (gn σ' m) (gk σ' m) (gx σ' m) (go σ' m)) ∨ (¬ ∃ m s i a b, isArr σ p q r t o m s i a b) ∧ v = 0 ∧ Rel σ σ'
def sLook (σ : SG) (p q r t : Int32) : Int32 := match ix p (gc σ) with
  | none => -1
  | some m => match ix q (gn σ m) with
    | none => -1
    | some s => match ix r (gk σ m) with
      | none => -1
      | some i => if t = 0 then nI (gx σ m (s * 4 + i)) else if t = 1 then nI (go σ m (s * 4 + i)) else -1
def rClasses (σ : SG) (p v : Int32) : Prop := ix p (gc σ) = none ∧ v = -1 ∨ ∃ m lo, ix p (gc σ) = some m ∧ Lk (gx σ m) (go σ m) (gn σ m) (gk σ m) lo ∧ v = nI (cn lo (gn σ m))
def rLike (σ : SG) (p q v : Int32) : Prop := (¬ ∃ m s, ix p (gc σ) = some m ∧ ix q (gn σ m) = some s) ∧ v = -1 ∨ ∃ m s lo, ix p (gc σ) = some m ∧ ix q (gn σ m) = some s ∧ Lk (gx σ m) (go σ m) (gn σ m) (gk σ m) lo ∧ v = nI (lo s)
/-- the row of least's states -/
abbrev lRow (lo x : Nat → Nat) (k N : Nat) : Qu := bout (nNx lo x) k [(lo 0, 0, 0)] N
def rPart (σ : SG) (p q v : Int32) : Prop := (¬ ∃ m s, ix p (gc σ) = some m ∧ ix q (gn σ m) = some s) ∧ v = -1 ∨ ∃ m s lo N, ix p (gc σ) = some m ∧ ix q (gn σ m) = some s ∧ Lk (gx σ m) (go σ m) (gn σ m) (gk σ m) lo ∧ BEnd (nNx lo (gx σ m)) (gk σ m) [(lo 0, 0, 0)] N ∧ ((∃ r, r < N ∧ qP (lRow lo (gx σ m) (gk σ m) N) r = lo s ∧ v = nI r) ∨ lo s ∉ qPs (lRow lo (gx σ m) (gk σ m) N) ∧ v = -1)
def rLeast (σ : SG) (p v : Int32) (σ' : SG) : Prop := (ix p (gc σ) = none ∨ 12 ≤ gc σ) ∧ v = -1 ∧ Rel σ σ' ∨ ∃ m lo N x o, ix p (gc σ) = some m ∧ gc σ < 12 ∧ Lk (gx σ m) (go σ m) (gn σ m) (gk σ m) lo ∧ BEnd (nNx lo (gx σ m)) (gk σ m) [(lo 0, 0, 0)] N ∧ v = nI (gc σ) ∧ plus σ σ' N (gk σ m) x o ∧ ∀ a i, a < N → i < gk σ m → x (a * 4 + i) < N ∧ qP (lRow lo (gx σ m) (gk σ m) N) (x (a * 4 + i)) = lo (gx σ m (qP (lRow lo (gx σ m) (gk σ m) N) a * 4 + i)) ∧ o (a * 4 + i) = go σ m (qP (lRow lo (gx σ m) (gk σ m) N) a * 4 + i)
/-- the word told is W -/
def isW (σ σ' : SG) (W : List Nat) : Prop := relT σ σ' ∧ gl σ' = W.length ∧ ∀ j, j < W.length → gd σ' j = W.getD j 0
abbrev rQ (n : Nat) : Qu := [(2 ^ n - 1, 0, 0)]
def rReset (σ : SG) (p v : Int32) (σ' : SG) : Prop := (∀ m, ix p (gc σ) = some m → 12 < gn σ m) ∧ v = -1 ∧ Rel σ σ' ∨ ∃ m r, ix p (gc σ) = some m ∧ gn σ m ≤ 12 ∧ Fst (rNx (gx σ m) (gn σ m)) (fun p => pcn p 12 = 1) (gk σ m) (rQ (gn σ m)) r ∧ match r with
  | none => v = -1 ∧ Rel σ σ'
  | some a => v = nI (qW (bout (rNx (gx σ m) (gn σ m)) (gk σ m) (rQ (gn σ m)) a) a).length ∧ isW σ σ' (qW (bout (rNx (gx σ m) (gn σ m)) (gk σ m) (rQ (gn σ m)) a) a)
def rAlike (σ : SG) (p q r t : Int32) (v : Option Int32) (σ' : SG) : Prop := (¬ ∃ m s m' s', ix p (gc σ) = some m ∧ ix q (gn σ m) = some s ∧ ix r (gc σ) = some m' ∧ ix t (gn σ m') = some s' ∧ gk σ m = gk σ m') ∧ v = none ∧ Rel σ σ' ∨ ∃ m s m' s' z, ix p (gc σ) = some m ∧ ix q (gn σ m) = some s ∧ ix r (gc σ) = some m' ∧ ix t (gn σ m') = some s' ∧ gk σ m = gk σ m' ∧ Wit (wNx (gx σ m) (gx σ m')) (wBad (go σ m) (go σ m')) (gk σ m) [(s * 40 + s', 0, 0)] z ∧ match z with
  | none => v = some 1 ∧ Rel σ σ'
  | some (a, i) => v = some 0 ∧ isW σ σ' (qW (bout (wNx (gx σ m) (gx σ m')) (gk σ m) [(s * 40 + s', 0, 0)] a) a ++ [i])
def rHome (σ : SG) (p : Int32) (v : Option Int32) (σ' : SG) : Prop := (∀ m, ix p (gc σ) = some m → 12 < gn σ m) ∧ v = some (-1) ∧ Rel σ σ' ∨ ∃ m lo, ix p (gc σ) = some m ∧ gn σ m ≤ 12 ∧ Lk (gx σ m) (go σ m) (gn σ m) (gk σ m) lo ∧ (sing [alm lo (gn σ m)] = true ∧ v = some (nI 0) ∧ isW σ σ' [] ∨ sing [alm lo (gn σ m)] = false ∧ ((∀ a i, ¬ Hom (gx σ m) (go σ m) lo (gn σ m) (gk σ m) a i) ∧ v = none ∧ Rel σ σ' ∨ ∃ a i, Hom (gx σ m) (go σ m) lo (gn σ m) (gk σ m) a i ∧ v = some (nI (qW (bout (hNx (gx σ m) (go σ m) lo (gn σ m)) (gk σ m) (hQ0 lo (gn σ m)) a) a ++ [i]).length) ∧ isW σ σ' (qW (bout (hNx (gx σ m) (go σ m) lo (gn σ m)) (gk σ m) (hQ0 lo (gn σ m)) a) a ++ [i])))
abbrev cRow (σ : SG) (m m' N : Nat) : Qu := bout (cNx (gx σ m) (go σ m) (gx σ m') (gk σ m')) (gk σ m) [(0, 0, 0)] N
def rChain (σ : SG) (p q : Int32) (v : Option Int32) (σ' : SG) : Prop := (ix p (gc σ) = none ∨ ix q (gc σ) = none ∨ 12 ≤ gc σ) ∧ v = some (-1) ∧ Rel σ σ' ∨ ∃ m m', ix p (gc σ) = some m ∧ ix q (gc σ) = some m' ∧ gc σ < 12 ∧ (¬ ChOK (cNx (gx σ m) (go σ m) (gx σ m') (gk σ m')) (cBad (go σ m) (gk σ m')) (gk σ m) [(0, 0, 0)] ∧ v = none ∧ Rel σ σ' ∨ ∃ N x o, BEnd (cNx (gx σ m) (go σ m) (gx σ m') (gk σ m')) (gk σ m) [(0, 0, 0)] N ∧ (∀ a, a < N → ∀ i, i < gk σ m → ¬ cBad (go σ m) (gk σ m') (qP (cRow σ m m' a) a) i) ∧ N ≤ 40 ∧ v = some (nI (gc σ)) ∧ plus σ σ' N (gk σ m) x o ∧ ∀ a i, a < N → i < gk σ m → x (a * 4 + i) < N ∧ qP (cRow σ m m' N) (x (a * 4 + i)) = cNx (gx σ m) (go σ m) (gx σ m') (gk σ m') (qP (cRow σ m m' N) a) i ∧ o (a * 4 + i) = go σ m' (qP (cRow σ m m' N) a % 40 * 4 + go σ m (qP (cRow σ m m' N) a / 40 * 4 + i)))
def sLetter (σ : SG) (p : Int32) : Option Int32 := match ix p (gl σ) with
  | none => none
  | some j => some (nI (gd σ j))
/-- along the word's first j inputs -/
def aWalk (σ : SG) (m s : Nat) : Nat → Option Nat
  | 0 => some s
  | j + 1 => match aWalk σ m s j with
    | none => none
    | some a => if gd σ j < gk σ m then some (gx σ m (a * 4 + gd σ j)) else none
def sAlong (σ : SG) (p q : Int32) : Int32 := match ix p (gc σ) with
  | none => -1
  | some m => match ix q (gn σ m) with
    | none => -1
    | some s => oI (aWalk σ m s (gl σ))
def sTotal (σ : SG) (p : Int32) : Int32 := if p = 0 then nI (gc σ) else if p = 1 then nI (gl σ) else if 200 ≤ p then (match ix (p - 200) (gc σ) with
    | none => -1
    | some m => nI (gk σ m)) else (match ix (p - 100) (gc σ) with
    | none => -1
    | some m => nI (gn σ m))
abbrev SysS (G : GT) (L : List Nat) (f : Nat → va_E) (w : Nat → Nat) (A : Nat → Nat) (σ : SG) : Prop := Sys G L f w A (gc σ) (gn σ) (gk σ) (gx σ) (go σ) (gl σ) (gd σ)
theorem SysS.okG {G : GT} {L : List Nat} {f : Nat → va_E} {w : Nat → Nat} {A : Nat → Nat} {σ : SG} (h : SysS G L f w A σ) : okG σ := by
  obtain ⟨S, Fm, wa, mp, M, lo, fi, b, nm, pl, st, sc, ss, sz, bo, fc, hC⟩ := h
  exact ⟨hC.2.2.2.2.1, fun j hj => (hC.2.2.2.2.2.2.1 j hj).1, hC.2.2.2.2.2.2.2.1, hC.2.2.2.2.2.2.2.2⟩
