/-! ===== the whole class's cells ===== -/
def SysC (G : GT) (L : List Nat) (f : Nat → va_E) (w : Nat → Nat) (A S Fm : Nat → Nat) (c wa : Nat) (mp : Nat → Option Nat) (M nx ou lo fi : Nat → Nat → Nat) (n k b : Nat → Nat) (nm : Nat → Option Nat) (pl st : Nat → Nat) (sc : Nat) (ss sz bo : Nat → Nat) (fc wl : Nat) (wd : Nat → Nat) : Prop :=
  TbAt G L f w 0 A (S 0) (Fm 0) c wa mp ∧ SeAt G L f w 1 S nm pl st sc ∧ FaAt G L f w 2 Fm ss sz bo fc ∧ (wa ∈ L ∧ w wa = 3 ∧ f wa = aI G wl wd) ∧ c ≤ 12 ∧ (∀ j, j < 12 → mp j = none ∧ c ≤ j ∨ mp j = some (M j 0) ∧ MaAt G L f w (10 + j) (M j) (nx j) (ou j) (lo j) (fi j) (n j) (k j) (b j)) ∧ (∀ j, j < c → okA (nx j) (ou j) (n j) (k j) ∧ (b j = 0 ∨ b j = 1 ∧ Lk (nx j) (ou j) (n j) (k j) (lo j))) ∧ wl ≤ 4096 ∧ ∀ j, j < wl → wd j < 4
def Sys (G : GT) (L : List Nat) (f : Nat → va_E) (w : Nat → Nat) (A : Nat → Nat) (c : Nat) (n k : Nat → Nat) (nx ou : Nat → Nat → Nat) (wl : Nat) (wd : Nat → Nat) : Prop :=
  ∃ (S Fm : Nat → Nat) (wa : Nat) (mp : Nat → Option Nat) (M lo fi : Nat → Nat → Nat) (b : Nat → Nat) (nm : Nat → Option Nat) (pl st : Nat → Nat) (sc : Nat) (ss sz bo : Nat → Nat) (fc : Nat), SysC G L f w A S Fm c wa mp M nx ou lo fi n k b nm pl st sc ss sz bo fc wl wd
section SYS
variable {G : GT} {L L' : List Nat} {f f' : Nat → va_E} {w w' : Nat → Nat} {A S Fm : Nat → Nat} {c wa : Nat} {mp mp' : Nat → Option Nat} {M nx ou lo fi : Nat → Nat → Nat} {n k b : Nat → Nat} {nm : Nat → Option Nat} {pl st : Nat → Nat} {sc : Nat} {ss sz bo : Nat → Nat} {fc wl : Nat} {wd : Nat → Nat}
theorem SysC.ms (h : SysC G L f w A S Fm c wa mp M nx ou lo fi n k b nm pl st sc ss sz bo fc wl wd) : ∀ j, j < c → mp j = some (M j 0) ∧ MaAt G L f w (10 + j) (M j) (nx j) (ou j) (lo j) (fi j) (n j) (k j) (b j) := fun j hj => by
  have h5 := h.2.2.2.2.1
  rcases h.2.2.2.2.2.1 j (by omega) with q | q
  · exact absurd q.2 (by omega)
  · exact q
theorem SysC.ok (h : SysC G L f w A S Fm c wa mp M nx ou lo fi n k b nm pl st sc ss sz bo fc wl wd) {j : Nat} (hj : j < c) : okA (nx j) (ou j) (n j) (k j) := (h.2.2.2.2.2.2.1 j hj).1
theorem SysC.c12 (h : SysC G L f w A S Fm c wa mp M nx ou lo fi n k b nm pl st sc ss sz bo fc wl wd) : c ≤ 12 := h.2.2.2.2.1
theorem SysC.settle (h : SysC G L f w A S Fm c wa mp M nx ou lo fi n k b nm pl st sc ss sz bo fc wl wd) {j : Nat} (hj : j < c) {lo2 fi2 : Nat → Nat} (hM : MaAt G L f' w (10 + j) (M j) (nx j) (ou j) lo2 fi2 (n j) (k j) 1) (hF : gF w (10 + j) f f') (hL : Lk (nx j) (ou j) (n j) (k j) lo2) : SysC G L f' w A S Fm c wa mp M nx ou (va_up lo j lo2) (va_up fi j fi2) n k (va_up b j 1) nm pl st sc ss sz bo fc wl wd := by
  obtain ⟨h1, h2, h3, h4, h5, h6, h7, h8⟩ := h
  refine ⟨h1.fr hF (by omega), h2.fr hF (by omega), h3.fr hF (by omega), ⟨h4.1, h4.2.1, (hF wa (by omega)).trans h4.2.2⟩, h5, fun i hi => ?_, fun i hi => ⟨(h7 i hi).1, ?_⟩, h8⟩
  · by_cases e : i = j
    · subst e
      rcases h6 i hi with q | q
      · exact absurd q.2 (by omega)
      · rw [va_up_self, va_up_self, va_up_self]; exact Or.inr ⟨q.1, hM⟩
    · rw [va_up_ne _ _ e, va_up_ne _ _ e, va_up_ne _ _ e]
      rcases h6 i hi with q | q
      · exact Or.inl q
      · exact Or.inr ⟨q.1, q.2.fr hF (by omega)⟩
  · by_cases e : i = j
    · subst e; rw [va_up_self, va_up_self]; exact Or.inr ⟨rfl, hL⟩
    · rw [va_up_ne _ _ e, va_up_ne _ _ e]; exact (h7 i hi).2
theorem SysC.search (h : SysC G L f w A S Fm c wa mp M nx ou lo fi n k b nm pl st sc ss sz bo fc wl wd) {nm' : Nat → Option Nat} {pl' st' : Nat → Nat} {sc' : Nat} (hS : SeAt G L f' w 1 S nm' pl' st' sc') (hF : gF w 1 f f') : SysC G L f' w A S Fm c wa mp M nx ou lo fi n k b nm' pl' st' sc' ss sz bo fc wl wd := by
  obtain ⟨h1, h2, h3, h4, h5, h6, h7, h8⟩ := h
  refine ⟨h1.fr hF (by omega), hS, h3.fr hF (by omega), ⟨h4.1, h4.2.1, (hF wa (by omega)).trans h4.2.2⟩, h5, fun i hi => ?_, h7, h8⟩
  rcases h6 i hi with q | q
  · exact Or.inl q
  · exact Or.inr ⟨q.1, q.2.fr hF (by omega)⟩
theorem SysC.fam (h : SysC G L f w A S Fm c wa mp M nx ou lo fi n k b nm pl st sc ss sz bo fc wl wd) {nm' : Nat → Option Nat} {pl' st' : Nat → Nat} {sc' : Nat} {ss' sz' bo' : Nat → Nat} {fc' : Nat} (hS : SeAt G L f' w 1 S nm' pl' st' sc') (hFa : FaAt G L f' w 2 Fm ss' sz' bo' fc') (hF : gF2 w 1 2 f f') : SysC G L f' w A S Fm c wa mp M nx ou lo fi n k b nm' pl' st' sc' ss' sz' bo' fc' wl wd := by
  obtain ⟨h1, h2, h3, h4, h5, h6, h7, h8⟩ := h
  refine ⟨h1.fr2 hF (by omega) (by omega), hS, hFa, ⟨h4.1, h4.2.1, (hF wa (by omega) (by omega)).trans h4.2.2⟩, h5, fun i hi => ?_, h7, h8⟩
  rcases h6 i hi with q | q
  · exact Or.inl q
  · exact Or.inr ⟨q.1, q.2.fr2 hF (by omega) (by omega)⟩
/-- machine j's arrows are others -/
theorem SysC.arrow (h : SysC G L f w A S Fm c wa mp M nx ou lo fi n k b nm pl st sc ss sz bo fc wl wd) {j : Nat} (hj : j < c) {nx2 ou2 : Nat → Nat} (hM : MaAt G L f' w (10 + j) (M j) nx2 ou2 (lo j) (fi j) (n j) (k j) 0) (hF : gF w (10 + j) f f') (hA : okA nx2 ou2 (n j) (k j)) : SysC G L f' w A S Fm c wa mp M (va_up nx j nx2) (va_up ou j ou2) lo fi n k (va_up b j 0) nm pl st sc ss sz bo fc wl wd := by
  obtain ⟨h1, h2, h3, h4, h5, h6, h7, h8⟩ := h
  refine ⟨h1.fr hF (by omega), h2.fr hF (by omega), h3.fr hF (by omega), ⟨h4.1, h4.2.1, (hF wa (by omega)).trans h4.2.2⟩, h5, fun i hi => ?_, fun i hi => ?_, h8⟩
  · by_cases e : i = j
    · subst e
      rcases h6 i hi with q | q
      · exact absurd q.2 (by omega)
      · rw [va_up_self, va_up_self, va_up_self]; exact Or.inr ⟨q.1, hM⟩
    · rw [va_up_ne _ _ e, va_up_ne _ _ e, va_up_ne _ _ e]
      rcases h6 i hi with q | q
      · exact Or.inl q
      · exact Or.inr ⟨q.1, q.2.fr hF (by omega)⟩
  · by_cases e : i = j
    · subst e; rw [va_up_self, va_up_self, va_up_self]; exact ⟨hA, Or.inl rfl⟩
    · rw [va_up_ne _ _ e, va_up_ne _ _ e, va_up_ne _ _ e]; exact h7 i hi
/-- another word is told -/
theorem SysC.tell (h : SysC G L f w A S Fm c wa mp M nx ou lo fi n k b nm pl st sc ss sz bo fc wl wd) {q : Nat} {W : List Nat} {g : Nat → Nat} (hL : ∀ p, p ∈ L → p ∈ L') (hw : ∀ p, p ∈ L → w' p = w p) (hq : q ∈ L') (hq3 : w' q = 3) (hT : TbAt G L' f' w' 0 A (S 0) (Fm 0) c q mp) (hf : ∀ p, p ∈ L → w p ≠ 0 → f' p = f p) (hg : f' q = aI G W.length g) (hg2 : ∀ j, j < W.length → g j = W.getD j 0) (hW : W.length ≤ 4096) (hW4 : ∀ x ∈ W, x < 4) : SysC G L' f' w' A S Fm c q mp M nx ou lo fi n k b nm pl st sc ss sz bo fc W.length g := by
  obtain ⟨h1, h2, h3, h4, h5, h6, h7, h8⟩ := h
  refine ⟨hT, h2.move hL hw (fun p h1 h2 => hf p h1 (by omega)), h3.move hL hw (fun p h1 h2 => hf p h1 (by omega)), ⟨hq, hq3, hg⟩, h5, fun i hi => ?_, h7, hW, fun j hj => by rw [hg2 j hj]; exact hW4 _ (getD_mem hj)⟩
  rcases h6 i hi with q | q
  · exact Or.inl q
  · exact Or.inr ⟨q.1, q.2.move hL hw (fun p h1 h2 => hf p h1 (by omega))⟩
/-- a machine more -/
theorem SysC.add (h : SysC G L f w A S Fm c wa mp M nx ou lo fi n k b nm pl st sc ss sz bo fc wl wd) {B nx2 ou2 lo2 fi2 : Nat → Nat} {n2 k2 : Nat} (hL : ∀ p, p ∈ L → p ∈ L') (hw : ∀ p, p ∈ L → w' p = w p) (hc : c < 12) (hmp : mp' c = some (B 0) ∧ ∀ j, j ≠ c → mp' j = mp j) (hT : TbAt G L' f' w' 0 A (S 0) (Fm 0) (c + 1) wa mp') (hM : MaAt G L' f' w' (10 + c) B nx2 ou2 lo2 fi2 n2 k2 0) (hA : okA nx2 ou2 n2 k2) (hf : ∀ p, p ∈ L → w p ≠ 0 → w p ≠ 10 + c → f' p = f p) : SysC G L' f' w' A S Fm (c + 1) wa mp' (va_up M c B) (va_up nx c nx2) (va_up ou c ou2) (va_up lo c lo2) (va_up fi c fi2) (va_up n c n2) (va_up k c k2) (va_up b c 0) nm pl st sc ss sz bo fc wl wd := by
  obtain ⟨h1, h2, h3, h4, h5, h6, h7, h8⟩ := h
  refine ⟨hT, h2.move hL hw (fun p h1 h2 => hf p h1 (by omega) (by omega)), h3.move hL hw (fun p h1 h2 => hf p h1 (by omega) (by omega)), ⟨hL _ h4.1, (hw _ h4.1).trans h4.2.1, (hf wa h4.1 (by omega) (by omega)).trans h4.2.2⟩, hc, fun i hi => ?_, fun i hi => ?_, h8⟩
  · by_cases e : i = c
    · subst e
      rw [va_up_self, va_up_self, va_up_self, va_up_self, va_up_self, va_up_self, va_up_self, va_up_self]
      exact Or.inr ⟨hmp.1, hM⟩
    · rw [va_up_ne _ _ e, va_up_ne _ _ e, va_up_ne _ _ e, va_up_ne _ _ e, va_up_ne _ _ e, va_up_ne _ _ e, va_up_ne _ _ e, va_up_ne _ _ e, hmp.2 i e]
      rcases h6 i hi with q | q
      · exact Or.inl ⟨q.1, by omega⟩
      · exact Or.inr ⟨q.1, q.2.move hL hw (fun p h1 h2 => hf p h1 (by omega) (by omega))⟩
  · by_cases e : i = c
    · subst e
      rw [va_up_self, va_up_self, va_up_self, va_up_self, va_up_self]
      exact ⟨hA, Or.inl rfl⟩
    · rw [va_up_ne _ _ e, va_up_ne _ _ e, va_up_ne _ _ e, va_up_ne _ _ e, va_up_ne _ _ e, va_up_ne _ _ e]
      exact h7 i (by omega)
theorem SysC.clear (h : SysC G L f w A S Fm c wa mp M nx ou lo fi n k b nm pl st sc ss sz bo fc wl wd) (hT : TbAt G L f' w 0 A (S 0) (Fm 0) 0 wa mp) (hF : gF w 0 f f') : SysC G L f' w A S Fm 0 wa mp M nx ou lo fi n k b nm pl st sc ss sz bo fc wl wd := by
  obtain ⟨h1, h2, h3, h4, h5, h6, h7, h8⟩ := h
  refine ⟨hT, h2.fr hF (by omega), h3.fr hF (by omega), ⟨h4.1, h4.2.1, (hF wa (by omega)).trans h4.2.2⟩, Nat.zero_le _, fun i hi => ?_, fun i hi => absurd hi (Nat.not_lt_zero _), h8⟩
  rcases h6 i hi with q | q
  · exact Or.inl ⟨q.1, Nat.zero_le _⟩
  · exact Or.inr ⟨q.1, q.2.fr hF (by omega)⟩
end SYS
/-- what a call of the class leaves alone: what the reference owns -/
def Out (L : List Nat) (f : Nat → va_E) (w : Nat → Nat) (L' : List Nat) (f' : Nat → va_E) (w' : Nat → Nat) : Prop := (∀ q, q ∈ L → q ∈ L') ∧ (∀ q, q ∈ L → w' q = w q) ∧ ∀ q, q ∈ L → 100 ≤ w q → f' q = f q
theorem Out.rf {L : List Nat} {f : Nat → va_E} {w : Nat → Nat} : Out L f w L f w := ⟨fun _ h => h, fun _ _ => rfl, fun _ _ _ => rfl⟩
theorem Out.tr {L L1 L2 : List Nat} {f f1 f2 : Nat → va_E} {w w1 w2 : Nat → Nat} (h : Out L f w L1 f1 w1) (h2 : Out L1 f1 w1 L2 f2 w2) : Out L f w L2 f2 w2 := ⟨fun q hq => h2.1 q (h.1 q hq), fun q hq => (h2.2.1 q (h.1 q hq)).trans (h.2.1 q hq), fun q hq hw => (h2.2.2 q (h.1 q hq) (by rw [h.2.1 q hq]; exact hw)).trans (h.2.2 q hq hw)⟩
theorem Out.g {L : List Nat} {f f' : Nat → va_E} {w : Nat → Nat} {id : Nat} (h : gF w id f f') (hi : id < 100) : Out L f w L f' w := ⟨fun _ h => h, fun _ _ => rfl, fun q _ hw => h q (by omega)⟩
theorem Out.g2 {L : List Nat} {f f' : Nat → va_E} {w : Nat → Nat} {a b : Nat} (h : gF2 w a b f f') (ha : a < 100) (hb : b < 100) : Out L f w L f' w := ⟨fun _ h => h, fun _ _ => rfl, fun q _ hw => h q (by omega) (by omega)⟩
