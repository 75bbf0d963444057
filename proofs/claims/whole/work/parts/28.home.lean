/-! ===== a word told; families as numbers ===== -/
def StQ (st : Nat → Nat) (q : Qu) : Prop := ∀ i, i < q.length → st i = qF q i * 4 + qB q i
theorem SeQ.stq {nm : Nat → Option Nat} {pl st : Nat → Nat} {c D : Nat} {q : Qu} (h : SeQ nm pl st c D q) : StQ st q := fun i hi => (h.2.1 i (by rw [h.1]; exact hi)).2.1
/-- the steps st tell the word W at number num -/
def TellOK (st : Nat → Nat) (num N : Nat) (W : List Nat) : Prop := num < N ∧ N ≤ 4096 ∧ (∀ a, 0 < a → a < N → st a / 4 < a) ∧ (∀ a, a < N → st a < 2 ^ 31) ∧ wdA (fun a => st a / 4) (fun a => st a % 4) num = W
theorem StQ.at_ {st : Nat → Nat} {q : Qu} {D : Nat} (h : StQ st q) (ho : qOK q D) {a : Nat} (ha : a < q.length) : st a / 4 = qF q a ∧ st a % 4 = qB q a := by
  have h1 := h a ha
  have h2 := ho.2.2 a ha
  exact ⟨by omega, by omega⟩
theorem StQ.lt {st : Nat → Nat} {q : Qu} {D : Nat} (h : StQ st q) (ho : qOK q D) (hl : q.length ≤ 4096) {a : Nat} (ha : a < q.length) : st a < 2 ^ 31 := by
  have h1 := h a ha
  have h2 := ho.2.2 a ha
  rcases Nat.eq_zero_or_pos a with z | z
  · have := h2.2.2 z; omega
  · have := h2.2.1 z; omega
theorem tell_at {st : Nat → Nat} {q : Qu} {D a : Nat} (h : StQ st q) (ho : qOK q D) (hl : q.length ≤ 4096) (ha : a < q.length) : TellOK st a q.length (qW q a) :=
  ⟨ha, hl, fun b h0 hb => by rw [(h.at_ ho hb).1]; exact ho.F b h0 hb, fun b hb => h.lt ho hl hb, (wdA_congr ho.F (fun b _ hb => ⟨((h.at_ ho hb).1).symm, ((h.at_ ho hb).2).symm⟩) a a (Nat.le_refl _) ha).symm⟩
theorem tell_1 {st : Nat → Nat} {q : Qu} {D a i : Nat} (h : StQ st q) (ho : qOK q D) (hl : q.length < 4096) (ha : a < q.length) (hi : i < 4) : TellOK (va_up st q.length (a * 4 + i)) q.length (q.length + 1) (qW q a ++ [i]) := by
  have hF : ∀ b, 0 < b → b < q.length + 1 → va_up st q.length (a * 4 + i) b / 4 < b := by
    intro b h0 hb
    by_cases e : b = q.length
    · rw [e, va_up_self]; omega
    · rw [va_up_ne _ _ e, (h.at_ ho (a := b) (by omega)).1]
      exact ho.F b h0 (by omega)
  refine ⟨Nat.lt_succ_self _, by omega, hF, fun b hb => ?_, ?_⟩
  · by_cases e : b = q.length
    · rw [e, va_up_self]; omega
    · rw [va_up_ne _ _ e]; exact h.lt ho (by omega) (by omega)
  · rw [wdA_s hF (by omega) (by omega)]
    have e1 : va_up st q.length (a * 4 + i) q.length / 4 = a := by rw [va_up_self]; omega
    have e2 : va_up st q.length (a * 4 + i) q.length % 4 = i := by rw [va_up_self]; omega
    simp only [e1, e2]
    congr 1
    rw [← (tell_at h ho (by omega) ha).2.2.2.2]
    refine wdA_congr (N := q.length) (fun b h0 hb => hF b h0 (by omega)) (fun b h0 hb => ?_) a a (Nat.le_refl _) ha
    rw [va_up_ne _ _ (by omega)]
    exact ⟨rfl, rfl⟩
/-- a family as a number -/
def enc : List Nat → Nat
  | [] => 0
  | a :: l => enc l * 4096 + a
def decL : Nat → Nat → List Nat
  | 0, _ => []
  | m + 1, p => if p = 0 then [] else p % 4096 :: decL m (p / 4096)
def dec (p : Nat) : List Nat := decL 13 p
theorem decL_enc : ∀ (m : Nat) (l : List Nat), l.length ≤ m → (∀ s ∈ l, 0 < s ∧ s < 4096) → decL m (enc l) = l
  | 0, l, h, _ => by
    cases l with
    | nil => rfl
    | cons a l => simp at h
  | m + 1, l, h, h2 => by
    cases l with
    | nil => rfl
    | cons a l =>
      have ha := h2 a List.mem_cons_self
      rw [show enc (a :: l) = enc l * 4096 + a from rfl]
      simp only [decL]
      rw [if_neg (by omega), show (enc l * 4096 + a) % 4096 = a by omega, show (enc l * 4096 + a) / 4096 = enc l by omega]
      rw [decL_enc m l (by simp at h; omega) (fun s hs => h2 s (List.mem_cons_of_mem _ hs))]
theorem dec_enc {l : List Nat} (h : fOK l 12) : dec (enc l) = l := decL_enc 13 l (by have := h.len; omega) h.1
/-- a number that is a family's -/
def fP (p : Nat) : Prop := fOK (dec p) 12 ∧ enc (dec p) = p
theorem fP_enc {l : List Nat} (h : fOK l 12) : fP (enc l) := ⟨by rw [dec_enc h]; exact h, by rw [dec_enc h]⟩
theorem enc_lt : ∀ (l : List Nat), (∀ s ∈ l, s < 4096) → enc l < 4096 ^ l.length
  | [], _ => by simp [enc]
  | a :: l, h => by
    have h1 := enc_lt l (fun s hs => h s (List.mem_cons_of_mem _ hs))
    have ha := h a List.mem_cons_self
    simp only [enc, List.length_cons, Nat.pow_succ]
    have : enc l + 1 ≤ 4096 ^ l.length := h1
    have := Nat.mul_le_mul_right 4096 this
    omega
def fD : Nat := 4096 ^ 12
theorem fP_lt : ∀ p, fP p → p < fD := by
  intro p h
  have h1 := enc_lt (dec p) (fun s hs => (h.1.1 s hs).2)
  rw [h.2] at h1
  exact Nat.lt_of_lt_of_le h1 (Nat.pow_le_pow_right (by decide) h.1.len)
/-- one input more from a family -/
def hNx (nx ou lo : Nat → Nat) (n p i : Nat) : Nat := enc (ffol (fun s => ou (s * 4 + i)) (fun s => lo (nx (s * 4 + i))) n (dec p) (dec p).length)
def sing (l : List Nat) : Bool := l.all (fun s => decide (pcn s 12 = 1))
def hBad (nx ou lo : Nat → Nat) (n p i : Nat) : Prop := sing (dec (hNx nx ou lo n p i)) = true
theorem hOK {nx ou lo : Nat → Nat} {n k : Nat} (hA : okA nx ou n k) (hn : n ≤ 12) (hlo : ∀ s, s < n → lo s ≤ s) {l : List Nat} (hl : fOK l 12) {i : Nat} (hi : i < k) : fOK (ffol (fun s => ou (s * 4 + i)) (fun s => lo (nx (s * 4 + i))) n l l.length) 12 := by
  have h1 := ffol_ok (og := fun s => ou (s * 4 + i)) (g := fun s => lo (nx (s * 4 + i))) (l := l) (n := n) (fun s hs => by have h2 := (hA.2.2.2.2 s i hs hi).1; have := hlo _ h2; show lo (nx (s * 4 + i)) < 12; omega) hn l.length (Nat.le_refl _)
  exact ⟨h1.1, Nat.le_trans h1.2 (Nat.le_trans (fsum_take_le _ _) hl.2)⟩
theorem hP_nx {nx ou lo : Nat → Nat} {n k : Nat} (hA : okA nx ou n k) (hn : n ≤ 12) (hlo : ∀ s, s < n → lo s ≤ s) : ∀ p i, fP p → i < k → fP (hNx nx ou lo n p i) := fun p i hp hi => fP_enc (hOK hA hn hlo hp.1 hi)
theorem alm_ok {lo : Nat → Nat} {n : Nat} (h1 : 1 ≤ n) (hn : n ≤ 12) (hlo : ∀ s, s < n → lo s ≤ s) : fOK [alm lo n] 12 := by
  have hl : ∀ s, s < n → lo s < 12 := fun s hs => by have := hlo s hs; omega
  refine ⟨fun s hs => ?_, ?_⟩
  · simp at hs
    rw [hs]
    exact ⟨alm_pos h1, by have := alm_lt hl n (Nat.le_refl _); simpa using this⟩
  · have := alm_pcn hl n (Nat.le_refl _)
    simp [fsum]
    omega
abbrev hQ0 (lo : Nat → Nat) (n : Nat) : Qu := [(enc [alm lo n], 0, 0)]
/-- found: the first number and input behind which it is known where one is, among the first 300 -/
def Hom (nx ou lo : Nat → Nat) (n k a i : Nat) : Prop := Wit (hNx nx ou lo n) (hBad nx ou lo n) k (hQ0 lo n) (some (a, i)) ∧ (bin (hNx nx ou lo n) (bout (hNx nx ou lo n) k (hQ0 lo n) a) a i).length < 300
theorem Hom.uniq {nx ou lo : Nat → Nat} {n k a i b j : Nat} (h : Hom nx ou lo n k a i) (h2 : Hom nx ou lo n k b j) : a = b ∧ i = j := by
  have e := h.1.uniq h2.1
  cases e
  exact ⟨rfl, rfl⟩
/-- nothing told apart ahead of (a, i), 300 kept there: nothing is found -/
theorem Hom.none_at {nx ou lo : Nat → Nat} {n k a i : Nat} (hi : i ≤ k) (hg : ∀ b, b < a → ∀ j, j < k → ¬ hBad nx ou lo n (qP (bout (hNx nx ou lo n) k (hQ0 lo n) b) b) j) (hg2 : ∀ j, j < i → ¬ hBad nx ou lo n (qP (bout (hNx nx ou lo n) k (hQ0 lo n) a) a) j) (hl : 300 ≤ (bin (hNx nx ou lo n) (bout (hNx nx ou lo n) k (hQ0 lo n) a) a i).length) : ∀ b j, ¬ Hom nx ou lo n k b j := by
  intro b j ⟨⟨_, _, h3, h4, _⟩, h6⟩
  rcases Nat.lt_trichotomy b a with c | c | c
  · exact hg b c j h3 h4
  · subst c
    rcases Nat.lt_or_ge j i with c | c
    · exact hg2 j c h4
    · have := bin_mono (hNx nx ou lo n) (bout (hNx nx ou lo n) k (hQ0 lo n) b) b c
      omega
  · have h7 := bin_mono (hNx nx ou lo n) (bout (hNx nx ou lo n) k (hQ0 lo n) a) a hi
    have h8 := (bout_sub (hNx nx ou lo n) k (hQ0 lo n) (a := a + 1) (b := b) (by omega)).1
    have h9 := bin_len (hNx nx ou lo n) (bout (hNx nx ou lo n) k (hQ0 lo n) b) b j
    have h10 : (bin (hNx nx ou lo n) (bout (hNx nx ou lo n) k (hQ0 lo n) a) a k).length ≤ (bout (hNx nx ou lo n) k (hQ0 lo n) b).length := h8
    omega
theorem Hom.none_end {nx ou lo : Nat → Nat} {n k N : Nat} (hN : BEnd (hNx nx ou lo n) k (hQ0 lo n) N) (hg : ∀ b, b < N → ∀ j, j < k → ¬ hBad nx ou lo n (qP (bout (hNx nx ou lo n) k (hQ0 lo n) b) b) j) : ∀ b j, ¬ Hom nx ou lo n k b j := by
  intro b j ⟨⟨h1, _, h3, h4, _⟩, _⟩
  exact hg b (hN.lt h1) j h3 h4
/-- nothing but what a or b own has changed -/
def gF2 (w : Nat → Nat) (a b : Nat) (f f' : Nat → va_E) : Prop := ∀ q, w q ≠ a → w q ≠ b → f' q = f q
theorem gF2.rf {w : Nat → Nat} {a b : Nat} {f : Nat → va_E} : gF2 w a b f f := fun _ _ _ => rfl
theorem gF2.l {w : Nat → Nat} {a b : Nat} {f f1 f2 : Nat → va_E} (h : gF2 w a b f f1) (h2 : gF w a f1 f2) : gF2 w a b f f2 := fun q h3 h4 => (h2 q h3).trans (h q h3 h4)
theorem gF2.r {w : Nat → Nat} {a b : Nat} {f f1 f2 : Nat → va_E} (h : gF2 w a b f f1) (h2 : gF w b f1 f2) : gF2 w a b f f2 := fun q h3 h4 => (h2 q h4).trans (h q h3 h4)
theorem MaAt.fr2 {G : GT} {L : List Nat} {f f' : Nat → va_E} {w : Nat → Nat} {a b idM : Nat} {B : Nat → Nat} {nx ou lo fi : Nat → Nat} {n k bb : Nat} (h : MaAt G L f w idM B nx ou lo fi n k bb) (hF : gF2 w a b f f') (h1 : idM ≠ a) (h2 : idM ≠ b) : MaAt G L f' w idM B nx ou lo fi n k bb := h.move (fun _ q => q) (fun _ _ => rfl) (fun q _ hw => hF q (by rw [hw]; exact h1) (by rw [hw]; exact h2))
theorem TbAt.fr2 {G : GT} {L : List Nat} {f f' : Nat → va_E} {w : Nat → Nat} {a b idM : Nat} {B : Nat → Nat} {sa fa c wa : Nat} {mp : Nat → Option Nat} (h : TbAt G L f w idM B sa fa c wa mp) (hF : gF2 w a b f f') (h1 : idM ≠ a) (h2 : idM ≠ b) : TbAt G L f' w idM B sa fa c wa mp := h.move (fun _ q => q) (fun _ _ => rfl) (fun q _ hw => hF q (by rw [hw]; exact h1) (by rw [hw]; exact h2))
