/-! ===== modules apart; what Families' loops compute ===== -/
theorem MaAt.fr {G : GT} {L : List Nat} {f f' : Nat → va_E} {w : Nat → Nat} {id idM : Nat} {B : Nat → Nat} {nx ou lo fi : Nat → Nat} {n k b : Nat} (h : MaAt G L f w idM B nx ou lo fi n k b) (hF : gF w id f f') (hne : idM ≠ id) : MaAt G L f' w idM B nx ou lo fi n k b := h.move (fun _ q => q) (fun _ _ => rfl) (fun q _ hw => hF q (by rw [hw]; exact hne))
theorem SeAt.fr {G : GT} {L : List Nat} {f f' : Nat → va_E} {w : Nat → Nat} {id idM : Nat} {B : Nat → Nat} {nm : Nat → Option Nat} {pl st : Nat → Nat} {c : Nat} (h : SeAt G L f w idM B nm pl st c) (hF : gF w id f f') (hne : idM ≠ id) : SeAt G L f' w idM B nm pl st c := h.move (fun _ q => q) (fun _ _ => rfl) (fun q _ hw => hF q (by rw [hw]; exact hne))
theorem FaAt.fr {G : GT} {L : List Nat} {f f' : Nat → va_E} {w : Nat → Nat} {id idM : Nat} {B : Nat → Nat} {ss sz bo : Nat → Nat} {c : Nat} (h : FaAt G L f w idM B ss sz bo c) (hF : gF w id f f') (hne : idM ≠ id) : FaAt G L f' w idM B ss sz bo c := h.move (fun _ q => q) (fun _ _ => rfl) (fun q _ hw => hF q (by rw [hw]; exact hne))
theorem fil_n2 (g : Nat → Nat) (N v : Nat) : fil (fun k => nI (g k)) 0 N (nI v) = fun k => nI (if k < N then v else g k) := by
  rw [fil_nI]
  funext k
  simp
def alm (lo : Nat → Nat) : Nat → Nat
  | 0 => 0
  | s + 1 => alm lo s ||| 2 ^ lo s
theorem alm_lt {lo : Nat → Nat} {n : Nat} (h : ∀ s, s < n → lo s < 12) : ∀ s, s ≤ n → alm lo s < 2 ^ 12
  | 0, _ => by simp [alm]
  | s + 1, hs => Nat.or_lt_two_pow (alm_lt h s (by omega)) (Nat.pow_lt_pow_right (by decide) (h s (by omega)))
theorem pcn_0 : ∀ m, pcn 0 m = 0
  | 0 => rfl
  | m + 1 => by simp [pcn, pcn_0 m]
theorem alm_pcn {lo : Nat → Nat} {n : Nat} (h : ∀ s, s < n → lo s < 12) : ∀ s, s ≤ n → pcn (alm lo s) 12 ≤ s
  | 0, _ => by simp [alm, pcn_0]
  | s + 1, hs => by
    have h1 := alm_pcn h s (by omega)
    have h2 := pcn_or (alm lo s) (lo s) 12
    rw [if_pos (h s (by omega))] at h2
    simp only [alm]
    omega
theorem alm_pos {lo : Nat → Nat} {n : Nat} (h1 : 1 ≤ n) : 0 < alm lo n := by
  obtain ⟨m, rfl⟩ : ∃ m, n = m + 1 := ⟨n - 1, by omega⟩
  simp only [alm]
  have : 2 ^ lo m ≤ alm lo m ||| 2 ^ lo m := Nat.right_le_or
  have := Nat.two_pow_pos (lo m)
  omega
theorem alm_congr {lo lo' : Nat → Nat} : ∀ {n : Nat}, (∀ s, s < n → lo s = lo' s) → alm lo n = alm lo' n
  | 0, _ => rfl
  | n + 1, h => by simp only [alm]; rw [h n (by omega), alm_congr (fun s hs => h s (by omega))]
theorem fput_nil (s : Nat) : fput [] s = [s] := rfl
theorem fsum_take {l : List Nat} {i : Nat} (hi : i < l.length) : fsum (l.take (i + 1)) = fsum (l.take i) + pcn (l.getD i 0) 12 := by
  rw [take_s hi]
  simp [fsum]
theorem fsum_take_le (l : List Nat) (i : Nat) : fsum (l.take i) ≤ fsum l := by
  have h : fsum (l.take i) + fsum (l.drop i) = fsum l := by
    unfold fsum
    rw [← List.sum_append, ← List.map_append, List.take_append_drop]
  omega
theorem ffol_ok {og g : Nat → Nat} {n : Nat} {l : List Nat} (h : ∀ s, s < n → g s < 12) (hn : n ≤ 12) : ∀ i, i ≤ l.length → fOK (ffol og g n l i) (fsum (l.take i))
  | 0, _ => ⟨fun _ q => absurd q List.not_mem_nil, Nat.zero_le _⟩
  | i + 1, hi => by
    have ih := ffol_ok (og := og) (l := l) h hn i (by omega)
    have q := ih.part (S := l.getD i 0) (og := og) h 10
    have q2 := mosum_le (S := l.getD i 0) (og := og) n h 10
    have q3 := pcn_mono (l.getD i 0) hn
    rw [fsum_take (by omega)]
    exact ⟨q.1, Nat.le_trans q.2 (by omega)⟩
theorem all_false {l : List Nat} {p : Nat → Bool} {i : Nat} (hi : i < l.length) (h : p (l.getD i 0) = false) : l.all p = false := by
  rw [List.all_eq_false]
  exact ⟨_, getD_mem hi, by rw [h]; decide⟩
theorem all_true {l : List Nat} {p : Nat → Bool} (h : ∀ j, j < l.length → p (l.getD j 0) = true) : l.all p = true := by
  rw [List.all_eq_true]
  intro x hx
  obtain ⟨i, hi, rfl⟩ := List.mem_iff_getElem.mp hx
  have q := h i hi
  have : l.getD i 0 = l[i] := by simp [hi]
  rw [this] at q
  exact q
theorem list_eq {l m : List Nat} (h : l.length = m.length) (h2 : ∀ j, j < l.length → l.getD j 0 = m.getD j 0) : l = m := by
  apply List.ext_getElem h
  intro i h1 h3
  have q := h2 i h1
  simpa [h1, h3] using q
