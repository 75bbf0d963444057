def fil (h : Nat → Int32) (a i : Nat) (v : Int32) : Nat → Int32 := fun j => if a ≤ j ∧ j < i then v else h j
theorem fil_0 (h : Nat → Int32) (a : Nat) (v : Int32) : fil h a a v = h := by
  funext j
  simp only [fil]
  rw [if_neg (by omega)]
theorem fil_s (h : Nat → Int32) {a i : Nat} (hi : a ≤ i) (v : Int32) : upd (fil h a i v) i v = fil h a (i + 1) v := by
  funext j
  simp only [fil, upd]
  split
  · rename_i e; subst e; rw [if_pos (by omega)]
  · split
    · rw [if_pos (by omega)]
    · rw [if_neg (by omega)]
set_option maxHeartbeats 4000000 in
set_option maxRecDepth 100000 in
/-- nothing is wrong -/
theorem c_Ar_rangeCheck {G : GT} {L : List Nat} {f : Nat → va_E} (N a b : Nat) (hN : N < 2 ^ 31) (h1 : a ≤ b) (h2 : b ≤ N) : Con G y_Ar_rangeCheck (.code y_Ar_rangeCheck b_Ar_rangeCheck 3 none :: BIG) 0 0 0 0 [.int (nI N), .int (nI a), .int (nI b)] L f (fun v L' f' => v = none ∧ L' = L ∧ f' = f) := by
  refine con_of (cc := b_Ar_rangeCheck) (mL := 3) (lv := [some (.int (nI N)), some (.int (nI a)), some (.int (nI b))]) (by decide) (by intro w hw; simp at hw; rcases hw with rfl | rfl | rfl <;> rfl) (by first | exact Nat.le_of_ble_eq_true rfl | decide) rfl ?_
  intro x hx hr hin
  refine v_iload_n hx d_Ar_rangeCheck_0 rfl rfl ?_
  refine v_iload_n hx d_Ar_rangeCheck_1 rfl rfl ?_
  refine n_icmp_le (tgt := 46) hx d_Ar_rangeCheck_2 (by decide) (by omega) (by omega) (fun c2 => ?_) (fun c2 => ?_)
  · refine v_iload_n hx d_Ar_rangeCheck_46 rfl rfl ?_
    refine n_if_ge (tgt := 59) hx d_Ar_rangeCheck_47 (by decide) (by omega) ?_
    refine v_iload_n hx d_Ar_rangeCheck_59 rfl rfl ?_
    refine v_iload_n hx d_Ar_rangeCheck_60 rfl rfl ?_
    refine n_icmp_le (tgt := 73) hx d_Ar_rangeCheck_61 (by decide) (by omega) (by omega) (fun c61 => ?_) (fun c61 => ?_)
    · exact v_vret hx hr d_Ar_rangeCheck_73 ⟨rfl, rfl, rfl⟩
    · exact absurd h2 (by omega)
  · exact absurd h1 (by omega)
set_option maxHeartbeats 4000000 in
set_option maxRecDepth 100000 in
theorem lp_Ar_fill {G : GT} {L : List Nat} {f : Nat → va_E} {x : XT} (hx : KX G 5 x b_Ar_fill R_Ar) {p N : Nat} {h : Nat → Int32} (hp : p ∈ L) (hN : N < 2 ^ 31) (a b : Nat) (v : Int32) (h1 : a ≤ b) (h2 : b ≤ N) (hk : V G { frames := 1, cells := 0, slots := 0, locals := 22 } 5 x L (va_up f p (.inl (G.2.2.1 0, N, .inl (fil h a b v)))) 0 0 [some (.ref p), some (.int (nI a)), some (.int (nI b)), some (.int v), some (.int (nI b))] 27 []) : ∀ m i : Nat, b - i < m → a ≤ i → i ≤ b → V G { frames := 1, cells := 0, slots := 0, locals := 22 } 5 x L (va_up f p (.inl (G.2.2.1 0, N, .inl (fil h a i v)))) 0 0 [some (.ref p), some (.int (nI a)), some (.int (nI b)), some (.int v), some (.int (nI i))] 10 [] := by
  intro m
  induction m with
  | zero => intro i hm; exact absurd hm (by omega)
  | succ m ih =>
    intro i hm ha hb
    refine v_iload hx d_Ar_fill_10 rfl ?_
    refine v_iload_n hx d_Ar_fill_12 rfl rfl ?_
    refine n_icmp_ge (tgt := 27) hx d_Ar_fill_13 (by decide) (by omega) (by omega) (fun c13 => ?_) (fun c13 => ?_)
    · have e : i = b := by omega
      subst e
      exact hk
    · refine v_aload_n hx d_Ar_fill_16 rfl rfl ?_
      refine v_iload hx d_Ar_fill_17 rfl ?_
      refine v_iload_n hx d_Ar_fill_19 rfl rfl ?_
      refine nr_iast hx d_Ar_fill_20 hp (va_up_self _ _ _) (by omega) hN (fun f1 hf1 => ?_)
      rw [bx_uu, fil_s h ha v] at hf1
      rw [hf1]
      refine n_iinc (lv' := [some (.ref p), some (.int (nI a)), some (.int (nI b)), some (.int v), some (.int (nI (i + 1)))]) hx d_Ar_fill_21 rfl (by decide) rfl ?_
      refine v_goto (tgt := 10) hx d_Ar_fill_24 (by decide) ?_
      exact ih (i + 1) (by omega) (by omega) (by omega)
set_option maxHeartbeats 4000000 in
set_option maxRecDepth 100000 in
/-- a stretch is filled -/
theorem c_Ar_fill {G : GT} {L : List Nat} {f : Nat → va_E} {p N : Nat} {h : Nat → Int32} (hp : p ∈ L) (hf : f p = .inl (G.2.2.1 0, N, .inl h)) (hN : N < 2 ^ 31) (a b : Nat) (v : Int32) (h1 : a ≤ b) (h2 : b ≤ N) : Con G y_Ar_fill (.code y_Ar_fill b_Ar_fill 5 none :: BIG) 1 22 0 0 [.ref p, .int (nI a), .int (nI b), .int v] L f (fun w L' f' => w = none ∧ L' = L ∧ f' = va_up f p (.inl (G.2.2.1 0, N, .inl (fil h a b v)))) := by
  refine con_of (cc := b_Ar_fill) (mL := 5) (lv := [some (.ref p), some (.int (nI a)), some (.int (nI b)), some (.int v), none]) (by decide) (by intro w hw; simp at hw; rcases hw with rfl | rfl | rfl | rfl <;> rfl) (by first | exact Nat.le_of_ble_eq_true rfl | decide) rfl ?_
  intro x hx hr hin
  refine v_aload_n hx d_Ar_fill_0 rfl rfl ?_
  refine v_alen hx d_Ar_fill_1 hp hf ?_
  refine v_iload_n hx d_Ar_fill_2 rfl rfl ?_
  refine v_iload_n hx d_Ar_fill_3 rfl rfl ?_
  refine v_callS (as := [.int (nI N), .int (nI a), .int (nI b)]) hx (c_Ar_rangeCheck N a b hN h1 h2) cy_Ar_rangeCheck k_Ar_13 ks_Ar_rangeCheck d_Ar_fill_4 (by decide) (by decide) rfl rfl (by decide) (fun v1 L f p1 => ?_)
  obtain ⟨rfl, rfl, rfl⟩ := p1
  refine v_iload_n hx d_Ar_fill_7 rfl rfl ?_
  refine v_istore (lv' := [some (.ref p), some (.int (nI a)), some (.int (nI b)), some (.int v), some (.int (nI a))]) hx d_Ar_fill_8 (by decide) rfl ?_
  have e : va_up f p (.inl (G.2.2.1 0, N, .inl (fil h a a v))) = f := by rw [fil_0, ← hf]; exact up_same f p
  have q := lp_Ar_fill (f := f) (h := h) hx hp hN a b v h1 h2 (v_vret hx hr d_Ar_fill_27 ⟨rfl, rfl, rfl⟩) (b - a + 1) a (by omega) (Nat.le_refl _) (by omega)
  rw [e] at q
  exact q
set_option maxHeartbeats 4000000 in
set_option maxRecDepth 100000 in
theorem lp_Ar_fill2 {G : GT} {L : List Nat} {f : Nat → va_E} {x : XT} (hx : KX G 4 x b_Ar_fill2 R_Ar) {p N : Nat} {h : Nat → Int32} (hp : p ∈ L) (hN : N < 2 ^ 31) (b : Nat) (v : Int32) (h1 : 0 ≤ b) (h2 : b ≤ N) (hk : V G { frames := 0, cells := 0, slots := 0, locals := 0 } 4 x L (va_up f p (.inl (G.2.2.1 0, N, .inl (fil h 0 b v)))) 0 0 [some (.ref p), some (.int v), some (.int (nI b)), some (.int (nI b))] 20 []) : ∀ m i : Nat, b - i < m → 0 ≤ i → i ≤ b → V G { frames := 0, cells := 0, slots := 0, locals := 0 } 4 x L (va_up f p (.inl (G.2.2.1 0, N, .inl (fil h 0 i v)))) 0 0 [some (.ref p), some (.int v), some (.int (nI i)), some (.int (nI b))] 5 [] := by
  intro m
  induction m with
  | zero => intro i hm; exact absurd hm (by omega)
  | succ m ih =>
    intro i hm ha hb
    refine v_iload_n hx d_Ar_fill2_5 rfl rfl ?_
    refine v_iload_n hx d_Ar_fill2_6 rfl rfl ?_
    refine n_icmp_ge (tgt := 20) hx d_Ar_fill2_7 (by decide) (by omega) (by omega) (fun c7 => ?_) (fun c7 => ?_)
    · have e : i = b := by omega
      subst e
      exact hk
    · refine v_aload_n hx d_Ar_fill2_10 rfl rfl ?_
      refine v_iload_n hx d_Ar_fill2_11 rfl rfl ?_
      refine v_iload_n hx d_Ar_fill2_12 rfl rfl ?_
      refine nr_iast hx d_Ar_fill2_13 hp (va_up_self _ _ _) (by omega) hN (fun f1 hf1 => ?_)
      rw [bx_uu, fil_s h ha v] at hf1
      rw [hf1]
      refine n_iinc (lv' := [some (.ref p), some (.int v), some (.int (nI (i + 1))), some (.int (nI b))]) hx d_Ar_fill2_14 rfl (by decide) rfl ?_
      refine v_goto (tgt := 5) hx d_Ar_fill2_17 (by decide) ?_
      exact ih (i + 1) (by omega) (by omega) (by omega)
set_option maxHeartbeats 4000000 in
set_option maxRecDepth 100000 in
/-- a stretch is filled -/
theorem c_Ar_fill2 {G : GT} {L : List Nat} {f : Nat → va_E} {p N : Nat} {h : Nat → Int32} (hp : p ∈ L) (hf : f p = .inl (G.2.2.1 0, N, .inl h)) (hN : N < 2 ^ 31) (v : Int32) : Con G y_Ar_fill2 (.code y_Ar_fill2 b_Ar_fill2 4 none :: BIG) 0 0 0 0 [.ref p, .int v] L f (fun w L' f' => w = none ∧ L' = L ∧ f' = va_up f p (.inl (G.2.2.1 0, N, .inl (fil h 0 N v)))) := by
  refine con_of (cc := b_Ar_fill2) (mL := 4) (lv := [some (.ref p), some (.int v), none, none]) (by decide) (by intro w hw; simp at hw; rcases hw with rfl | rfl <;> rfl) (by first | exact Nat.le_of_ble_eq_true rfl | decide) rfl ?_
  intro x hx hr hin
  refine v_iconst (v := (nI 0)) hx d_Ar_fill2_0 rfl ?_
  refine v_istore_n (lv' := [some (.ref p), some (.int v), some (.int (nI 0)), none]) hx d_Ar_fill2_1 rfl (by decide) rfl ?_
  refine v_aload_n hx d_Ar_fill2_2 rfl rfl ?_
  refine v_alen hx d_Ar_fill2_3 hp hf ?_
  refine v_istore_n (lv' := [some (.ref p), some (.int v), some (.int (nI 0)), some (.int (nI N))]) hx d_Ar_fill2_4 rfl (by decide) rfl ?_
  have e : va_up f p (.inl (G.2.2.1 0, N, .inl (fil h 0 0 v))) = f := by rw [fil_0, ← hf]; exact up_same f p
  have q := lp_Ar_fill2 (f := f) (h := h) hx hp hN N v (Nat.zero_le _) (Nat.le_refl _) (v_vret hx hr d_Ar_fill2_20 ⟨rfl, rfl, rfl⟩) (N - 0 + 1) 0 (by omega) (Nat.le_refl _) (by omega)
  rw [e] at q
  exact q
