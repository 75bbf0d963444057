set_option maxHeartbeats 4000000 in
set_option maxRecDepth 100000 in
theorem la_loop {G : GT} {x : XT} (hx : KX G 7 x b_La_law "MachineTablesLaw") (hTX : TXb G x.2.2.1) (hoff : G.1.stackTraces = false) {b Ln : Nat} {xs : Nat → Int32} (hX : va_X b Ln xs x.2.2.1 x.2.2.1.heap) (hbG : b < G.2.2.2) (hLn0 : Ln ≤ 3072) {A B : Nat → Nat} {oa : Nat} (fin : ∀ (L : List Nat) (f : Nat → va_E) (k n : Nat) (lv : List (Option Value)), k ≤ 601024 → n ≤ 7293034 → V G room_1 7 x L f k n lv 794 []) : ∀ (fu j : Nat) (L : List Nat) (f : Nat → va_E) (w : Nat → Nat) (σ τ : SG), Ln + 6 - 6 * j < fu → j ≤ 512 → LI G L f w A B oa σ τ → V G room_1 7 x L f (27 + 6 * j) (46806 + 4200 * j) [some (.ref b), some (.ref (A 0)), some (.ref (B 0)), some (.ref oa), some (.int (nI (6 * j))), none, none] 23 [] := by
  have hLn : Ln < 2 ^ 31 := by omega
  intro fu
  induction fu with
  | zero => intro j L f w σ τ hm; exact absurd hm (Nat.not_lt_zero _)
  | succ fu ih =>
    intro j L f w σ τ hm hj hI
    refine v_iload hx d_La_law_23 rfl ?_
    refine v_aload_n hx d_La_law_25 rfl rfl ?_
    refine v_slen hx hX hbG d_La_law_26 ?_
    refine v_bipush (v := nI 6) hx d_La_law_27 rfl ?_
    refine v_isub hx d_La_law_29 rfl ?_
    refine v_icmp_gt (tgt := 794) hx d_La_law_30 (by decide) (fun c30 => ?_) (fun c30 => ?_)
    · exact fin _ _ _ _ _ (by omega) (by omega)
    have hi := le6 (by omega) (by omega) c30
    refine v_aload_n hx d_La_law_33 rfl rfl ?_
    refine v_iload hx d_La_law_34 rfl ?_
    refine v_sld hx hX hbG (by omega) hLn d_La_law_36 ?_
    refine v_bipush (v := nI 15) hx d_La_law_37 rfl ?_
    obtain ⟨z, hz, ez⟩ := and15 (xs (6 * j))
    refine v_iand (v := nI z) hx d_La_law_39 ez ?_
    have kk : ∀ (L' : List Nat) (f' : Nat → va_E) (w' : Nat → Nat) (σ' τ' : SG), LI G L' f' w' A B oa σ' τ' → V G room_1 7 x L' f' (27 + 6 * j + 6) (46806 + 4200 * j + 4200) [some (.ref b), some (.ref (A 0)), some (.ref (B 0)), some (.ref oa), some (.int (nI (6 * j))), none, none] 788 [] := by
      intro L' f' w' σ' τ' hI'
      refine v_iinc (v := nI (6 * (j + 1))) (lv' := [some (.ref b), some (.ref (A 0)), some (.ref (B 0)), some (.ref oa), some (.int (nI (6 * (j + 1)))), none, none]) hx d_La_law_788 rfl (by rw [Nat.mul_succ]; exact nI_add _ _) (by decide) rfl ?_
      refine v_goto (tgt := 23) hx d_La_law_791 (by decide) ?_
      have := ih (j + 1) L' f' w' σ' τ' (by omega) (by omega) hI'
      rw [show 27 + 6 * (j + 1) = 27 + 6 * j + 6 by omega, show 46806 + 4200 * (j + 1) = 46806 + 4200 * j + 4200 by omega] at this
      exact this
    have hk : 27 + 6 * j + 6 ≤ 601024 := by omega
    have hn : 46806 + 4200 * j + 4200 ≤ 7293034 := by omega
    match z, hz with
    | 0, _ => exact v_tabIn (off := 76) (tgt := 116) hx d_La_law_40 (by decide) (by decide) (by decide +kernel) (by decide) (lc_machine hx hTX hoff hX hbG hLn hI hi hk hn kk)
    | 1, _ => exact v_tabIn (off := 113) (tgt := 153) hx d_La_law_40 (by decide) (by decide) (by decide +kernel) (by decide) (lc_arrow hx hTX hoff hX hbG hLn hI hi hk hn kk)
    | 2, _ => exact v_tabIn (off := 186) (tgt := 226) hx d_La_law_40 (by decide) (by decide) (by decide +kernel) (by decide) (lc_look hx hTX hoff hX hbG hLn hI hi hk hn kk)
    | 3, _ => exact v_tabIn (off := 247) (tgt := 287) hx d_La_law_40 (by decide) (by decide) (by decide +kernel) (by decide) (lc_classes hx hTX hoff hX hbG hLn hI hi hk hn kk)
    | 4, _ => exact v_tabIn (off := 272) (tgt := 312) hx d_La_law_40 (by decide) (by decide) (by decide +kernel) (by decide) (lc_like hx hTX hoff hX hbG hLn hI hi hk hn kk)
    | 5, _ => exact v_tabIn (off := 309) (tgt := 349) hx d_La_law_40 (by decide) (by decide) (by decide +kernel) (by decide) (lc_alike hx hTX hoff hX hbG hLn hI hi hk hn kk)
    | 6, _ => exact v_tabIn (off := 408) (tgt := 448) hx d_La_law_40 (by decide) (by decide) (by decide +kernel) (by decide) (lc_least hx hTX hoff hX hbG hLn hI hi hk hn kk)
    | 7, _ => exact v_tabIn (off := 433) (tgt := 473) hx d_La_law_40 (by decide) (by decide) (by decide +kernel) (by decide) (lc_part hx hTX hoff hX hbG hLn hI hi hk hn kk)
    | 8, _ => exact v_tabIn (off := 470) (tgt := 510) hx d_La_law_40 (by decide) (by decide) (by decide +kernel) (by decide) (lc_reset hx hTX hoff hX hbG hLn hI hi hk hn kk)
    | 9, _ => exact v_tabIn (off := 495) (tgt := 535) hx d_La_law_40 (by decide) (by decide) (by decide +kernel) (by decide) (lc_home hx hTX hoff hX hbG hLn hI hi hk hn kk)
    | 10, _ => exact v_tabIn (off := 551) (tgt := 591) hx d_La_law_40 (by decide) (by decide) (by decide +kernel) (by decide) (lc_chain hx hTX hoff hX hbG hLn hI hi hk hn kk)
    | 11, _ => exact v_tabIn (off := 619) (tgt := 659) hx d_La_law_40 (by decide) (by decide) (by decide +kernel) (by decide) (lc_letter hx hTX hoff hX hbG hLn hI hi hk hn kk)
    | 12, _ => exact v_tabIn (off := 675) (tgt := 715) hx d_La_law_40 (by decide) (by decide) (by decide +kernel) (by decide) (lc_along hx hTX hoff hX hbG hLn hI hi hk hn kk)
    | 13, _ => exact v_tabIn (off := 712) (tgt := 752) hx d_La_law_40 (by decide) (by decide) (by decide +kernel) (by decide) (lc_clear hx hTX hoff hX hbG hLn hI hi hk hn kk)
    | 14, _ => exact v_tabIn (off := 723) (tgt := 763) hx d_La_law_40 (by decide) (by decide) (by decide +kernel) (by decide) (lc_total hx hTX hoff hX hbG hLn hI hi hk hn kk)
    | 15, _ => exact v_tabOut (tgt := 788) hx d_La_law_40 (by decide) (by decide) (v_widen (by omega) (by omega) (kk _ _ _ _ _ hI))
    | z + 16, hz => exact absurd hz (by omega)
