theorem dec1 (t : Nat) : nI t + Int32.ofInt (-1) = nI t - nI 1 := by
  rw [Int32.sub_eq_add_neg]
  rfl
theorem getD_mid {l r : List Nat} {b : Nat} : (l ++ (b :: r)).getD l.length 0 = b := by simp
set_option maxHeartbeats 4000000 in
set_option maxRecDepth 100000 in
/-- the word that leads to a number -/
theorem c_Se_wordTo {G : GT} {L : List Nat} {f : Nat → va_E} {w : Nat → Nat} {id : Nat} {A : Nat → Nat} {nm : Nat → Option Nat} {pl st : Nat → Nat} {c : Nat} (hM : SeAt G L f w id A nm pl st c) (N num : Nat) (hN : N ≤ 4096) (hnum : num < N) (hst : ∀ a, 0 < a → a < N → st a / 4 < a) (hs2 : ∀ a, a < N → st a < 2 ^ 31) : Con G y_Se_wordTo (.code y_Se_wordTo b_Se_wordTo 6 (some (.array .int)) :: BIG) 0 0 1 4096 [.ref (A 0), .int (nI num)] L f (fun v L' f' => ∃ q, v = some (.ref q) ∧ q ∉ L ∧ L' = L ++ [q] ∧ (∃ g : Nat → Nat, f' q = aI G (wdA (fun a => st a / 4) (fun a => st a % 4) num).length g ∧ ∀ j, j < (wdA (fun a => st a / 4) (fun a => st a % 4) num).length → g j = (wdA (fun a => st a / 4) (fun a => st a % 4) num).getD j 0) ∧ ∀ p, p ≠ q → f' p = f p) := by
  refine con_of (cc := b_Se_wordTo) (mL := 6) (lv := [some (.ref (A 0)), some (.int (nI num)), none, none, none, none]) (by decide) (by intro w hw; simp at hw; rcases hw with rfl | rfl <;> rfl) (by first | exact Nat.le_of_ble_eq_true rfl | decide) rfl ?_
  intro x hx hr hin
  have hWl := wdA_len (B := (fun a => st a % 4)) hst num num (Nat.le_refl _) hnum
  generalize hW : (wdA (fun a => st a / 4) (fun a => st a % 4) num) = W at hWl hr
  refine v_iconst (v := (nI 0)) hx d_Se_wordTo_0 rfl ?_
  refine v_istore_n (lv' := [some (.ref (A 0)), some (.int (nI num)), some (.int (nI 0)), none, none, none]) hx d_Se_wordTo_1 rfl (by decide) rfl ?_
  refine v_iload_n hx d_Se_wordTo_2 rfl rfl ?_
  refine v_istore_n (lv' := [some (.ref (A 0)), some (.int (nI num)), some (.int (nI 0)), some (.int (nI num)), none, none]) hx d_Se_wordTo_3 rfl (by decide) rfl ?_
  have H4 : ∀ (m : Nat) (len : Nat) (a : Nat), a < m → (a < N) → (len + (wdA (fun a => st a / 4) (fun a => st a % 4) a).length = W.length) → V G { frames := 0, cells := 1, slots := 4096, locals := 0 } 6 x L f 0 0 [some (.ref (A 0)), some (.int (nI num)), some (.int (nI len)), some (.int (nI a)), none, none] 4 [] := by
    intro m
    induction m with
    | zero => intro len a hm; exact absurd hm (Nat.not_lt_zero _)
    | succ m ih =>
      intro len a hm ha hl
      refine v_iload_n hx d_Se_wordTo_4 rfl rfl ?_
      refine n_if_le (tgt := 30) hx d_Se_wordTo_5 (by decide) (by omega) (fun c5 => ?_) (fun c5 => ?_)
      · refine v_iload_n hx d_Se_wordTo_30 rfl rfl ?_
        have e0 : len = W.length := by rw [← hl, c5]; rfl
        refine m_newa hx d_Se_wordTo_31 (by omega) (by decide) (by show 0 + len ≤ 4096; omega) (fun q1 g1 hq1 eq1 => ?_)
        refine v_astore_n (lv' := [some (.ref (A 0)), some (.int (nI num)), some (.int (nI len)), some (.ref q1), none, none]) hx d_Se_wordTo_33 rfl (by decide) rfl ?_
        refine v_iload_n hx d_Se_wordTo_34 rfl rfl ?_
        refine v_istore (lv' := [some (.ref (A 0)), some (.int (nI num)), some (.int (nI len)), some (.ref q1), some (.int (nI num)), none]) hx d_Se_wordTo_35 (by decide) rfl ?_
        refine v_iload_n hx d_Se_wordTo_37 rfl rfl ?_
        refine v_iconst (v := (nI 1)) hx d_Se_wordTo_38 rfl ?_
        refine v_isub hx d_Se_wordTo_39 rfl ?_
        refine v_istore (lv' := [some (.ref (A 0)), some (.int (nI num)), some (.int (nI len)), some (.ref q1), some (.int (nI num)), some (.int ((nI len) - (nI 1)))]) hx d_Se_wordTo_40 (by decide) rfl ?_
        have H42 : ∀ (t : Nat) (a : Nat) (f2 : Nat → va_E) (g : Nat → Nat), (a < N) → (t ≤ len) → ((wdA (fun a => st a / 4) (fun a => st a % 4) a).length = t) → (∃ suf, W = wdA (fun a => st a / 4) (fun a => st a % 4) a ++ suf) → (f2 q1 = aI G len g) → (∀ j, t ≤ j → j < len → g j = W.getD j 0) → (∀ p, p ≠ q1 → f2 p = f p) → V G { frames := 0, cells := 1, slots := 4096, locals := 0 } 6 x (L ++ [q1]) f2 (0 + 1) (0 + len) [some (.ref (A 0)), some (.int (nI num)), some (.int (nI len)), some (.ref q1), some (.int (nI a)), some (.int (nI t - nI 1))] 42 [] := by
          intro t
          induction t with
          | zero =>
            intro a f2 g ha ht hla hsuf hq hg hfr
            refine v_iload hx d_Se_wordTo_42 rfl ?_
            refine v_if_lt (tgt := 77) hx d_Se_wordTo_44 (by decide) (fun c44 => ?_) (fun c44 => ?_)
            · refine v_aload_n hx d_Se_wordTo_77 rfl rfl ?_
              refine v_widen (k' := 1) (n' := 4096) (by omega) (by omega) ?_
              exact v_aret hx hr (Or.inr ⟨_, rfl⟩) (Or.inr ⟨_, rfl⟩) d_Se_wordTo_78 ⟨q1, rfl, hq1, rfl, ⟨g, by rw [← e0]; exact hq, fun j hj => hg j (Nat.zero_le _) (by omega)⟩, hfr⟩
            · exact absurd (by decide) c44
          | succ t ih =>
            intro a f2 g ha ht hla hsuf hq hg hfr
            have e1 : nI (t + 1) - nI 1 = nI t := pk_sub (by omega)
            rw [e1]
            have ha0 : 0 < a := Nat.pos_of_ne_zero (fun z => by rw [z, wdA_0] at hla; cases hla)
            have hs := wdA_s (B := (fun a => st a % 4)) hst ha0 ha
            have hd := hst a ha0 ha
            have hl2 : (wdA (fun a => st a / 4) (fun a => st a % 4) (st a / 4)).length = t := by rw [hs, List.length_append] at hla; simpa using hla
            have hm1 : q1 ∈ L ++ [q1] := List.mem_append_right _ List.mem_cons_self
            have hM2 : SeAt G (L ++ [q1]) f2 w id A nm pl st c := hM.move (fun q h => List.mem_append_left _ h) (fun _ _ => rfl) (fun q h _ => hfr q (fun z => hq1 (z ▸ h)))
            refine v_iload hx d_Se_wordTo_42 rfl ?_
            refine n_if_lt (tgt := 77) hx d_Se_wordTo_44 (by decide) (by omega) ?_
            refine v_aload_n hx d_Se_wordTo_47 rfl rfl ?_
            refine v_iload hx d_Se_wordTo_48 rfl ?_
            refine v_aload_n hx d_Se_wordTo_50 rfl rfl ?_
            refine v_get hx cf_Se 2 (by decide) k_Se_18 d_Se_wordTo_51 hM2.m0 hM2.f0 rfl ?_
            refine v_iload hx d_Se_wordTo_54 rfl ?_
            refine n_iald hx d_Se_wordTo_56 hM2.m3 hM2.f3 (by omega) (by decide) ?_
            refine v_iconst (v := (nI 4)) hx d_Se_wordTo_57 rfl ?_
            refine n_irem hx d_Se_wordTo_58 (hs2 a ha) (by decide) (by decide) ?_
            refine nn_iast hx d_Se_wordTo_59 hm1 hq (by omega) (by omega) (fun f1 hf1 => ?_)
            have hq3 := (congrFun hf1 q1).trans (va_up_self _ _ _)
            have hfr1 : ∀ p, p ≠ q1 → f1 p = f p := fun p hp => by rw [hf1, va_up_ne _ _ hp]; exact hfr p hp
            have hM2 : SeAt G (L ++ [q1]) f1 w id A nm pl st c := hM.move (fun q h => List.mem_append_left _ h) (fun _ _ => rfl) (fun q h _ => hfr1 q (fun z => hq1 (z ▸ h)))
            refine v_aload_n hx d_Se_wordTo_60 rfl rfl ?_
            refine v_get hx cf_Se 2 (by decide) k_Se_18 d_Se_wordTo_61 hM2.m0 hM2.f0 rfl ?_
            refine v_iload hx d_Se_wordTo_64 rfl ?_
            refine n_iald hx d_Se_wordTo_66 hM2.m3 hM2.f3 (by omega) (by decide) ?_
            refine v_iconst (v := (nI 4)) hx d_Se_wordTo_67 rfl ?_
            refine n_idiv hx d_Se_wordTo_68 (hs2 a ha) (by decide) (by decide) ?_
            refine v_istore (lv' := [some (.ref (A 0)), some (.int (nI num)), some (.int (nI len)), some (.ref q1), some (.int (nI ((st a) / 4))), some (.int (nI t))]) hx d_Se_wordTo_69 (by decide) rfl ?_
            refine v_iinc (v := (nI t - nI 1)) (lv' := [some (.ref (A 0)), some (.int (nI num)), some (.int (nI len)), some (.ref q1), some (.int (nI ((st a) / 4))), some (.int (nI t - nI 1))]) hx d_Se_wordTo_71 rfl (dec1 _) (by decide) rfl ?_
            refine v_goto (tgt := 42) hx d_Se_wordTo_74 (by decide) ?_
            obtain ⟨suf, hsuf⟩ := hsuf
            have hW2 : W = wdA (fun a => st a / 4) (fun a => st a % 4) (st a / 4) ++ (st a % 4 :: suf) := by rw [hsuf, hs]; simp
            refine ih (st a / 4) f1 _ (by omega) (by omega) hl2 ⟨_, hW2⟩ hq3 (fun j h1 h2 => ?_) hfr1
            · by_cases e : j = t
              · subst e; rw [va_up_self, hW2, ← hl2]; exact getD_mid.symm
              · rw [va_up_ne _ _ e]; exact hg j (by omega) h2
        refine H42 len num g1 _ hnum (Nat.le_refl _) (by rw [hW, e0]) ⟨[], by rw [hW, List.append_nil]⟩ ((congrFun eq1 q1).trans (va_up_self _ _ _)) (fun j h1 h2 => absurd h1 (by omega)) (fun p hp => by rw [eq1, va_up_ne _ _ hp])
      · have hs := wdA_s (B := (fun a => st a % 4)) hst c5 ha
        have hs1 : (wdA (fun a => st a / 4) (fun a => st a % 4) a).length = (wdA (fun a => st a / 4) (fun a => st a % 4) (st a / 4)).length + 1 := by rw [hs, List.length_append]; rfl
        refine v_iload_n hx d_Se_wordTo_8 rfl rfl ?_
        refine v_sipush (v := (nI 4096)) hx d_Se_wordTo_9 rfl ?_
        refine n_icmp_ge (tgt := 30) hx d_Se_wordTo_12 (by decide) (by omega) (by omega) (fun c12 => ?_) (fun c12 => ?_)
        · exact absurd c12 (by omega)
        · have hs := wdA_s (B := (fun a => st a % 4)) hst c5 ha
          have hd := hst a c5 ha
          refine n_iinc (lv' := [some (.ref (A 0)), some (.int (nI num)), some (.int (nI (len + 1))), some (.int (nI a)), none, none]) hx d_Se_wordTo_15 rfl (by decide) rfl ?_
          refine v_aload_n hx d_Se_wordTo_18 rfl rfl ?_
          refine v_get hx cf_Se 2 (by decide) k_Se_18 d_Se_wordTo_19 hM.m0 hM.f0 rfl ?_
          refine v_iload_n hx d_Se_wordTo_22 rfl rfl ?_
          refine n_iald hx d_Se_wordTo_23 hM.m3 hM.f3 (by omega) (by decide) ?_
          refine v_iconst (v := (nI 4)) hx d_Se_wordTo_24 rfl ?_
          refine n_idiv hx d_Se_wordTo_25 (hs2 a ha) (by decide) (by decide) ?_
          refine v_istore_n (lv' := [some (.ref (A 0)), some (.int (nI num)), some (.int (nI (len + 1))), some (.int (nI ((st a) / 4))), none, none]) hx d_Se_wordTo_26 rfl (by decide) rfl ?_
          refine v_goto (tgt := 4) hx d_Se_wordTo_27 (by decide) ?_
          exact ih (len + 1) (st a / 4) (by omega) (by omega) (by omega)
  exact H4 _ 0 num (Nat.lt_succ_self _) hnum (by rw [hW, Nat.zero_add])
