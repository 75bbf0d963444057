/-! ===== the reference's marks: which states are apart ===== -/
def nAp (nx ou : Nat → Nat) (ap : Nat → Bool) (m s t i : Nat) : Prop := ou (160 * m + 4 * s + i) ≠ ou (160 * m + 4 * t + i) ∨ ap (40 * nx (160 * m + 4 * s + i) + nx (160 * m + 4 * t + i)) = true
/-- what is marked is apart -/
def mSound (nx ou : Nat → Nat) (ap : Nat → Bool) (m n k : Nat) : Prop := ∀ s t, s < n → t < n → ap (40 * s + t) = true → ¬ Bis (fun t => nx (160 * m + t)) (fun t => ou (160 * m + t)) k s t
/-- lo s is the first state not marked against s -/
def FL (ap : Nat → Bool) (n : Nat) (lo : Nat → Nat) : Prop := ∀ s, s < n → lo s ≤ s ∧ ap (40 * s + lo s) = false ∧ ∀ t, t < lo s → ap (40 * s + t) = true
theorem mSound.set {nx ou : Nat → Nat} {ap : Nat → Bool} {m n k s t i : Nat} (h : mSound nx ou ap m n k) (hA : okA (fun t => nx (160 * m + t)) (fun t => ou (160 * m + t)) n k) (hs : s < n) (ht : t < n) (hi : i < k) (hap : nAp nx ou ap m s t i) : mSound nx ou (va_up ap (40 * s + t) true) m n k := by
  intro s' t' hs' ht' he hb
  have hn := hA.2.1
  by_cases e : 40 * s' + t' = 40 * s + t
  · obtain ⟨rfl, rfl⟩ : s' = s ∧ t' = t := ⟨by omega, by omega⟩
    have h1 := hb.step hi
    have hx1 := (hA.2.2.2.2 s' i hs hi).1
    have hx2 := (hA.2.2.2.2 t' i ht hi).1
    unfold nAp at hap
    rw [pic_ix, pic_ix] at hap
    rcases hap with q | q
    · exact q h1.1
    · exact h _ _ hx1 hx2 q h1.2
  · rw [va_up_ne _ _ e] at he
    exact h s' t' hs' ht' he hb
theorem least_f {ap : Nat → Bool} {s : Nat} : ∀ N, ap (40 * s + N) = false → ∃ t, t ≤ N ∧ ap (40 * s + t) = false ∧ ∀ u, u < t → ap (40 * s + u) = true := by
  intro N
  induction N using Nat.strongRecOn with
  | ind N ih =>
    intro h
    by_cases h2 : ∃ u, u < N ∧ ap (40 * s + u) = false
    · obtain ⟨u, hu, hf⟩ := h2
      obtain ⟨t, h3, h4, h5⟩ := ih u hu hf
      exact ⟨t, by omega, h4, h5⟩
    · exact ⟨N, Nat.le_refl _, h, fun u hu => Bool.of_not_eq_false (fun z => h2 ⟨u, hu, z⟩)⟩
theorem mark_done {nx ou : Nat → Nat} {ap : Nat → Bool} {m n k : Nat} (hA : okA (fun t => nx (160 * m + t)) (fun t => ou (160 * m + t)) n k) (h : mSound nx ou ap m n k) (hc : ∀ s t, s < n → t < n → ap (40 * s + t) = true ∨ ∀ i, i < k → ¬ nAp nx ou ap m s t i) : ∃ lo, Lk (fun t => nx (160 * m + t)) (fun t => ou (160 * m + t)) n k lo ∧ FL ap n lo := by
  have hb : ∀ s t, s < n → t < n → ap (40 * s + t) = false → Bis (fun t => nx (160 * m + t)) (fun t => ou (160 * m + t)) k s t := by
    intro s t hs ht hf
    refine ⟨fun x y => x < n ∧ y < n ∧ ap (40 * x + y) = false, fun x y ⟨h1, h2, h3⟩ i hi => ?_, hs, ht, hf⟩
    have h4 := (hc x y h1 h2).resolve_left (by rw [h3]; decide) i hi
    unfold nAp at h4
    rw [pic_ix, pic_ix] at h4
    have h5 : ou (160 * m + (x * 4 + i)) = ou (160 * m + (y * 4 + i)) := Classical.byContradiction (fun z => h4 (Or.inl z))
    have h6 : ap (40 * nx (160 * m + (x * 4 + i)) + nx (160 * m + (y * 4 + i))) = false := Bool.eq_false_iff.mpr (fun z => h4 (Or.inr z))
    exact ⟨h5, (hA.2.2.2.2 x i h1 hi).1, (hA.2.2.2.2 y i h2 hi).1, h6⟩
  have hself : ∀ s, s < n → ap (40 * s + s) = false := fun s hs => Bool.eq_false_iff.mpr (fun z => h s s hs hs z Bis.rf)
  have hex : ∀ s, ∃ t, s < n → t ≤ s ∧ ap (40 * s + t) = false ∧ ∀ u, u < t → ap (40 * s + u) = true := fun s => by
    by_cases hs : s < n
    · obtain ⟨t, h1⟩ := least_f s (hself s hs)
      exact ⟨t, fun _ => h1⟩
    · exact ⟨0, fun z => absurd z hs⟩
  obtain ⟨lo, hlo⟩ := Classical.skolem.mp hex
  refine ⟨lo, fun s hs => ?_, hlo⟩
  obtain ⟨h1, h2, h3⟩ := hlo s hs
  refine ⟨h1, (hb s (lo s) hs (by omega) h2).sym, fun t ht hbt => ?_⟩
  rcases Nat.lt_or_ge t (lo s) with c | c
  · exact absurd hbt.sym (h s t hs ht (h3 t c))
  · exact c
/-- how many of the first N are not marked -/
def cf (ap : Nat → Bool) : Nat → Nat
  | 0 => 0
  | N + 1 => cf ap N + if ap N then 0 else 1
theorem cf_up {ap : Nat → Bool} {q : Nat} (hq : ap q = false) : ∀ N, (q < N → cf (va_up ap q true) N + 1 = cf ap N) ∧ (N ≤ q → cf (va_up ap q true) N = cf ap N)
  | 0 => ⟨fun h => absurd h (Nat.not_lt_zero _), fun _ => rfl⟩
  | N + 1 => by
    have ih := cf_up hq N
    simp only [cf]
    refine ⟨fun h => ?_, fun h => ?_⟩
    · rcases Nat.lt_or_ge q N with c | c
      · rw [va_up_ne _ _ (show N ≠ q by omega)]
        have := ih.1 c
        omega
      · have e : q = N := by omega
        subst e
        rw [va_up_self, ih.2 (Nat.le_refl _), hq]
        simp
    · rw [va_up_ne _ _ (show N ≠ q by omega), ih.2 (by omega)]
set_option maxHeartbeats 4000000 in
set_option maxRecDepth 100000 in
theorem c_Mo_isApart {G : GT} {L : List Nat} {f : Nat → va_E} {w A : Nat → Nat} {th : Nat} {mc : Nat} {sa : Nat → Nat} {ka : Nat → Nat} {nx : Nat → Nat} {ou : Nat → Nat} {wl : Nat} {wd : Nat → Nat} {ap : Nat → Bool} {fo : Nat} {se : Nat → Nat} {fr : Nat → Option Nat} {by_ : Nat → Nat} {is : Nat → Bool} {tr : Nat} {my : Nat → Nat} {ss : Nat → Nat} {tf : Nat → Option Nat} {tb : Nat → Nat} (hM : MoAt G L f w 100 A th mc sa ka nx ou wl wd ap fo se fr by_ is tr my ss tf tb) (m s u : Nat) (hm : m < 12) (hA : okA (fun t => nx (160 * m + t)) (fun t => ou (160 * m + t)) (sa m) (ka m)) (hs : s < sa m) (hu : u < sa m) : Con G y_Mo_isApart (.code y_Mo_isApart b_Mo_isApart 7 (some .boolean) :: BIG) 0 0 0 0 [.ref (A 0), .int (nI m), .int (nI s), .int (nI u)] L f (fun v L' f' => ((∃ i, i < ka m ∧ nAp nx ou ap m s u i) ∧ v = some (.int (nI 1)) ∨ (∀ i, i < ka m → ¬ nAp nx ou ap m s u i) ∧ v = some (.int (nI 0))) ∧ L' = L ∧ f' = f) := by
  refine con_of (cc := b_Mo_isApart) (mL := 7) (lv := [some (.ref (A 0)), some (.int (nI m)), some (.int (nI s)), some (.int (nI u)), none, none, none]) (by decide) (by intro w hw; simp at hw; rcases hw with rfl | rfl | rfl | rfl <;> rfl) (by first | exact Nat.le_of_ble_eq_true rfl | decide) rfl ?_
  intro x hx hr hin
  have hF0 := gF.rf (w := w) (id := 100) (f := f)
  obtain ⟨hn1, hn2, hk1, hk2, hnx⟩ := id hA
  refine v_iconst (v := (nI 0)) hx d_Mo_isApart_0 rfl ?_
  refine v_istore (lv' := [some (.ref (A 0)), some (.int (nI m)), some (.int (nI s)), some (.int (nI u)), some (.int (nI 0)), none, none]) hx d_Mo_isApart_1 (by decide) rfl ?_
  have H3 : ∀ (fu : Nat) (i : Nat), ka m - i < fu → (i ≤ ka m) → (∀ j, j < i → ¬ nAp nx ou ap m s u j) → V G { frames := 0, cells := 0, slots := 0, locals := 0 } 7 x L f 0 0 [some (.ref (A 0)), some (.int (nI m)), some (.int (nI s)), some (.int (nI u)), some (.int (nI i)), none, none] 3 [] := by
    intro fu
    induction fu with
    | zero => intro i hm; exact absurd hm (Nat.not_lt_zero _)
    | succ fu ih =>
      intro i hm hi hno
      refine v_iload hx d_Mo_isApart_3 rfl ?_
      refine v_aload_n hx d_Mo_isApart_5 rfl rfl ?_
      refine v_get hx cf_Mo 3 (by decide) k_Mo_13 d_Mo_isApart_6 hM.m0 hM.f0 rfl ?_
      refine v_iload_n hx d_Mo_isApart_9 rfl rfl ?_
      refine n_iald hx d_Mo_isApart_10 hM.m2 hM.f2 (by omega) (by decide) ?_
      refine n_icmp_ge (tgt := 93) hx d_Mo_isApart_11 (by decide) (by omega) (by omega) (fun c11 => ?_) (fun c11 => ?_)
      · refine v_iconst (v := (nI 0)) hx d_Mo_isApart_93 rfl ?_
        exact v_zret hx hr d_Mo_isApart_94 rfl ⟨Or.inr ⟨fun j hj => hno j (by omega), rfl⟩, rfl, rfl⟩
      · have hx1 : nx (160 * m + 4 * s + i) < sa m ∧ ou (160 * m + 4 * s + i) < 10 := by rw [pic_ix]; exact hnx s i hs (by omega)
        have hx2 : nx (160 * m + 4 * u + i) < sa m ∧ ou (160 * m + 4 * u + i) < 10 := by rw [pic_ix]; exact hnx u i hu (by omega)
        refine v_sipush (v := (nI 160)) hx d_Mo_isApart_14 rfl ?_
        refine v_iload_n hx d_Mo_isApart_17 rfl rfl ?_
        refine n_imul hx d_Mo_isApart_18 ?_
        refine v_iconst (v := (nI 4)) hx d_Mo_isApart_19 rfl ?_
        refine v_iload_n hx d_Mo_isApart_20 rfl rfl ?_
        refine n_imul hx d_Mo_isApart_21 ?_
        refine n_iadd hx d_Mo_isApart_22 ?_
        refine v_iload hx d_Mo_isApart_23 rfl ?_
        refine n_iadd hx d_Mo_isApart_25 ?_
        refine v_istore (lv' := [some (.ref (A 0)), some (.int (nI m)), some (.int (nI s)), some (.int (nI u)), some (.int (nI i)), some (.int (nI (((160 * m) + (4 * s)) + i))), none]) hx d_Mo_isApart_26 (by decide) rfl ?_
        refine v_sipush (v := (nI 160)) hx d_Mo_isApart_28 rfl ?_
        refine v_iload_n hx d_Mo_isApart_31 rfl rfl ?_
        refine n_imul hx d_Mo_isApart_32 ?_
        refine v_iconst (v := (nI 4)) hx d_Mo_isApart_33 rfl ?_
        refine v_iload_n hx d_Mo_isApart_34 rfl rfl ?_
        refine n_imul hx d_Mo_isApart_35 ?_
        refine n_iadd hx d_Mo_isApart_36 ?_
        refine v_iload hx d_Mo_isApart_37 rfl ?_
        refine n_iadd hx d_Mo_isApart_39 ?_
        refine v_istore (lv' := [some (.ref (A 0)), some (.int (nI m)), some (.int (nI s)), some (.int (nI u)), some (.int (nI i)), some (.int (nI (((160 * m) + (4 * s)) + i))), some (.int (nI (((160 * m) + (4 * u)) + i)))]) hx d_Mo_isApart_40 (by decide) rfl ?_
        refine v_aload_n hx d_Mo_isApart_42 rfl rfl ?_
        refine v_get hx cf_Mo 5 (by decide) k_Mo_19 d_Mo_isApart_43 hM.m0 hM.f0 rfl ?_
        refine v_iload hx d_Mo_isApart_46 rfl ?_
        refine n_iald hx d_Mo_isApart_48 hM.m4 hM.f4 (by omega) (by decide) ?_
        refine v_aload_n hx d_Mo_isApart_49 rfl rfl ?_
        refine v_get hx cf_Mo 5 (by decide) k_Mo_19 d_Mo_isApart_50 hM.m0 hM.f0 rfl ?_
        refine v_iload hx d_Mo_isApart_53 rfl ?_
        refine n_iald hx d_Mo_isApart_55 hM.m4 hM.f4 (by omega) (by decide) ?_
        refine n_icmp_ne (tgt := 85) hx d_Mo_isApart_56 (by decide) (by omega) (by omega) (fun c56 => ?_) (fun c56 => ?_)
        · refine v_iconst (v := (nI 1)) hx d_Mo_isApart_85 rfl ?_
          exact v_zret hx hr d_Mo_isApart_86 rfl ⟨Or.inl ⟨⟨i, by omega, Or.inl c56⟩, rfl⟩, rfl, rfl⟩
        · refine v_aload_n hx d_Mo_isApart_59 rfl rfl ?_
          refine v_get hx cf_Mo 8 (by decide) k_Mo_25 d_Mo_isApart_60 hM.m0 hM.f0 rfl ?_
          refine v_bipush (v := (nI 40)) hx d_Mo_isApart_63 rfl ?_
          refine v_aload_n hx d_Mo_isApart_65 rfl rfl ?_
          refine v_get hx cf_Mo 4 (by decide) k_Mo_16 d_Mo_isApart_66 hM.m0 hM.f0 rfl ?_
          refine v_iload hx d_Mo_isApart_69 rfl ?_
          refine n_iald hx d_Mo_isApart_71 hM.m3 hM.f3 (by omega) (by decide) ?_
          refine n_imul hx d_Mo_isApart_72 ?_
          refine v_aload_n hx d_Mo_isApart_73 rfl rfl ?_
          refine v_get hx cf_Mo 4 (by decide) k_Mo_16 d_Mo_isApart_74 hM.m0 hM.f0 rfl ?_
          refine v_iload hx d_Mo_isApart_77 rfl ?_
          refine n_iald hx d_Mo_isApart_79 hM.m3 hM.f3 (by omega) (by decide) ?_
          refine n_iadd hx d_Mo_isApart_80 ?_
          refine n_zald hx d_Mo_isApart_81 hM.m6 hM.f6 (by omega) (by decide) ?_
          refine v_if_eq (tgt := 87) hx d_Mo_isApart_82 (by decide) (fun c82 => ?_) (fun c82 => ?_)
          · refine n_iinc (lv' := [some (.ref (A 0)), some (.int (nI m)), some (.int (nI s)), some (.int (nI u)), some (.int (nI (i + 1))), some (.int (nI (((160 * m) + (4 * s)) + i))), some (.int (nI (((160 * m) + (4 * u)) + i)))]) hx d_Mo_isApart_87 rfl (by decide) rfl ?_
            refine v_goto (tgt := 3) hx d_Mo_isApart_90 (by decide) ?_
            refine v_weak (by simp [vsub]) (ih (i + 1) (by omega) (by omega) (lt_s hno (fun z => z.elim (fun q => q c56) (fun q => ?_))))
            rw [(bI_0 _).mp c82] at q
            cases q
          · refine v_iconst (v := (nI 1)) hx d_Mo_isApart_85 rfl ?_
            exact v_zret hx hr d_Mo_isApart_86 rfl ⟨Or.inl ⟨⟨i, by omega, Or.inr (Bool.of_not_eq_false (fun z => c82 ((bI_0 _).mpr z)))⟩, rfl⟩, rfl, rfl⟩
  exact H3 _ 0 (Nat.lt_succ_self _) (Nat.zero_le _) (fun _ h => absurd h (Nat.not_lt_zero _))
set_option maxHeartbeats 4000000 in
set_option maxRecDepth 100000 in
theorem c_Mo_mark {G : GT} {L : List Nat} {f : Nat → va_E} {w A : Nat → Nat} {th : Nat} {mc : Nat} {sa : Nat → Nat} {ka : Nat → Nat} {nx : Nat → Nat} {ou : Nat → Nat} {wl : Nat} {wd : Nat → Nat} {ap : Nat → Bool} {fo : Nat} {se : Nat → Nat} {fr : Nat → Option Nat} {by_ : Nat → Nat} {is : Nat → Bool} {tr : Nat} {my : Nat → Nat} {ss : Nat → Nat} {tf : Nat → Option Nat} {tb : Nat → Nat} (hM : MoAt G L f w 100 A th mc sa ka nx ou wl wd ap fo se fr by_ is tr my ss tf tb) (m : Nat) (hm12 : m < 12) (hA : okA (fun t => nx (160 * m + t)) (fun t => ou (160 * m + t)) (sa m) (ka m)) : Con G y_Mo_mark (.code y_Mo_mark b_Mo_mark 5 none :: BIG) 1 26 0 0 [.ref (A 0), .int (nI m)] L f (fun v L' f' => v = none ∧ L' = L ∧ gF w 100 f f' ∧ ∃ (ap' : Nat → Bool) (lo : Nat → Nat), MoAt G L f' w 100 A th mc sa ka nx ou wl wd ap' fo se fr by_ is tr my ss tf tb ∧ Lk (fun t => nx (160 * m + t)) (fun t => ou (160 * m + t)) (sa m) (ka m) lo ∧ FL ap' (sa m) lo) := by
  refine con_of (cc := b_Mo_mark) (mL := 5) (lv := [some (.ref (A 0)), some (.int (nI m)), none, none, none]) (by decide) (by intro w hw; simp at hw; rcases hw with rfl | rfl <;> rfl) (by first | exact Nat.le_of_ble_eq_true rfl | decide) rfl ?_
  intro x hx hr hin
  have hF0 := gF.rf (w := w) (id := 100) (f := f)
  obtain ⟨hn1, hn2, hk1, hk2, hnx⟩ := id hA
  refine v_iconst (v := (nI 0)) hx d_Mo_mark_0 rfl ?_
  refine v_istore_n (lv' := [some (.ref (A 0)), some (.int (nI m)), some (.int (nI 0)), none, none]) hx d_Mo_mark_1 rfl (by decide) rfl ?_
  have H2 : ∀ (fu : Nat) (q : Nat) (f1 : Nat → va_E) (ap1 : Nat → Bool), 1600 - q < fu → (q ≤ 1600) → (MoAt G L f1 w 100 A th mc sa ka nx ou wl wd ap1 fo se fr by_ is tr my ss tf tb) → (gF w 100 f f1) → (∀ p, p < q → ap1 p = false) → V G { frames := 1, cells := 0, slots := 0, locals := 26 } 5 x L f1 0 0 [some (.ref (A 0)), some (.int (nI m)), some (.int (nI q)), none, none] 2 [] := by
    intro fu
    induction fu with
    | zero => intro q f1 ap1 hm; exact absurd hm (Nat.not_lt_zero _)
    | succ fu ih =>
      intro q f1 ap1 hm hq hM1 hF1 hz
      refine v_iload_n hx d_Mo_mark_2 rfl rfl ?_
      refine v_sipush (v := (nI 1600)) hx d_Mo_mark_3 rfl ?_
      refine n_icmp_ge (tgt := 22) hx d_Mo_mark_6 (by decide) (by omega) (by omega) (fun c6 => ?_) (fun c6 => ?_)
      · have hz16 : q = 1600 := by omega
        subst hz16
        refine v_iconst (v := (nI 1)) hx d_Mo_mark_22 rfl ?_
        refine v_istore_n (lv' := [some (.ref (A 0)), some (.int (nI m)), some (.int (nI 1)), none, none]) hx d_Mo_mark_23 rfl (by decide) rfl ?_
        have H24 : ∀ (fu : Nat) (mo : Nat) (f1 : Nat → va_E) (ap1 : Nat → Bool), mo + 2 * cf ap1 1600 < fu → (mo ≤ 1) → (MoAt G L f1 w 100 A th mc sa ka nx ou wl wd ap1 fo se fr by_ is tr my ss tf tb) → (gF w 100 f f1) → (mSound nx ou ap1 m (sa m) (ka m)) → (mo = 0 → (∀ s' t', s' < sa m → t' < sa m → (s' < (sa m) ∨ s' = (sa m) ∧ t' < 0) → ap1 (40 * s' + t') = true ∨ ∀ i, i < ka m → ¬ nAp nx ou ap1 m s' t' i)) → V G { frames := 1, cells := 0, slots := 0, locals := 26 } 5 x L f1 0 0 [some (.ref (A 0)), some (.int (nI m)), some (.int (nI mo)), none, none] 24 [] := by
          intro fu
          induction fu with
          | zero => intro mo f1 ap1 hm; exact absurd hm (Nat.not_lt_zero _)
          | succ fu ih =>
            intro mo f1 ap1 hm hmo hM1 hF1 hsd hcl
            have ih24 := ih
            refine v_iload_n hx d_Mo_mark_24 rfl rfl ?_
            refine n_if_eq (tgt := 115) hx d_Mo_mark_25 (by decide) (by omega) (fun c25 => ?_) (fun c25 => ?_)
            · obtain ⟨lo, hLk, hFL⟩ := mark_done hA hsd (fun s t h1 h2 => hcl c25 s t h1 h2 (by omega))
              exact v_vret hx hr d_Mo_mark_115 ⟨rfl, rfl, hF1, ap1, lo, hM1, hLk, hFL⟩
            · refine v_iconst (v := (nI 0)) hx d_Mo_mark_28 rfl ?_
              refine v_istore_n (lv' := [some (.ref (A 0)), some (.int (nI m)), some (.int (nI 0)), none, none]) hx d_Mo_mark_29 rfl (by decide) rfl ?_
              refine v_iconst (v := (nI 0)) hx d_Mo_mark_30 rfl ?_
              refine v_istore_n (lv' := [some (.ref (A 0)), some (.int (nI m)), some (.int (nI 0)), some (.int (nI 0)), none]) hx d_Mo_mark_31 rfl (by decide) rfl ?_
              have H32 : ∀ (fu : Nat) (s : Nat) (mo2 : Nat) (f2 : Nat → va_E) (ap2 : Nat → Bool), sa m - s < fu → (s ≤ sa m) → (MoAt G L f2 w 100 A th mc sa ka nx ou wl wd ap2 fo se fr by_ is tr my ss tf tb) → (gF w 100 f f2) → (mSound nx ou ap2 m (sa m) (ka m)) → (mo2 = 0 ∧ ap2 = ap1 ∧ (∀ s' t', s' < sa m → t' < sa m → (s' < s ∨ s' = s ∧ t' < 0) → ap1 (40 * s' + t') = true ∨ ∀ i, i < ka m → ¬ nAp nx ou ap1 m s' t' i) ∨ mo2 = 1 ∧ cf ap2 1600 < cf ap1 1600) → V G { frames := 1, cells := 0, slots := 0, locals := 26 } 5 x L f2 0 0 [some (.ref (A 0)), some (.int (nI m)), some (.int (nI mo2)), some (.int (nI s)), none] 32 [] := by
                intro fu
                induction fu with
                | zero => intro s mo2 f2 ap2 hm; exact absurd hm (Nat.not_lt_zero _)
                | succ fu ih =>
                  intro s mo2 f2 ap2 hm hs hM2 hF2 hsd2 hiv
                  have ih32 := ih
                  refine v_iload_n hx d_Mo_mark_32 rfl rfl ?_
                  refine v_aload_n hx d_Mo_mark_33 rfl rfl ?_
                  refine v_get hx cf_Mo 2 (by decide) k_Mo_7 d_Mo_mark_34 hM2.m0 hM2.f0 rfl ?_
                  refine v_iload_n hx d_Mo_mark_37 rfl rfl ?_
                  refine n_iald hx d_Mo_mark_38 hM2.m1 hM2.f1 (by omega) (by decide) ?_
                  refine n_icmp_ge (tgt := 112) hx d_Mo_mark_39 (by decide) (by omega) (by omega) (fun c39 => ?_) (fun c39 => ?_)
                  · refine v_goto (tgt := 24) hx d_Mo_mark_112 (by decide) ?_
                    rcases hiv with ⟨e1, e2, e3⟩ | ⟨e1, e2⟩
                    · subst e2
                      exact v_weak (by simp [vsub]) (ih24 mo2 f2 ap2 (by omega) (by omega) hM2 hF2 hsd2 (fun _ s t h1 h2 h3 => e3 s t h1 h2 (by omega)))
                    · exact v_weak (by simp [vsub]) (ih24 mo2 f2 ap2 (by omega) (by omega) hM2 hF2 hsd2 (fun z => absurd z (by omega)))
                  · refine v_iconst (v := (nI 0)) hx d_Mo_mark_42 rfl ?_
                    refine v_istore (lv' := [some (.ref (A 0)), some (.int (nI m)), some (.int (nI mo2)), some (.int (nI s)), some (.int (nI 0))]) hx d_Mo_mark_43 (by decide) rfl ?_
                    have H45 : ∀ (fu : Nat) (t : Nat) (mo2 : Nat) (f2 : Nat → va_E) (ap2 : Nat → Bool), sa m - t < fu → (t ≤ sa m) → (MoAt G L f2 w 100 A th mc sa ka nx ou wl wd ap2 fo se fr by_ is tr my ss tf tb) → (gF w 100 f f2) → (mSound nx ou ap2 m (sa m) (ka m)) → (mo2 = 0 ∧ ap2 = ap1 ∧ (∀ s' t', s' < sa m → t' < sa m → (s' < s ∨ s' = s ∧ t' < t) → ap1 (40 * s' + t') = true ∨ ∀ i, i < ka m → ¬ nAp nx ou ap1 m s' t' i) ∨ mo2 = 1 ∧ cf ap2 1600 < cf ap1 1600) → V G { frames := 1, cells := 0, slots := 0, locals := 26 } 5 x L f2 0 0 [some (.ref (A 0)), some (.int (nI m)), some (.int (nI mo2)), some (.int (nI s)), some (.int (nI t))] 45 [] := by
                      intro fu
                      induction fu with
                      | zero => intro t mo2 f2 ap2 hm; exact absurd hm (Nat.not_lt_zero _)
                      | succ fu ih =>
                        intro t mo2 f2 ap2 hm ht hM2 hF2 hsd2 hiv
                        refine v_iload hx d_Mo_mark_45 rfl ?_
                        refine v_aload_n hx d_Mo_mark_47 rfl rfl ?_
                        refine v_get hx cf_Mo 2 (by decide) k_Mo_7 d_Mo_mark_48 hM2.m0 hM2.f0 rfl ?_
                        refine v_iload_n hx d_Mo_mark_51 rfl rfl ?_
                        refine n_iald hx d_Mo_mark_52 hM2.m1 hM2.f1 (by omega) (by decide) ?_
                        refine n_icmp_ge (tgt := 106) hx d_Mo_mark_53 (by decide) (by omega) (by omega) (fun c53 => ?_) (fun c53 => ?_)
                        · refine n_iinc (lv' := [some (.ref (A 0)), some (.int (nI m)), some (.int (nI mo2)), some (.int (nI (s + 1))), some (.int (nI t))]) hx d_Mo_mark_106 rfl (by decide) rfl ?_
                          refine v_goto (tgt := 32) hx d_Mo_mark_109 (by decide) ?_
                          have et : t = sa m := by omega
                          exact v_weak (by simp [vsub]) (ih32 (s + 1) mo2 f2 ap2 (by omega) (by omega) hM2 hF2 hsd2 (hiv.imp (fun ⟨h1, h2, h3⟩ => ⟨h1, h2, fun s t g1 g2 g3 => h3 s t g1 g2 (by omega)⟩) id))
                        · refine v_aload_n hx d_Mo_mark_56 rfl rfl ?_
                          refine v_get hx cf_Mo 8 (by decide) k_Mo_25 d_Mo_mark_57 hM2.m0 hM2.f0 rfl ?_
                          refine v_bipush (v := (nI 40)) hx d_Mo_mark_60 rfl ?_
                          refine v_iload_n hx d_Mo_mark_62 rfl rfl ?_
                          refine n_imul hx d_Mo_mark_63 ?_
                          refine v_iload hx d_Mo_mark_64 rfl ?_
                          refine n_iadd hx d_Mo_mark_66 ?_
                          refine n_zald hx d_Mo_mark_67 hM2.m6 hM2.f6 (by omega) (by decide) ?_
                          refine v_if_ne (tgt := 100) hx d_Mo_mark_68 (by decide) (fun c68 => ?_) (fun c68 => ?_)
                          · refine n_iinc (lv' := [some (.ref (A 0)), some (.int (nI m)), some (.int (nI mo2)), some (.int (nI s)), some (.int (nI (t + 1)))]) hx d_Mo_mark_100 rfl (by decide) rfl ?_
                            refine v_goto (tgt := 45) hx d_Mo_mark_103 (by decide) ?_
                            refine ih (t + 1) mo2 f2 ap2 (by omega) (by omega) hM2 hF2 hsd2 (hiv.imp (fun ⟨h1, h2, h3⟩ => ⟨h1, h2, fun s9 t9 g1 g2 g3 => ?_⟩) id)
                            subst h2
                            by_cases e : s9 = s ∧ t9 = t
                            · obtain ⟨rfl, rfl⟩ := e; exact Or.inl (Bool.of_not_eq_false (fun z => c68 ((bI_0 _).mpr z)))
                            · exact h3 s9 t9 g1 g2 (by omega)
                          · refine v_aload_n hx d_Mo_mark_71 rfl rfl ?_
                            refine v_iload_n hx d_Mo_mark_72 rfl rfl ?_
                            refine v_iload_n hx d_Mo_mark_73 rfl rfl ?_
                            refine v_iload hx d_Mo_mark_74 rfl ?_
                            refine v_callV (as := [.int (nI m), .int (nI s), .int (nI t)]) (q := (R_Mo, T_Mo, 19)) hx (c_Mo_isApart hM2 m s t hm12 hA (by omega) (by omega)) cy_Mo_isApart k_Mo_76 ki_Mo_isApart kl_Mo_isApart d_Mo_mark_76 (by decide) (ci := 4) rfl hM2.m0 hM2.f0 (by decide) rfl rfl (Nat.le_of_ble_eq_true rfl) (fun v1 L f2 p1 => ?_)
                            obtain ⟨(⟨⟨i9, hi9, hap9⟩, rfl⟩ | ⟨hna, rfl⟩), rfl, rfl⟩ := p1
                            · refine n_if_ne (tgt := 85) hx d_Mo_mark_79 (by decide) (by omega) (fun c79 => ?_) (fun c79 => ?_)
                              · refine v_aload_n hx d_Mo_mark_85 rfl rfl ?_
                                refine v_get hx cf_Mo 8 (by decide) k_Mo_25 d_Mo_mark_86 hM2.m0 hM2.f0 rfl ?_
                                refine v_bipush (v := (nI 40)) hx d_Mo_mark_89 rfl ?_
                                refine v_iload_n hx d_Mo_mark_91 rfl rfl ?_
                                refine n_imul hx d_Mo_mark_92 ?_
                                refine v_iload hx d_Mo_mark_93 rfl ?_
                                refine n_iadd hx d_Mo_mark_95 ?_
                                refine v_iconst (v := (nI 1)) hx d_Mo_mark_96 rfl ?_
                                refine nz_ast (v := true) hx d_Mo_mark_97 hM2.m6 hM2.f6 (by omega) (by decide) (fun f2 hf2 => ?_)
                                have mf2 := hM2.up6 hf2
                                have Ff2 := hF2.up hf2 hM2.o6
                                refine v_iconst (v := (nI 1)) hx d_Mo_mark_98 rfl ?_
                                refine v_istore_n (lv' := [some (.ref (A 0)), some (.int (nI m)), some (.int (nI 1)), some (.int (nI s)), some (.int (nI t))]) hx d_Mo_mark_99 rfl (by decide) rfl ?_
                                refine n_iinc (lv' := [some (.ref (A 0)), some (.int (nI m)), some (.int (nI 1)), some (.int (nI s)), some (.int (nI (t + 1)))]) hx d_Mo_mark_100 rfl (by decide) rfl ?_
                                refine v_goto (tgt := 45) hx d_Mo_mark_103 (by decide) ?_
                                refine ih (t + 1) 1 f2 _ (by omega) (by omega) mf2 Ff2 (hsd2.set hA (by omega) (by omega) hi9 hap9) (Or.inr ⟨rfl, ?_⟩)
                                have hcf := (cf_up ((bI_0 _).mp c68) 1600).1 (by omega)
                                rcases hiv with ⟨h1, h2, h3⟩ | ⟨h1, h2⟩
                                · subst h2; omega
                                · omega
                              · exact absurd c79 (by omega)
                            · refine n_if_ne (tgt := 85) hx d_Mo_mark_79 (by decide) (by omega) (fun c79 => ?_) (fun c79 => ?_)
                              · exact absurd c79 (by omega)
                              · refine v_goto (tgt := 100) hx d_Mo_mark_82 (by decide) ?_
                                refine n_iinc (lv' := [some (.ref (A 0)), some (.int (nI m)), some (.int (nI mo2)), some (.int (nI s)), some (.int (nI (t + 1)))]) hx d_Mo_mark_100 rfl (by decide) rfl ?_
                                refine v_goto (tgt := 45) hx d_Mo_mark_103 (by decide) ?_
                                refine ih (t + 1) mo2 f2 ap2 (by omega) (by omega) hM2 hF2 hsd2 (hiv.imp (fun ⟨h1, h2, h3⟩ => ⟨h1, h2, fun s9 t9 g1 g2 g3 => ?_⟩) id)
                                subst h2
                                by_cases e : s9 = s ∧ t9 = t
                                · obtain ⟨rfl, rfl⟩ := e; exact Or.inr hna
                                · exact h3 s9 t9 g1 g2 (by omega)
                    exact H45 _ 0 mo2 f2 ap2 (Nat.lt_succ_self _) (Nat.zero_le _) hM2 hF2 hsd2 hiv
              exact v_weak (by simp [vsub]) (H32 _ 0 0 f1 ap1 (Nat.lt_succ_self _) (Nat.zero_le _) hM1 hF1 hsd (Or.inl ⟨rfl, rfl, fun s t _ _ h => absurd h (by omega)⟩))
        exact H24 _ 1 f1 _ (Nat.lt_succ_self _) (Nat.le_refl _) hM1 hF1 (fun s t hs ht he => absurd he (by rw [hz _ (by omega)]; decide)) (fun h => absurd h (by decide))
      · refine v_aload_n hx d_Mo_mark_9 rfl rfl ?_
        refine v_get hx cf_Mo 8 (by decide) k_Mo_25 d_Mo_mark_10 hM1.m0 hM1.f0 rfl ?_
        refine v_iload_n hx d_Mo_mark_13 rfl rfl ?_
        refine v_iconst (v := (nI 0)) hx d_Mo_mark_14 rfl ?_
        refine nz_ast (v := false) hx d_Mo_mark_15 hM1.m6 hM1.f6 (by omega) (by decide) (fun f1 hf1 => ?_)
        have mf1 := hM1.up6 hf1
        have Ff1 := hF1.up hf1 hM1.o6
        refine n_iinc (lv' := [some (.ref (A 0)), some (.int (nI m)), some (.int (nI (q + 1))), none, none]) hx d_Mo_mark_16 rfl (by decide) rfl ?_
        refine v_goto (tgt := 2) hx d_Mo_mark_19 (by decide) ?_
        refine ih (q + 1) f1 _ (by omega) (by omega) mf1 Ff1 (fun p hp => ?_)
        by_cases e : p = q
        · rw [e, va_up_self]
        · rw [va_up_ne _ _ e]; exact hz p (by omega)
  exact H2 _ 0 f ap (Nat.lt_succ_self _) (Nat.zero_le _) hM hF0 (fun _ h => absurd h (Nat.not_lt_zero _))
set_option maxHeartbeats 4000000 in
set_option maxRecDepth 100000 in
theorem c_Mo_firstLike {G : GT} {L : List Nat} {f : Nat → va_E} {w A : Nat → Nat} {th : Nat} {mc : Nat} {sa : Nat → Nat} {ka : Nat → Nat} {nx : Nat → Nat} {ou : Nat → Nat} {wl : Nat} {wd : Nat → Nat} {ap : Nat → Bool} {fo : Nat} {se : Nat → Nat} {fr : Nat → Option Nat} {by_ : Nat → Nat} {is : Nat → Bool} {tr : Nat} {my : Nat → Nat} {ss : Nat → Nat} {tf : Nat → Option Nat} {tb : Nat → Nat} (hM : MoAt G L f w 100 A th mc sa ka nx ou wl wd ap fo se fr by_ is tr my ss tf tb) (N : Nat) (lo : Nat → Nat) (hN : N ≤ 40) (hFL : FL ap N lo) (s : Nat) (hs : s < N) : Con G y_Mo_firstLike (.code y_Mo_firstLike b_Mo_firstLike 3 (some .int) :: BIG) 0 0 0 0 [.ref (A 0), .int (nI s)] L f (fun v L' f' => v = some (.int (nI (lo s))) ∧ L' = L ∧ f' = f) := by
  refine con_of (cc := b_Mo_firstLike) (mL := 3) (lv := [some (.ref (A 0)), some (.int (nI s)), none]) (by decide) (by intro w hw; simp at hw; rcases hw with rfl | rfl <;> rfl) (by first | exact Nat.le_of_ble_eq_true rfl | decide) rfl ?_
  intro x hx hr hin
  have hF0 := gF.rf (w := w) (id := 100) (f := f)
  obtain ⟨h1, h2, h3⟩ := hFL s hs
  refine v_iconst (v := (nI 0)) hx d_Mo_firstLike_0 rfl ?_
  refine v_istore_n (lv' := [some (.ref (A 0)), some (.int (nI s)), some (.int (nI 0))]) hx d_Mo_firstLike_1 rfl (by decide) rfl ?_
  have H2 : ∀ (fu : Nat) (t : Nat), lo s - t < fu → (t ≤ lo s) → V G { frames := 0, cells := 0, slots := 0, locals := 0 } 3 x L f 0 0 [some (.ref (A 0)), some (.int (nI s)), some (.int (nI t))] 2 [] := by
    intro fu
    induction fu with
    | zero => intro t hm; exact absurd hm (Nat.not_lt_zero _)
    | succ fu ih =>
      intro t hm ht
      refine v_aload_n hx d_Mo_firstLike_2 rfl rfl ?_
      refine v_get hx cf_Mo 8 (by decide) k_Mo_25 d_Mo_firstLike_3 hM.m0 hM.f0 rfl ?_
      refine v_bipush (v := (nI 40)) hx d_Mo_firstLike_6 rfl ?_
      refine v_iload_n hx d_Mo_firstLike_8 rfl rfl ?_
      refine n_imul hx d_Mo_firstLike_9 ?_
      refine v_iload_n hx d_Mo_firstLike_10 rfl rfl ?_
      refine n_iadd hx d_Mo_firstLike_11 ?_
      refine n_zald hx d_Mo_firstLike_12 hM.m6 hM.f6 (by omega) (by decide) ?_
      refine v_if_eq (tgt := 22) hx d_Mo_firstLike_13 (by decide) (fun c13 => ?_) (fun c13 => ?_)
      · refine v_iload_n hx d_Mo_firstLike_22 rfl rfl ?_
        have ht2 : t = lo s := by
          rcases Nat.lt_or_ge t (lo s) with c | c
          · rw [h3 t c] at c13; exact absurd c13 (show ¬ (1 : Int32) = 0 by decide)
          · omega
        subst ht2
        exact v_iret hx hr d_Mo_firstLike_23 ⟨rfl, rfl, rfl⟩
      · refine n_iinc (lv' := [some (.ref (A 0)), some (.int (nI s)), some (.int (nI (t + 1)))]) hx d_Mo_firstLike_16 rfl (by decide) rfl ?_
        refine v_goto (tgt := 2) hx d_Mo_firstLike_19 (by decide) ?_
        have hne : t ≠ lo s := fun z => c13 (by rw [z, h2]; rfl)
        exact ih (t + 1) (by omega) (by omega)
  exact H2 _ 0 (Nat.lt_succ_self _) (Nat.zero_le _)
set_option maxHeartbeats 4000000 in
set_option maxRecDepth 100000 in
theorem c_Mo_classes {G : GT} {L : List Nat} {f : Nat → va_E} {w A : Nat → Nat} {th : Nat} {mc : Nat} {sa : Nat → Nat} {ka : Nat → Nat} {nx : Nat → Nat} {ou : Nat → Nat} {wl : Nat} {wd : Nat → Nat} {ap : Nat → Bool} {fo : Nat} {se : Nat → Nat} {fr : Nat → Option Nat} {by_ : Nat → Nat} {is : Nat → Bool} {tr : Nat} {my : Nat → Nat} {ss : Nat → Nat} {tf : Nat → Option Nat} {tb : Nat → Nat} (hM : MoAt G L f w 100 A th mc sa ka nx ou wl wd ap fo se fr by_ is tr my ss tf tb) (hG : okG (pic mc sa ka nx ou wl wd)) (p : Int32) : Con G y_Mo_classes (.code y_Mo_classes b_Mo_classes 4 (some .int) :: BIG) 2 50 0 0 [.ref (A 0), .int p] L f (fun v L' f' => ∃ (vi : Int32) (th' : Nat) (σ' : SG), v = some (.int vi) ∧ L' = L ∧ gF w 100 f f' ∧ MoS G L f' w A th' σ' ∧ th' = 0 ∧ rClasses (pic mc sa ka nx ou wl wd) p vi ∧ σ' = (pic mc sa ka nx ou wl wd)) := by
  refine con_of (cc := b_Mo_classes) (mL := 4) (lv := [some (.ref (A 0)), some (.int p), none, none]) (by decide) (by intro w hw; simp at hw; rcases hw with rfl | rfl <;> rfl) (by first | exact Nat.le_of_ble_eq_true rfl | decide) rfl ?_
  intro x hx hr hin
  have hF0 := gF.rf (w := w) (id := 100) (f := f)
  obtain ⟨hmc, hok, hwl, hwd⟩ := id hG
  have hmc : mc ≤ 12 := hmc
  have hok : ∀ j, j < mc → okA (fun t => nx (160 * j + t)) (fun t => ou (160 * j + t)) (sa j) (ka j) := hok
  have hwl : wl ≤ 4096 := hwl
  have hwd : ∀ j, j < wl → wd j < 4 := hwd
  have hsa : ∀ j, j < mc → sa j ≤ 40 := fun j hj => (hok j hj).2.1
  have hka : ∀ j, j < mc → ka j ≤ 4 := fun j hj => (hok j hj).2.2.2.1
  refine v_aload_n hx d_Mo_classes_0 rfl rfl ?_
  refine v_iconst (v := (nI 0)) hx d_Mo_classes_1 rfl ?_
  refine v_put hx cf_Mo 0 (by decide) k_Mo_53 rfl rfl rfl d_Mo_classes_2 hM.m0 hM.f0 (Nat.le_of_ble_eq_true rfl) (fun f1 hf1 => ?_)
  have mf1 := hM.up0 hf1
  have Ff1 := hF0.up hf1 hM.o0
  refine v_aload_n hx d_Mo_classes_5 rfl rfl ?_
  refine v_iload_n hx d_Mo_classes_6 rfl rfl ?_
  refine v_callV (as := [.int p]) (q := (R_Mo, T_Mo, 19)) hx (c_Mo_isMachine mf1 hmc p) cy_Mo_isMachine k_Mo_64 ki_Mo_isMachine kl_Mo_isMachine d_Mo_classes_7 (by decide) (ci := 4) rfl mf1.m0 mf1.f0 (by decide) rfl rfl (Nat.le_of_ble_eq_true rfl) (fun v2 L f1 p2 => ?_)
  obtain ⟨rfl, rfl, rfl⟩ := p2
  refine v_if_ne (tgt := 15) hx d_Mo_classes_10 (by decide) (fun c10 => ?_) (fun c10 => ?_)
  · obtain ⟨m, em⟩ := some_ix c10
    obtain ⟨hm, zm⟩ := ix_some (by omega) em
    have hAm := hok m hm
    have hsm := hsa m hm
    have hkm := hka m hm
    subst zm
    refine v_aload_n hx d_Mo_classes_15 rfl rfl ?_
    refine v_iload_n hx d_Mo_classes_16 rfl rfl ?_
    refine v_callV (as := [.int (nI m)]) (q := (R_Mo, T_Mo, 19)) hx (c_Mo_mark mf1 m (by omega) hAm) cy_Mo_mark k_Mo_79 ki_Mo_mark kl_Mo_mark d_Mo_classes_17 (by decide) (ci := 4) rfl mf1.m0 mf1.f0 (by decide) rfl rfl (Nat.le_of_ble_eq_true rfl) (fun v3 L f8 p3 => ?_)
    obtain ⟨rfl, rfl, hF8, ap8, lo, hM8, hLk, hFL⟩ := p3
    have hF8_ := Ff1.tr hF8
    refine v_iconst (v := (nI 0)) hx d_Mo_classes_20 rfl ?_
    refine v_istore_n (lv' := [some (.ref (A 0)), some (.int (nI m)), some (.int (nI 0)), none]) hx d_Mo_classes_21 rfl (by decide) rfl ?_
    refine v_iconst (v := (nI 0)) hx d_Mo_classes_22 rfl ?_
    refine v_istore_n (lv' := [some (.ref (A 0)), some (.int (nI m)), some (.int (nI 0)), some (.int (nI 0))]) hx d_Mo_classes_23 rfl (by decide) rfl ?_
    have H24 : ∀ (fu : Nat) (s : Nat) (c : Nat), sa m - s < fu → (s ≤ sa m) → (c = cn lo s) → V G { frames := 2, cells := 0, slots := 0, locals := 50 } 4 x L f8 0 0 [some (.ref (A 0)), some (.int (nI m)), some (.int (nI c)), some (.int (nI s))] 24 [] := by
      intro fu
      induction fu with
      | zero => intro s c hm; exact absurd hm (Nat.not_lt_zero _)
      | succ fu ih =>
        intro s c hm hs hc
        refine v_iload_n hx d_Mo_classes_24 rfl rfl ?_
        refine v_aload_n hx d_Mo_classes_25 rfl rfl ?_
        refine v_get hx cf_Mo 2 (by decide) k_Mo_7 d_Mo_classes_26 hM8.m0 hM8.f0 rfl ?_
        refine v_iload_n hx d_Mo_classes_29 rfl rfl ?_
        refine n_iald hx d_Mo_classes_30 hM8.m1 hM8.f1 (by omega) (by decide) ?_
        refine n_icmp_ge (tgt := 57) hx d_Mo_classes_31 (by decide) (by omega) (by omega) (fun c31 => ?_) (fun c31 => ?_)
        · refine v_iload_n hx d_Mo_classes_57 rfl rfl ?_
          have es : s = sa m := by omega
          subst es
          subst hc
          exact v_iret hx hr d_Mo_classes_58 ⟨_, 0, (pic mc sa ka nx ou wl wd), rfl, rfl, hF8_, ⟨hG, _, _, _, _, _, _, _, _, _, _, _, _, _, hM8, rfl, rfl⟩, rfl, Or.inr ⟨m, lo, em, hLk, rfl⟩, rfl⟩
        · have hlos := (hFL s (by omega)).1
          refine v_iload_n hx d_Mo_classes_34 rfl rfl ?_
          refine v_aload_n hx d_Mo_classes_35 rfl rfl ?_
          refine v_iload_n hx d_Mo_classes_36 rfl rfl ?_
          refine v_callV (as := [.int (nI s)]) (q := (R_Mo, T_Mo, 19)) hx (c_Mo_firstLike hM8 (sa m) lo hsm hFL s (by omega)) cy_Mo_firstLike k_Mo_83 ki_Mo_firstLike kl_Mo_firstLike d_Mo_classes_37 (by decide) (ci := 4) rfl hM8.m0 hM8.f0 (by decide) rfl rfl (Nat.le_of_ble_eq_true rfl) (fun v4 L f8 p4 => ?_)
          obtain ⟨rfl, rfl, rfl⟩ := p4
          refine v_iload_n hx d_Mo_classes_40 rfl rfl ?_
          refine n_icmp_ne (tgt := 48) hx d_Mo_classes_41 (by decide) (by omega) (by omega) (fun c41 => ?_) (fun c41 => ?_)
          · refine v_iconst (v := (nI 0)) hx d_Mo_classes_48 rfl ?_
            refine n_iadd hx d_Mo_classes_49 ?_
            refine v_istore_n (lv' := [some (.ref (A 0)), some (.int (nI m)), some (.int (nI (c + 0))), some (.int (nI s))]) hx d_Mo_classes_50 rfl (by decide) rfl ?_
            refine n_iinc (lv' := [some (.ref (A 0)), some (.int (nI m)), some (.int (nI (c + 0))), some (.int (nI (s + 1)))]) hx d_Mo_classes_51 rfl (by decide) rfl ?_
            refine v_goto (tgt := 24) hx d_Mo_classes_54 (by decide) ?_
            exact ih (s + 1) (c + 0) (by omega) (by omega) (by rw [hc]; simp only [cn]; rw [if_neg c41, Nat.add_zero])
          · refine v_iconst (v := (nI 1)) hx d_Mo_classes_44 rfl ?_
            refine v_goto (tgt := 49) hx d_Mo_classes_45 (by decide) ?_
            refine n_iadd hx d_Mo_classes_49 ?_
            refine v_istore_n (lv' := [some (.ref (A 0)), some (.int (nI m)), some (.int (nI (c + 1))), some (.int (nI s))]) hx d_Mo_classes_50 rfl (by decide) rfl ?_
            refine n_iinc (lv' := [some (.ref (A 0)), some (.int (nI m)), some (.int (nI (c + 1))), some (.int (nI (s + 1)))]) hx d_Mo_classes_51 rfl (by decide) rfl ?_
            refine v_goto (tgt := 24) hx d_Mo_classes_54 (by decide) ?_
            exact ih (s + 1) (c + 1) (by omega) (by omega) (by rw [hc]; simp only [cn]; rw [if_pos c41])
    exact H24 _ 0 0 (Nat.lt_succ_self _) (Nat.zero_le _) rfl
  · refine v_iconst (v := (-1)) hx d_Mo_classes_13 rfl ?_
    exact v_iret hx hr d_Mo_classes_14 ⟨_, 0, (pic mc sa ka nx ou wl wd), rfl, rfl, Ff1, ⟨hG, _, _, _, _, _, _, _, _, _, _, _, _, _, mf1, rfl, rfl⟩, rfl, Or.inl ⟨none_ix c10, rfl⟩, rfl⟩
set_option maxHeartbeats 4000000 in
set_option maxRecDepth 100000 in
theorem c_Mo_like {G : GT} {L : List Nat} {f : Nat → va_E} {w A : Nat → Nat} {th : Nat} {mc : Nat} {sa : Nat → Nat} {ka : Nat → Nat} {nx : Nat → Nat} {ou : Nat → Nat} {wl : Nat} {wd : Nat → Nat} {ap : Nat → Bool} {fo : Nat} {se : Nat → Nat} {fr : Nat → Option Nat} {by_ : Nat → Nat} {is : Nat → Bool} {tr : Nat} {my : Nat → Nat} {ss : Nat → Nat} {tf : Nat → Option Nat} {tb : Nat → Nat} (hM : MoAt G L f w 100 A th mc sa ka nx ou wl wd ap fo se fr by_ is tr my ss tf tb) (hG : okG (pic mc sa ka nx ou wl wd)) (p q : Int32) : Con G y_Mo_like (.code y_Mo_like b_Mo_like 3 (some .int) :: BIG) 3 65 0 0 [.ref (A 0), .int p, .int q] L f (fun v L' f' => ∃ (vi : Int32) (th' : Nat) (σ' : SG), v = some (.int vi) ∧ L' = L ∧ gF w 100 f f' ∧ MoS G L f' w A th' σ' ∧ th' = 0 ∧ rLike (pic mc sa ka nx ou wl wd) p q vi ∧ σ' = (pic mc sa ka nx ou wl wd)) := by
  refine con_of (cc := b_Mo_like) (mL := 3) (lv := [some (.ref (A 0)), some (.int p), some (.int q)]) (by decide) (by intro w hw; simp at hw; rcases hw with rfl | rfl | rfl <;> rfl) (by first | exact Nat.le_of_ble_eq_true rfl | decide) rfl ?_
  intro x hx hr hin
  have hF0 := gF.rf (w := w) (id := 100) (f := f)
  obtain ⟨hmc, hok, hwl, hwd⟩ := id hG
  have hmc : mc ≤ 12 := hmc
  have hok : ∀ j, j < mc → okA (fun t => nx (160 * j + t)) (fun t => ou (160 * j + t)) (sa j) (ka j) := hok
  have hwl : wl ≤ 4096 := hwl
  have hwd : ∀ j, j < wl → wd j < 4 := hwd
  have hsa : ∀ j, j < mc → sa j ≤ 40 := fun j hj => (hok j hj).2.1
  have hka : ∀ j, j < mc → ka j ≤ 4 := fun j hj => (hok j hj).2.2.2.1
  refine v_aload_n hx d_Mo_like_0 rfl rfl ?_
  refine v_iconst (v := (nI 0)) hx d_Mo_like_1 rfl ?_
  refine v_put hx cf_Mo 0 (by decide) k_Mo_53 rfl rfl rfl d_Mo_like_2 hM.m0 hM.f0 (Nat.le_of_ble_eq_true rfl) (fun f1 hf1 => ?_)
  have mf1 := hM.up0 hf1
  have Ff1 := hF0.up hf1 hM.o0
  refine v_aload_n hx d_Mo_like_5 rfl rfl ?_
  refine v_iload_n hx d_Mo_like_6 rfl rfl ?_
  refine v_iload_n hx d_Mo_like_7 rfl rfl ?_
  refine v_callV (as := [.int p, .int q]) (q := (R_Mo, T_Mo, 19)) hx (c_Mo_isState mf1 hmc hsa p q) cy_Mo_isState k_Mo_72 ki_Mo_isState kl_Mo_isState d_Mo_like_8 (by decide) (ci := 4) rfl mf1.m0 mf1.f0 (by decide) rfl rfl (Nat.le_of_ble_eq_true rfl) (fun v2 L f1 p2 => ?_)
  obtain ⟨rfl, rfl, rfl⟩ := p2
  refine v_if_ne (tgt := 16) hx d_Mo_like_11 (by decide) (fun c11 => ?_) (fun c11 => ?_)
  · obtain ⟨m, s, em, es⟩ := ixS_some c11
    obtain ⟨hm, zm⟩ := ix_some (by omega) em
    have hAm := hok m hm
    have hsm := hsa m hm
    have hkm := hka m hm
    obtain ⟨hs, zs⟩ := ix_some (by omega) es
    subst zm
    subst zs
    refine v_aload_n hx d_Mo_like_16 rfl rfl ?_
    refine v_iload_n hx d_Mo_like_17 rfl rfl ?_
    refine v_callV (as := [.int (nI m)]) (q := (R_Mo, T_Mo, 19)) hx (c_Mo_mark mf1 m (by omega) hAm) cy_Mo_mark k_Mo_79 ki_Mo_mark kl_Mo_mark d_Mo_like_18 (by decide) (ci := 4) rfl mf1.m0 mf1.f0 (by decide) rfl rfl (Nat.le_of_ble_eq_true rfl) (fun v3 L f8 p3 => ?_)
    obtain ⟨rfl, rfl, hF8, ap8, lo, hM8, hLk, hFL⟩ := p3
    have hF8_ := Ff1.tr hF8
    refine v_aload_n hx d_Mo_like_21 rfl rfl ?_
    refine v_iload_n hx d_Mo_like_22 rfl rfl ?_
    refine v_callV (as := [.int (nI s)]) (q := (R_Mo, T_Mo, 19)) hx (c_Mo_firstLike hM8 (sa m) lo hsm hFL s (by omega)) cy_Mo_firstLike k_Mo_83 ki_Mo_firstLike kl_Mo_firstLike d_Mo_like_23 (by decide) (ci := 4) rfl hM8.m0 hM8.f0 (by decide) rfl rfl (Nat.le_of_ble_eq_true rfl) (fun v4 L f8 p4 => ?_)
    obtain ⟨rfl, rfl, rfl⟩ := p4
    exact v_iret hx hr d_Mo_like_26 ⟨_, 0, (pic mc sa ka nx ou wl wd), rfl, rfl, hF8_, ⟨hG, _, _, _, _, _, _, _, _, _, _, _, _, _, hM8, rfl, rfl⟩, rfl, Or.inr ⟨m, s, lo, em, es, hLk, rfl⟩, rfl⟩
  · refine v_iconst (v := (-1)) hx d_Mo_like_14 rfl ?_
    exact v_iret hx hr d_Mo_like_15 ⟨_, 0, (pic mc sa ka nx ou wl wd), rfl, rfl, Ff1, ⟨hG, _, _, _, _, _, _, _, _, _, _, _, _, _, mf1, rfl, rfl⟩, rfl, Or.inl ⟨ixS_none c11, rfl⟩, rfl⟩
