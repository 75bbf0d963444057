/-! ===== the reference's families ===== -/
def RT (tf : Nat → Option Nat) (tb : Nat → Nat) (q : Qu) : Prop := ∀ z, z < q.length → tf z = (if z = 0 then none else some (qF q z)) ∧ (0 < z → tb z = qB q z)
theorem RT.tl {tf : Nat → Option Nat} {tb : Nat → Nat} {q : Qu} {D a i : Nat} (h : RT tf tb q) (ho : qOK q D) (hl : q.length ≤ 300) (ha : a < q.length) (hi : i < 4) : TlR (va_up tf q.length (some a)) (va_up tb q.length i) q.length (q.length + 1) (qW q a ++ [i]) := by
  have hF : ∀ b, 0 < b → b < q.length + 1 → (va_up tf q.length (some a) b).getD 0 < b := by
    intro b h0 hb
    by_cases e : b = q.length
    · subst e
      rw [va_up_self]
      exact ha
    · rw [va_up_ne _ _ e, (h b (by omega)).1, if_neg (by omega)]
      exact ho.F b h0 (by omega)
  refine ⟨Nat.lt_succ_self _, by omega, fun b hb => ?_, fun b h0 hb => ?_, ?_⟩
  · by_cases e : b = q.length
    · subst e
      rw [va_up_self]
      exact Or.inr ⟨a, rfl, ha⟩
    · rw [va_up_ne _ _ e, (h b (by omega)).1]
      by_cases e0 : b = 0
      · rw [if_pos e0]; exact Or.inl ⟨e0, rfl⟩
      · rw [if_neg e0]; exact Or.inr ⟨_, rfl, ho.F b (by omega) (by omega)⟩
  · by_cases e : b = q.length
    · subst e
      rw [va_up_self]
      exact hi
    · rw [va_up_ne _ _ e, (h b (by omega)).2 h0]
      exact (ho.2.2 b (by omega)).1
  · rw [wdA_s (N := q.length + 1) hF (by omega) (Nat.lt_succ_self _)]
    show wdA (fun b => (va_up tf q.length (some a) b).getD 0) (va_up tb q.length i) ((va_up tf q.length (some a) q.length).getD 0) ++ [va_up tb q.length i q.length] = _
    rw [va_up_self, va_up_self]
    show wdA (fun b => (va_up tf q.length (some a) b).getD 0) (va_up tb q.length i) a ++ [i] = _
    congr 1
    refine (wdA_congr ho.F (fun b h0 hb => ?_) a a (Nat.le_refl _) ha).symm
    rw [va_up_ne _ _ (by omega), va_up_ne _ _ (by omega), (h b hb).1, if_neg (by omega)]
    exact ⟨rfl, ((h b hb).2 h0).symm⟩
theorem RT.add {tf : Nat → Option Nat} {tb : Nat → Nat} {q : Qu} {p a i : Nat} (h : RT tf tb q) (h1 : 1 ≤ q.length) : RT (va_up tf q.length (some a)) (va_up tb q.length i) (q ++ [(p, a, i)]) := by
  intro z hz
  rw [List.length_append] at hz
  have hz : z < q.length + 1 := hz
  by_cases e : z = q.length
  · subst e
    rw [va_up_self, va_up_self, qF_new, qB_new, if_neg (by omega)]
    exact ⟨rfl, fun _ => rfl⟩
  · rw [va_up_ne _ _ e, va_up_ne _ _ e, qF_old (by omega), qB_old (by omega)]
    exact h z (by omega)
theorem RT.keep {tf tf' : Nat → Option Nat} {tb tb' : Nat → Nat} {q : Qu} (h : RT tf tb q) {x : Option Nat} {y : Nat} (e1 : tf' = va_up tf q.length x) (e2 : tb' = va_up tb q.length y) : RT tf' tb' q := fun z hz => by
  rw [e1, e2, va_up_ne _ _ (by omega), va_up_ne _ _ (by omega)]
  exact h z hz
set_option maxHeartbeats 4000000 in
set_option maxRecDepth 100000 in
theorem c_Mo_lead {G : GT} {L : List Nat} {f : Nat → va_E} {w A : Nat → Nat} {th : Nat} {mc : Nat} {sa : Nat → Nat} {ka : Nat → Nat} {nx : Nat → Nat} {ou : Nat → Nat} {wl : Nat} {wd : Nat → Nat} {ap : Nat → Bool} {fo : Nat} {se : Nat → Nat} {fr : Nat → Option Nat} {by_ : Nat → Nat} {is : Nat → Bool} {tr : Nat} {my : Nat → Nat} {ss : Nat → Nat} {tf : Nat → Option Nat} {tb : Nat → Nat} (hM : MoAt G L f w 100 A th mc sa ka nx ou wl wd ap fo se fr by_ is tr my ss tf tb) (m : Nat) (hm12 : m < 12) (hA : okA (fun t => nx (160 * m + t)) (fun t => ou (160 * m + t)) (sa m) (ka m)) (hn12 : sa m ≤ 12) (lo : Nat → Nat) (hFL : FL ap (sa m) lo) (t i to_ : Nat) (hi : i < ka m) (ht : t < to_) (hto : to_ < 301) {lf : List Nat} (hRf : rowAt ss my t lf) (hOf : fOK lf 12) : Con G y_Mo_lead (.code y_Mo_lead b_Mo_lead 10 none :: BIG) 1 25 0 0 [.ref (A 0), .int (nI m), .int (nI t), .int (nI i), .int (nI to_)] L f (fun v L' f' => v = none ∧ L' = L ∧ gF w 100 f f' ∧ ∃ (ss' my' : Nat → Nat), MoAt G L f' w 100 A th mc sa ka nx ou wl wd ap fo se fr by_ is tr my' ss' tf tb ∧ rowAt ss' my' to_ (ffol (fun s => ou (160 * m + (s * 4 + i))) (fun s => lo (nx (160 * m + (s * 4 + i)))) (sa m) lf lf.length) ∧ (∀ j, j < to_ * 12 → ss' j = ss j) ∧ (∀ z, z ≠ to_ → my' z = my z)) := by
  refine con_of (cc := b_Mo_lead) (mL := 10) (lv := [some (.ref (A 0)), some (.int (nI m)), some (.int (nI t)), some (.int (nI i)), some (.int (nI to_)), none, none, none, none, none]) (by decide) (by intro w hw; simp at hw; rcases hw with rfl | rfl | rfl | rfl | rfl <;> rfl) (by first | exact Nat.le_of_ble_eq_true rfl | decide) rfl ?_
  intro x hx hr hin
  have hF0 := gF.rf (w := w) (id := 100) (f := f)
  obtain ⟨hn1, hn2, hk1, hk2, hnx⟩ := id hA
  have hll := hOf.len
  have hszf := hRf.1
  have hg12 : ∀ s, s < sa m → (fun s => lo (nx (160 * m + (s * 4 + i)))) s < 12 := fun s hs => by have h1 : nx (160 * m + (s * 4 + i)) < sa m := (hnx s i hs hi).1; have := (hFL _ h1).1; show lo (nx (160 * m + (s * 4 + i))) < 12; omega
  have e12 : ∀ j, 12 * t + j = t * 12 + j := fun j => by omega
  refine v_aload_n hx d_Mo_lead_0 rfl rfl ?_
  refine v_get hx cf_Mo 15 (by decide) k_Mo_41 d_Mo_lead_1 hM.m0 hM.f0 rfl ?_
  refine v_iload hx d_Mo_lead_4 rfl ?_
  refine v_iconst (v := (nI 0)) hx d_Mo_lead_6 rfl ?_
  refine nn_iast hx d_Mo_lead_7 hM.m11 hM.f11 (by omega) (by decide) (fun f1 hf1 => ?_)
  have mf1 := hM.up11 hf1
  have Ff1 := hF0.up hf1 hM.o11
  refine v_iconst (v := (nI 0)) hx d_Mo_lead_8 rfl ?_
  refine v_istore (lv' := [some (.ref (A 0)), some (.int (nI m)), some (.int (nI t)), some (.int (nI i)), some (.int (nI to_)), some (.int (nI 0)), none, none, none, none]) hx d_Mo_lead_9 (by decide) rfl ?_
  have H11 : ∀ (fu : Nat) (q : Nat) (f1 : Nat → va_E) (ss1 : Nat → Nat) (my1 : Nat → Nat), lf.length - q < fu → (q ≤ lf.length) → (MoAt G L f1 w 100 A th mc sa ka nx ou wl wd ap fo se fr by_ is tr my1 ss1 tf tb) → (gF w 100 f f1) → (rowAt ss1 my1 to_ (ffol (fun s => ou (160 * m + (s * 4 + i))) (fun s => lo (nx (160 * m + (s * 4 + i)))) (sa m) lf q)) → (∀ j, j < to_ * 12 → ss1 j = ss j) → (∀ z, z ≠ to_ → my1 z = my z) → V G { frames := 1, cells := 0, slots := 0, locals := 25 } 10 x L f1 0 0 [some (.ref (A 0)), some (.int (nI m)), some (.int (nI t)), some (.int (nI i)), some (.int (nI to_)), some (.int (nI q)), none, none, none, none] 11 [] := by
    intro fu
    induction fu with
    | zero => intro q f1 ss1 my1 hm; exact absurd hm (Nat.not_lt_zero _)
    | succ fu ih =>
      intro q f1 ss1 my1 hm hq hM1 hF1 hR1 hj1 ht1
      have ihK := ih
      have hst : my1 t = lf.length := (ht1 t (by omega)).trans hszf
      refine v_iload hx d_Mo_lead_11 rfl ?_
      refine v_aload_n hx d_Mo_lead_13 rfl rfl ?_
      refine v_get hx cf_Mo 15 (by decide) k_Mo_41 d_Mo_lead_14 hM1.m0 hM1.f0 rfl ?_
      refine v_iload_n hx d_Mo_lead_17 rfl rfl ?_
      refine n_iald hx d_Mo_lead_18 hM1.m11 hM1.f11 (by omega) (by decide) ?_
      rw [hst]
      refine n_icmp_ge (tgt := 145) hx d_Mo_lead_19 (by decide) (by omega) (by omega) (fun c19 => ?_) (fun c19 => ?_)
      · have hql : q = lf.length := by omega
        rw [hql] at hR1
        exact v_vret hx hr d_Mo_lead_145 ⟨rfl, rfl, hF1, ss1, my1, hM1, hR1, hj1, ht1⟩
      · obtain ⟨S, hSe⟩ : ∃ S, S = lf.getD q 0 := ⟨_, rfl⟩
        have hm4 := hOf.1 _ (getD_mem (l := lf) (i := q) (by omega))
        rw [← hSe] at hm4
        have hS2 : S < 2 ^ 12 := by simpa using hm4.2
        have hoq := ffol_ok (og := (fun s => ou (160 * m + (s * 4 + i)))) (l := lf) hg12 hn12 q (by omega)
        have hs1 := fsum_take (l := lf) (i := q) (by omega)
        rw [← hSe] at hs1
        have hs2 := fsum_take_le lf (q + 1)
        have hs3 := hOf.2
        refine v_iconst (v := (nI 0)) hx d_Mo_lead_22 rfl ?_
        refine v_istore (lv' := [some (.ref (A 0)), some (.int (nI m)), some (.int (nI t)), some (.int (nI i)), some (.int (nI to_)), some (.int (nI q)), some (.int (nI 0)), none, none, none]) hx d_Mo_lead_23 (by decide) rfl ?_
        have H25 : ∀ (fu : Nat) (o : Nat) (f2 : Nat → va_E) (ss2 : Nat → Nat) (my2 : Nat → Nat), 10 - o < fu → (o ≤ 10) → (MoAt G L f2 w 100 A th mc sa ka nx ou wl wd ap fo se fr by_ is tr my2 ss2 tf tb) → (gF w 100 f f2) → (rowAt ss2 my2 to_ (fpart S (fun s => ou (160 * m + (s * 4 + i))) (fun s => lo (nx (160 * m + (s * 4 + i)))) (sa m) (ffol (fun s => ou (160 * m + (s * 4 + i))) (fun s => lo (nx (160 * m + (s * 4 + i)))) (sa m) lf q) o)) → (∀ j, j < to_ * 12 → ss2 j = ss j) → (∀ z, z ≠ to_ → my2 z = my z) → V G { frames := 1, cells := 0, slots := 0, locals := 25 } 10 x L f2 0 0 [some (.ref (A 0)), some (.int (nI m)), some (.int (nI t)), some (.int (nI i)), some (.int (nI to_)), some (.int (nI q)), some (.int (nI o)), none, none, none] 25 [] := by
          intro fu
          induction fu with
          | zero => intro o f2 ss2 my2 hm; exact absurd hm (Nat.not_lt_zero _)
          | succ fu ih =>
            intro o f2 ss2 my2 hm ho hM2 hF2 hR2 hj2 ht2
            have ihO := ih
            refine v_iload hx d_Mo_lead_25 rfl ?_
            refine v_bipush (v := (nI 10)) hx d_Mo_lead_27 rfl ?_
            refine n_icmp_ge (tgt := 139) hx d_Mo_lead_29 (by decide) (by omega) (by omega) (fun c29 => ?_) (fun c29 => ?_)
            · refine n_iinc (lv' := [some (.ref (A 0)), some (.int (nI m)), some (.int (nI t)), some (.int (nI i)), some (.int (nI to_)), some (.int (nI (q + 1))), some (.int (nI o)), none, none, none]) hx d_Mo_lead_139 rfl (by decide) rfl ?_
              refine v_goto (tgt := 11) hx d_Mo_lead_142 (by decide) ?_
              have ho10 : o = 10 := by omega
              rw [ho10] at hR2
              exact v_weak (by simp [vsub]) (ihK (q + 1) f2 ss2 my2 (by omega) (by omega) hM2 hF2 (by rw [hSe] at hR2; exact hR2) hj2 ht2)
            · refine v_iconst (v := (nI 0)) hx d_Mo_lead_32 rfl ?_
              refine v_istore (lv' := [some (.ref (A 0)), some (.int (nI m)), some (.int (nI t)), some (.int (nI i)), some (.int (nI to_)), some (.int (nI q)), some (.int (nI o)), some (.int (nI 0)), none, none]) hx d_Mo_lead_33 (by decide) rfl ?_
              refine v_iconst (v := (nI 0)) hx d_Mo_lead_35 rfl ?_
              refine v_istore (lv' := [some (.ref (A 0)), some (.int (nI m)), some (.int (nI t)), some (.int (nI i)), some (.int (nI to_)), some (.int (nI q)), some (.int (nI o)), some (.int (nI 0)), some (.int (nI 0)), none]) hx d_Mo_lead_36 (by decide) rfl ?_
              have H38 : ∀ (fu : Nat) (s : Nat), sa m - s < fu → (s ≤ sa m) → V G { frames := 1, cells := 0, slots := 0, locals := 25 } 10 x L f2 0 0 [some (.ref (A 0)), some (.int (nI m)), some (.int (nI t)), some (.int (nI i)), some (.int (nI to_)), some (.int (nI q)), some (.int (nI o)), some (.int (nI (mo S (fun s => ou (160 * m + (s * 4 + i))) (fun s => lo (nx (160 * m + (s * 4 + i)))) o s))), some (.int (nI s)), none] 38 [] := by
                intro fu
                induction fu with
                | zero => intro s hm; exact absurd hm (Nat.not_lt_zero _)
                | succ fu ih =>
                  intro s hm hs
                  refine v_iload hx d_Mo_lead_38 rfl ?_
                  refine v_aload_n hx d_Mo_lead_40 rfl rfl ?_
                  refine v_get hx cf_Mo 2 (by decide) k_Mo_7 d_Mo_lead_41 hM2.m0 hM2.f0 rfl ?_
                  refine v_iload_n hx d_Mo_lead_44 rfl rfl ?_
                  refine n_iald hx d_Mo_lead_45 hM2.m1 hM2.f1 (by omega) (by decide) ?_
                  refine n_icmp_ge (tgt := 120) hx d_Mo_lead_46 (by decide) (by omega) (by omega) (fun c46 => ?_) (fun c46 => ?_)
                  · have hsn : s = sa m := by omega
                    rw [hsn]
                    have hOo := hoq.part (S := S) (og := (fun s => ou (160 * m + (s * 4 + i)))) hg12 o
                    have hms := mosum_le (S := S) (og := (fun s => ou (160 * m + (s * 4 + i)))) (sa m) hg12 (o + 1)
                    have hpm := pcn_mono S hn12
                    simp only [mosum] at hms
                    have hmn := mo_lt (S := S) (o := o) (og := (fun s => ou (160 * m + (s * 4 + i)))) hg12 (sa m) (Nat.le_refl _)
                    refine v_iload hx d_Mo_lead_120 rfl ?_
                    refine n_if_eq (tgt := 133) hx d_Mo_lead_122 (by decide) (by omega) (fun c122 => ?_) (fun c122 => ?_)
                    · refine n_iinc (lv' := [some (.ref (A 0)), some (.int (nI m)), some (.int (nI t)), some (.int (nI i)), some (.int (nI to_)), some (.int (nI q)), some (.int (nI (o + 1))), some (.int (nI (mo S (fun s => ou (160 * m + (s * 4 + i))) (fun s => lo (nx (160 * m + (s * 4 + i)))) o (sa m)))), some (.int (nI (sa m))), none]) hx d_Mo_lead_133 rfl (by decide) rfl ?_
                      refine v_goto (tgt := 25) hx d_Mo_lead_136 (by decide) ?_
                      exact v_weak (by simp [vsub]) (ihO (o + 1) f2 ss2 my2 (by omega) (by omega) hM2 hF2 (by have e : (fpart S (fun s => ou (160 * m + (s * 4 + i))) (fun s => lo (nx (160 * m + (s * 4 + i)))) (sa m) (ffol (fun s => ou (160 * m + (s * 4 + i))) (fun s => lo (nx (160 * m + (s * 4 + i)))) (sa m) lf q) (o + 1)) = (fpart S (fun s => ou (160 * m + (s * 4 + i))) (fun s => lo (nx (160 * m + (s * 4 + i)))) (sa m) (ffol (fun s => ou (160 * m + (s * 4 + i))) (fun s => lo (nx (160 * m + (s * 4 + i)))) (sa m) lf q) o) := if_pos c122; rw [e]; exact hR2) hj2 ht2)
                    · refine v_aload_n hx d_Mo_lead_125 rfl rfl ?_
                      refine v_iload hx d_Mo_lead_126 rfl ?_
                      refine v_iload hx d_Mo_lead_128 rfl ?_
                      refine v_callV (as := [.int (nI to_), .int (nI (mo S (fun s => ou (160 * m + (s * 4 + i))) (fun s => lo (nx (160 * m + (s * 4 + i)))) o (sa m)))]) (q := (R_Mo, T_Mo, 19)) hx (c_Mo_put hM2 to_ hto hR2 ⟨hOo.1, Nat.le_trans hOo.2 (by omega)⟩ (mo S (fun s => ou (160 * m + (s * 4 + i))) (fun s => lo (nx (160 * m + (s * 4 + i)))) o (sa m)) (by simpa using hmn) (by omega) (by have := hOo.2; omega)) cy_Mo_put k_Mo_117 ki_Mo_put kl_Mo_put d_Mo_lead_130 (by decide) (ci := 4) rfl hM2.m0 hM2.f0 (by decide) rfl rfl (Nat.le_of_ble_eq_true rfl) (fun v2 L f9 p2 => ?_)
                      obtain ⟨rfl, rfl, hF9, ss9, my9, hM9, hR9, hj9, ht9⟩ := p2
                      refine n_iinc (lv' := [some (.ref (A 0)), some (.int (nI m)), some (.int (nI t)), some (.int (nI i)), some (.int (nI to_)), some (.int (nI q)), some (.int (nI (o + 1))), some (.int (nI (mo S (fun s => ou (160 * m + (s * 4 + i))) (fun s => lo (nx (160 * m + (s * 4 + i)))) o (sa m)))), some (.int (nI (sa m))), none]) hx d_Mo_lead_133 rfl (by decide) rfl ?_
                      refine v_goto (tgt := 25) hx d_Mo_lead_136 (by decide) ?_
                      exact v_weak (by simp [vsub]) (ihO (o + 1) f9 ss9 my9 (by omega) (by omega) hM9 (hF2.tr hF9) (by have e : (fpart S (fun s => ou (160 * m + (s * 4 + i))) (fun s => lo (nx (160 * m + (s * 4 + i)))) (sa m) (ffol (fun s => ou (160 * m + (s * 4 + i))) (fun s => lo (nx (160 * m + (s * 4 + i)))) (sa m) lf q) (o + 1)) = fput (fpart S (fun s => ou (160 * m + (s * 4 + i))) (fun s => lo (nx (160 * m + (s * 4 + i)))) (sa m) (ffol (fun s => ou (160 * m + (s * 4 + i))) (fun s => lo (nx (160 * m + (s * 4 + i)))) (sa m) lf q) o) (mo S (fun s => ou (160 * m + (s * 4 + i))) (fun s => lo (nx (160 * m + (s * 4 + i)))) o (sa m)) := if_neg (by omega); rw [e]; exact hR9) (fun j hj => (hj9 j hj).trans (hj2 j hj)) (fun z hz => (ht9 z hz).trans (ht2 z hz)))
                  · have hxs : nx (160 * m + 4 * s + i) < sa m ∧ ou (160 * m + 4 * s + i) < 10 := by rw [pic_ix]; exact hnx s i (by omega) hi
                    have hgs : ss2 (12 * t + q) = S := by rw [hj2 _ (by omega), e12, hSe]; exact hRf.get (by omega)
                    have hgl : lo (nx (160 * m + 4 * s + i)) < 12 := by rw [pic_ix]; exact hg12 s (by omega)
                    have hml := mo_lt (S := S) (o := o) (og := (fun s => ou (160 * m + (s * 4 + i)))) hg12 s (by omega)
                    refine v_sipush (v := (nI 160)) hx d_Mo_lead_49 rfl ?_
                    refine v_iload_n hx d_Mo_lead_52 rfl rfl ?_
                    refine n_imul hx d_Mo_lead_53 ?_
                    refine v_iconst (v := (nI 4)) hx d_Mo_lead_54 rfl ?_
                    refine v_iload hx d_Mo_lead_55 rfl ?_
                    refine n_imul hx d_Mo_lead_57 ?_
                    refine n_iadd hx d_Mo_lead_58 ?_
                    refine v_iload_n hx d_Mo_lead_59 rfl rfl ?_
                    refine n_iadd hx d_Mo_lead_60 ?_
                    refine v_istore (lv' := [some (.ref (A 0)), some (.int (nI m)), some (.int (nI t)), some (.int (nI i)), some (.int (nI to_)), some (.int (nI q)), some (.int (nI o)), some (.int (nI (mo S (fun s => ou (160 * m + (s * 4 + i))) (fun s => lo (nx (160 * m + (s * 4 + i)))) o s))), some (.int (nI s)), some (.int (nI (((160 * m) + (4 * s)) + i)))]) hx d_Mo_lead_61 (by decide) rfl ?_
                    refine v_aload_n hx d_Mo_lead_63 rfl rfl ?_
                    refine v_get hx cf_Mo 16 (by decide) k_Mo_44 d_Mo_lead_64 hM2.m0 hM2.f0 rfl ?_
                    refine v_bipush (v := (nI 12)) hx d_Mo_lead_67 rfl ?_
                    refine v_iload_n hx d_Mo_lead_69 rfl rfl ?_
                    refine n_imul hx d_Mo_lead_70 ?_
                    refine v_iload hx d_Mo_lead_71 rfl ?_
                    refine n_iadd hx d_Mo_lead_73 ?_
                    refine n_iald hx d_Mo_lead_74 hM2.m12 hM2.f12 (by omega) (by decide) ?_
                    rw [hgs]
                    refine v_iload hx d_Mo_lead_75 rfl ?_
                    refine v_ishr (v := (nI (S / 2 ^ s))) hx d_Mo_lead_77 (bit_shr hS2 (by omega)) ?_
                    refine v_iconst (v := (nI 1)) hx d_Mo_lead_78 rfl ?_
                    refine v_iand (v := (nI (S / 2 ^ s % 2))) hx d_Mo_lead_79 (bit_and1 _ (Nat.lt_of_le_of_lt (Nat.div_le_self _ _) (by omega))) ?_
                    refine v_iconst (v := (nI 1)) hx d_Mo_lead_80 rfl ?_
                    refine n_icmp_ne (tgt := 114) hx d_Mo_lead_81 (by decide) (by omega) (by omega) (fun c81 => ?_) (fun c81 => ?_)
                    · refine n_iinc (lv' := [some (.ref (A 0)), some (.int (nI m)), some (.int (nI t)), some (.int (nI i)), some (.int (nI to_)), some (.int (nI q)), some (.int (nI o)), some (.int (nI (mo S (fun s => ou (160 * m + (s * 4 + i))) (fun s => lo (nx (160 * m + (s * 4 + i)))) o s))), some (.int (nI (s + 1))), some (.int (nI (((160 * m) + (4 * s)) + i)))]) hx d_Mo_lead_114 rfl (by decide) rfl ?_
                      refine v_goto (tgt := 38) hx d_Mo_lead_117 (by decide) ?_
                      have q9 := ih (s + 1) (by omega) (by omega)
                      have e9 : mo S (fun s => ou (160 * m + (s * 4 + i))) (fun s => lo (nx (160 * m + (s * 4 + i)))) o (s + 1) = mo S (fun s => ou (160 * m + (s * 4 + i))) (fun s => lo (nx (160 * m + (s * 4 + i)))) o s := if_neg (fun z => by first | exact c81 z.1 | (rw [pic_ix] at c93; exact c93 z.2))
                      rw [e9] at q9
                      exact v_weak (by simp [vsub]) q9
                    · refine v_aload_n hx d_Mo_lead_84 rfl rfl ?_
                      refine v_get hx cf_Mo 5 (by decide) k_Mo_19 d_Mo_lead_85 hM2.m0 hM2.f0 rfl ?_
                      refine v_iload hx d_Mo_lead_88 rfl ?_
                      refine n_iald hx d_Mo_lead_90 hM2.m4 hM2.f4 (by omega) (by decide) ?_
                      refine v_iload hx d_Mo_lead_91 rfl ?_
                      refine n_icmp_ne (tgt := 114) hx d_Mo_lead_93 (by decide) (by omega) (by omega) (fun c93 => ?_) (fun c93 => ?_)
                      · refine n_iinc (lv' := [some (.ref (A 0)), some (.int (nI m)), some (.int (nI t)), some (.int (nI i)), some (.int (nI to_)), some (.int (nI q)), some (.int (nI o)), some (.int (nI (mo S (fun s => ou (160 * m + (s * 4 + i))) (fun s => lo (nx (160 * m + (s * 4 + i)))) o s))), some (.int (nI (s + 1))), some (.int (nI (((160 * m) + (4 * s)) + i)))]) hx d_Mo_lead_114 rfl (by decide) rfl ?_
                        refine v_goto (tgt := 38) hx d_Mo_lead_117 (by decide) ?_
                        have q9 := ih (s + 1) (by omega) (by omega)
                        have e9 : mo S (fun s => ou (160 * m + (s * 4 + i))) (fun s => lo (nx (160 * m + (s * 4 + i)))) o (s + 1) = mo S (fun s => ou (160 * m + (s * 4 + i))) (fun s => lo (nx (160 * m + (s * 4 + i)))) o s := if_neg (fun z => by first | exact c81 z.1 | (rw [pic_ix] at c93; exact c93 z.2))
                        rw [e9] at q9
                        exact v_weak (by simp [vsub]) q9
                      · refine v_iload hx d_Mo_lead_96 rfl ?_
                        refine v_iconst (v := (nI 1)) hx d_Mo_lead_98 rfl ?_
                        refine v_aload_n hx d_Mo_lead_99 rfl rfl ?_
                        refine v_aload_n hx d_Mo_lead_100 rfl rfl ?_
                        refine v_get hx cf_Mo 4 (by decide) k_Mo_16 d_Mo_lead_101 hM2.m0 hM2.f0 rfl ?_
                        refine v_iload hx d_Mo_lead_104 rfl ?_
                        refine n_iald hx d_Mo_lead_106 hM2.m3 hM2.f3 (by omega) (by decide) ?_
                        refine v_callV (as := [.int (nI (nx (((160 * m) + (4 * s)) + i)))]) (q := (R_Mo, T_Mo, 19)) hx (c_Mo_firstLike hM2 (sa m) lo (by omega) hFL (nx (160 * m + 4 * s + i)) hxs.1) cy_Mo_firstLike k_Mo_83 ki_Mo_firstLike kl_Mo_firstLike d_Mo_lead_107 (by decide) (ci := 4) rfl hM2.m0 hM2.f0 (by decide) rfl rfl (Nat.le_of_ble_eq_true rfl) (fun v3 L f2 p3 => ?_)
                        obtain ⟨rfl, rfl, rfl⟩ := p3
                        refine v_ishl (v := (nI (2 ^ lo (nx (160 * m + 4 * s + i))))) hx d_Mo_lead_110 (shl1 _ (by omega)) ?_
                        refine v_ior (v := (nI (mo S (fun s => ou (160 * m + (s * 4 + i))) (fun s => lo (nx (160 * m + (s * 4 + i)))) o s ||| 2 ^ lo (nx (160 * m + 4 * s + i))))) hx d_Mo_lead_111 (or_p hml hgl) ?_
                        refine v_istore (lv' := [some (.ref (A 0)), some (.int (nI m)), some (.int (nI t)), some (.int (nI i)), some (.int (nI to_)), some (.int (nI q)), some (.int (nI o)), some (.int (nI (mo S (fun s => ou (160 * m + (s * 4 + i))) (fun s => lo (nx (160 * m + (s * 4 + i)))) o s ||| 2 ^ lo (nx (160 * m + 4 * s + i))))), some (.int (nI s)), some (.int (nI (((160 * m) + (4 * s)) + i)))]) hx d_Mo_lead_112 (by decide) rfl ?_
                        refine n_iinc (lv' := [some (.ref (A 0)), some (.int (nI m)), some (.int (nI t)), some (.int (nI i)), some (.int (nI to_)), some (.int (nI q)), some (.int (nI o)), some (.int (nI (mo S (fun s => ou (160 * m + (s * 4 + i))) (fun s => lo (nx (160 * m + (s * 4 + i)))) o s ||| 2 ^ lo (nx (160 * m + 4 * s + i))))), some (.int (nI (s + 1))), some (.int (nI (((160 * m) + (4 * s)) + i)))]) hx d_Mo_lead_114 rfl (by decide) rfl ?_
                        refine v_goto (tgt := 38) hx d_Mo_lead_117 (by decide) ?_
                        have q9 := ih (s + 1) (by omega) (by omega)
                        have e9 : mo S (fun s => ou (160 * m + (s * 4 + i))) (fun s => lo (nx (160 * m + (s * 4 + i)))) o (s + 1) = mo S (fun s => ou (160 * m + (s * 4 + i))) (fun s => lo (nx (160 * m + (s * 4 + i)))) o s ||| 2 ^ lo (nx (160 * m + 4 * s + i)) := by rw [pic_ix]; exact if_pos ⟨by omega, by rw [pic_ix] at c93; exact c93⟩
                        rw [e9] at q9
                        exact v_weak (by simp [vsub]) q9
              exact v_weak (by simp [vsub, mo]) (H38 _ 0 (Nat.lt_succ_self _) (Nat.zero_le _))
        exact v_weak (by simp [vsub]) (H25 _ 0 f1 ss1 my1 (Nat.lt_succ_self _) (Nat.zero_le _) hM1 hF1 hR1 hj1 ht1)
  exact H11 _ 0 f1 ss _ (Nat.lt_succ_self _) (Nat.zero_le _) mf1 Ff1 ⟨va_up_self _ _ _, fun _ h => absurd h (Nat.not_lt_zero _)⟩ (fun _ _ => rfl) (fun z hz => va_up_ne _ _ hz)
set_option maxHeartbeats 4000000 in
set_option maxRecDepth 100000 in
theorem c_Mo_home {G : GT} {L : List Nat} {f : Nat → va_E} {w A : Nat → Nat} {th : Nat} {mc : Nat} {sa : Nat → Nat} {ka : Nat → Nat} {nx : Nat → Nat} {ou : Nat → Nat} {wl : Nat} {wd : Nat → Nat} {ap : Nat → Bool} {fo : Nat} {se : Nat → Nat} {fr : Nat → Option Nat} {by_ : Nat → Nat} {is : Nat → Bool} {tr : Nat} {my : Nat → Nat} {ss : Nat → Nat} {tf : Nat → Option Nat} {tb : Nat → Nat} (hM : MoAt G L f w 100 A th mc sa ka nx ou wl wd ap fo se fr by_ is tr my ss tf tb) (hG : okG (pic mc sa ka nx ou wl wd)) (p : Int32) : Con G y_Mo_home (.code y_Mo_home b_Mo_home 5 (some .int) :: BIG) 2 54 0 0 [.ref (A 0), .int p] L f (fun v L' f' => ∃ (vi : Int32) (th' : Nat) (σ' : SG), v = some (.int vi) ∧ L' = L ∧ gF w 100 f f' ∧ MoS G L f' w A th' σ' ∧ (th' = 0 ∧ rHome (pic mc sa ka nx ou wl wd) p (some vi) σ' ∨ th' = 1 ∧ rHome (pic mc sa ka nx ou wl wd) p none σ')) := by
  refine con_of (cc := b_Mo_home) (mL := 5) (lv := [some (.ref (A 0)), some (.int p), none, none, none]) (by decide) (by intro w hw; simp at hw; rcases hw with rfl | rfl <;> rfl) (by first | exact Nat.le_of_ble_eq_true rfl | decide) rfl ?_
  intro x hx hr hin
  have hF0 := gF.rf (w := w) (id := 100) (f := f)
  obtain ⟨hmc, hok, hwl, hwd⟩ := id hG
  have hmc : mc ≤ 12 := hmc
  have hok : ∀ j, j < mc → okA (fun t => nx (160 * j + t)) (fun t => ou (160 * j + t)) (sa j) (ka j) := hok
  have hwl : wl ≤ 4096 := hwl
  have hwd : ∀ j, j < wl → wd j < 4 := hwd
  have hsa : ∀ j, j < mc → sa j ≤ 40 := fun j hj => (hok j hj).2.1
  have hka : ∀ j, j < mc → ka j ≤ 4 := fun j hj => (hok j hj).2.2.2.1
  refine v_aload_n hx d_Mo_home_0 rfl rfl ?_
  refine v_iconst (v := (nI 0)) hx d_Mo_home_1 rfl ?_
  refine v_put hx cf_Mo 0 (by decide) k_Mo_53 rfl rfl rfl d_Mo_home_2 hM.m0 hM.f0 (Nat.le_of_ble_eq_true rfl) (fun f1 hf1 => ?_)
  have mf1 := hM.up0 hf1
  have Ff1 := hF0.up hf1 hM.o0
  refine v_aload_n hx d_Mo_home_5 rfl rfl ?_
  refine v_iload_n hx d_Mo_home_6 rfl rfl ?_
  refine v_callV (as := [.int p]) (q := (R_Mo, T_Mo, 19)) hx (c_Mo_isMachine mf1 hmc p) cy_Mo_isMachine k_Mo_64 ki_Mo_isMachine kl_Mo_isMachine d_Mo_home_7 (by decide) (ci := 4) rfl mf1.m0 mf1.f0 (by decide) rfl rfl (Nat.le_of_ble_eq_true rfl) (fun v2 L f1 p2 => ?_)
  obtain ⟨rfl, rfl, rfl⟩ := p2
  refine v_if_eq (tgt := 24) hx d_Mo_home_10 (by decide) (fun c10 => ?_) (fun c10 => ?_)
  · refine v_iconst (v := (-1)) hx d_Mo_home_24 rfl ?_
    exact v_iret hx hr d_Mo_home_25 ⟨_, 0, (pic mc sa ka nx ou wl wd), rfl, rfl, Ff1, ⟨hG, _, _, _, _, _, _, _, _, _, _, _, _, _, mf1, rfl, rfl⟩, Or.inl ⟨rfl, Or.inl ⟨fun m_ hz => (by rw [none_ix c10] at hz; cases hz), rfl, Rel.rf _⟩⟩⟩
  · obtain ⟨m, em⟩ := some_ix c10
    obtain ⟨hm, zm⟩ := ix_some (by omega) em
    have hAm := hok m hm
    have hsm := hsa m hm
    have hkm := hka m hm
    subst zm
    refine v_aload_n hx d_Mo_home_13 rfl rfl ?_
    refine v_get hx cf_Mo 2 (by decide) k_Mo_7 d_Mo_home_14 mf1.m0 mf1.f0 rfl ?_
    refine v_iload_n hx d_Mo_home_17 rfl rfl ?_
    refine n_iald hx d_Mo_home_18 mf1.m1 mf1.f1 (by omega) (by decide) ?_
    refine v_bipush (v := (nI 12)) hx d_Mo_home_19 rfl ?_
    refine n_icmp_le (tgt := 26) hx d_Mo_home_21 (by decide) (by omega) (by omega) (fun c21 => ?_) (fun c21 => ?_)
    · have h12 : sa m ≤ 12 := c21
      have hm_ := hm
      have hm12 : m < 12 := by omega
      refine v_aload_n hx d_Mo_home_26 rfl rfl ?_
      refine v_iload_n hx d_Mo_home_27 rfl rfl ?_
      refine v_callV (as := [.int (nI m)]) (q := (R_Mo, T_Mo, 19)) hx (c_Mo_mark mf1 m (by omega) hAm) cy_Mo_mark k_Mo_79 ki_Mo_mark kl_Mo_mark d_Mo_home_28 (by decide) (ci := 4) rfl mf1.m0 mf1.f0 (by decide) rfl rfl (Nat.le_of_ble_eq_true rfl) (fun v3 L f8 p3 => ?_)
      obtain ⟨rfl, rfl, hF8, ap8, lo, hM8, hLk, hFL⟩ := p3
      have hF8_ := Ff1.tr hF8
      have hlo : ∀ s, s < sa m → lo s ≤ s := fun s hs => (hFL s hs).1
      have hlo12 : ∀ s, s < sa m → lo s < 12 := fun s hs => by have := hlo s hs; omega
      have hal := alm_ok hAm.1 h12 hlo
      have hnP := hP_nx hAm h12 hlo
      have hq0 : qOK (hQ0 lo (sa m)) fD := q0_ok (fP_lt _ (fP_enc hal))
      have hI0 : qI fP (hQ0 lo (sa m)) := q0_I (fP_enc hal)
      refine v_aload_n hx d_Mo_home_31 rfl rfl ?_
      refine v_get hx cf_Mo 15 (by decide) k_Mo_41 d_Mo_home_32 hM8.m0 hM8.f0 rfl ?_
      refine v_iconst (v := (nI 0)) hx d_Mo_home_35 rfl ?_
      refine v_iconst (v := (nI 0)) hx d_Mo_home_36 rfl ?_
      refine nn_iast hx d_Mo_home_37 hM8.m11 hM8.f11 (by omega) (by decide) (fun f4 hf4 => ?_)
      have mf4 := hM8.up11 hf4
      have Ff4 := hF8_.up hf4 hM8.o11
      refine v_iconst (v := (nI 0)) hx d_Mo_home_38 rfl ?_
      refine v_istore_n (lv' := [some (.ref (A 0)), some (.int (nI m)), some (.int (nI 0)), none, none]) hx d_Mo_home_39 rfl (by decide) rfl ?_
      refine v_iconst (v := (nI 0)) hx d_Mo_home_40 rfl ?_
      refine v_istore_n (lv' := [some (.ref (A 0)), some (.int (nI m)), some (.int (nI 0)), some (.int (nI 0)), none]) hx d_Mo_home_41 rfl (by decide) rfl ?_
      have H42 : ∀ (fu : Nat) (s : Nat), sa m - s < fu → (s ≤ sa m) → V G { frames := 2, cells := 0, slots := 0, locals := 54 } 5 x L f4 0 0 [some (.ref (A 0)), some (.int (nI m)), some (.int (nI (alm lo s))), some (.int (nI s)), none] 42 [] := by
        intro fu
        induction fu with
        | zero => intro s hm; exact absurd hm (Nat.not_lt_zero _)
        | succ fu ih =>
          intro s hm hs
          refine v_iload_n hx d_Mo_home_42 rfl rfl ?_
          refine v_aload_n hx d_Mo_home_43 rfl rfl ?_
          refine v_get hx cf_Mo 2 (by decide) k_Mo_7 d_Mo_home_44 mf4.m0 mf4.f0 rfl ?_
          refine v_iload_n hx d_Mo_home_47 rfl rfl ?_
          refine n_iald hx d_Mo_home_48 mf4.m1 mf4.f1 (by omega) (by decide) ?_
          refine n_icmp_ge (tgt := 68) hx d_Mo_home_49 (by decide) (by omega) (by omega) (fun c49 => ?_) (fun c49 => ?_)
          · have hsn : s = sa m := by omega
            rw [hsn]
            refine v_aload_n hx d_Mo_home_68 rfl rfl ?_
            refine v_iconst (v := (nI 0)) hx d_Mo_home_69 rfl ?_
            refine v_iload_n hx d_Mo_home_70 rfl rfl ?_
            refine v_callV (as := [.int (nI 0), .int (nI (alm lo (sa m)))]) (q := (R_Mo, T_Mo, 19)) hx (c_Mo_put mf4 (l := []) 0 (by decide) ⟨va_up_self _ _ _, fun _ h => absurd h (Nat.not_lt_zero _)⟩ ⟨fun _ h => absurd h List.not_mem_nil, Nat.zero_le _⟩ (alm lo (sa m)) (by have := alm_lt hlo12 (sa m) (Nat.le_refl _); simpa using this) (alm_pos hAm.1) (by have := alm_pcn hlo12 (sa m) (Nat.le_refl _); simp [fsum]; omega)) cy_Mo_put k_Mo_117 ki_Mo_put kl_Mo_put d_Mo_home_71 (by decide) (ci := 4) rfl mf4.m0 mf4.f0 (by decide) rfl rfl (Nat.le_of_ble_eq_true rfl) (fun v5 L f9 p5 => ?_)
            obtain ⟨rfl, rfl, hF9, ss0, my0, hM9, hR9, -, -⟩ := p5
            have hF9_ := Ff4.tr hF9
            have hR9 : rowAt ss0 my0 0 [alm lo (sa m)] := hR9
            refine v_aload_n hx d_Mo_home_74 rfl rfl ?_
            refine v_get hx cf_Mo 17 (by decide) k_Mo_47 d_Mo_home_75 hM9.m0 hM9.f0 rfl ?_
            refine v_iconst (v := (nI 0)) hx d_Mo_home_78 rfl ?_
            refine v_iconst (v := (-1)) hx d_Mo_home_79 rfl ?_
            refine no_iast (v := none) hx d_Mo_home_80 hM9.m13 hM9.f13 (by omega) (by decide) (fun f6 hf6 => ?_)
            have mf6 := hM9.up13 hf6
            have Ff6 := hF9_.up hf6 hM9.o13
            refine v_aload_n hx d_Mo_home_81 rfl rfl ?_
            refine v_iconst (v := (nI 0)) hx d_Mo_home_82 rfl ?_
            refine v_callV (as := [.int (nI 0)]) (q := (R_Mo, T_Mo, 19)) hx (c_Mo_isHome mf6 0 (by decide) hR9 hal) cy_Mo_isHome k_Mo_120 ki_Mo_isHome kl_Mo_isHome d_Mo_home_83 (by decide) (ci := 4) rfl mf6.m0 mf6.f0 (by decide) rfl rfl (Nat.le_of_ble_eq_true rfl) (fun v7 L f6 p7 => ?_)
            obtain ⟨rfl, rfl, rfl⟩ := p7
            refine v_if_eq (tgt := 95) hx d_Mo_home_86 (by decide) (fun c86 => ?_) (fun c86 => ?_)
            · have hsg : sing [alm lo (sa m)] = false := (bI_0 _).mp c86
              refine v_aload_n hx d_Mo_home_95 rfl rfl ?_
              refine v_iconst (v := (nI 1)) hx d_Mo_home_96 rfl ?_
              refine v_put hx cf_Mo 14 (by decide) k_Mo_126 rfl rfl rfl d_Mo_home_97 mf6.m0 mf6.f0 (Nat.le_of_ble_eq_true rfl) (fun f8 hf8 => ?_)
              have mf8 := mf6.up0 hf8
              have Ff8 := Ff6.up hf8 mf6.o0
              refine v_iconst (v := (nI 0)) hx d_Mo_home_100 rfl ?_
              refine v_istore_n (lv' := [some (.ref (A 0)), some (.int (nI m)), some (.int (nI (alm lo (sa m)))), some (.int (nI 0)), none]) hx d_Mo_home_101 rfl (by decide) rfl ?_
              have H102 : ∀ (fu : Nat) (a : Nat) (f1 : Nat → va_E) (tr1 : Nat) (my1 : Nat → Nat) (ss1 : Nat → Nat) (tf1 : Nat → Option Nat) (tb1 : Nat → Nat), 300 - a < fu → (a ≤ 300) → (∀ b, b < a → b < (bout (hNx (fun t => nx (160 * m + t)) (fun t => ou (160 * m + t)) lo (sa m)) (ka m) (hQ0 lo (sa m)) b).length) → (∀ b, b < a → ∀ j, j < ka m → ¬ (hBad (fun t => nx (160 * m + t)) (fun t => ou (160 * m + t)) lo (sa m)) (qP (bout (hNx (fun t => nx (160 * m + t)) (fun t => ou (160 * m + t)) lo (sa m)) (ka m) (hQ0 lo (sa m)) b) b) j) → (MoAt G L f1 w 100 A 0 mc sa ka nx ou wl wd ap8 fo se fr by_ is tr1 my1 ss1 tf1 tb1) → (tr1 = (bout (hNx (fun t => nx (160 * m + t)) (fun t => ou (160 * m + t)) lo (sa m)) (ka m) (hQ0 lo (sa m)) a).length) → (tr1 < 300) → (RT tf1 tb1 (bout (hNx (fun t => nx (160 * m + t)) (fun t => ou (160 * m + t)) lo (sa m)) (ka m) (hQ0 lo (sa m)) a)) → (∀ t, t < (bout (hNx (fun t => nx (160 * m + t)) (fun t => ou (160 * m + t)) lo (sa m)) (ka m) (hQ0 lo (sa m)) a).length → rowAt ss1 my1 t (dec (qP (bout (hNx (fun t => nx (160 * m + t)) (fun t => ou (160 * m + t)) lo (sa m)) (ka m) (hQ0 lo (sa m)) a) t))) → (∀ t, t < (bout (hNx (fun t => nx (160 * m + t)) (fun t => ou (160 * m + t)) lo (sa m)) (ka m) (hQ0 lo (sa m)) a).length → sing (dec (qP (bout (hNx (fun t => nx (160 * m + t)) (fun t => ou (160 * m + t)) lo (sa m)) (ka m) (hQ0 lo (sa m)) a) t)) = false) → (gF w 100 f f1) → V G { frames := 2, cells := 0, slots := 0, locals := 54 } 5 x L f1 0 0 [some (.ref (A 0)), some (.int (nI m)), none, some (.int (nI a)), none] 102 [] := by
                intro fu
                induction fu with
                | zero => intro a f1 tr1 my1 ss1 tf1 tb1 hm; exact absurd hm (Nat.not_lt_zero _)
                | succ fu ih =>
                  intro a f1 tr1 my1 ss1 tf1 tb1 hm ha0 hr1 hg1 hM1 hcl hc300 hrt hrow hns hF1
                  have ihO := ih
                  have hok := bout_ok hq0 hI0 hkm fP_lt hnP a hr1
                  refine v_iload_n hx d_Mo_home_102 rfl rfl ?_
                  refine v_aload_n hx d_Mo_home_103 rfl rfl ?_
                  refine v_get hx cf_Mo 14 (by decide) k_Mo_126 d_Mo_home_104 hM1.m0 hM1.f0 rfl ?_
                  refine n_icmp_ge (tgt := 228) hx d_Mo_home_107 (by decide) (by omega) (by omega) (fun c107 => ?_) (fun c107 => ?_)
                  · have hnoH : ∀ b j, ¬ Hom (fun t => nx (160 * m + t)) (fun t => ou (160 * m + t)) lo (sa m) (ka m) b j := Hom.none_end ⟨by omega, hr1⟩ hg1
                    refine v_aload_n hx d_Mo_home_228 rfl rfl ?_
                    refine v_callV (as := []) (q := (R_Mo, T_Mo, 19)) hx (c_Mo_raise hM1) cy_Mo_raise k_Mo_136 ki_Mo_raise kl_Mo_raise d_Mo_home_229 (by decide) (ci := 4) rfl hM1.m0 hM1.f0 (by decide) rfl rfl (Nat.le_of_ble_eq_true rfl) (fun v5 L f7 p5 => ?_)
                    obtain ⟨rfl, rfl, hF7, hM7⟩ := p5
                    have hF7_ := hF1.tr hF7
                    exact v_iret hx hr d_Mo_home_232 ⟨_, 1, (pic mc sa ka nx ou wl wd), rfl, rfl, hF7_, ⟨hG, _, _, _, _, _, _, _, _, _, _, _, _, _, hM7, rfl, rfl⟩, Or.inr ⟨rfl, Or.inr ⟨m, lo, em, h12, hLk, Or.inr ⟨hsg, Or.inl ⟨hnoH, rfl, Rel.rf _⟩⟩⟩⟩⟩
                  · have haL : a < (bout (hNx (fun t => nx (160 * m + t)) (fun t => ou (160 * m + t)) lo (sa m)) (ka m) (hQ0 lo (sa m)) a).length := by omega
                    refine v_iconst (v := (nI 0)) hx d_Mo_home_110 rfl ?_
                    refine v_istore (lv' := [some (.ref (A 0)), some (.int (nI m)), none, some (.int (nI a)), some (.int (nI 0))]) hx d_Mo_home_111 (by decide) rfl ?_
                    have H113 : ∀ (fu : Nat) (i : Nat) (f1 : Nat → va_E) (tr1 : Nat) (my1 : Nat → Nat) (ss1 : Nat → Nat) (tf1 : Nat → Option Nat) (tb1 : Nat → Nat), ka m - i < fu → (i ≤ ka m) → (∀ j, j < i → ¬ (hBad (fun t => nx (160 * m + t)) (fun t => ou (160 * m + t)) lo (sa m)) (qP (bout (hNx (fun t => nx (160 * m + t)) (fun t => ou (160 * m + t)) lo (sa m)) (ka m) (hQ0 lo (sa m)) a) a) j) → (MoAt G L f1 w 100 A 0 mc sa ka nx ou wl wd ap8 fo se fr by_ is tr1 my1 ss1 tf1 tb1) → (tr1 = (bin (hNx (fun t => nx (160 * m + t)) (fun t => ou (160 * m + t)) lo (sa m)) (bout (hNx (fun t => nx (160 * m + t)) (fun t => ou (160 * m + t)) lo (sa m)) (ka m) (hQ0 lo (sa m)) a) a i).length) → (tr1 < 300) → (RT tf1 tb1 (bin (hNx (fun t => nx (160 * m + t)) (fun t => ou (160 * m + t)) lo (sa m)) (bout (hNx (fun t => nx (160 * m + t)) (fun t => ou (160 * m + t)) lo (sa m)) (ka m) (hQ0 lo (sa m)) a) a i)) → (∀ t, t < (bin (hNx (fun t => nx (160 * m + t)) (fun t => ou (160 * m + t)) lo (sa m)) (bout (hNx (fun t => nx (160 * m + t)) (fun t => ou (160 * m + t)) lo (sa m)) (ka m) (hQ0 lo (sa m)) a) a i).length → rowAt ss1 my1 t (dec (qP (bin (hNx (fun t => nx (160 * m + t)) (fun t => ou (160 * m + t)) lo (sa m)) (bout (hNx (fun t => nx (160 * m + t)) (fun t => ou (160 * m + t)) lo (sa m)) (ka m) (hQ0 lo (sa m)) a) a i) t))) → (∀ t, t < (bin (hNx (fun t => nx (160 * m + t)) (fun t => ou (160 * m + t)) lo (sa m)) (bout (hNx (fun t => nx (160 * m + t)) (fun t => ou (160 * m + t)) lo (sa m)) (ka m) (hQ0 lo (sa m)) a) a i).length → sing (dec (qP (bin (hNx (fun t => nx (160 * m + t)) (fun t => ou (160 * m + t)) lo (sa m)) (bout (hNx (fun t => nx (160 * m + t)) (fun t => ou (160 * m + t)) lo (sa m)) (ka m) (hQ0 lo (sa m)) a) a i) t)) = false) → (gF w 100 f f1) → V G { frames := 2, cells := 0, slots := 0, locals := 54 } 5 x L f1 0 0 [some (.ref (A 0)), some (.int (nI m)), none, some (.int (nI a)), some (.int (nI i))] 113 [] := by
                      intro fu
                      induction fu with
                      | zero => intro i f1 tr1 my1 ss1 tf1 tb1 hm; exact absurd hm (Nat.not_lt_zero _)
                      | succ fu ih =>
                        intro i f1 tr1 my1 ss1 tf1 tb1 hm hi hgi hM1 hcl hc300 hrt hrow hns hF1
                        have hoki := bin_ok hok.1 hok.2 haL hkm fP_lt hnP i hi
                        have hbl := bin_len (hNx (fun t => nx (160 * m + t)) (fun t => ou (160 * m + t)) lo (sa m)) (bout (hNx (fun t => nx (160 * m + t)) (fun t => ou (160 * m + t)) lo (sa m)) (ka m) (hQ0 lo (sa m)) a) a i
                        have hpa : qP (bin (hNx (fun t => nx (160 * m + t)) (fun t => ou (160 * m + t)) lo (sa m)) (bout (hNx (fun t => nx (160 * m + t)) (fun t => ou (160 * m + t)) lo (sa m)) (ka m) (hQ0 lo (sa m)) a) a i) a = qP (bout (hNx (fun t => nx (160 * m + t)) (fun t => ou (160 * m + t)) lo (sa m)) (ka m) (hQ0 lo (sa m)) a) a := ((bin_sub (hNx (fun t => nx (160 * m + t)) (fun t => ou (160 * m + t)) lo (sa m)) (bout (hNx (fun t => nx (160 * m + t)) (fun t => ou (160 * m + t)) lo (sa m)) (ka m) (hQ0 lo (sa m)) a) a i).2 a haL).1
                        refine v_iload hx d_Mo_home_113 rfl ?_
                        refine v_aload_n hx d_Mo_home_115 rfl rfl ?_
                        refine v_get hx cf_Mo 3 (by decide) k_Mo_13 d_Mo_home_116 hM1.m0 hM1.f0 rfl ?_
                        refine v_iload_n hx d_Mo_home_119 rfl rfl ?_
                        refine n_iald hx d_Mo_home_120 hM1.m2 hM1.f2 (by omega) (by decide) ?_
                        refine n_icmp_ge (tgt := 222) hx d_Mo_home_121 (by decide) (by omega) (by omega) (fun c121 => ?_) (fun c121 => ?_)
                        · refine n_iinc (lv' := [some (.ref (A 0)), some (.int (nI m)), none, some (.int (nI (a + 1))), some (.int (nI i))]) hx d_Mo_home_222 rfl (by decide) rfl ?_
                          refine v_goto (tgt := 102) hx d_Mo_home_225 (by decide) ?_
                          have e6 : i = ka m := by omega
                          refine v_weak (by simp [vsub]) (ihO (a + 1) f1 tr1 my1 ss1 tf1 tb1 (by omega) (by omega) (lt_s hr1 haL) (lt_s hg1 (fun j hj => hgi j (by omega))) hM1 (by rw [e6] at hcl; exact hcl) hc300 (by rw [e6] at hrt; exact hrt) (by rw [e6] at hrow; exact hrow) (by rw [e6] at hns; exact hns) hF1)
                        · have hfPa : fP (qP (bout (hNx (fun t => nx (160 * m + t)) (fun t => ou (160 * m + t)) lo (sa m)) (ka m) (hQ0 lo (sa m)) a) a) := hok.2 _ (qP_mem haL)
                          generalize hfa : dec (qP (bout (hNx (fun t => nx (160 * m + t)) (fun t => ou (160 * m + t)) lo (sa m)) (ka m) (hQ0 lo (sa m)) a) a) = lf
                          have hlf : fOK lf 12 := by rw [← hfa]; exact hfPa.1
                          have hrf : rowAt ss1 my1 a lf := by rw [← hfa, ← hpa]; exact hrow a (by omega)
                          generalize hl : ffol (fun s => ou (160 * m + (s * 4 + i))) (fun s => lo (nx (160 * m + (s * 4 + i)))) (sa m) lf lf.length = l
                          have hl12 : fOK l 12 := by rw [← hl]; exact hOK hAm h12 hlo hlf (by omega)
                          have hnx : (hNx (fun t => nx (160 * m + t)) (fun t => ou (160 * m + t)) lo (sa m)) (qP (bout (hNx (fun t => nx (160 * m + t)) (fun t => ou (160 * m + t)) lo (sa m)) (ka m) (hQ0 lo (sa m)) a) a) i = enc l := by show enc (ffol (fun s => ou (160 * m + (s * 4 + i))) (fun s => lo (nx (160 * m + (s * 4 + i)))) (sa m) (dec (qP (bout (hNx (fun t => nx (160 * m + t)) (fun t => ou (160 * m + t)) lo (sa m)) (ka m) (hQ0 lo (sa m)) a) a)) (dec (qP (bout (hNx (fun t => nx (160 * m + t)) (fun t => ou (160 * m + t)) lo (sa m)) (ka m) (hQ0 lo (sa m)) a) a)).length) = enc l; rw [hfa, hl]
                          have hbd : (hBad (fun t => nx (160 * m + t)) (fun t => ou (160 * m + t)) lo (sa m)) (qP (bout (hNx (fun t => nx (160 * m + t)) (fun t => ou (160 * m + t)) lo (sa m)) (ka m) (hQ0 lo (sa m)) a) a) i ↔ sing l = true := by unfold hBad; rw [hnx, dec_enc hl12]
                          have e5 : (bin (hNx (fun t => nx (160 * m + t)) (fun t => ou (160 * m + t)) lo (sa m)) (bout (hNx (fun t => nx (160 * m + t)) (fun t => ou (160 * m + t)) lo (sa m)) (ka m) (hQ0 lo (sa m)) a) a (i + 1)) = qr (bin (hNx (fun t => nx (160 * m + t)) (fun t => ou (160 * m + t)) lo (sa m)) (bout (hNx (fun t => nx (160 * m + t)) (fun t => ou (160 * m + t)) lo (sa m)) (ka m) (hQ0 lo (sa m)) a) a i) (enc l) a i := by rw [← hnx]; rfl
                          refine v_aload_n hx d_Mo_home_124 rfl rfl ?_
                          refine v_iload_n hx d_Mo_home_125 rfl rfl ?_
                          refine v_iload_n hx d_Mo_home_126 rfl rfl ?_
                          refine v_iload hx d_Mo_home_127 rfl ?_
                          refine v_aload_n hx d_Mo_home_129 rfl rfl ?_
                          refine v_get hx cf_Mo 14 (by decide) k_Mo_126 d_Mo_home_130 hM1.m0 hM1.f0 rfl ?_
                          refine v_callV (as := [.int (nI m), .int (nI a), .int (nI i), .int (nI tr1)]) (q := (R_Mo, T_Mo, 19)) hx (c_Mo_lead hM1 m hm12 hAm h12 lo hFL a i tr1 (by omega) (by omega) (by omega) hrf hlf) cy_Mo_lead k_Mo_129 ki_Mo_lead kl_Mo_lead d_Mo_home_133 (by decide) (ci := 4) rfl hM1.m0 hM1.f0 (by decide) rfl rfl (Nat.le_of_ble_eq_true rfl) (fun v5 L f6 p5 => ?_)
                          obtain ⟨rfl, rfl, hF6, ss6, my6, hM6, hR6, hj6, ht6⟩ := p5
                          have hF6_ := hF1.tr hF6
                          rw [hl] at hR6
                          have hrow6 : ∀ t, t < tr1 → rowAt ss6 my6 t (dec (qP (bin (hNx (fun t => nx (160 * m + t)) (fun t => ou (160 * m + t)) lo (sa m)) (bout (hNx (fun t => nx (160 * m + t)) (fun t => ou (160 * m + t)) lo (sa m)) (ka m) (hQ0 lo (sa m)) a) a i) t)) ∧ fOK (dec (qP (bin (hNx (fun t => nx (160 * m + t)) (fun t => ou (160 * m + t)) lo (sa m)) (bout (hNx (fun t => nx (160 * m + t)) (fun t => ou (160 * m + t)) lo (sa m)) (ka m) (hQ0 lo (sa m)) a) a i) t)) 12 := fun t ht => by
                            have h1 := hrow t (by omega)
                            have h2 := (hoki.2 _ (qP_mem (show t < (bin (hNx (fun t => nx (160 * m + t)) (fun t => ou (160 * m + t)) lo (sa m)) (bout (hNx (fun t => nx (160 * m + t)) (fun t => ou (160 * m + t)) lo (sa m)) (ka m) (hQ0 lo (sa m)) a) a i).length by omega))).1
                            have h3 := h2.len
                            exact ⟨⟨(ht6 t (by omega)).trans h1.1, fun j hj => (hj6 _ (by omega)).trans (h1.2 j hj)⟩, h2⟩
                          refine v_aload_n hx d_Mo_home_136 rfl rfl ?_
                          refine v_get hx cf_Mo 17 (by decide) k_Mo_47 d_Mo_home_137 hM6.m0 hM6.f0 rfl ?_
                          refine v_aload_n hx d_Mo_home_140 rfl rfl ?_
                          refine v_get hx cf_Mo 14 (by decide) k_Mo_126 d_Mo_home_141 hM6.m0 hM6.f0 rfl ?_
                          refine v_iload_n hx d_Mo_home_144 rfl rfl ?_
                          refine no_iast (v := some a) hx d_Mo_home_145 hM6.m13 hM6.f13 (by omega) (by decide) (fun f6 hf6 => ?_)
                          have mf6 := hM6.up13 hf6
                          have Ff6 := hF6_.up hf6 hM6.o13
                          refine v_aload_n hx d_Mo_home_146 rfl rfl ?_
                          refine v_get hx cf_Mo 18 (by decide) k_Mo_50 d_Mo_home_147 mf6.m0 mf6.f0 rfl ?_
                          refine v_aload_n hx d_Mo_home_150 rfl rfl ?_
                          refine v_get hx cf_Mo 14 (by decide) k_Mo_126 d_Mo_home_151 mf6.m0 mf6.f0 rfl ?_
                          refine v_iload hx d_Mo_home_154 rfl ?_
                          refine nn_iast hx d_Mo_home_156 mf6.m14 mf6.f14 (by omega) (by decide) (fun f7 hf7 => ?_)
                          have mf7 := mf6.up14 hf7
                          have Ff7 := Ff6.up hf7 mf6.o14
                          refine v_aload_n hx d_Mo_home_157 rfl rfl ?_
                          refine v_aload_n hx d_Mo_home_158 rfl rfl ?_
                          refine v_get hx cf_Mo 14 (by decide) k_Mo_126 d_Mo_home_159 mf7.m0 mf7.f0 rfl ?_
                          refine v_callV (as := [.int (nI tr1)]) (q := (R_Mo, T_Mo, 19)) hx (c_Mo_isHome mf7 tr1 (by omega) hR6 hl12) cy_Mo_isHome k_Mo_120 ki_Mo_isHome kl_Mo_isHome d_Mo_home_162 (by decide) (ci := 4) rfl mf7.m0 mf7.f0 (by decide) rfl rfl (Nat.le_of_ble_eq_true rfl) (fun v8 L f7 p8 => ?_)
                          obtain ⟨rfl, rfl, rfl⟩ := p8
                          refine v_if_eq (tgt := 177) hx d_Mo_home_165 (by decide) (fun c165 => ?_) (fun c165 => ?_)
                          · have hsl : sing l = false := (bI_0 _).mp c165
                            refine v_aload_n hx d_Mo_home_177 rfl rfl ?_
                            refine v_aload_n hx d_Mo_home_178 rfl rfl ?_
                            refine v_get hx cf_Mo 14 (by decide) k_Mo_126 d_Mo_home_179 mf7.m0 mf7.f0 rfl ?_
                            refine v_callV (as := [.int (nI tr1)]) (q := (R_Mo, T_Mo, 19)) hx (c_Mo_isTried mf7 tr1 (by omega) hR6 hl12 hrow6) cy_Mo_isTried k_Mo_133 ki_Mo_isTried kl_Mo_isTried d_Mo_home_182 (by decide) (ci := 4) rfl mf7.m0 mf7.f0 (by decide) rfl rfl (Nat.le_of_ble_eq_true rfl) (fun v9 L f7 p9 => ?_)
                            obtain ⟨⟨kn, rfl, hkn⟩, rfl, rfl⟩ := p9
                            have hkm2 : (kn = true ↔ enc l ∈ qPs (bin (hNx (fun t => nx (160 * m + t)) (fun t => ou (160 * m + t)) lo (sa m)) (bout (hNx (fun t => nx (160 * m + t)) (fun t => ou (160 * m + t)) lo (sa m)) (ka m) (hQ0 lo (sa m)) a) a i)) := by
                              rw [hkn]
                              constructor
                              · rintro ⟨t, h1, h2⟩
                                have h3 := (hoki.2 _ (qP_mem (show t < (bin (hNx (fun t => nx (160 * m + t)) (fun t => ou (160 * m + t)) lo (sa m)) (bout (hNx (fun t => nx (160 * m + t)) (fun t => ou (160 * m + t)) lo (sa m)) (ka m) (hQ0 lo (sa m)) a) a i).length by omega))).2
                                rw [← h2, h3]
                                exact qP_mem (by omega)
                              · intro h
                                obtain ⟨t, h1, h2⟩ := qP_ex h
                                exact ⟨t, by omega, by rw [h2, dec_enc hl12]⟩
                            refine v_if_eq (tgt := 191) hx d_Mo_home_185 (by decide) (fun c185 => ?_) (fun c185 => ?_)
                            · have hnk : enc l ∉ qPs (bin (hNx (fun t => nx (160 * m + t)) (fun t => ou (160 * m + t)) lo (sa m)) (bout (hNx (fun t => nx (160 * m + t)) (fun t => ou (160 * m + t)) lo (sa m)) (ka m) (hQ0 lo (sa m)) a) a i) := fun h => by have := hkm2.mpr h; rw [(bI_0 kn).mp c185] at this; cases this
                              have e7 : (bin (hNx (fun t => nx (160 * m + t)) (fun t => ou (160 * m + t)) lo (sa m)) (bout (hNx (fun t => nx (160 * m + t)) (fun t => ou (160 * m + t)) lo (sa m)) (ka m) (hQ0 lo (sa m)) a) a (i + 1)) = (bin (hNx (fun t => nx (160 * m + t)) (fun t => ou (160 * m + t)) lo (sa m)) (bout (hNx (fun t => nx (160 * m + t)) (fun t => ou (160 * m + t)) lo (sa m)) (ka m) (hQ0 lo (sa m)) a) a i) ++ [(enc l, a, i)] := by rw [e5]; exact if_neg hnk
                              have hlen7 : (bin (hNx (fun t => nx (160 * m + t)) (fun t => ou (160 * m + t)) lo (sa m)) (bout (hNx (fun t => nx (160 * m + t)) (fun t => ou (160 * m + t)) lo (sa m)) (ka m) (hQ0 lo (sa m)) a) a (i + 1)).length = tr1 + 1 := by rw [e7, List.length_append, ← hcl]; rfl
                              refine v_aload_n hx d_Mo_home_191 rfl rfl ?_
                              refine v_dup hx d_Mo_home_192 rfl ?_
                              refine v_get hx cf_Mo 14 (by decide) k_Mo_126 d_Mo_home_193 mf7.m0 mf7.f0 rfl ?_
                              refine v_iconst (v := (nI 1)) hx d_Mo_home_196 rfl ?_
                              refine n_iadd hx d_Mo_home_197 ?_
                              refine v_put hx cf_Mo 14 (by decide) k_Mo_126 rfl rfl rfl d_Mo_home_198 mf7.m0 mf7.f0 (Nat.le_of_ble_eq_true rfl) (fun f10 hf10 => ?_)
                              have mf10 := mf7.up0 hf10
                              have Ff10 := Ff7.up hf10 mf7.o0
                              refine v_aload_n hx d_Mo_home_201 rfl rfl ?_
                              refine v_get hx cf_Mo 14 (by decide) k_Mo_126 d_Mo_home_202 mf10.m0 mf10.f0 rfl ?_
                              refine v_sipush (v := (nI 300)) hx d_Mo_home_205 rfl ?_
                              refine n_icmp_ne (tgt := 216) hx d_Mo_home_208 (by decide) (by omega) (by omega) (fun c208 => ?_) (fun c208 => ?_)
                              · refine n_iinc (lv' := [some (.ref (A 0)), some (.int (nI m)), none, some (.int (nI a)), some (.int (nI (i + 1)))]) hx d_Mo_home_216 rfl (by decide) rfl ?_
                                refine v_goto (tgt := 113) hx d_Mo_home_219 (by decide) ?_
                                refine v_weak (by simp [vsub]) (ih (i + 1) f10 (tr1 + 1) my6 ss6 _ _ (by omega) (by omega) (lt_s hgi (fun z => by rw [hbd.mp z] at hsl; cases hsl)) mf10 hlen7.symm (by omega) (by rw [e7, hcl]; exact hrt.add (by omega)) ?_ ?_ Ff10)
                                · intro t ht
                                  rw [e7] at ht ⊢
                                  rw [List.length_append, ← hcl] at ht
                                  rcases Nat.lt_succ_iff_lt_or_eq.mp (show t < tr1 + 1 from ht) with e | e
                                  · rw [qP_old (by omega)]; exact (hrow6 t e).1
                                  · subst e; rw [hcl, qP_new, dec_enc hl12, ← hcl]; exact hR6
                                · intro t ht
                                  rw [e7] at ht ⊢
                                  rw [List.length_append, ← hcl] at ht
                                  rcases Nat.lt_succ_iff_lt_or_eq.mp (show t < tr1 + 1 from ht) with e | e
                                  · rw [qP_old (by omega)]; exact hns t (by omega)
                                  · subst e; rw [hcl, qP_new, dec_enc hl12]; exact hsl
                              · have hnoH : ∀ b j, ¬ Hom (fun t => nx (160 * m + t)) (fun t => ou (160 * m + t)) lo (sa m) (ka m) b j := Hom.none_at (i := i + 1) (by omega) hg1 (lt_s hgi (fun z => by rw [hbd.mp z] at hsl; cases hsl)) (by omega)
                                refine v_aload_n hx d_Mo_home_211 rfl rfl ?_
                                refine v_callV (as := []) (q := (R_Mo, T_Mo, 19)) hx (c_Mo_raise mf10) cy_Mo_raise k_Mo_136 ki_Mo_raise kl_Mo_raise d_Mo_home_212 (by decide) (ci := 4) rfl mf10.m0 mf10.f0 (by decide) rfl rfl (Nat.le_of_ble_eq_true rfl) (fun v11 L f7 p11 => ?_)
                                obtain ⟨rfl, rfl, hF7, hM7⟩ := p11
                                have hF7_ := Ff10.tr hF7
                                exact v_iret hx hr d_Mo_home_215 ⟨_, 1, (pic mc sa ka nx ou wl wd), rfl, rfl, hF7_, ⟨hG, _, _, _, _, _, _, _, _, _, _, _, _, _, hM7, rfl, rfl⟩, Or.inr ⟨rfl, Or.inr ⟨m, lo, em, h12, hLk, Or.inr ⟨hsg, Or.inl ⟨hnoH, rfl, Rel.rf _⟩⟩⟩⟩⟩
                            · refine v_goto (tgt := 216) hx d_Mo_home_188 (by decide) ?_
                              refine n_iinc (lv' := [some (.ref (A 0)), some (.int (nI m)), none, some (.int (nI a)), some (.int (nI (i + 1)))]) hx d_Mo_home_216 rfl (by decide) rfl ?_
                              refine v_goto (tgt := 113) hx d_Mo_home_219 (by decide) ?_
                              have hkt : kn = true := Bool.of_not_eq_false (fun z => c185 ((bI_0 _).mpr z))
                              have hmem := hkm2.mp hkt
                              have e7 : (bin (hNx (fun t => nx (160 * m + t)) (fun t => ou (160 * m + t)) lo (sa m)) (bout (hNx (fun t => nx (160 * m + t)) (fun t => ou (160 * m + t)) lo (sa m)) (ka m) (hQ0 lo (sa m)) a) a (i + 1)) = (bin (hNx (fun t => nx (160 * m + t)) (fun t => ou (160 * m + t)) lo (sa m)) (bout (hNx (fun t => nx (160 * m + t)) (fun t => ou (160 * m + t)) lo (sa m)) (ka m) (hQ0 lo (sa m)) a) a i) := by rw [e5]; exact if_pos hmem
                              refine v_weak (by simp [vsub]) (ih (i + 1) f7 tr1 my6 ss6 _ _ (by omega) (by omega) (lt_s hgi (fun z => by rw [hbd.mp z] at hsl; cases hsl)) mf7 (by rw [e7]; exact hcl) hc300 (by rw [e7]; exact hrt.keep (by rw [← hcl]) (by rw [← hcl])) (by rw [e7]; exact fun t ht => (hrow6 t (by omega)).1) (by rw [e7]; exact hns) Ff7)
                          · have hsl : sing l = true := Bool.of_not_eq_false (fun z => c165 ((bI_0 _).mpr z))
                            have hTl := hrt.tl hoki.1 (by omega) (show a < (bin (hNx (fun t => nx (160 * m + t)) (fun t => ou (160 * m + t)) lo (sa m)) (bout (hNx (fun t => nx (160 * m + t)) (fun t => ou (160 * m + t)) lo (sa m)) (ka m) (hQ0 lo (sa m)) a) a i).length by omega) (show i < 4 by omega)
                            rw [← hcl, qW_sub hok.1 (bin_sub (hNx (fun t => nx (160 * m + t)) (fun t => ou (160 * m + t)) lo (sa m)) (bout (hNx (fun t => nx (160 * m + t)) (fun t => ou (160 * m + t)) lo (sa m)) (ka m) (hQ0 lo (sa m)) a) a i) haL] at hTl
                            have hHom : Hom (fun t => nx (160 * m + t)) (fun t => ou (160 * m + t)) lo (sa m) (ka m) a i := ⟨⟨lt_le hr1 haL, hg1, by omega, hbd.mpr hsl, hgi⟩, by omega⟩
                            generalize hWW : qW (bout (hNx (fun t => nx (160 * m + t)) (fun t => ou (160 * m + t)) lo (sa m)) (ka m) (hQ0 lo (sa m)) a) a ++ [i] = W at hTl
                            have hWok := hTl.ok
                            refine v_aload_n hx d_Mo_home_168 rfl rfl ?_
                            refine v_aload_n hx d_Mo_home_169 rfl rfl ?_
                            refine v_get hx cf_Mo 14 (by decide) k_Mo_126 d_Mo_home_170 mf7.m0 mf7.f0 rfl ?_
                            refine v_callV (as := [.int (nI tr1)]) (q := (R_Mo, T_Mo, 19)) hx (c_Mo_told mf7 tr1 hTl (by omega)) cy_Mo_told k_Mo_123 ki_Mo_told kl_Mo_told d_Mo_home_173 (by decide) (ci := 4) rfl mf7.m0 mf7.f0 (by decide) rfl rfl (Nat.le_of_ble_eq_true rfl) (fun v12 L f7 p12 => ?_)
                            obtain ⟨rfl, rfl, hF7, wd7, hM7, hwd7⟩ := p12
                            have hF7_ := Ff7.tr hF7
                            exact v_iret hx hr d_Mo_home_176 ⟨_, 0, (pic mc sa ka nx ou W.length wd7), rfl, rfl, hF7_, ⟨okG_word hG (by have := hWok.1; omega) hWok.2 hwd7, _, _, _, _, _, _, _, _, _, _, _, _, _, hM7, rfl, rfl⟩, Or.inl ⟨rfl, Or.inr ⟨m, lo, em, h12, hLk, Or.inr ⟨hsg, Or.inr ⟨a, i, hHom, by rw [hWW], relT.rf _, by rw [hWW], by rw [hWW]; exact hwd7⟩⟩⟩⟩⟩
                    exact H113 _ 0 f1 tr1 my1 ss1 tf1 tb1 (Nat.lt_succ_self _) (Nat.zero_le _) (fun _ h => absurd h (Nat.not_lt_zero _)) hM1 hcl hc300 hrt hrow hns hF1
              refine v_weak (by simp [vsub]) (H102 _ 0 f8 1 my0 ss0 _ tb (Nat.lt_succ_self _) (Nat.zero_le _) (fun _ h => absurd h (Nat.not_lt_zero _)) (fun _ h => absurd h (Nat.not_lt_zero _)) mf8 rfl (by decide) ?_ ?_ ?_ Ff8)
              · intro t ht
                have e : t = 0 := Nat.lt_one_iff.mp ht
                subst e
                exact ⟨va_up_self _ _ _, fun z => absurd z (by decide)⟩
              · intro t ht
                have e : t = 0 := Nat.lt_one_iff.mp ht
                subst e
                have e2 : dec (qP (bout (hNx (fun t => nx (160 * m + t)) (fun t => ou (160 * m + t)) lo (sa m)) (ka m) (hQ0 lo (sa m)) 0) 0) = [alm lo (sa m)] := dec_enc hal
                rw [e2]; exact hR9
              · intro t ht
                have e : t = 0 := Nat.lt_one_iff.mp ht
                subst e
                have e2 : dec (qP (bout (hNx (fun t => nx (160 * m + t)) (fun t => ou (160 * m + t)) lo (sa m)) (ka m) (hQ0 lo (sa m)) 0) 0) = [alm lo (sa m)] := dec_enc hal
                rw [e2]; exact hsg
            · have hsg : sing [alm lo (sa m)] = true := Bool.of_not_eq_false (fun z => c86 ((bI_0 _).mpr z))
              refine v_aload_n hx d_Mo_home_89 rfl rfl ?_
              refine v_iconst (v := (nI 0)) hx d_Mo_home_90 rfl ?_
              refine v_callV (as := [.int (nI 0)]) (q := (R_Mo, T_Mo, 19)) hx (c_Mo_told mf6 (N := 1) (W := []) 0 ⟨by decide, by decide, fun b hb => Or.inl ⟨by omega, by have e : b = 0 := (by omega); subst e; exact va_up_self _ _ _⟩, fun b h0 hb => absurd hb (by omega), rfl⟩ (by decide)) cy_Mo_told k_Mo_123 ki_Mo_told kl_Mo_told d_Mo_home_91 (by decide) (ci := 4) rfl mf6.m0 mf6.f0 (by decide) rfl rfl (Nat.le_of_ble_eq_true rfl) (fun v9 L f7 p9 => ?_)
              obtain ⟨rfl, rfl, hF7, wd7, hM7, hwd7⟩ := p9
              have hF7_ := Ff6.tr hF7
              exact v_iret hx hr d_Mo_home_94 ⟨_, 0, (pic mc sa ka nx ou (([] : List Nat).length) wd7), rfl, rfl, hF7_, ⟨okG_word hG (Nat.zero_le _) (fun x hx => absurd hx List.not_mem_nil) hwd7, _, _, _, _, _, _, _, _, _, _, _, _, _, hM7, rfl, rfl⟩, Or.inl ⟨rfl, Or.inr ⟨m, lo, em, h12, hLk, Or.inl ⟨hsg, rfl, relT.rf _, rfl, hwd7⟩⟩⟩⟩
          · refine v_iload_n hx d_Mo_home_52 rfl rfl ?_
            refine v_iconst (v := (nI 1)) hx d_Mo_home_53 rfl ?_
            refine v_aload_n hx d_Mo_home_54 rfl rfl ?_
            refine v_iload_n hx d_Mo_home_55 rfl rfl ?_
            refine v_callV (as := [.int (nI s)]) (q := (R_Mo, T_Mo, 19)) hx (c_Mo_firstLike mf4 (sa m) lo (by omega) hFL s (by omega)) cy_Mo_firstLike k_Mo_83 ki_Mo_firstLike kl_Mo_firstLike d_Mo_home_56 (by decide) (ci := 4) rfl mf4.m0 mf4.f0 (by decide) rfl rfl (Nat.le_of_ble_eq_true rfl) (fun v10 L f4 p10 => ?_)
            obtain ⟨rfl, rfl, rfl⟩ := p10
            refine v_ishl (v := (nI (2 ^ lo s))) hx d_Mo_home_59 (shl1 _ (by have := hlo12 s (by omega); omega)) ?_
            refine v_ior (v := (nI (alm lo s ||| 2 ^ lo s))) hx d_Mo_home_60 (or_p (alm_lt hlo12 s (by omega)) (hlo12 s (by omega))) ?_
            refine v_istore_n (lv' := [some (.ref (A 0)), some (.int (nI m)), some (.int (nI (alm lo s ||| 2 ^ lo s))), some (.int (nI s)), none]) hx d_Mo_home_61 rfl (by decide) rfl ?_
            refine n_iinc (lv' := [some (.ref (A 0)), some (.int (nI m)), some (.int (nI (alm lo s ||| 2 ^ lo s))), some (.int (nI (s + 1))), none]) hx d_Mo_home_62 rfl (by decide) rfl ?_
            refine v_goto (tgt := 42) hx d_Mo_home_65 (by decide) ?_
            exact ih (s + 1) (by omega) (by omega)
      exact H42 _ 0 (Nat.lt_succ_self _) (Nat.zero_le _)
    · have h12 : 12 < sa m := by omega
      refine v_iconst (v := (-1)) hx d_Mo_home_24 rfl ?_
      exact v_iret hx hr d_Mo_home_25 ⟨_, 0, (pic mc sa ka nx ou wl wd), rfl, rfl, Ff1, ⟨hG, _, _, _, _, _, _, _, _, _, _, _, _, _, mf1, rfl, rfl⟩, Or.inl ⟨rfl, Or.inl ⟨fun m_ hz => (by have h1 : some m = some m_ := em.symm.trans hz; cases h1; exact h12), rfl, Rel.rf _⟩⟩⟩
