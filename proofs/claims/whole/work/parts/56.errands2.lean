/-! ERRANDS of the class -/
theorem glB_bad {sz g e j : Nat} (hj : j < e) (h : ¬ glN g e j < sz) : glB sz g e 0 = false := by
  unfold glB
  rw [Bool.not_eq_false']
  exact (anyN_iff _ e).mpr ⟨j, hj, by simp; omega⟩
/-- the goals of the class, from a PERSON on -/
def gRw (σ : St) (a g q : Nat) : Prop := ∀ p, q ≤ p → p < 6 → a.testBit p = true → sA σ 31 p = nI (glP a g p)
theorem gRw_no {σ : St} {a g q : Nat} (h : gRw σ a g (q + 1)) (hq : a.testBit q = false) : gRw σ a g q := fun p h1 h2 h3 => h p (by
  rcases Nat.lt_or_ge q p with c | c
  · exact c
  · have : p = q := by omega
    rw [this, hq] at h3; cases h3) h2 h3
theorem gRw_yes {σ : St} {a g q : Nat} (h : gRw σ a g (q + 1)) : gRw (setA σ 31 (upd (sA σ 31) q (nI (glP a g q)))) a g q := by
  intro p h1 h2 h3
  rw [sA_same]
  by_cases c : p = q
  · rw [c]; exact pk_us
  · rw [pk_un c]; exact h p (by omega) h2 h3
theorem rneg {z : Int} (hz : z < 0) : z - z.tdiv 10 * 10 ≤ 0 ∧ (z - z.tdiv 10 * 10 = 0 → z.tdiv 10 < 0) ∧ z ≤ z.tdiv 10 ∧ -9 ≤ z - z.tdiv 10 * 10 := by
  have e : z.tdiv 10 = -((-z) / 10) := by
    have := Int.neg_tdiv (-z) 10
    rw [Int.neg_neg] at this
    rw [this, Int.tdiv_eq_ediv_of_nonneg (by omega)]
  rw [e]; omega
theorem zI_div10 {z : Int} (h : -2147483648 ≤ z ∧ z < 0) : zI z / zI 10 = zI (z.tdiv 10) := by
  by_cases c : z = -2147483648
  · subst c; decide +kernel
  · exact zI_div (by omega) (by omega) (by decide)
set_option maxHeartbeats 4000000 in
set_option maxRecDepth 20000 in
theorem lp_X1_readGoals {l : Launch} {D : gE} {L : Nat → Nat} {σ : St} {Q : Option Value → va_W → Prop} {d : Nat} {a g sz : Nat} (ha : a < 64) (hg : g < 2 ^ 31) (hsz : sz ≤ 6) (ht : g < 10 ^ ecN a → glB sz g (ecN a) 0 = true → ∀ σ', fA 31 σ σ' → gRw σ' a g 0 → Q (some (.int (nI 1))) (wsOf D L σ')) (hf : (g < 10 ^ ecN a → glB sz g (ecN a) 0 = false) → ∀ σ', fA 31 σ σ' → Q (some (.int (nI 0))) (wsOf D L σ')) : ∀ q, q ≤ 6 → ∀ σ', fA 31 σ σ' → gRw σ' a g q → glB sz g (ecN a) (cntN a.testBit q) = true → G l D yX1_readGoals cX1_readGoals 6 (some .boolean) (rr (d + 1)) Q 0 0 6 [(5, .int (dcr q)), (4, .int (nI (g / 10 ^ (ecN a - cntN a.testBit q)))), (0, .ref (L 29)), (1, .int (nI a)), (2, .int (nI g)), (3, .int (nI sz))] [] (wsOf D L σ') := by
  intro q
  induction q with
  | zero =>
    intro hq σ' hfa hr hgb
    have hdl := Nat.div_le_self g (10 ^ (ecN a - cntN a.testBit 0))
    show G l D yX1_readGoals cX1_readGoals 6 (some .boolean) (rr (d + 1)) Q 0 0 6 [(5, .int (-1)), (4, .int (nI (g / 10 ^ (ecN a - cntN a.testBit 0)))), (0, .ref (L 29)), (1, .int (nI a)), (2, .int (nI g)), (3, .int (nI sz))] [] (wsOf D L σ')
    refine g_iload dX1_readGoals_6 0 rfl ?_
    refine g_iflt 64 dX1_readGoals_8 (by decide) (fun h8 => ?_) (fun h8 => absurd h8 (by decide +kernel))
    refine g_iload dX1_readGoals_64 1 rfl ?_
    refine n_ifne 73 dX1_readGoals_66 (by decide) (by omega) (fun h66 => ?_) (fun h66 => ?_)
    · refine g_iconst dX1_readGoals_73 ci_0 ?_
      exact g_zreturn dX1_readGoals_74 (Nat.le_refl _) (Nat.le_refl _) (Or.inl rfl) (hf (fun c => absurd (Nat.div_eq_of_lt c) h66) _ hfa)
    · refine g_iconst dX1_readGoals_69 ci_1 ?_
      refine g_goto 74 dX1_readGoals_70 (by decide) ?_
      exact g_zreturn dX1_readGoals_74 (Nat.le_refl _) (Nat.le_refl _) (Or.inr rfl) (ht (by have := (Nat.div_eq_zero_iff.mp h66); rcases this with c | c; exact absurd c (Nat.ne_of_gt (Nat.pow_pos (by decide))); exact c) hgb _ hfa hr)
  | succ q ih =>
    intro hq σ' hfa hr hgb
    have hdl := Nat.div_le_self g (10 ^ (ecN a - (cntN a.testBit q + 1)))
    have hec := ec_le a
    have hgl : glP a g q < 10 := Nat.mod_lt _ (by decide)
    cases h57 : a.testBit q with
    | true =>
      have hcl : cntN a.testBit q < ecN a := cnt_in (by omega) h57
      have hcs : cntN a.testBit (q + 1) = cntN a.testBit q + 1 := by rw [cntN_s, h57]; rfl
      rw [hcs] at hgb ⊢
      show G l D yX1_readGoals cX1_readGoals 6 (some .boolean) (rr (d + 1)) Q 0 0 6 [(5, .int (nI q)), (4, .int (nI (g / 10 ^ (ecN a - (cntN a.testBit q + 1))))), (0, .ref (L 29)), (1, .int (nI a)), (2, .int (nI g)), (3, .int (nI sz))] [] (wsOf D L σ')
      refine g_iload dX1_readGoals_6 0 rfl ?_
      refine n_iflt (tgt := 64) dX1_readGoals_8 (by decide) (by omega) ?_
      refine g_iload_n dX1_readGoals_11 rfl 3 rfl ?_
      refine g_iload dX1_readGoals_12 0 rfl ?_
      refine g_callN2 (C := RX1) (As := [.int (nI a), .int (nI q)]) rfl kn_X1_21 ky_X4_has ks_X4_has (by decide) rfl (Nat.le_of_ble_eq_true rfl) dX1_readGoals_14 rfl (c_X4_hasN (by omega) (by omega) (fun _ => ?_) (fun q9 => absurd (q9.symm.trans h57) (by decide)))
      refine t_ifeq1 (tgt := 58) dX1_readGoals_17 (by decide) ?_
      refine g_aload_n dX1_readGoals_20 rfl 2 rfl ?_
      refine g_get kf_X1_15 kC_X1 (by decide) 29 at_29 rfl dX1_readGoals_21 ?_
      refine g_iload dX1_readGoals_24 0 rfl ?_
      refine g_iload dX1_readGoals_26 1 rfl ?_
      refine g_bipush dX1_readGoals_28 bp_10 ?_
      refine g_irem dX1_readGoals_30 (by decide +kernel) ?_
      refine g_tope (z := nI (glP a g q)) ((pk_rem (by omega) (by omega) (by omega)).trans (by unfold glP glN; rw [show ecN a - 1 - cntN a.testBit q = ecN a - (cntN a.testBit q + 1) by omega])) ?_
      refine s_ast (q := 31) (n := 6) (at_ia (q := 31) rfl) (by omega) (by decide) dX1_readGoals_31 ?_
      have hfa := fA_A hfa (upd (sA σ' 31) q (nI (glP a g q)))
      have hr := gRw_yes hr
      generalize setA σ' 31 (upd (sA σ' 31) q (nI (glP a g q))) = σ2 at hfa hr ⊢
      refine g_iload dX1_readGoals_32 1 rfl ?_
      refine g_bipush dX1_readGoals_34 bp_10 ?_
      refine g_idiv dX1_readGoals_36 (by decide +kernel) ?_
      refine g_tope (z := nI (g / 10 ^ (ecN a - cntN a.testBit q))) ((pk_div (by omega) (by omega) (by omega)).trans (by rw [ten_div hcl])) ?_
      refine g_istore (lv' := [(4, .int (nI (g / 10 ^ (ecN a - cntN a.testBit q)))), (5, .int (nI q)), (0, .ref (L 29)), (1, .int (nI a)), (2, .int (nI g)), (3, .int (nI sz))]) dX1_readGoals_37 (by decide) rfl ?_
      refine g_aload_n dX1_readGoals_39 rfl 2 rfl ?_
      refine g_get kf_X1_15 kC_X1 (by decide) 29 at_29 rfl dX1_readGoals_40 ?_
      refine g_iload dX1_readGoals_43 1 rfl ?_
      refine s_ald (q := 31) (n := 6) (at_ia (q := 31) rfl) (by omega) (by decide) dX1_readGoals_45 ?_
      refine g_tope (z := nI (glP a g q)) (hr q (Nat.le_refl q) (by omega) h57) ?_
      refine g_iconst dX1_readGoals_46 ci_0 ?_
      refine g_iload_n dX1_readGoals_47 rfl 5 rfl ?_
      refine g_iconst dX1_readGoals_48 ci_1 ?_
      refine g_isub dX1_readGoals_49 ?_
      refine g_tope (z := nI sz - nI 1) (rfl) ?_
      refine g_callN2 (C := RX1) (As := [.int (nI (glP a g q)), .int (nI 0), .int (nI sz - nI 1)]) rfl kn_X1_25 ky_X4_within ks_X4_within (by decide) rfl (Nat.le_of_ble_eq_true rfl) dX1_readGoals_50 rfl (c_X4_withinS (by omega) (fun p50 hp50 he50 => ?_) (fun h50 => ?_))
      · have he50 := (nI_eq (by omega) (by omega)).mp he50
        refine t_ifne1 58 dX1_readGoals_53 (by decide) ?_
        refine g_iinc (v := dcr q) (lv' := [(5, .int (dcr q)), (4, .int (nI (g / 10 ^ (ecN a - cntN a.testBit q)))), (0, .ref (L 29)), (1, .int (nI a)), (2, .int (nI g)), (3, .int (nI sz))]) dX1_readGoals_58 1 rfl (dcr_dec q) (by decide) rfl ?_
        refine g_goto 6 dX1_readGoals_61 (by decide) ?_
        refine g_pick [0, 1, 2, 3, 4, 5] (lv' := [(5, .int (dcr q)), (4, .int (nI (g / 10 ^ (ecN a - cntN a.testBit q)))), (0, .ref (L 29)), (1, .int (nI a)), (2, .int (nI g)), (3, .int (nI sz))]) rfl ?_
        have hlt9 : glP a g q < sz := by omega
        exact ih (by omega) _ hfa hr (by rw [glB_s hcl, hgb, decide_eq_true (show glN g (ecN a) (cntN a.testBit q) < sz from hlt9)]; rfl)
      · refine t_ifne0 (tgt := 58) dX1_readGoals_53 (by decide) ?_
        refine g_iconst dX1_readGoals_56 ci_0 ?_
        exact g_zreturn dX1_readGoals_57 (Nat.le_refl _) (Nat.le_refl _) (Or.inl rfl) (hf (fun _ => glB_bad hcl (fun c => h50 _ c rfl)) _ hfa)
    | false =>
      have hcs : cntN a.testBit (q + 1) = cntN a.testBit q := by rw [cntN_s, h57]; rfl
      rw [hcs] at hgb ⊢
      show G l D yX1_readGoals cX1_readGoals 6 (some .boolean) (rr (d + 1)) Q 0 0 6 [(5, .int (nI q)), (4, .int (nI (g / 10 ^ (ecN a - cntN a.testBit q)))), (0, .ref (L 29)), (1, .int (nI a)), (2, .int (nI g)), (3, .int (nI sz))] [] (wsOf D L σ')
      refine g_iload dX1_readGoals_6 0 rfl ?_
      refine n_iflt (tgt := 64) dX1_readGoals_8 (by decide) (by omega) ?_
      refine g_iload_n dX1_readGoals_11 rfl 3 rfl ?_
      refine g_iload dX1_readGoals_12 0 rfl ?_
      refine g_callN2 (C := RX1) (As := [.int (nI a), .int (nI q)]) rfl kn_X1_21 ky_X4_has ks_X4_has (by decide) rfl (Nat.le_of_ble_eq_true rfl) dX1_readGoals_14 rfl (c_X4_hasN (by omega) (by omega) (fun q9 => absurd (q9.symm.trans h57) (by decide)) (fun _ => ?_))
      refine t_ifeq0 58 dX1_readGoals_17 (by decide) ?_
      refine g_iinc (v := dcr q) (lv' := [(5, .int (dcr q)), (4, .int (nI (g / 10 ^ (ecN a - cntN a.testBit q)))), (0, .ref (L 29)), (1, .int (nI a)), (2, .int (nI g)), (3, .int (nI sz))]) dX1_readGoals_58 0 rfl (dcr_dec q) (by decide) rfl ?_
      refine g_goto 6 dX1_readGoals_61 (by decide) ?_
      refine g_pick [0, 1, 2, 3, 4, 5] (lv' := [(5, .int (dcr q)), (4, .int (nI (g / 10 ^ (ecN a - cntN a.testBit q)))), (0, .ref (L 29)), (1, .int (nI a)), (2, .int (nI g)), (3, .int (nI sz))]) rfl ?_
      exact ih (by omega) _ hfa (gRw_no hr h57) hgb
set_option maxHeartbeats 4000000 in
set_option maxRecDepth 20000 in
theorem ln_X1_readGoals {l : Launch} {D : gE} {L : Nat → Nat} {σ : St} {Q : Option Value → va_W → Prop} {d : Nat} {a sz : Nat} {y : Int32} (ha : a < 64) (hsz : sz ≤ 6) (hf : ∀ σ', fA 31 σ σ' → Q (some (.int (nI 0))) (wsOf D L σ')) : ∀ q, q ≤ 6 → ∀ z : Int, -2147483648 ≤ z ∧ z < 0 → ∀ σ', fA 31 σ σ' → G l D yX1_readGoals cX1_readGoals 6 (some .boolean) (rr (d + 1)) Q 0 0 6 [(5, .int (dcr q)), (4, .int (zI z)), (0, .ref (L 29)), (1, .int (nI a)), (2, .int y), (3, .int (nI sz))] [] (wsOf D L σ') := by
  intro q
  induction q with
  | zero =>
    intro hq z hz σ' hfa
    show G l D yX1_readGoals cX1_readGoals 6 (some .boolean) (rr (d + 1)) Q 0 0 6 [(5, .int (-1)), (4, .int (zI z)), (0, .ref (L 29)), (1, .int (nI a)), (2, .int y), (3, .int (nI sz))] [] (wsOf D L σ')
    refine g_iload dX1_readGoals_6 0 rfl ?_
    refine g_iflt 64 dX1_readGoals_8 (by decide) (fun h8 => ?_) (fun h8 => absurd h8 (by decide +kernel))
    refine g_iload dX1_readGoals_64 1 rfl ?_
    refine z_ifne 73 dX1_readGoals_66 (by decide) (by omega) (fun h66 => ?_) (fun h66 => absurd h66 (by omega))
    refine g_iconst dX1_readGoals_73 ci_0 ?_
    exact g_zreturn dX1_readGoals_74 (Nat.le_refl _) (Nat.le_refl _) (Or.inl rfl) (hf _ hfa)
  | succ q ih =>
    intro hq z hz σ' hfa
    have hrn := rneg hz.2
    show G l D yX1_readGoals cX1_readGoals 6 (some .boolean) (rr (d + 1)) Q 0 0 6 [(5, .int (nI q)), (4, .int (zI z)), (0, .ref (L 29)), (1, .int (nI a)), (2, .int y), (3, .int (nI sz))] [] (wsOf D L σ')
    refine g_iload dX1_readGoals_6 0 rfl ?_
    refine n_iflt (tgt := 64) dX1_readGoals_8 (by decide) (by omega) ?_
    refine g_iload_n dX1_readGoals_11 rfl 3 rfl ?_
    refine g_iload dX1_readGoals_12 0 rfl ?_
    refine g_callN2 (C := RX1) (As := [.int (nI a), .int (nI q)]) rfl kn_X1_21 ky_X4_has ks_X4_has (by decide) rfl (Nat.le_of_ble_eq_true rfl) dX1_readGoals_14 rfl (c_X4_hasN (by omega) (by omega) (fun h14 => ?_) (fun h14 => ?_))
    · refine t_ifeq1 (tgt := 58) dX1_readGoals_17 (by decide) ?_
      refine g_aload_n dX1_readGoals_20 rfl 2 rfl ?_
      refine g_get kf_X1_15 kC_X1 (by decide) 29 at_29 rfl dX1_readGoals_21 ?_
      refine g_iload dX1_readGoals_24 0 rfl ?_
      refine g_iload dX1_readGoals_26 1 rfl ?_
      refine g_bipush dX1_readGoals_28 bp_10 ?_
      refine g_irem dX1_readGoals_30 (by decide +kernel) ?_
      refine g_tope (z := zI (z - z.tdiv 10 * 10)) (by rw [show nI 10 = zI 10 from rfl, zI_div10 hz, zI_mul, zI_sub]) ?_
      refine s_ast (q := 31) (n := 6) (at_ia (q := 31) rfl) (by omega) (by decide) dX1_readGoals_31 ?_
      have hfa := fA_A hfa (upd (sA σ' 31) q (zI (z - z.tdiv 10 * 10)))
      have hrd : sA (setA σ' 31 (upd (sA σ' 31) q (zI (z - z.tdiv 10 * 10)))) 31 q = zI (z - z.tdiv 10 * 10) := by rw [sA_same]; exact pk_us
      generalize setA σ' 31 (upd (sA σ' 31) q (zI (z - z.tdiv 10 * 10))) = σ2 at hfa hrd ⊢
      refine g_iload dX1_readGoals_32 1 rfl ?_
      refine g_bipush dX1_readGoals_34 bp_10 ?_
      refine g_idiv dX1_readGoals_36 (by decide +kernel) ?_
      refine g_tope (z := zI (z.tdiv 10)) (by rw [show nI 10 = zI 10 from rfl]; exact zI_div10 hz) ?_
      refine g_istore (lv' := [(4, .int (zI (z.tdiv 10))), (5, .int (nI q)), (0, .ref (L 29)), (1, .int (nI a)), (2, .int y), (3, .int (nI sz))]) dX1_readGoals_37 (by decide) rfl ?_
      refine g_aload_n dX1_readGoals_39 rfl 2 rfl ?_
      refine g_get kf_X1_15 kC_X1 (by decide) 29 at_29 rfl dX1_readGoals_40 ?_
      refine g_iload dX1_readGoals_43 1 rfl ?_
      refine s_ald (q := 31) (n := 6) (at_ia (q := 31) rfl) (by omega) (by decide) dX1_readGoals_45 ?_
      refine g_tope (z := zI (z - z.tdiv 10 * 10)) (hrd) ?_
      refine g_iconst dX1_readGoals_46 ci_0 ?_
      refine g_iload_n dX1_readGoals_47 rfl 5 rfl ?_
      refine g_iconst dX1_readGoals_48 ci_1 ?_
      refine g_isub dX1_readGoals_49 ?_
      refine g_tope (z := nI sz - nI 1) (rfl) ?_
      refine g_callN2 (C := RX1) (As := [.int (zI (z - z.tdiv 10 * 10)), .int (nI 0), .int (nI sz - nI 1)]) rfl kn_X1_25 ky_X4_within ks_X4_within (by decide) rfl (Nat.le_of_ble_eq_true rfl) dX1_readGoals_50 rfl (c_X4_withinS (by omega) (fun p50 hp50 he50 => ?_) (fun h50 => ?_))
      · have he9 : z - z.tdiv 10 * 10 = (p50 : Int) := by rw [nI_zI] at he50; exact (zI_inj (by omega) (by omega)).mp he50
        have hz2 := hrn.2.1 (by omega)
        refine t_ifne1 58 dX1_readGoals_53 (by decide) ?_
        refine g_iinc (v := dcr q) (lv' := [(5, .int (dcr q)), (4, .int (zI (z.tdiv 10))), (0, .ref (L 29)), (1, .int (nI a)), (2, .int y), (3, .int (nI sz))]) dX1_readGoals_58 1 rfl (dcr_dec q) (by decide) rfl ?_
        refine g_goto 6 dX1_readGoals_61 (by decide) ?_
        refine g_pick [0, 1, 2, 3, 4, 5] (lv' := [(5, .int (dcr q)), (4, .int (zI (z.tdiv 10))), (0, .ref (L 29)), (1, .int (nI a)), (2, .int y), (3, .int (nI sz))]) rfl ?_
        exact ih (by omega) _ (by omega) _ hfa
      · refine t_ifne0 (tgt := 58) dX1_readGoals_53 (by decide) ?_
        refine g_iconst dX1_readGoals_56 ci_0 ?_
        exact g_zreturn dX1_readGoals_57 (Nat.le_refl _) (Nat.le_refl _) (Or.inl rfl) (hf _ hfa)
    · refine t_ifeq0 58 dX1_readGoals_17 (by decide) ?_
      refine g_iinc (v := dcr q) (lv' := [(5, .int (dcr q)), (4, .int (zI z)), (0, .ref (L 29)), (1, .int (nI a)), (2, .int y), (3, .int (nI sz))]) dX1_readGoals_58 0 rfl (dcr_dec q) (by decide) rfl ?_
      refine g_goto 6 dX1_readGoals_61 (by decide) ?_
      refine g_pick [0, 1, 2, 3, 4, 5] (lv' := [(5, .int (dcr q)), (4, .int (zI z)), (0, .ref (L 29)), (1, .int (nI a)), (2, .int y), (3, .int (nI sz))]) rfl ?_
      exact ih (by omega) _ hz _ hfa
set_option maxHeartbeats 4000000 in
set_option maxRecDepth 20000 in
theorem c_X1_readGoals {l : Launch} {D : gE} {L : Nat → Nat} {σ : St} {Q : Option Value → va_W → Prop} {d : Nat} {a sz : Nat} {y : Int32} (ha : a < 64) (hsz : sz ≤ 6) (ht : ∀ g, g < 10 ^ ecN a → y = nI g → glB sz g (ecN a) 0 = true → ∀ σ', fA 31 σ σ' → gRw σ' a g 0 → Q (some (.int (nI 1))) (wsOf D L σ')) (hf : (decide (ix (10 ^ ecN a) y < 10 ^ ecN a) && glB sz (ix (10 ^ ecN a) y) (ecN a) 0) = false → ∀ σ', fA 31 σ σ' → Q (some (.int (nI 0))) (wsOf D L σ')) : Ctr l D yX1_readGoals cX1_readGoals 6 (some .boolean) (rr (d + 1)) [.ref (L 29), .int (nI a), .int y, .int (nI sz)] (wsOf D L σ) Q := by
  refine g_start ky_X1_readGoals (Nat.le_of_ble_eq_true rfl) ?_
  refine g_pick [0, 1, 2, 3] (lv' := [(0, .ref (L 29)), (1, .int (nI a)), (2, .int y), (3, .int (nI sz))]) rfl ?_
  refine g_iload_n dX1_readGoals_0 rfl 2 rfl ?_
  refine g_istore (lv' := [(4, .int y), (0, .ref (L 29)), (1, .int (nI a)), (2, .int y), (3, .int (nI sz))]) dX1_readGoals_1 (by decide) rfl ?_
  refine g_iconst dX1_readGoals_3 ci_5 ?_
  refine g_tope (z := dcr 6) (rfl) ?_
  refine g_istore (lv' := [(5, .int (dcr 6)), (4, .int y), (0, .ref (L 29)), (1, .int (nI a)), (2, .int y), (3, .int (nI sz))]) dX1_readGoals_4 (by decide) rfl ?_
  refine g_pick [0, 1, 2, 3, 4, 5] (lv' := [(5, .int (dcr 6)), (4, .int y), (0, .ref (L 29)), (1, .int (nI a)), (2, .int y), (3, .int (nI sz))]) rfl ?_
  have h10 := ten_le (ec_le a)
  by_cases hy : y < 0
  · have hyz : y = zI y.toInt := (fb_asI y).symm
    have hy2 : y.toInt < 0 := by rw [fa_lt] at hy; exact hy
    have hnl := ln_X1_readGoals (l := l) (D := D) (L := L) (Q := Q) (d := d) (y := y) (a := a) (sz := sz) ha hsz (fun σ2 hf2 => hf (by rw [decide_eq_false (ix_no (fun p hp e => by rw [e, nI_toInt (by omega)] at hy2; omega))]; rfl) σ2 hf2) 6 (Nat.le_refl 6) y.toInt ⟨(fb_rng y).1, hy2⟩ σ fA_rfl
    rw [← hyz] at hnl
    exact hnl
  · obtain ⟨g, hg, rfl⟩ := nI_of hy
    have hpl := lp_X1_readGoals (l := l) (D := D) (L := L) (Q := Q) (d := d) (a := a) (g := g) (sz := sz) ha hg hsz (fun c1 c2 σ2 hf2 hr2 => ht g c1 rfl c2 σ2 hf2 hr2) (fun c σ2 hf2 => hf (by by_cases q : g < 10 ^ ecN a; rw [ix_nI q (by omega), c q, Bool.and_false]; rw [decide_eq_false (ix_no (fun p hp e => by have := (nI_eq hg (by omega)).mp e; omega))]; rfl) σ2 hf2) 6 (Nat.le_refl 6) σ fA_rfl (fun p h1 h2 => absurd h1 (by omega)) glB_e
    rw [show ecN a - cntN a.testBit 6 = 0 from Nat.sub_self _, Nat.pow_zero, Nat.div_one] at hpl
    exact hpl
