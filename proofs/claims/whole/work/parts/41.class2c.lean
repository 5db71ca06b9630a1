theorem cnt_but {f : Nat → Bool} {p : Nat} : ∀ {n : Nat}, p < n → cntN (fun q => !(q == p) && f q) n + b2n (f p) = cntN f n
  | 0, h => absurd h (Nat.not_lt_zero _)
  | n + 1, h => by
    rw [cntN_s, cntN_s]
    by_cases c : p = n
    · subst c
      have h1 : cntN (fun q => !(q == p) && f q) p = cntN f p := cntN_cong (fun i hi => by
        have : (i == p) = false := by simp; omega
        rw [this]; simp)
      rw [h1]
      simp [b2n]
    · have h2 := cnt_but (f := f) (p := p) (n := n) (by omega)
      have : (n == p) = false := by simp; omega
      rw [this, Bool.not_false, Bool.true_and]
      omega
/-- the divisor of weightFor -/
def wdX (X : XT) (p k : Nat) : Nat := 1 + cntN (fun q => !(q == p) && x_kn X q k) 6
theorem wd_eq {X : XT} {p k : Nat} (hp : p < 6) : wdX X p k = kcX X k + b2n (!x_kn X p k) := by
  have h := cnt_but (f := fun q => x_kn X q k) hp
  unfold wdX kcX
  have : b2n (x_kn X p k) + b2n (!x_kn X p k) = 1 := by cases x_kn X p k <;> rfl
  omega
set_option maxHeartbeats 4000000 in
set_option maxRecDepth 20000 in
theorem lp_X3_weightFor {l : Launch} {D : gE} {L : Nat → Nat} {σ : St} {Q : Option Value → va_W → Prop} {d : Nat} {b : Nat} (hb : tn σ b) {X : XT} (hX : rzT σ b X) (ho : okX X) {p k : Nat} (hp : p < 6) (hk : k < 8) (hpu : x_pu X k = false) (h : Q (some (.int (zI (hwX X p k)))) (wsOf D L σ)) : ∀ n_ q, q + n_ = 6 → G l D yX3_weightFor cX3_weightFor 6 (some .int) (rr d) Q 0 0 21 [(5, .int (nI q)), (4, .int (nI (1 + cntN (fun q => !(q == p) && x_kn X q k) q))), (3, .int (nI 1 <<< (nI k &&& 31))), (0, .ref (L b)), (1, .int (nI p)), (2, .int (nI k))] [] (wsOf D L σ) := by
  intro n_
  induction n_ with
  | zero =>
    intro q hct
    obtain rfl : q = 6 := by omega
    have hcn := cntN_le (fun q => !(q == p) && x_kn X q k) 6
    have hw := ok_wt ho hk
    have hki := ok_p ho hp
    refine g_iload dX3_weightFor_21 0 rfl ?_
    refine g_bipush dX3_weightFor_23 bp_6 ?_
    refine n_icmpge 55 dX3_weightFor_25 (by decide) (by omega) (by omega) (fun h25 => ?_) (fun h25 => absurd h25 (by omega))
    refine g_aload_n dX3_weightFor_55 rfl 3 rfl ?_
    refine s_getT (b := b) hb kf_X3_36 (by decide) rfl dX3_weightFor_56 ?_
    refine g_iload_n dX3_weightFor_59 rfl 5 rfl ?_
    refine s_ald (q := (b + 9)) (n := 8) (at_ta hb 9 (by decide) (by decide)) (by omega) (by decide) dX3_weightFor_60 ?_
    refine g_tope (z := nI (x_ab X k)) (rpT_ab hX.1 (by omega)) ?_
    refine g_aload_n dX3_weightFor_61 rfl 3 rfl ?_
    refine s_getT (b := b) hb kf_X3_27 (by decide) rfl dX3_weightFor_62 ?_
    refine g_iload_n dX3_weightFor_65 rfl 4 rfl ?_
    refine s_ald (q := (b + 6)) (n := 6) (at_ta hb 6 (by decide) (by decide)) (by omega) (by decide) dX3_weightFor_66 ?_
    refine g_tope (z := nI (x_ki X p)) (rpT_ki hX.1 (by omega)) ?_
    refine n_icmpne 81 dX3_weightFor_67 (by decide) (by omega) (by omega) (fun h67 => ?_) (fun h67 => ?_)
    · refine g_aload_n dX3_weightFor_81 rfl 3 rfl ?_
      refine s_getT (b := b) hb kf_X3_33 (by decide) rfl dX3_weightFor_82 ?_
      refine g_iload_n dX3_weightFor_85 rfl 5 rfl ?_
      refine s_ald (q := (b + 8)) (n := 8) (at_ta hb 8 (by decide) (by decide)) (by omega) (by decide) dX3_weightFor_86 ?_
      refine g_tope (z := zI (x_wt X k)) (rpT_wt hX.1 (by omega)) ?_
      refine g_iload dX3_weightFor_87 1 rfl ?_
      refine g_idiv dX3_weightFor_89 (nI_ne0 (by omega) (by omega)) ?_
      refine g_tope (z := zI ((x_wt X k).tdiv ((wdX X p k : Nat) : Int))) (by rw [nI_zI, zI_div (by omega) (by omega) (by omega)]; rfl) ?_
      exact g_ireturn dX3_weightFor_90 (Nat.le_refl _) (Nat.le_refl _) (qi (by unfold hwX hvX; rw [if_neg (by rw [hpu]; decide), ← wd_eq hp]; rw [if_neg h67, Int.mul_one]) h)
    · refine g_iconst dX3_weightFor_70 ci_2 ?_
      refine g_aload_n dX3_weightFor_71 rfl 3 rfl ?_
      refine s_getT (b := b) hb kf_X3_33 (by decide) rfl dX3_weightFor_72 ?_
      refine g_iload_n dX3_weightFor_75 rfl 5 rfl ?_
      refine s_ald (q := (b + 8)) (n := 8) (at_ta hb 8 (by decide) (by decide)) (by omega) (by decide) dX3_weightFor_76 ?_
      refine g_tope (z := zI (x_wt X k)) (rpT_wt hX.1 (by omega)) ?_
      refine g_imul dX3_weightFor_77 ?_
      refine g_tope (z := zI (2 * x_wt X k)) (zI_mul 2 _) ?_
      refine g_goto 87 dX3_weightFor_78 (by decide) ?_
      refine g_iload dX3_weightFor_87 1 rfl ?_
      refine g_idiv dX3_weightFor_89 (nI_ne0 (by omega) (by omega)) ?_
      refine g_tope (z := zI ((2 * x_wt X k).tdiv ((wdX X p k : Nat) : Int))) (by rw [nI_zI, zI_div (by omega) (by omega) (by omega)]; rfl) ?_
      exact g_ireturn dX3_weightFor_90 (Nat.le_refl _) (Nat.le_refl _) (qi (by unfold hwX hvX; rw [if_neg (by rw [hpu]; decide), ← wd_eq hp]; rw [if_pos h67, Int.mul_comm]) h)
  | succ n_ ih =>
    intro q hct
    have hcn := cntN_le (fun q => !(q == p) && x_kn X q k) q
    refine g_iload dX3_weightFor_21 0 rfl ?_
    refine g_bipush dX3_weightFor_23 bp_6 ?_
    refine n_icmpge 55 dX3_weightFor_25 (by decide) (by omega) (by omega) (fun h25 => absurd h25 (by omega)) (fun h25 => ?_)
    refine g_iload dX3_weightFor_28 0 rfl ?_
    refine g_iload_n dX3_weightFor_30 rfl 4 rfl ?_
    refine n_icmpeq 49 dX3_weightFor_31 (by decide) (by omega) (by omega) (fun h31 => ?_) (fun h31 => ?_)
    · refine g_iinc (v := nI (q + 1)) (lv' := [(5, .int (nI (q + 1))), (4, .int (nI (1 + cntN (fun q => !(q == p) && x_kn X q k) q))), (3, .int (nI 1 <<< (nI k &&& 31))), (0, .ref (L b)), (1, .int (nI p)), (2, .int (nI k))]) dX3_weightFor_49 0 rfl (inc_n _) (by decide) rfl ?_
      refine g_goto 21 dX3_weightFor_52 (by decide) ?_
      refine g_pick [0, 1, 2, 3, 4, 5] (lv' := [(5, .int (nI (q + 1))), (4, .int (nI (1 + cntN (fun q => !(q == p) && x_kn X q k) q))), (3, .int (nI 1 <<< (nI k &&& 31))), (0, .ref (L b)), (1, .int (nI p)), (2, .int (nI k))]) rfl ?_
      have ih2 := ih (q + 1) (by omega)
      rw [show 1 + cntN (fun q => !(q == p) && x_kn X q k) (q + 1) = 1 + cntN (fun q => !(q == p) && x_kn X q k) q by rw [cntN_s, show (!(q == p) && x_kn X q k) = false by simp [h31], b2n_f]; omega] at ih2
      exact ih2
    · refine g_aload_n dX3_weightFor_34 rfl 3 rfl ?_
      refine s_getT (b := b) hb kf_X3_30 (by decide) rfl dX3_weightFor_35 ?_
      refine g_iload dX3_weightFor_38 0 rfl ?_
      refine s_ald (q := (b + 7)) (n := 6) (at_ta hb 7 (by decide) (by decide)) (by omega) (by decide) dX3_weightFor_40 ?_
      refine g_tope (z := nI (bitsN (x_kn X q) 8)) (rzT_kn hX (by omega)) ?_
      refine g_iload_n dX3_weightFor_41 rfl 2 rfl ?_
      refine g_iand dX3_weightFor_42 ?_
      refine g_tope (z := nI (if (x_kn X q) k = true then 2 ^ k else 0)) (abB _ (by decide) (by omega)) ?_
      refine ab_ifeq 49 dX3_weightFor_43 (by decide) (by omega) (fun h43 => ?_) (fun h43 => ?_)
      · refine g_iinc (v := nI (q + 1)) (lv' := [(5, .int (nI (q + 1))), (4, .int (nI (1 + cntN (fun q => !(q == p) && x_kn X q k) q))), (3, .int (nI 1 <<< (nI k &&& 31))), (0, .ref (L b)), (1, .int (nI p)), (2, .int (nI k))]) dX3_weightFor_49 0 rfl (inc_n _) (by decide) rfl ?_
        refine g_goto 21 dX3_weightFor_52 (by decide) ?_
        refine g_pick [0, 1, 2, 3, 4, 5] (lv' := [(5, .int (nI (q + 1))), (4, .int (nI (1 + cntN (fun q => !(q == p) && x_kn X q k) q))), (3, .int (nI 1 <<< (nI k &&& 31))), (0, .ref (L b)), (1, .int (nI p)), (2, .int (nI k))]) rfl ?_
        have ih2 := ih (q + 1) (by omega)
        rw [show 1 + cntN (fun q => !(q == p) && x_kn X q k) (q + 1) = 1 + cntN (fun q => !(q == p) && x_kn X q k) q by rw [cntN_s, show (!(q == p) && x_kn X q k) = false by simp [h43], b2n_f]; omega] at ih2
        exact ih2
      · refine g_iinc (v := nI (1 + cntN (fun q => !(q == p) && x_kn X q k) q + 1)) (lv' := [(4, .int (nI (1 + cntN (fun q => !(q == p) && x_kn X q k) q + 1))), (5, .int (nI q)), (3, .int (nI 1 <<< (nI k &&& 31))), (0, .ref (L b)), (1, .int (nI p)), (2, .int (nI k))]) dX3_weightFor_46 1 rfl (inc_n _) (by decide) rfl ?_
        refine g_iinc (v := nI (q + 1)) (lv' := [(5, .int (nI (q + 1))), (4, .int (nI (1 + cntN (fun q => !(q == p) && x_kn X q k) q + 1))), (3, .int (nI 1 <<< (nI k &&& 31))), (0, .ref (L b)), (1, .int (nI p)), (2, .int (nI k))]) dX3_weightFor_49 1 rfl (inc_n _) (by decide) rfl ?_
        refine g_goto 21 dX3_weightFor_52 (by decide) ?_
        refine g_pick [0, 1, 2, 3, 4, 5] (lv' := [(5, .int (nI (q + 1))), (4, .int (nI (1 + cntN (fun q => !(q == p) && x_kn X q k) q + 1))), (3, .int (nI 1 <<< (nI k &&& 31))), (0, .ref (L b)), (1, .int (nI p)), (2, .int (nI k))]) rfl ?_
        have ih2 := ih (q + 1) (by omega)
        rw [show 1 + cntN (fun q => !(q == p) && x_kn X q k) (q + 1) = 1 + cntN (fun q => !(q == p) && x_kn X q k) q + 1 by rw [cntN_s, show (!(q == p) && x_kn X q k) = true by simp [h31, h43], b2n_t]; omega] at ih2
        exact ih2
set_option maxHeartbeats 4000000 in
set_option maxRecDepth 20000 in
theorem c_X3_weightFor {l : Launch} {D : gE} {L : Nat → Nat} {σ : St} {Q : Option Value → va_W → Prop} {d : Nat} {b : Nat} (hb : tn σ b) {X : XT} (hX : rzT σ b X) (ho : okX X) {p k : Nat} (hp : p < 6) (hk : k < 8) (h : Q (some (.int (zI (hwX X p k)))) (wsOf D L σ)) : Ctr l D yX3_weightFor cX3_weightFor 6 (some .int) (rr d) [.ref (L b), .int (nI p), .int (nI k)] (wsOf D L σ) Q := by
  refine g_start ky_X3_weightFor (Nat.le_of_ble_eq_true rfl) ?_
  refine g_pick [0, 1, 2] (lv' := [(0, .ref (L b)), (1, .int (nI p)), (2, .int (nI k))]) rfl ?_
  refine g_iconst dX3_weightFor_0 ci_1 ?_
  refine g_iload_n dX3_weightFor_1 rfl 2 rfl ?_
  refine g_ishl dX3_weightFor_2 ?_
  refine g_istore_n (lv' := [(3, .int (nI 1 <<< (nI k &&& 31))), (0, .ref (L b)), (1, .int (nI p)), (2, .int (nI k))]) dX3_weightFor_3 rfl (by decide) rfl ?_
  refine g_aload_n dX3_weightFor_4 rfl 1 rfl ?_
  refine s_getT (b := b) hb kf_X3_65 (by decide) rfl dX3_weightFor_5 ?_
  refine g_tope (z := nI (bitsN (x_pu X) 8)) (rpT_pu hX.1) ?_
  refine g_iload_n dX3_weightFor_8 rfl 0 rfl ?_
  refine g_iand dX3_weightFor_9 ?_
  refine g_tope (z := nI (if (x_pu X) k = true then 2 ^ k else 0)) (abB _ (by decide) (by omega)) ?_
  refine ab_ifeq 15 dX3_weightFor_10 (by decide) (by omega) (fun h10 => ?_) (fun h10 => ?_)
  · refine g_iconst dX3_weightFor_15 ci_1 ?_
    refine g_tope (z := nI (1 + cntN (fun q => !(q == p) && x_kn X q k) 0)) (rfl) ?_
    refine g_istore (lv' := [(4, .int (nI (1 + cntN (fun q => !(q == p) && x_kn X q k) 0))), (3, .int (nI 1 <<< (nI k &&& 31))), (0, .ref (L b)), (1, .int (nI p)), (2, .int (nI k))]) dX3_weightFor_16 (by decide) rfl ?_
    refine g_iconst dX3_weightFor_18 ci_0 ?_
    refine g_istore (lv' := [(5, .int (nI 0)), (4, .int (nI (1 + cntN (fun q => !(q == p) && x_kn X q k) 0))), (3, .int (nI 1 <<< (nI k &&& 31))), (0, .ref (L b)), (1, .int (nI p)), (2, .int (nI k))]) dX3_weightFor_19 (by decide) rfl ?_
    refine g_pick [0, 1, 2, 3, 4, 5] (lv' := [(5, .int (nI 0)), (4, .int (nI (1 + cntN (fun q => !(q == p) && x_kn X q k) 0))), (3, .int (nI 1 <<< (nI k &&& 31))), (0, .ref (L b)), (1, .int (nI p)), (2, .int (nI k))]) rfl ?_
    exact lp_X3_weightFor hb hX ho hp hk h10 h 6 0 rfl
  · refine g_iconst dX3_weightFor_13 ci_0 ?_
    exact g_ireturn dX3_weightFor_14 (Nat.le_refl _) (Nat.le_refl _) (qi (by unfold hwX hvX; rw [if_pos h10]; rfl) h)
