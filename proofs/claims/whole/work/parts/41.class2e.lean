set_option maxHeartbeats 4000000 in
set_option maxRecDepth 20000 in
theorem lp_X3_mostBurden {l : Launch} {D : gE} {L : Nat → Nat} {σ : St} {Q : Option Value → va_W → Prop} {d : Nat} {b : Nat} (hb : tn σ b) {X : XT} (hX : rzT σ b X) (ho : okX X) (h : Q (some (.int (nI (mxN (ybX X) 6)))) (wsOf D L σ)) : ∀ n_ p, p + n_ = 6 → G l D yX3_mostBurden cX3_mostBurden 3 (some .int) (rr (d + 3)) Q 0 0 4 [(2, .int (nI p)), (1, .int (nI (mxN (ybX X) p))), (0, .ref (L b))] [] (wsOf D L σ) := by
  intro n_
  induction n_ with
  | zero =>
    intro p hct
    obtain rfl : p = 6 := by omega
    refine g_iload_n dX3_mostBurden_4 rfl 0 rfl ?_
    refine g_bipush dX3_mostBurden_5 bp_6 ?_
    refine n_icmpge 37 dX3_mostBurden_7 (by decide) (by omega) (by omega) (fun h7 => ?_) (fun h7 => absurd h7 (by omega))
    refine g_iload_n dX3_mostBurden_37 rfl 1 rfl ?_
    exact g_ireturn dX3_mostBurden_38 (Nat.le_refl _) (Nat.le_refl _) (h)
  | succ n_ ih =>
    intro p hct
    have hb1 := mxN_le (f := ybX X) (fun i => ybX_le ho i) p
    have hbu := bu_bd ho p
    refine g_iload_n dX3_mostBurden_4 rfl 0 rfl ?_
    refine g_bipush dX3_mostBurden_5 bp_6 ?_
    refine n_icmpge 37 dX3_mostBurden_7 (by decide) (by omega) (by omega) (fun h7 => absurd h7 (by omega)) (fun h7 => ?_)
    refine g_aload_n dX3_mostBurden_10 rfl 2 rfl ?_
    refine s_getT (b := b) hb kf_X3_59 (by decide) rfl dX3_mostBurden_11 ?_
    refine g_tope (z := nI (bitsN (x_th X) 6)) (rpT_th hX.1) ?_
    refine g_iload_n dX3_mostBurden_14 rfl 0 rfl ?_
    refine g_callN2 (C := RX3) (As := [.int (nI (bitsN (x_th X) 6)), .int (nI p)]) rfl kn_X3_84 ky_X4_has ks_X4_has (by decide) rfl (Nat.le_of_ble_eq_true rfl) dX3_mostBurden_15 rfl (c_X4_has (n := 6) (by decide) (by omega) (fun h15 => ?_) (fun h15 => ?_))
    · refine t_ifeq1 (tgt := 31) dX3_mostBurden_18 (by decide) ?_
      refine g_iload_n dX3_mostBurden_21 rfl 1 rfl ?_
      refine g_aload_n dX3_mostBurden_22 rfl 2 rfl ?_
      refine g_iload_n dX3_mostBurden_23 rfl 0 rfl ?_
      refine g_callV (As := [.int (nI p)]) km_X3_100 ky_X3_burden ki_X3_burden (by decide) b (at_tn hb) rfl rfl (Nat.le_of_ble_eq_true rfl) dX3_mostBurden_24 rfl (c_X3_burden hb hX ho (by omega) ?_)
      refine g_callS (As := [.int (nI (mxN (ybX X) p)), .int (nI (buX X p))]) km_X3_95 ky_J9_max_7cf53 ks_J9_max_7cf53 (by decide) rfl (Nat.le_of_ble_eq_true rfl) dX3_mostBurden_27 rfl (c_maxN (by omega) (by omega) ?_)
      refine g_tope (z := nI (mxN (ybX X) (p + 1))) (by rw [mxN_s, show ybX X p = buX X p by unfold ybX; rw [h15]; rfl]) ?_
      refine g_istore_n (lv' := [(1, .int (nI (mxN (ybX X) (p + 1)))), (2, .int (nI p)), (0, .ref (L b))]) dX3_mostBurden_30 rfl (by decide) rfl ?_
      refine g_iinc (v := nI (p + 1)) (lv' := [(2, .int (nI (p + 1))), (1, .int (nI (mxN (ybX X) (p + 1)))), (0, .ref (L b))]) dX3_mostBurden_31 1 rfl (inc_n _) (by decide) rfl ?_
      refine g_goto 4 dX3_mostBurden_34 (by decide) ?_
      refine g_pick [0, 1, 2] (lv' := [(2, .int (nI (p + 1))), (1, .int (nI (mxN (ybX X) (p + 1)))), (0, .ref (L b))]) rfl ?_
      exact ih (p + 1) (by omega)
    · refine t_ifeq0 31 dX3_mostBurden_18 (by decide) ?_
      refine g_iinc (v := nI (p + 1)) (lv' := [(2, .int (nI (p + 1))), (1, .int (nI (mxN (ybX X) p))), (0, .ref (L b))]) dX3_mostBurden_31 0 rfl (inc_n _) (by decide) rfl ?_
      refine g_goto 4 dX3_mostBurden_34 (by decide) ?_
      refine g_pick [0, 1, 2] (lv' := [(2, .int (nI (p + 1))), (1, .int (nI (mxN (ybX X) p))), (0, .ref (L b))]) rfl ?_
      have ih2 := ih (p + 1) (by omega)
      rw [show mxN (ybX X) (p + 1) = mxN (ybX X) p by rw [mxN_s, show ybX X p = 0 by unfold ybX; rw [h15]; rfl, if_neg (Nat.not_lt_zero _)]] at ih2
      exact ih2
set_option maxHeartbeats 4000000 in
set_option maxRecDepth 20000 in
theorem c_X3_mostBurden {l : Launch} {D : gE} {L : Nat → Nat} {σ : St} {Q : Option Value → va_W → Prop} {d : Nat} {b : Nat} (hb : tn σ b) {X : XT} (hX : rzT σ b X) (ho : okX X) (h : Q (some (.int (nI (mxN (ybX X) 6)))) (wsOf D L σ)) : Ctr l D yX3_mostBurden cX3_mostBurden 3 (some .int) (rr (d + 3)) [.ref (L b)] (wsOf D L σ) Q := by
  refine g_start ky_X3_mostBurden (Nat.le_of_ble_eq_true rfl) ?_
  refine g_pick [0] (lv' := [(0, .ref (L b))]) rfl ?_
  refine g_iconst dX3_mostBurden_0 ci_0 ?_
  refine g_istore_n (lv' := [(1, .int (nI 0)), (0, .ref (L b))]) dX3_mostBurden_1 rfl (by decide) rfl ?_
  refine g_iconst dX3_mostBurden_2 ci_0 ?_
  refine g_istore_n (lv' := [(2, .int (nI 0)), (1, .int (nI 0)), (0, .ref (L b))]) dX3_mostBurden_3 rfl (by decide) rfl ?_
  refine g_pick [0, 1, 2] (lv' := [(2, .int (nI 0)), (1, .int (nI 0)), (0, .ref (L b))]) rfl ?_
  exact lp_X3_mostBurden hb hX ho h 6 0 rfl
set_option maxHeartbeats 4000000 in
set_option maxRecDepth 20000 in
theorem lp_X3_mostKnowers {l : Launch} {D : gE} {L : Nat → Nat} {σ : St} {Q : Option Value → va_W → Prop} {d : Nat} {b : Nat} (hb : tn σ b) {X : XT} (hX : rzT σ b X) (ho : okX X) (h : Q (some (.int (nI (mxN (kcX X) 8)))) (wsOf D L σ)) : ∀ n_ k, k + n_ = 8 → G l D yX3_mostKnowers cX3_mostKnowers 3 (some .int) (rr (d + 2)) Q 0 0 4 [(2, .int (nI k)), (1, .int (nI (mxN (kcX X) k))), (0, .ref (L b))] [] (wsOf D L σ) := by
  intro n_
  induction n_ with
  | zero =>
    intro k hct
    obtain rfl : k = 8 := by omega
    refine g_iload_n dX3_mostKnowers_4 rfl 0 rfl ?_
    refine g_bipush dX3_mostKnowers_5 bp_8 ?_
    refine n_icmpge 29 dX3_mostKnowers_7 (by decide) (by omega) (by omega) (fun h7 => ?_) (fun h7 => absurd h7 (by omega))
    refine g_iload_n dX3_mostKnowers_29 rfl 1 rfl ?_
    exact g_ireturn dX3_mostKnowers_30 (Nat.le_refl _) (Nat.le_refl _) (h)
  | succ n_ ih =>
    intro k hct
    have hk1 := mxN_le (f := kcX X) (fun i => kc_le X i) k
    have hkc := kc_le X k
    refine g_iload_n dX3_mostKnowers_4 rfl 0 rfl ?_
    refine g_bipush dX3_mostKnowers_5 bp_8 ?_
    refine n_icmpge 29 dX3_mostKnowers_7 (by decide) (by omega) (by omega) (fun h7 => absurd h7 (by omega)) (fun h7 => ?_)
    refine g_iload_n dX3_mostKnowers_10 rfl 1 rfl ?_
    refine g_aload_n dX3_mostKnowers_11 rfl 2 rfl ?_
    refine g_iload_n dX3_mostKnowers_12 rfl 0 rfl ?_
    refine g_callV (As := [.int (nI k)]) km_X3_104 ky_X3_knowersOf ki_X3_knowersOf (by decide) b (at_tn hb) rfl rfl (Nat.le_of_ble_eq_true rfl) dX3_mostKnowers_13 rfl (c_X3_knowersOf hb hX ho (by omega) ?_)
    refine g_callS (As := [.int (nI (bitsN (fun p => x_kn X p k) 6))]) km_X3_107 ky_J6_bitCount_0f7a4 ks_J6_bitCount_0f7a4 (by decide) rfl (Nat.le_of_ble_eq_true rfl) dX3_mostKnowers_16 rfl (c_bitCount (a := bitsN (fun p => x_kn X p k) 6) (Nat.lt_of_lt_of_le (bitsN_lt _ _) (by decide)) ?_)
    refine g_tope (z := nI (kcX X k)) (by rw [pop_bits (by decide)]; rfl) ?_
    refine g_callS (As := [.int (nI (mxN (kcX X) k)), .int (nI (kcX X k))]) km_X3_95 ky_J9_max_7cf53 ks_J9_max_7cf53 (by decide) rfl (Nat.le_of_ble_eq_true rfl) dX3_mostKnowers_19 rfl (c_maxN (by omega) (by omega) ?_)
    refine g_tope (z := nI (mxN (kcX X) (k + 1))) (by rw [mxN_s]) ?_
    refine g_istore_n (lv' := [(1, .int (nI (mxN (kcX X) (k + 1)))), (2, .int (nI k)), (0, .ref (L b))]) dX3_mostKnowers_22 rfl (by decide) rfl ?_
    refine g_iinc (v := nI (k + 1)) (lv' := [(2, .int (nI (k + 1))), (1, .int (nI (mxN (kcX X) (k + 1)))), (0, .ref (L b))]) dX3_mostKnowers_23 1 rfl (inc_n _) (by decide) rfl ?_
    refine g_goto 4 dX3_mostKnowers_26 (by decide) ?_
    refine g_pick [0, 1, 2] (lv' := [(2, .int (nI (k + 1))), (1, .int (nI (mxN (kcX X) (k + 1)))), (0, .ref (L b))]) rfl ?_
    exact ih (k + 1) (by omega)
set_option maxHeartbeats 4000000 in
set_option maxRecDepth 20000 in
theorem c_X3_mostKnowers {l : Launch} {D : gE} {L : Nat → Nat} {σ : St} {Q : Option Value → va_W → Prop} {d : Nat} {b : Nat} (hb : tn σ b) {X : XT} (hX : rzT σ b X) (ho : okX X) (h : Q (some (.int (nI (mxN (kcX X) 8)))) (wsOf D L σ)) : Ctr l D yX3_mostKnowers cX3_mostKnowers 3 (some .int) (rr (d + 2)) [.ref (L b)] (wsOf D L σ) Q := by
  refine g_start ky_X3_mostKnowers (Nat.le_of_ble_eq_true rfl) ?_
  refine g_pick [0] (lv' := [(0, .ref (L b))]) rfl ?_
  refine g_iconst dX3_mostKnowers_0 ci_0 ?_
  refine g_istore_n (lv' := [(1, .int (nI 0)), (0, .ref (L b))]) dX3_mostKnowers_1 rfl (by decide) rfl ?_
  refine g_iconst dX3_mostKnowers_2 ci_0 ?_
  refine g_istore_n (lv' := [(2, .int (nI 0)), (1, .int (nI 0)), (0, .ref (L b))]) dX3_mostKnowers_3 rfl (by decide) rfl ?_
  refine g_pick [0, 1, 2] (lv' := [(2, .int (nI 0)), (1, .int (nI 0)), (0, .ref (L b))]) rfl ?_
  exact lp_X3_mostKnowers hb hX ho h 8 0 rfl
