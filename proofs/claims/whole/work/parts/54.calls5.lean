set_option maxHeartbeats 4000000 in
set_option maxRecDepth 20000 in
theorem lp_X4_fit {l : Launch} {D : gE} {L : Nat → Nat} {σ : St} {Q : Option Value → va_W → Prop} {d : Nat} {X : XT} (hX : rzT σ 0 X) (ho : okX X) (h : Q (some (.int (fitR X))) (wsOf D L σ)) : ∀ n_ k, k + n_ = x_sg X → G l D yX4_fit cX4_fit 4 (some .int) (rr (d + 4)) Q 0 0 4 [(2, .int (nI k)), (1, .int (nI (fpN X k))), (0, .ref (L 24))] [] (wsOf D L σ) := by
  intro n_
  induction n_ with
  | zero =>
    intro k hct
    obtain rfl : k = x_sg X := by omega
    have hsg := ok_sg ho
    refine g_iload_n dX4_fit_4 rfl 0 rfl ?_
    refine g_aload_n dX4_fit_5 rfl 2 rfl ?_
    refine g_get kf_X4_10 kC_X4 (by decide) 24 at_24 rfl dX4_fit_6 ?_
    refine s_getT (b := 0) (Or.inl rfl) kf_X4_225 (by decide) rfl dX4_fit_9 ?_
    refine g_tope (z := nI (x_sg X)) (rpT_sg hX.1) ?_
    refine n_icmpge 58 dX4_fit_12 (by decide) (by omega) (by omega) (fun h12 => ?_) (fun h12 => absurd h12 (by omega))
    refine g_iload_n dX4_fit_58 rfl 1 rfl ?_
    exact g_ireturn dX4_fit_59 (Nat.le_refl _) (Nat.le_refl _) (h)
  | succ n_ ih =>
    intro k hct
    have hsg := ok_sg ho
    have hsv := ok_sb ho (i := k) (by omega)
    have hc1 := cntN_le (cbX X (x_sv X k)) 6
    have hc2 := cntN_le (lkX X k) k
    refine g_iload_n dX4_fit_4 rfl 0 rfl ?_
    refine g_aload_n dX4_fit_5 rfl 2 rfl ?_
    refine g_get kf_X4_10 kC_X4 (by decide) 24 at_24 rfl dX4_fit_6 ?_
    refine s_getT (b := 0) (Or.inl rfl) kf_X4_225 (by decide) rfl dX4_fit_9 ?_
    refine g_tope (z := nI (x_sg X)) (rpT_sg hX.1) ?_
    refine n_icmpge 58 dX4_fit_12 (by decide) (by omega) (by omega) (fun h12 => absurd h12 (by omega)) (fun h12 => ?_)
    refine g_aload_n dX4_fit_15 rfl 2 rfl ?_
    refine g_get kf_X4_10 kC_X4 (by decide) 24 at_24 rfl dX4_fit_16 ?_
    refine g_aload_n dX4_fit_19 rfl 2 rfl ?_
    refine g_get kf_X4_10 kC_X4 (by decide) 24 at_24 rfl dX4_fit_20 ?_
    refine s_getT (b := 0) (Or.inl rfl) kf_X4_231 (by decide) rfl dX4_fit_23 ?_
    refine g_iload_n dX4_fit_26 rfl 0 rfl ?_
    refine s_ald (q := 11) (n := 6) (at_ia (q := 11) rfl) (by omega) (by decide) dX4_fit_27 ?_
    refine g_tope (z := nI (x_sv X k)) (rpT_sv hX.1 (by omega)) ?_
    refine g_callV (As := [.int (nI (x_sv X k))]) km_X4_234 ky_X3_carriersOf ki_X3_carriersOf (by decide) 0 (at_tn (Or.inl rfl)) rfl rfl (Nat.le_of_ble_eq_true rfl) dX4_fit_28 rfl (c_X3_carriersOf (Or.inl rfl) hX ho (by omega) ?_)
    refine g_callS (As := [.int (nI (bitsN (cbX X (x_sv X k)) 6))]) km_X4_85 ky_J6_bitCount_0f7a4 ks_J6_bitCount_0f7a4 (by decide) rfl (Nat.le_of_ble_eq_true rfl) dX4_fit_31 rfl (c_bitCount (a := bitsN (cbX X (x_sv X k)) 6) (Nat.lt_of_lt_of_le (bitsN_lt _ _) (by decide)) ?_)
    refine g_aload_n dX4_fit_34 rfl 2 rfl ?_
    refine g_get kf_X4_10 kC_X4 (by decide) 24 at_24 rfl dX4_fit_35 ?_
    refine g_iload_n dX4_fit_38 rfl 0 rfl ?_
    refine g_callV (As := [.int (nI k)]) km_X4_237 ky_X3_likeSightsBefore ki_X3_likeSightsBefore (by decide) 0 (at_tn (Or.inl rfl)) rfl rfl (Nat.le_of_ble_eq_true rfl) dX4_fit_39 rfl (c_X3_likeSightsBefore (Or.inl rfl) hX ho (by omega) ?_)
    refine g_isub dX4_fit_42 ?_
    refine g_tope (z := zI (((cntN (cbX X (x_sv X k)) 6 : Nat) : Int) - ((cntN (lkX X k) k : Nat) : Int))) (by rw [pop_bits (by decide), nI_zI, nI_zI]; exact zI_sub _ _) ?_
    refine g_istore_n (lv' := [(3, .int (zI (((cntN (cbX X (x_sv X k)) 6 : Nat) : Int) - ((cntN (lkX X k) k : Nat) : Int)))), (2, .int (nI k)), (1, .int (nI (fpN X k))), (0, .ref (L 24))]) dX4_fit_43 rfl (by decide) rfl ?_
    refine g_iload_n dX4_fit_44 rfl 2 rfl ?_
    refine g_iconst dX4_fit_45 ci_0 ?_
    refine g_iload_n dX4_fit_46 rfl 0 rfl ?_
    refine g_callS (As := [.int (nI 0), .int (zI (((cntN (cbX X (x_sv X k)) 6 : Nat) : Int) - ((cntN (lkX X k) k : Nat) : Int)))]) km_X4_76 ky_J9_max_7cf53 ks_J9_max_7cf53 (by decide) rfl (Nat.le_of_ble_eq_true rfl) dX4_fit_47 rfl (c_max0 (by omega) ?_)
    refine g_imul dX4_fit_50 ?_
    refine g_tope (z := nI (fpN X (k + 1))) ((pk_mul _ _).trans (by show nI (fpN X k * _) = nI (fpN X k * (cntN (cbX X (x_sv X k)) 6 - cntN (lkX X k) k)); rw [show (((cntN (cbX X (x_sv X k)) 6 : Nat) : Int) - ((cntN (lkX X k) k : Nat) : Int)).toNat = cntN (cbX X (x_sv X k)) 6 - cntN (lkX X k) k by omega])) ?_
    refine g_istore_n (lv' := [(1, .int (nI (fpN X (k + 1)))), (3, .int (zI (((cntN (cbX X (x_sv X k)) 6 : Nat) : Int) - ((cntN (lkX X k) k : Nat) : Int)))), (2, .int (nI k)), (0, .ref (L 24))]) dX4_fit_51 rfl (by decide) rfl ?_
    refine g_iinc (v := nI (k + 1)) (lv' := [(2, .int (nI (k + 1))), (1, .int (nI (fpN X (k + 1)))), (3, .int (zI (((cntN (cbX X (x_sv X k)) 6 : Nat) : Int) - ((cntN (lkX X k) k : Nat) : Int)))), (0, .ref (L 24))]) dX4_fit_52 2 rfl (inc_n _) (by decide) rfl ?_
    refine g_goto 4 dX4_fit_55 (by decide) ?_
    refine g_pick [0, 1, 3] (lv' := [(2, .int (nI (k + 1))), (1, .int (nI (fpN X (k + 1)))), (0, .ref (L 24))]) rfl ?_
    exact ih (k + 1) (by omega)
set_option maxHeartbeats 4000000 in
set_option maxRecDepth 20000 in
theorem c_X4_fit {l : Launch} {D : gE} {L : Nat → Nat} {σ : St} {Q : Option Value → va_W → Prop} {d : Nat} {X : XT} (hX : rzT σ 0 X) (ho : okX X) (h : ∀ σ', fc σ σ' → rzT σ' 0 X → Q (some (.int (fitR X))) (wsOf D L σ')) : Ctr l D yX4_fit cX4_fit 4 (some .int) (rr (d + 4)) [.ref (L 24)] (wsOf D L σ) Q := by
  refine g_start ky_X4_fit (Nat.le_of_ble_eq_true rfl) ?_
  refine g_pick [0] (lv' := [(0, .ref (L 24))]) rfl ?_
  refine g_iconst dX4_fit_0 ci_1 ?_
  refine g_istore_n (lv' := [(1, .int (nI 1)), (0, .ref (L 24))]) dX4_fit_1 rfl (by decide) rfl ?_
  refine g_iconst dX4_fit_2 ci_0 ?_
  refine g_istore_n (lv' := [(2, .int (nI 0)), (1, .int (nI 1)), (0, .ref (L 24))]) dX4_fit_3 rfl (by decide) rfl ?_
  refine g_pick [0, 1, 2] (lv' := [(2, .int (nI 0)), (1, .int (nI 1)), (0, .ref (L 24))]) rfl ?_
  exact lp_X4_fit hX ho (h _ fc_rfl hX) (x_sg X) 0 (by omega)
set_option maxHeartbeats 4000000 in
set_option maxRecDepth 20000 in
theorem lp_X4_power {l : Launch} {D : gE} {L : Nat → Nat} {σ : St} {Q : Option Value → va_W → Prop} {d : Nat} {a e : Nat} (ha : a < 2 ^ 31) (he : e < 2 ^ 31) (h : Q (some (.long (lN (a ^ e)))) (wsOf D L σ)) : ∀ n_ k, k + n_ = e → G l D yX4_power cX4_power 5 (some .long) (rr d) Q 0 0 5 [(4, .int (nI k)), (2, .long (lN (a ^ k))), (0, .int (nI a)), (1, .int (nI e))] [] (wsOf D L σ) := by
  intro n_
  induction n_ with
  | zero =>
    intro k hct
    obtain rfl : k = e := by omega
    refine g_iload dX4_power_5 0 rfl ?_
    refine g_iload_n dX4_power_7 rfl 3 rfl ?_
    refine n_icmpge 22 dX4_power_8 (by decide) (by omega) (by omega) (fun h8 => ?_) (fun h8 => absurd h8 (by omega))
    refine g_lload_n dX4_power_22 rfl 1 rfl ?_
    exact g_lreturn dX4_power_23 (Nat.le_refl _) (Nat.le_refl _) (h)
  | succ n_ ih =>
    intro k hct
    refine g_iload dX4_power_5 0 rfl ?_
    refine g_iload_n dX4_power_7 rfl 3 rfl ?_
    refine n_icmpge 22 dX4_power_8 (by decide) (by omega) (by omega) (fun h8 => absurd h8 (by omega)) (fun h8 => ?_)
    refine g_lload_n dX4_power_11 rfl 1 rfl ?_
    refine g_iload_n dX4_power_12 rfl 2 rfl ?_
    refine g_i2l dX4_power_13 ?_
    refine g_lmul dX4_power_14 ?_
    refine g_tople (z := lN (a ^ (k + 1))) (by rw [nI_l ha, Nat.pow_succ]; exact lN_mul _ _) ?_
    refine g_lstore_n (lv' := [(2, .long (lN (a ^ (k + 1)))), (4, .int (nI k)), (0, .int (nI a)), (1, .int (nI e))]) dX4_power_15 rfl (by decide) rfl ?_
    refine g_iinc (v := nI (k + 1)) (lv' := [(4, .int (nI (k + 1))), (2, .long (lN (a ^ (k + 1)))), (0, .int (nI a)), (1, .int (nI e))]) dX4_power_16 1 rfl (inc_n _) (by decide) rfl ?_
    refine g_goto 5 dX4_power_19 (by decide) ?_
    refine g_pick [0, 1, 2, 3] (lv' := [(4, .int (nI (k + 1))), (2, .long (lN (a ^ (k + 1)))), (0, .int (nI a)), (1, .int (nI e))]) rfl ?_
    exact ih (k + 1) (by omega)
set_option maxHeartbeats 4000000 in
set_option maxRecDepth 20000 in
theorem c_X4_power {l : Launch} {D : gE} {L : Nat → Nat} {σ : St} {Q : Option Value → va_W → Prop} {d : Nat} {a e : Nat} (ha : a < 2 ^ 31) (he : e < 2 ^ 31) (h : Q (some (.long (lN (a ^ e)))) (wsOf D L σ)) : Ctr l D yX4_power cX4_power 5 (some .long) (rr d) [.int (nI a), .int (nI e)] (wsOf D L σ) Q := by
  refine g_start ky_X4_power (Nat.le_of_ble_eq_true rfl) ?_
  refine g_pick [0, 1] (lv' := [(0, .int (nI a)), (1, .int (nI e))]) rfl ?_
  refine g_lconst dX4_power_0 lc_1 ?_
  refine g_tople (z := lN (a ^ 0)) (rfl) ?_
  refine g_lstore_n (lv' := [(2, .long (lN (a ^ 0))), (0, .int (nI a)), (1, .int (nI e))]) dX4_power_1 rfl (by decide) rfl ?_
  refine g_iconst dX4_power_2 ci_0 ?_
  refine g_istore (lv' := [(4, .int (nI 0)), (2, .long (lN (a ^ 0))), (0, .int (nI a)), (1, .int (nI e))]) dX4_power_3 (by decide) rfl ?_
  refine g_pick [0, 1, 2, 3] (lv' := [(4, .int (nI 0)), (2, .long (lN (a ^ 0))), (0, .int (nI a)), (1, .int (nI e))]) rfl ?_
  exact lp_X4_power ha he h e 0 (by omega)
theorem gcd_step {a b : Nat} (hb : 0 < b) (h : b ≤ a) : 2 * (b * (a % b)) < a * b := by
  have h1 := Nat.mod_lt a hb
  have h2 : a % b + b ≤ a := by
    have := Nat.div_add_mod a b
    have h3 : 1 ≤ a / b := (Nat.one_le_div_iff hb).mpr h
    have h4 : b * 1 ≤ b * (a / b) := Nat.mul_le_mul_left b h3
    omega
  have h5 : 2 * (a % b) < a := by omega
  have h6 : 2 * (a % b) * b < a * b := Nat.mul_lt_mul_of_pos_right h5 hb
  have h7 : 2 * (b * (a % b)) = 2 * (a % b) * b := by rw [Nat.mul_comm b, Nat.mul_assoc]
  omega
set_option maxHeartbeats 4000000 in
set_option maxRecDepth 20000 in
theorem lp_X4_commonDivisor {l : Launch} {D : gE} {L : Nat → Nat} {σ : St} {Q : Option Value → va_W → Prop} {d : Nat} {u lw g : Nat} (h : Q (some (.long (lN g))) (wsOf D L σ)) : ∀ n j, j + n = 200 → ∀ a b, a < 2 ^ 31 → b ≤ a → a * b < 2 ^ n → Nat.gcd a b = g → G l D yX4_commonDivisor cX4_commonDivisor 11 (some .long) (rr d) Q 0 0 9 [(8, .int (nI j)), (4, .long (lN a)), (6, .long (lN b)), (0, .long (lN u)), (2, .long (lN lw))] [] (wsOf D L σ) := by
  intro n
  induction n with
  | zero =>
    intro j hct a b ha hba hab hg
    obtain rfl : j = 200 := by omega
    have hb0 : b = 0 := by
      rcases Nat.eq_zero_or_pos b with c | c
      · exact c
      · have := Nat.mul_pos (show 0 < a by omega) c
        omega
    subst hb0
    obtain rfl : a = g := by rw [Nat.gcd_zero_right] at hg; exact hg
    refine g_iload dX4_commonDivisor_9 0 rfl ?_
    refine g_sipush dX4_commonDivisor_11 sp_200 ?_
    refine n_icmpge 45 dX4_commonDivisor_14 (by decide) (by omega) (by omega) (fun h14 => ?_) (fun h14 => absurd h14 (by omega))
    refine g_lload dX4_commonDivisor_45 1 rfl ?_
    exact g_lreturn dX4_commonDivisor_47 (Nat.le_refl _) (Nat.le_refl _) (h)
  | succ n ih =>
    intro j hct a b ha hba hab hg
    by_cases hb0 : b = 0
    · subst hb0
      obtain rfl : a = g := by rw [Nat.gcd_zero_right] at hg; exact hg
      refine g_iload dX4_commonDivisor_9 0 rfl ?_
      refine g_sipush dX4_commonDivisor_11 sp_200 ?_
      refine n_icmpge 45 dX4_commonDivisor_14 (by decide) (by omega) (by omega) (fun h14 => absurd h14 (by omega)) (fun h14 => ?_)
      refine g_lload dX4_commonDivisor_17 2 rfl ?_
      refine g_lconst dX4_commonDivisor_19 lc_0 ?_
      refine g_lcmp dX4_commonDivisor_20 ?_
      refine g_ifeq 45 dX4_commonDivisor_21 (by decide) (fun h21 => ?_) (fun h21 => absurd h21 (fun q => q ((lcmp_eq _ _).mpr rfl)))
      refine g_lload dX4_commonDivisor_45 1 rfl ?_
      exact g_lreturn dX4_commonDivisor_47 (Nat.le_refl _) (Nat.le_refl _) (h)
    · have hml := Nat.mod_lt a (show b > 0 by omega)
      refine g_iload dX4_commonDivisor_9 0 rfl ?_
      refine g_sipush dX4_commonDivisor_11 sp_200 ?_
      refine n_icmpge 45 dX4_commonDivisor_14 (by decide) (by omega) (by omega) (fun h14 => absurd h14 (by omega)) (fun h14 => ?_)
      refine g_lload dX4_commonDivisor_17 2 rfl ?_
      refine g_lconst dX4_commonDivisor_19 lc_0 ?_
      refine g_lcmp dX4_commonDivisor_20 ?_
      refine g_ifeq 45 dX4_commonDivisor_21 (by decide) (fun h21 => absurd h21 (fun q => hb0 ((lN_eq (by omega) (by decide)).mp ((lcmp_eq _ _).mp q)))) (fun h21 => ?_)
      refine g_lload dX4_commonDivisor_24 1 rfl ?_
      refine g_lload dX4_commonDivisor_26 2 rfl ?_
      refine g_lrem dX4_commonDivisor_28 (lN_ne0 (by omega) (by omega)) ?_
      refine g_tople (z := lN (a % b)) (pk_lRem (by omega) (by omega) (by omega)) ?_
      refine g_lstore (lv' := [(9, .long (lN (a % b))), (8, .int (nI j)), (4, .long (lN a)), (6, .long (lN b)), (0, .long (lN u)), (2, .long (lN lw))]) dX4_commonDivisor_29 (by decide) rfl ?_
      refine g_lload dX4_commonDivisor_31 3 rfl ?_
      refine g_lstore (lv' := [(4, .long (lN b)), (9, .long (lN (a % b))), (8, .int (nI j)), (6, .long (lN b)), (0, .long (lN u)), (2, .long (lN lw))]) dX4_commonDivisor_33 (by decide) rfl ?_
      refine g_lload dX4_commonDivisor_35 1 rfl ?_
      refine g_lstore (lv' := [(6, .long (lN (a % b))), (4, .long (lN b)), (9, .long (lN (a % b))), (8, .int (nI j)), (0, .long (lN u)), (2, .long (lN lw))]) dX4_commonDivisor_37 (by decide) rfl ?_
      refine g_iinc (v := nI (j + 1)) (lv' := [(8, .int (nI (j + 1))), (6, .long (lN (a % b))), (4, .long (lN b)), (9, .long (lN (a % b))), (0, .long (lN u)), (2, .long (lN lw))]) dX4_commonDivisor_39 3 rfl (inc_n _) (by decide) rfl ?_
      refine g_goto 9 dX4_commonDivisor_42 (by decide) ?_
      refine g_pick [0, 2, 1, 4, 5] (lv' := [(8, .int (nI (j + 1))), (4, .long (lN b)), (6, .long (lN (a % b))), (0, .long (lN u)), (2, .long (lN lw))]) rfl ?_
      exact ih (j + 1) (by omega) b (a % b) (by omega) (Nat.le_of_lt hml) (by have := gcd_step (by omega) hba; rw [Nat.pow_succ] at hab; omega) (by rw [Nat.gcd_comm b, ← Nat.gcd_rec, Nat.gcd_comm]; exact hg)
set_option maxHeartbeats 4000000 in
set_option maxRecDepth 20000 in
theorem c_X4_commonDivisor {l : Launch} {D : gE} {L : Nat → Nat} {σ : St} {Q : Option Value → va_W → Prop} {d : Nat} {u lw : Nat} (hu : u < 2 ^ 31) (hl : lw < 2 ^ 31) (hl0 : 0 < lw) (h : Q (some (.long (lN (Nat.gcd lw u)))) (wsOf D L σ)) : Ctr l D yX4_commonDivisor cX4_commonDivisor 11 (some .long) (rr d) [.long (lN u), .long (lN lw)] (wsOf D L σ) Q := by
  refine g_start ky_X4_commonDivisor (Nat.le_of_ble_eq_true rfl) ?_
  refine g_pick [0, 1] (lv' := [(0, .long (lN u)), (2, .long (lN lw))]) rfl ?_
  have hml := Nat.mod_lt u (show lw > 0 by omega)
  have hpr : lw * (u % lw) < 2 ^ 199 := by
    have h1 : lw * (u % lw) ≤ 2 ^ 31 * 2 ^ 31 := Nat.mul_le_mul (by omega) (by omega)
    have h2 : (2 : Nat) ^ 31 * 2 ^ 31 < 2 ^ 199 := by decide +kernel
    exact Nat.lt_of_le_of_lt h1 h2
  refine g_lload_n dX4_commonDivisor_0 rfl 0 rfl ?_
  refine g_lstore (lv' := [(4, .long (lN u)), (0, .long (lN u)), (2, .long (lN lw))]) dX4_commonDivisor_1 (by decide) rfl ?_
  refine g_lload_n dX4_commonDivisor_3 rfl 2 rfl ?_
  refine g_lstore (lv' := [(6, .long (lN lw)), (4, .long (lN u)), (0, .long (lN u)), (2, .long (lN lw))]) dX4_commonDivisor_4 (by decide) rfl ?_
  refine g_iconst dX4_commonDivisor_6 ci_0 ?_
  refine g_istore (lv' := [(8, .int (nI 0)), (6, .long (lN lw)), (4, .long (lN u)), (0, .long (lN u)), (2, .long (lN lw))]) dX4_commonDivisor_7 (by decide) rfl ?_
  refine g_iload dX4_commonDivisor_9 0 rfl ?_
  refine g_sipush dX4_commonDivisor_11 sp_200 ?_
  refine n_icmpge 45 dX4_commonDivisor_14 (by decide) (by omega) (by omega) (fun h14 => absurd h14 (by omega)) (fun h14 => ?_)
  refine g_lload dX4_commonDivisor_17 1 rfl ?_
  refine g_lconst dX4_commonDivisor_19 lc_0 ?_
  refine g_lcmp dX4_commonDivisor_20 ?_
  refine g_ifeq 45 dX4_commonDivisor_21 (by decide) (fun h21 => absurd h21 (fun q => absurd ((lN_eq (a := lw) (b := 0) (by omega) (by decide)).mp ((lcmp_eq _ _).mp q)) (by omega))) (fun h21 => ?_)
  refine g_lload dX4_commonDivisor_24 2 rfl ?_
  refine g_lload dX4_commonDivisor_26 1 rfl ?_
  refine g_lrem dX4_commonDivisor_28 (lN_ne0 (by omega) (by omega)) ?_
  refine g_tople (z := lN (u % lw)) (pk_lRem (by omega) (by omega) (by omega)) ?_
  refine g_lstore (lv' := [(9, .long (lN (u % lw))), (8, .int (nI 0)), (6, .long (lN lw)), (4, .long (lN u)), (0, .long (lN u)), (2, .long (lN lw))]) dX4_commonDivisor_29 (by decide) rfl ?_
  refine g_lload dX4_commonDivisor_31 2 rfl ?_
  refine g_lstore (lv' := [(4, .long (lN lw)), (9, .long (lN (u % lw))), (8, .int (nI 0)), (6, .long (lN lw)), (0, .long (lN u)), (2, .long (lN lw))]) dX4_commonDivisor_33 (by decide) rfl ?_
  refine g_lload dX4_commonDivisor_35 1 rfl ?_
  refine g_lstore (lv' := [(6, .long (lN (u % lw))), (4, .long (lN lw)), (9, .long (lN (u % lw))), (8, .int (nI 0)), (0, .long (lN u)), (2, .long (lN lw))]) dX4_commonDivisor_37 (by decide) rfl ?_
  refine g_iinc (v := nI (0 + 1)) (lv' := [(8, .int (nI (0 + 1))), (6, .long (lN (u % lw))), (4, .long (lN lw)), (9, .long (lN (u % lw))), (0, .long (lN u)), (2, .long (lN lw))]) dX4_commonDivisor_39 3 rfl (inc_n _) (by decide) rfl ?_
  refine g_goto 9 dX4_commonDivisor_42 (by decide) ?_
  refine g_pick [0, 2, 1, 4, 5] (lv' := [(8, .int (nI (0 + 1))), (4, .long (lN lw)), (6, .long (lN (u % lw))), (0, .long (lN u)), (2, .long (lN lw))]) rfl ?_
  exact lp_X4_commonDivisor h 199 1 (by omega) lw (u % lw) (by omega) (Nat.le_of_lt hml) hpr (by rw [Nat.gcd_comm lw, ← Nat.gcd_rec])
theorem chR_1 {X : XT} {p g a : Nat} (h : dN X a.testBit (x_pl X p) g < 6) : chR X p g a = 1 := by unfold chR; rw [dN_sym, decide_eq_true h]; rfl
theorem chR_0 {X : XT} {p g a : Nat} (h : ¬ dN X a.testBit (x_pl X p) g < 6) : chR X p g a = 0 := by unfold chR; rw [dN_sym, decide_eq_false h]; rfl
theorem chR_le (X : XT) (p g a : Nat) : chR X p g a ≤ 1 := by unfold chR; have := b2n_lt (decide (dN X a.testBit g (x_pl X p) < 6)); omega
theorem chL_bd (X : XT) (p : Nat) : 0 < chL X p ∧ chL X p ≤ 100000000 := ⟨Nat.pow_pos (by decide), Nat.le_trans (Nat.pow_le_pow_right (by decide) (cntN_le _ 8)) (by decide)⟩
theorem chE_1 {X : XT} {p g t a : Nat} (hs : subB (beX X (buX X p)) a = true) (h : dN X a.testBit (x_pl X p) g < 6) : chE t (beX X (buX X p)) (chR X p g) 8 a = t ^ pop a * (10 - t) ^ (cntN (beX X (buX X p)) 8 - pop a) := by
  rw [chE_t hs, chR_1 h, Nat.one_mul]
  exact (chW_pow 8 hs).2
theorem chE_0 {X : XT} {p g t a : Nat} (h : ¬ dN X a.testBit (x_pl X p) g < 6) : chE t (beX X (buX X p)) (chR X p g) 8 a = 0 := by
  unfold chE
  rw [chR_0 h, Nat.zero_mul]
  split <;> rfl
set_option maxHeartbeats 4000000 in
set_option maxRecDepth 20000 in
theorem lp_X4_chance {l : Launch} {D : gE} {L : Nat → Nat} {σ : St} {Q : Option Value → va_W → Prop} {d : Nat} {X : XT} (hX : rzT σ 0 X) (ho : okX X) {p g t w : Nat} (hp : p < 6) (hg : g < 6) (ht : t ≤ 10) (hw : w ≤ 1) (h : Q (some (.long (lowR (chU X p g t) (chL X p) w))) (wsOf D L σ)) : ∀ n_ a, a + n_ = 256 → G l D yX4_chance cX4_chance 12 (some .long) (rr (d + 3)) Q 0 0 73 [(8, .int (nI a)), (6, .long (lN (sumNN (chE t (beX X (buX X p)) (chR X p g) 8) a))), (0, .ref (L 24)), (1, .int (nI p)), (2, .int (nI g)), (3, .int (nI t)), (4, .int (nI w)), (5, .int (nI (bitsN (beX X (buX X p)) 8)))] [] (wsOf D L σ) := by
  intro n_
  induction n_ with
  | zero =>
    intro a hct
    obtain rfl : a = 256 := by omega
    have hu1 : chU X p g t ≤ 100000000 := chS_le ht _ (chR_le X p g) (Nat.le_refl 256)
    have hl1 := chL_bd X p
    have hg0 : 0 < Nat.gcd (chL X p) (chU X p g t) := Nat.gcd_pos_of_pos_left _ hl1.1
    have hgl : Nat.gcd (chL X p) (chU X p g t) ≤ chL X p := Nat.gcd_le_left _ hl1.1
    have hmx : (if 1 < Nat.gcd (chL X p) (chU X p g t) then Nat.gcd (chL X p) (chU X p g t) else 1) = Nat.gcd (chL X p) (chU X p g t) := by split <;> omega
    have hcn := cntN_le (beX X (buX X p)) 8
    refine g_iload dX4_chance_73 0 rfl ?_
    refine g_sipush dX4_chance_75 sp_256 ?_
    refine n_icmpge 155 dX4_chance_78 (by decide) (by omega) (by omega) (fun h78 => ?_) (fun h78 => absurd h78 (by omega))
    refine g_bipush dX4_chance_155 bp_10 ?_
    refine g_iload dX4_chance_157 7 rfl ?_
    refine g_callS (As := [.int (nI (bitsN (beX X (buX X p)) 8))]) km_X4_85 ky_J6_bitCount_0f7a4 ks_J6_bitCount_0f7a4 (by decide) rfl (Nat.le_of_ble_eq_true rfl) dX4_chance_159 rfl (c_bitCount (a := bitsN (beX X (buX X p)) 8) (Nat.lt_of_lt_of_le (bitsN_lt _ _) (by decide)) ?_)
    refine g_tope (z := nI (cntN (beX X (buX X p)) 8)) (by rw [pop_bits (by decide)]) ?_
    refine g_callS (As := [.int (nI 10), .int (nI (cntN (beX X (buX X p)) 8))]) km_X4_244 ky_X4_power ks_X4_power (by decide) rfl (Nat.le_of_ble_eq_true rfl) dX4_chance_162 rfl (c_X4_power (by omega) (by omega) ?_)
    refine g_tople (z := lN (chL X p)) (rfl) ?_
    refine g_lstore (lv' := [(8, .long (lN (chL X p))), (6, .long (lN (chU X p g t))), (0, .ref (L 24)), (1, .int (nI p)), (2, .int (nI g)), (3, .int (nI t)), (4, .int (nI w)), (5, .int (nI (bitsN (beX X (buX X p)) 8)))]) dX4_chance_165 (by decide) rfl ?_
    refine g_lload dX4_chance_167 1 rfl ?_
    refine g_lload dX4_chance_169 0 rfl ?_
    refine g_callS (As := [.long (lN (chU X p g t)), .long (lN (chL X p))]) km_X4_248 ky_X4_commonDivisor ks_X4_commonDivisor (by decide) rfl (Nat.le_of_ble_eq_true rfl) dX4_chance_171 rfl (c_X4_commonDivisor (u := chU X p g t) (lw := chL X p) (by omega) (by omega) (by omega) ?_)
    refine g_lstore (lv' := [(10, .long (lN (Nat.gcd (chL X p) (chU X p g t)))), (8, .long (lN (chL X p))), (6, .long (lN (chU X p g t))), (0, .ref (L 24)), (1, .int (nI p)), (2, .int (nI g)), (3, .int (nI t)), (4, .int (nI w)), (5, .int (nI (bitsN (beX X (buX X p)) 8)))]) dX4_chance_174 (by decide) rfl ?_
    refine g_iload dX4_chance_176 7 rfl ?_
    refine n_ifne 186 dX4_chance_178 (by decide) (by omega) (fun h178 => ?_) (fun h178 => ?_)
    · refine g_lload dX4_chance_186 1 rfl ?_
      refine g_lconst dX4_chance_188 lc_1 ?_
      refine g_lload dX4_chance_189 0 rfl ?_
      refine g_callS (As := [.long ((nI 1).toInt64), .long (lN (Nat.gcd (chL X p) (chU X p g t)))]) km_X4_252 ky_J9_max_f86c9 ks_J9_max_f86c9 (by decide) rfl (Nat.le_of_ble_eq_true rfl) dX4_chance_191 rfl (c_maxL (a := 1) (by omega) (by omega) ?_)
      refine g_ldiv dX4_chance_194 (by rw [hmx]; exact lN_ne0 (by omega) hg0) ?_
      refine g_tople (z := lN ((chL X p) / Nat.gcd (chL X p) (chU X p g t))) (by rw [hmx]; exact pk_lDiv (by omega) (by omega) (by omega)) ?_
      exact g_lreturn dX4_chance_195 (Nat.le_refl _) (Nat.le_refl _) (qlg (by unfold lowR; rw [if_neg h178]) h)
    · refine g_lload dX4_chance_181 2 rfl ?_
      refine g_goto 188 dX4_chance_183 (by decide) ?_
      refine g_lconst dX4_chance_188 lc_1 ?_
      refine g_lload dX4_chance_189 0 rfl ?_
      refine g_callS (As := [.long ((nI 1).toInt64), .long (lN (Nat.gcd (chL X p) (chU X p g t)))]) km_X4_252 ky_J9_max_f86c9 ks_J9_max_f86c9 (by decide) rfl (Nat.le_of_ble_eq_true rfl) dX4_chance_191 rfl (c_maxL (a := 1) (by omega) (by omega) ?_)
      refine g_ldiv dX4_chance_194 (by rw [hmx]; exact lN_ne0 (by omega) hg0) ?_
      refine g_tople (z := lN ((chU X p g t) / Nat.gcd (chL X p) (chU X p g t))) (by rw [hmx]; exact pk_lDiv (by omega) (by omega) (by omega)) ?_
      exact g_lreturn dX4_chance_195 (Nat.le_refl _) (Nat.le_refl _) (qlg (by unfold lowR; rw [if_pos h178]) h)
  | succ n_ ih =>
    intro a hct
    have hpp := ok_p ho hp
    have hdl := @dN_le X a.testBit (x_pl X p) g
    have hpa2 : pop a ≤ 8 := cntN_le a.testBit 8
    refine g_iload dX4_chance_73 0 rfl ?_
    refine g_sipush dX4_chance_75 sp_256 ?_
    refine n_icmpge 155 dX4_chance_78 (by decide) (by omega) (by omega) (fun h78 => absurd h78 (by omega)) (fun h78 => ?_)
    refine g_iload dX4_chance_81 0 rfl ?_
    refine g_iload dX4_chance_83 7 rfl ?_
    refine g_iconst dX4_chance_85 ci_m1 ?_
    refine g_ixor dX4_chance_86 ?_
    refine g_iand dX4_chance_87 ?_
    refine sb_ifne 149 dX4_chance_88 (by decide) (by omega) (fun h88 => ?_) (fun h88 => ?_)
    · refine g_iinc (v := nI (a + 1)) (lv' := [(8, .int (nI (a + 1))), (6, .long (lN (sumNN (chE t (beX X (buX X p)) (chR X p g) 8) a))), (0, .ref (L 24)), (1, .int (nI p)), (2, .int (nI g)), (3, .int (nI t)), (4, .int (nI w)), (5, .int (nI (bitsN (beX X (buX X p)) 8)))]) dX4_chance_149 0 rfl (inc_n _) (by decide) rfl ?_
      refine g_goto 73 dX4_chance_152 (by decide) ?_
      refine g_pick [0, 1, 2, 3, 4, 5, 6, 7] (lv' := [(8, .int (nI (a + 1))), (6, .long (lN (sumNN (chE t (beX X (buX X p)) (chR X p g) 8) a))), (0, .ref (L 24)), (1, .int (nI p)), (2, .int (nI g)), (3, .int (nI t)), (4, .int (nI w)), (5, .int (nI (bitsN (beX X (buX X p)) 8)))]) rfl ?_
      have ih2 := ih (a + 1) (by omega)
      rw [show sumNN (chE t (beX X (buX X p)) (chR X p g) 8) (a + 1) = sumNN (chE t (beX X (buX X p)) (chR X p g) 8) a by rw [sumNN_s, chE_f h88, Nat.add_zero]] at ih2
      exact ih2
    · refine g_aload_n dX4_chance_91 rfl 2 rfl ?_
      refine g_get kf_X4_10 kC_X4 (by decide) 24 at_24 rfl dX4_chance_92 ?_
      refine g_aload_n dX4_chance_95 rfl 2 rfl ?_
      refine g_get kf_X4_10 kC_X4 (by decide) 24 at_24 rfl dX4_chance_96 ?_
      refine s_getT (b := 0) (Or.inl rfl) kf_X4_97 (by decide) rfl dX4_chance_99 ?_
      refine g_iload_n dX4_chance_102 rfl 3 rfl ?_
      refine s_ald (q := 5) (n := 6) (at_ia (q := 5) rfl) (by omega) (by decide) dX4_chance_103 ?_
      refine g_tope (z := nI (x_pl X p)) (rpT_pl hX.1 (by omega)) ?_
      refine g_iload_n dX4_chance_104 rfl 4 rfl ?_
      refine g_iload dX4_chance_105 0 rfl ?_
      refine g_callV (As := [.int (nI (x_pl X p)), .int (nI g), .int (nI a)]) km_X4_173 ky_X3_distance ki_X3_distance (by decide) 0 (at_tn (Or.inl rfl)) rfl rfl (Nat.le_of_ble_eq_true rfl) dX4_chance_107 rfl (c_X3_distanceN (Or.inl rfl) hX ho (by omega) (by omega) (by omega) (fun h107 => ?_) (fun h107 => ?_))
      · refine g_bipush dX4_chance_110 bp_m6 ?_
        refine g_icmpeq 149 dX4_chance_112 (by decide) (fun h112 => absurd h112 (nI_n6 (by omega))) (fun h112 => ?_)
        have hle : pop a ≤ cntN (beX X (buX X p)) 8 := (chW_pow (t := t) 8 h88).1
        have hcn := cntN_le (beX X (buX X p)) 8
        refine g_iload dX4_chance_115 0 rfl ?_
        refine g_callS (As := [.int (nI a)]) km_X4_85 ky_J6_bitCount_0f7a4 ks_J6_bitCount_0f7a4 (by decide) rfl (Nat.le_of_ble_eq_true rfl) dX4_chance_117 rfl (c_bitCount (by omega) ?_)
        refine g_istore (lv' := [(9, .int (nI (pop a))), (8, .int (nI a)), (6, .long (lN (sumNN (chE t (beX X (buX X p)) (chR X p g) 8) a))), (0, .ref (L 24)), (1, .int (nI p)), (2, .int (nI g)), (3, .int (nI t)), (4, .int (nI w)), (5, .int (nI (bitsN (beX X (buX X p)) 8)))]) dX4_chance_120 (by decide) rfl ?_
        refine g_lload dX4_chance_122 2 rfl ?_
        refine g_iload_n dX4_chance_124 rfl 6 rfl ?_
        refine g_iload dX4_chance_125 0 rfl ?_
        refine g_callS (As := [.int (nI t), .int (nI (pop a))]) km_X4_244 ky_X4_power ks_X4_power (by decide) rfl (Nat.le_of_ble_eq_true rfl) dX4_chance_127 rfl (c_X4_power (by omega) (by omega) ?_)
        refine g_bipush dX4_chance_130 bp_10 ?_
        refine g_iload_n dX4_chance_132 rfl 6 rfl ?_
        refine g_isub dX4_chance_133 ?_
        refine g_tope (z := nI (10 - t)) (pk_sub (by omega)) ?_
        refine g_iload dX4_chance_134 8 rfl ?_
        refine g_callS (As := [.int (nI (bitsN (beX X (buX X p)) 8))]) km_X4_85 ky_J6_bitCount_0f7a4 ks_J6_bitCount_0f7a4 (by decide) rfl (Nat.le_of_ble_eq_true rfl) dX4_chance_136 rfl (c_bitCount (a := bitsN (beX X (buX X p)) 8) (Nat.lt_of_lt_of_le (bitsN_lt _ _) (by decide)) ?_)
        refine g_tope (z := nI (cntN (beX X (buX X p)) 8)) (by rw [pop_bits (by decide)]) ?_
        refine g_iload dX4_chance_139 0 rfl ?_
        refine g_isub dX4_chance_141 ?_
        refine g_tope (z := nI ((cntN (beX X (buX X p)) 8) - (pop a))) (pk_sub (by omega)) ?_
        refine g_callS (As := [.int (nI (10 - t)), .int (nI ((cntN (beX X (buX X p)) 8) - (pop a)))]) km_X4_244 ky_X4_power ks_X4_power (by decide) rfl (Nat.le_of_ble_eq_true rfl) dX4_chance_142 rfl (c_X4_power (by omega) (by omega) ?_)
        refine g_lmul dX4_chance_145 ?_
        refine g_tople (z := lN (t ^ pop a * (10 - t) ^ (cntN (beX X (buX X p)) 8 - pop a))) (lN_mul _ _) ?_
        refine g_ladd dX4_chance_146 ?_
        refine g_tople (z := lN (sumNN (chE t (beX X (buX X p)) (chR X p g) 8) (a + 1))) ((lN_add _ _).trans (by rw [sumNN_s, chE_1 h88 h107])) ?_
        refine g_lstore (lv' := [(6, .long (lN (sumNN (chE t (beX X (buX X p)) (chR X p g) 8) (a + 1)))), (9, .int (nI (pop a))), (8, .int (nI a)), (0, .ref (L 24)), (1, .int (nI p)), (2, .int (nI g)), (3, .int (nI t)), (4, .int (nI w)), (5, .int (nI (bitsN (beX X (buX X p)) 8)))]) dX4_chance_147 (by decide) rfl ?_
        refine g_iinc (v := nI (a + 1)) (lv' := [(8, .int (nI (a + 1))), (6, .long (lN (sumNN (chE t (beX X (buX X p)) (chR X p g) 8) (a + 1)))), (9, .int (nI (pop a))), (0, .ref (L 24)), (1, .int (nI p)), (2, .int (nI g)), (3, .int (nI t)), (4, .int (nI w)), (5, .int (nI (bitsN (beX X (buX X p)) 8)))]) dX4_chance_149 2 rfl (inc_n _) (by decide) rfl ?_
        refine g_goto 73 dX4_chance_152 (by decide) ?_
        refine g_pick [0, 1, 3, 4, 5, 6, 7, 8] (lv' := [(8, .int (nI (a + 1))), (6, .long (lN (sumNN (chE t (beX X (buX X p)) (chR X p g) 8) (a + 1)))), (0, .ref (L 24)), (1, .int (nI p)), (2, .int (nI g)), (3, .int (nI t)), (4, .int (nI w)), (5, .int (nI (bitsN (beX X (buX X p)) 8)))]) rfl ?_
        exact ih (a + 1) (by omega)
      · refine g_bipush dX4_chance_110 bp_m6 ?_
        refine g_icmpeq 149 dX4_chance_112 (by decide) (fun h112 => ?_) (fun h112 => absurd h112 (by decide +kernel))
        refine g_iinc (v := nI (a + 1)) (lv' := [(8, .int (nI (a + 1))), (6, .long (lN (sumNN (chE t (beX X (buX X p)) (chR X p g) 8) a))), (0, .ref (L 24)), (1, .int (nI p)), (2, .int (nI g)), (3, .int (nI t)), (4, .int (nI w)), (5, .int (nI (bitsN (beX X (buX X p)) 8)))]) dX4_chance_149 0 rfl (inc_n _) (by decide) rfl ?_
        refine g_goto 73 dX4_chance_152 (by decide) ?_
        refine g_pick [0, 1, 2, 3, 4, 5, 6, 7] (lv' := [(8, .int (nI (a + 1))), (6, .long (lN (sumNN (chE t (beX X (buX X p)) (chR X p g) 8) a))), (0, .ref (L 24)), (1, .int (nI p)), (2, .int (nI g)), (3, .int (nI t)), (4, .int (nI w)), (5, .int (nI (bitsN (beX X (buX X p)) 8)))]) rfl ?_
        have ih2 := ih (a + 1) (by omega)
        rw [show sumNN (chE t (beX X (buX X p)) (chR X p g) 8) (a + 1) = sumNN (chE t (beX X (buX X p)) (chR X p g) 8) a by rw [sumNN_s, chE_0 h107, Nat.add_zero]] at ih2
        exact ih2
set_option maxHeartbeats 4000000 in
set_option maxRecDepth 20000 in
theorem c_X4_chance {l : Launch} {D : gE} {L : Nat → Nat} {σ : St} {Q : Option Value → va_W → Prop} {d : Nat} {X : XT} (hX : rzT σ 0 X) (ho : okX X) {x y t w : Int32} (h : ∀ σ', fc σ σ' → rzT σ' 0 X → Q (some (.long (chanceR X x y t w))) (wsOf D L σ')) : Ctr l D yX4_chance cX4_chance 12 (some .long) (rr (d + 3)) [.ref (L 24), .int x, .int y, .int t, .int w] (wsOf D L σ) Q := by
  refine g_start ky_X4_chance (Nat.le_of_ble_eq_true rfl) ?_
  refine g_pick [0, 1, 2, 3, 4] (lv' := [(0, .ref (L 24)), (1, .int x), (2, .int y), (3, .int t), (4, .int w)]) rfl ?_
  have hsz := ok_sz ho
  refine g_aload_n dX4_chance_0 rfl 0 rfl ?_
  refine g_get kf_X4_10 kC_X4 (by decide) 24 at_24 rfl dX4_chance_1 ?_
  refine g_iload_n dX4_chance_4 rfl 1 rfl ?_
  refine g_callV (As := [.int x]) km_X4_106 ky_X3_hasPerson ki_X3_hasPerson (by decide) 0 (at_tn (Or.inl rfl)) rfl rfl (Nat.le_of_ble_eq_true rfl) dX4_chance_5 rfl (c_X3_hasPerson (Or.inl rfl) hX ho (fun p5 hp5 he5 h5 => ?_) (fun h5 => ?_))
  · subst he5
    refine t_ifeq1 (tgt := 22) dX4_chance_8 (by decide) ?_
    refine g_aload_n dX4_chance_11 rfl 0 rfl ?_
    refine g_get kf_X4_10 kC_X4 (by decide) 24 at_24 rfl dX4_chance_12 ?_
    refine g_iload_n dX4_chance_15 rfl 2 rfl ?_
    refine g_callV (As := [.int y]) km_X4_56 ky_X3_hasTerrace ki_X3_hasTerrace (by decide) 0 (at_tn (Or.inl rfl)) rfl rfl (Nat.le_of_ble_eq_true rfl) dX4_chance_16 rfl (c_X3_hasTerrace (Or.inl rfl) hX ho (fun t16 ht16 he16 => ?_) (fun h16 => ?_))
    · subst he16
      refine t_ifne1 26 dX4_chance_19 (by decide) ?_
      refine g_iload_n dX4_chance_26 rfl 3 rfl ?_
      refine g_iconst dX4_chance_27 ci_0 ?_
      refine g_bipush dX4_chance_28 bp_10 ?_
      refine g_callS (As := [.int t, .int (nI 0), .int (nI 10)]) km_X4_44 ky_X4_within ks_X4_within (by decide) rfl (Nat.le_of_ble_eq_true rfl) dX4_chance_30 rfl (c_X4_withinN (by omega) (by omega) (fun p30 ha30 hb30 he30 => ?_) (fun h30 => ?_))
      · subst he30
        refine t_ifeq1 (tgt := 46) dX4_chance_33 (by decide) ?_
        refine g_iload dX4_chance_36 4 rfl ?_
        refine g_iconst dX4_chance_38 ci_0 ?_
        refine g_iconst dX4_chance_39 ci_1 ?_
        refine g_callS (As := [.int w, .int (nI 0), .int (nI 1)]) km_X4_44 ky_X4_within ks_X4_within (by decide) rfl (Nat.le_of_ble_eq_true rfl) dX4_chance_40 rfl (c_X4_withinN (by omega) (by omega) (fun p40 ha40 hb40 he40 => ?_) (fun h40 => ?_))
        · subst he40
          refine t_ifne1 50 dX4_chance_43 (by decide) ?_
          have hbu := bu_bd ho p5
          refine g_aload_n dX4_chance_50 rfl 0 rfl ?_
          refine g_get kf_X4_10 kC_X4 (by decide) 24 at_24 rfl dX4_chance_51 ?_
          refine g_aload_n dX4_chance_54 rfl 0 rfl ?_
          refine g_get kf_X4_10 kC_X4 (by decide) 24 at_24 rfl dX4_chance_55 ?_
          refine g_iload_n dX4_chance_58 rfl 1 rfl ?_
          refine g_callV (As := [.int (nI p5)]) km_X4_156 ky_X3_burden ki_X3_burden (by decide) 0 (at_tn (Or.inl rfl)) rfl rfl (Nat.le_of_ble_eq_true rfl) dX4_chance_59 rfl (c_X3_burden (Or.inl rfl) hX ho (by omega) ?_)
          refine g_callV (As := [.int (nI (buX X p5))]) km_X4_170 ky_X3_bearing ki_X3_bearing (by decide) 0 (at_tn (Or.inl rfl)) rfl rfl (Nat.le_of_ble_eq_true rfl) dX4_chance_62 rfl (c_X3_bearing (Or.inl rfl) hX ho (by omega) ?_)
          refine g_istore (lv' := [(5, .int (nI (bitsN (beX X (buX X p5)) 8))), (0, .ref (L 24)), (1, .int (nI p5)), (2, .int (nI t16)), (3, .int (nI p30)), (4, .int (nI p40))]) dX4_chance_65 (by decide) rfl ?_
          refine g_lconst dX4_chance_67 lc_0 ?_
          refine g_tople (z := lN (sumNN (chE p30 (beX X (buX X p5)) (chR X p5 t16) 8) 0)) (rfl) ?_
          refine g_lstore (lv' := [(6, .long (lN (sumNN (chE p30 (beX X (buX X p5)) (chR X p5 t16) 8) 0))), (5, .int (nI (bitsN (beX X (buX X p5)) 8))), (0, .ref (L 24)), (1, .int (nI p5)), (2, .int (nI t16)), (3, .int (nI p30)), (4, .int (nI p40))]) dX4_chance_68 (by decide) rfl ?_
          refine g_iconst dX4_chance_70 ci_0 ?_
          refine g_istore (lv' := [(8, .int (nI 0)), (6, .long (lN (sumNN (chE p30 (beX X (buX X p5)) (chR X p5 t16) 8) 0))), (5, .int (nI (bitsN (beX X (buX X p5)) 8))), (0, .ref (L 24)), (1, .int (nI p5)), (2, .int (nI t16)), (3, .int (nI p30)), (4, .int (nI p40))]) dX4_chance_71 (by decide) rfl ?_
          refine g_pick [0, 1, 3, 4, 5, 6, 7, 2] (lv' := [(8, .int (nI 0)), (6, .long (lN (sumNN (chE p30 (beX X (buX X p5)) (chR X p5 t16) 8) 0))), (0, .ref (L 24)), (1, .int (nI p5)), (2, .int (nI t16)), (3, .int (nI p30)), (4, .int (nI p40)), (5, .int (nI (bitsN (beX X (buX X p5)) 8)))]) rfl ?_
          exact lp_X4_chance hX ho hp5 (by omega) (by omega) (by omega) (qlg (by unfold chanceR; rw [thI_t hp5 h5, teI_t ho ht16, if_pos (by rfl), inN_t (a := 0) (b := 10) (by omega) (by omega) (by omega), inN_t (a := 0) (b := 1) (by omega) (by omega) (by omega), if_pos (by rfl), ix6 hp5, ixt ho ht16, ix_nI (by omega) (by omega), ix_nI (by omega) (by omega)]) (h _ fc_rfl hX)) 256 0 rfl
        · refine t_ifne0 (tgt := 50) dX4_chance_43 (by decide) ?_
          refine g_ldc2_w kk_X4_242 dX4_chance_46 ?_
          exact g_lreturn dX4_chance_49 (Nat.le_refl _) (Nat.le_refl _) (qlg (by unfold chanceR; rw [thI_t hp5 h5, teI_t ho ht16, if_pos (by rfl), inN_t (a := 0) (b := 10) (by omega) (by omega) (by omega), inN_f (a := 0) (b := 1) (by omega) h40]; rfl) (h _ fc_rfl hX))
      · refine t_ifeq0 46 dX4_chance_33 (by decide) ?_
        refine g_ldc2_w kk_X4_242 dX4_chance_46 ?_
        exact g_lreturn dX4_chance_49 (Nat.le_refl _) (Nat.le_refl _) (qlg (by unfold chanceR; rw [thI_t hp5 h5, teI_t ho ht16, if_pos (by rfl), inN_f (a := 0) (b := 10) (by omega) h30]; rfl) (h _ fc_rfl hX))
    · refine t_ifne0 (tgt := 26) dX4_chance_19 (by decide) ?_
      refine g_ldc2_w kk_X4_240 dX4_chance_22 ?_
      exact g_lreturn dX4_chance_25 (Nat.le_refl _) (Nat.le_refl _) (qlg (by unfold chanceR; rw [teI_f h16, Bool.and_false]; rfl) (h _ fc_rfl hX))
  · refine t_ifeq0 22 dX4_chance_8 (by decide) ?_
    refine g_ldc2_w kk_X4_240 dX4_chance_22 ?_
    exact g_lreturn dX4_chance_25 (Nat.le_refl _) (Nat.le_refl _) (qlg (by unfold chanceR; rw [thI_f h5]; rfl) (h _ fc_rfl hX))
theorem tell_le {X : XT} {a b k : Nat} : (tellE X a b k).1 ≤ 8 := by
  unfold tellE; repeat' (first | exact Nat.le_of_ble_eq_true rfl | split)
set_option maxHeartbeats 4000000 in
set_option maxRecDepth 20000 in
theorem lp_X4_year {l : Launch} {D : gE} {L : Nat → Nat} {σ : St} {Q : Option Value → va_W → Prop} {d : Nat} {X : XT} (hX : rzT σ 0 X) (ho : okX X) {s m w : Nat} (hs : s ≤ 9999) (hm : m ≤ 99) (hw : w ≤ 2) (h : ∀ σ', fc σ σ' → rzT σ' 0 X → Q (some (.int (yearN X s m w))) (wsOf D L σ')) : ∀ n_ k, k + n_ = m → ∀ σ', ft 12 σ σ' → rzT σ' 12 (yrX X s k) → G l D yX4_year cX4_year 7 (some .int) (rr (d + 4)) Q 0 0 53 [(6, .int (nI (k + 1))), (5, .int (nI (yxN s k))), (4, .int (nI (yrT X s k))), (0, .ref (L 24)), (1, .int (nI s)), (2, .int (nI m)), (3, .int (nI w))] [] (wsOf D L σ') := by
  intro n_
  induction n_ with
  | zero =>
    intro k hct σ' hft hT
    obtain rfl : k = m := by omega
    refine g_iload dX4_year_53 0 rfl ?_
    refine g_iload_n dX4_year_55 rfl 5 rfl ?_
    refine n_icmpgt 127 dX4_year_56 (by decide) (by omega) (by omega) (fun h56 => ?_) (fun h56 => absurd h56 (by omega))
    refine g_iload_n dX4_year_127 rfl 6 rfl ?_
    rcases (show w = 0 ∨ w = 1 ∨ w = 2 by omega) with rfl | rfl | rfl
    · refine g_lookup (off := 28) 156 dX4_year_128 (by decide) (by decide +kernel) (by decide) ?_
      refine g_iload dX4_year_156 2 rfl ?_
      exact g_ireturn dX4_year_158 (Nat.le_refl _) (Nat.le_refl _) (qi (by unfold yearN; rfl) (h _ (fc_ft hft (by decide)) (ft_0 hft hX)))
    · refine g_lookup (off := 31) 159 dX4_year_128 (by decide) (by decide +kernel) (by decide) ?_
      refine g_aload_n dX4_year_159 rfl 3 rfl ?_
      refine g_get kf_X4_16 kC_X4 (by decide) 24 at_24 rfl dX4_year_160 ?_
      refine g_callV (As := []) km_X4_261 ky_X3_mostBurden ki_X3_mostBurden (by decide) 12 (at_tn (Or.inr (Or.inl rfl))) rfl rfl (Nat.le_of_ble_eq_true rfl) dX4_year_163 rfl (c_X3_mostBurden (Or.inr (Or.inl rfl)) hT (ok_yr ho s k) ?_)
      exact g_ireturn dX4_year_166 (Nat.le_refl _) (Nat.le_refl _) (qi (by unfold yearN; rfl) (h _ (fc_ft hft (by decide)) (ft_0 hft hX)))
    · refine g_lookup (off := 39) 167 dX4_year_128 (by decide) (by decide +kernel) (by decide) ?_
      refine g_aload_n dX4_year_167 rfl 3 rfl ?_
      refine g_get kf_X4_16 kC_X4 (by decide) 24 at_24 rfl dX4_year_168 ?_
      refine g_callV (As := []) km_X4_264 ky_X3_mostKnowers ki_X3_mostKnowers (by decide) 12 (at_tn (Or.inr (Or.inl rfl))) rfl rfl (Nat.le_of_ble_eq_true rfl) dX4_year_171 rfl (c_X3_mostKnowers (Or.inr (Or.inl rfl)) hT (ok_yr ho s k) ?_)
      exact g_ireturn dX4_year_174 (Nat.le_refl _) (Nat.le_refl _) (qi (by unfold yearN; rfl) (h _ (fc_ft hft (by decide)) (ft_0 hft hX)))
  | succ n_ ih =>
    intro k hct σ' hft hT
    have hx0 := yx_lt hs k
    have hx1 := yx_lt hs (k + 1)
    have hyt : yrT X s k ≤ k := cntN_le _ _
    refine g_iload dX4_year_53 0 rfl ?_
    refine g_iload_n dX4_year_55 rfl 5 rfl ?_
    refine n_icmpgt 127 dX4_year_56 (by decide) (by omega) (by omega) (fun h56 => absurd h56 (by omega)) (fun h56 => ?_)
    refine g_bipush dX4_year_59 bp_75 ?_
    refine g_iload dX4_year_61 1 rfl ?_
    refine g_imul dX4_year_63 ?_
    refine g_tope (z := nI (75 * yxN s k)) (pk_mul _ _) ?_
    refine g_bipush dX4_year_64 bp_74 ?_
    refine g_iadd dX4_year_66 ?_
    refine g_tope (z := nI (75 * yxN s k + 74)) (nI_add _ _) ?_
    refine g_ldc kk_X4_254 dX4_year_67 ?_
    refine g_tope (z := nI 65537) (by decide +kernel) ?_
    refine g_irem dX4_year_69 (by decide +kernel) ?_
    refine g_tope (z := nI (yxN s (k + 1))) (pk_rem (by omega) (by omega) (by omega)) ?_
    refine g_istore (lv' := [(5, .int (nI (yxN s (k + 1)))), (6, .int (nI (k + 1))), (4, .int (nI (yrT X s k))), (0, .ref (L 24)), (1, .int (nI s)), (2, .int (nI m)), (3, .int (nI w))]) dX4_year_70 (by decide) rfl ?_
    refine g_aload_n dX4_year_72 rfl 3 rfl ?_
    refine g_get kf_X4_16 kC_X4 (by decide) 24 at_24 rfl dX4_year_73 ?_
    refine g_iload dX4_year_76 0 rfl ?_
    refine g_bipush dX4_year_78 bp_6 ?_
    refine g_irem dX4_year_80 (by decide +kernel) ?_
    refine g_tope (z := nI ((yxN s (k + 1)) % 6)) (pk_rem (by omega) (by omega) (by omega)) ?_
    refine g_iload dX4_year_81 0 rfl ?_
    refine g_bipush dX4_year_83 bp_6 ?_
    refine g_idiv dX4_year_85 (by decide +kernel) ?_
    refine g_tope (z := nI ((yxN s (k + 1)) / 6)) (pk_div (by omega) (by omega) (by omega)) ?_
    refine g_bipush dX4_year_86 bp_6 ?_
    refine g_irem dX4_year_88 (by decide +kernel) ?_
    refine g_tope (z := nI (((yxN s (k + 1)) / 6) % 6)) (pk_rem (by omega) (by omega) (by omega)) ?_
    refine g_iload dX4_year_89 0 rfl ?_
    refine g_bipush dX4_year_91 bp_36 ?_
    refine g_idiv dX4_year_93 (by decide +kernel) ?_
    refine g_tope (z := nI ((yxN s (k + 1)) / 36)) (pk_div (by omega) (by omega) (by omega)) ?_
    refine g_bipush dX4_year_94 bp_8 ?_
    refine g_irem dX4_year_96 (by decide +kernel) ?_
    refine g_tope (z := nI (((yxN s (k + 1)) / 36) % 8)) (pk_rem (by omega) (by omega) (by omega)) ?_
    refine g_callV (As := [.int (nI ((yxN s (k + 1)) % 6)), .int (nI (((yxN s (k + 1)) / 6) % 6)), .int (nI (((yxN s (k + 1)) / 36) % 8))]) km_X4_255 ky_X3_tellIfItCanBe ki_X3_tellIfItCanBe (by decide) 12 (at_tn (Or.inr (Or.inl rfl))) rfl rfl (Nat.le_of_ble_eq_true rfl) dX4_year_97 rfl (c_X3_tell (Or.inr (Or.inl rfl)) hT (ok_yr ho s k) (Nat.mod_lt _ (by decide)) (Nat.mod_lt _ (by decide)) (Nat.mod_lt _ (by decide)) (fun {w9} e => ?_) (fun {X2} e σ2 hf2 hT2 => ?_))
    · have hw9 : w9 + 1 ≤ 8 := by have h8 := tell_le (X := yrX X s k) (a := yxN s (k + 1) % 6) (b := yxN s (k + 1) / 6 % 6) (k := yxN s (k + 1) / 36 % 8); rw [e] at h8; exact h8
      have hok2 : okX (yrX X s k) := ok_yr ho s k
      have e7 := yr_tell (w := w9 + 1) (X' := yrX X s k) e
      have e8 := yr_t1 e
      have hT2 := hT
      refine n_ifne 106 dX4_year_100 (by decide) (by omega) (fun h100 => ?_) (fun h100 => absurd h100 (by omega))
      refine g_iload dX4_year_106 1 rfl ?_
      refine g_bipush dX4_year_108 bp_7 ?_
      refine g_irem dX4_year_110 (by decide +kernel) ?_
      refine g_tope (z := nI ((k + 1) % 7)) (pk_rem (by omega) (by omega) (by omega)) ?_
      refine n_ifne 121 dX4_year_111 (by decide) (by omega) (fun h111 => ?_) (fun h111 => ?_)
      · refine g_iinc (v := nI (k + 1 + 1)) (lv' := [(6, .int (nI (k + 1 + 1))), (5, .int (nI (yxN s (k + 1)))), (4, .int (nI (yrT X s k))), (0, .ref (L 24)), (1, .int (nI s)), (2, .int (nI m)), (3, .int (nI w))]) dX4_year_121 1 rfl (inc_n _) (by decide) rfl ?_
        refine g_goto 53 dX4_year_124 (by decide) ?_
        refine g_pick [0, 1, 2, 3, 4, 5, 6] (lv' := [(6, .int (nI (k + 1 + 1))), (5, .int (nI (yxN s (k + 1)))), (4, .int (nI (yrT X s k))), (0, .ref (L 24)), (1, .int (nI s)), (2, .int (nI m)), (3, .int (nI w))]) rfl ?_
        rw [e8]
        exact ih (k + 1) (by omega) _ hft (by rw [if_neg h111] at e7; rw [← e7]; exact hT2)
      · refine g_aload_n dX4_year_114 rfl 3 rfl ?_
        refine g_get kf_X4_16 kC_X4 (by decide) 24 at_24 rfl dX4_year_115 ?_
        refine g_callV (As := []) km_X4_258 ky_X3_passNight ki_X3_passNight (by decide) 12 (at_tn (Or.inr (Or.inl rfl))) rfl rfl (Nat.le_of_ble_eq_true rfl) dX4_year_118 rfl (c_X3_passNight (Or.inr (Or.inl rfl)) hT2 hok2 (fun σ3 hf3 hT3 => ?_))
        have hft := ft_trans hft hf3
        refine g_iinc (v := nI (k + 1 + 1)) (lv' := [(6, .int (nI (k + 1 + 1))), (5, .int (nI (yxN s (k + 1)))), (4, .int (nI (yrT X s k))), (0, .ref (L 24)), (1, .int (nI s)), (2, .int (nI m)), (3, .int (nI w))]) dX4_year_121 1 rfl (inc_n _) (by decide) rfl ?_
        refine g_goto 53 dX4_year_124 (by decide) ?_
        refine g_pick [0, 1, 2, 3, 4, 5, 6] (lv' := [(6, .int (nI (k + 1 + 1))), (5, .int (nI (yxN s (k + 1)))), (4, .int (nI (yrT X s k))), (0, .ref (L 24)), (1, .int (nI s)), (2, .int (nI m)), (3, .int (nI w))]) rfl ?_
        rw [e8]
        exact ih (k + 1) (by omega) _ hft (by rw [if_pos h111] at e7; rw [← e7]; exact hT3)
    · have hft := ft_trans hft hf2
      have hok2 : okX X2 := by have h9 := ok_yrE (x := yxN s (k + 1)) (ok_yr ho s k); rw [show yrE (yrX X s k) (yxN s (k + 1)) = (0, X2) from e] at h9; exact h9
      have e7 := yr_tell (w := 0) (X' := X2) e
      have e8 := yr_t0 e
      refine t_ifne0 (tgt := 106) dX4_year_100 (by decide) ?_
      refine g_iinc (v := nI (yrT X s k + 1)) (lv' := [(4, .int (nI (yrT X s k + 1))), (5, .int (nI (yxN s (k + 1)))), (6, .int (nI (k + 1))), (0, .ref (L 24)), (1, .int (nI s)), (2, .int (nI m)), (3, .int (nI w))]) dX4_year_103 2 rfl (inc_n _) (by decide) rfl ?_
      refine g_iload dX4_year_106 2 rfl ?_
      refine g_bipush dX4_year_108 bp_7 ?_
      refine g_irem dX4_year_110 (by decide +kernel) ?_
      refine g_tope (z := nI ((k + 1) % 7)) (pk_rem (by omega) (by omega) (by omega)) ?_
      refine n_ifne 121 dX4_year_111 (by decide) (by omega) (fun h111 => ?_) (fun h111 => ?_)
      · refine g_iinc (v := nI (k + 1 + 1)) (lv' := [(6, .int (nI (k + 1 + 1))), (4, .int (nI (yrT X s k + 1))), (5, .int (nI (yxN s (k + 1)))), (0, .ref (L 24)), (1, .int (nI s)), (2, .int (nI m)), (3, .int (nI w))]) dX4_year_121 2 rfl (inc_n _) (by decide) rfl ?_
        refine g_goto 53 dX4_year_124 (by decide) ?_
        refine g_pick [0, 2, 1, 3, 4, 5, 6] (lv' := [(6, .int (nI (k + 1 + 1))), (5, .int (nI (yxN s (k + 1)))), (4, .int (nI (yrT X s k + 1))), (0, .ref (L 24)), (1, .int (nI s)), (2, .int (nI m)), (3, .int (nI w))]) rfl ?_
        rw [e8]
        exact ih (k + 1) (by omega) _ hft (by rw [if_neg h111] at e7; rw [← e7]; exact hT2)
      · refine g_aload_n dX4_year_114 rfl 3 rfl ?_
        refine g_get kf_X4_16 kC_X4 (by decide) 24 at_24 rfl dX4_year_115 ?_
        refine g_callV (As := []) km_X4_258 ky_X3_passNight ki_X3_passNight (by decide) 12 (at_tn (Or.inr (Or.inl rfl))) rfl rfl (Nat.le_of_ble_eq_true rfl) dX4_year_118 rfl (c_X3_passNight (Or.inr (Or.inl rfl)) hT2 hok2 (fun σ3 hf3 hT3 => ?_))
        have hft := ft_trans hft hf3
        refine g_iinc (v := nI (k + 1 + 1)) (lv' := [(6, .int (nI (k + 1 + 1))), (4, .int (nI (yrT X s k + 1))), (5, .int (nI (yxN s (k + 1)))), (0, .ref (L 24)), (1, .int (nI s)), (2, .int (nI m)), (3, .int (nI w))]) dX4_year_121 2 rfl (inc_n _) (by decide) rfl ?_
        refine g_goto 53 dX4_year_124 (by decide) ?_
        refine g_pick [0, 2, 1, 3, 4, 5, 6] (lv' := [(6, .int (nI (k + 1 + 1))), (5, .int (nI (yxN s (k + 1)))), (4, .int (nI (yrT X s k + 1))), (0, .ref (L 24)), (1, .int (nI s)), (2, .int (nI m)), (3, .int (nI w))]) rfl ?_
        rw [e8]
        exact ih (k + 1) (by omega) _ hft (by rw [if_pos h111] at e7; rw [← e7]; exact hT3)
set_option maxHeartbeats 4000000 in
set_option maxRecDepth 20000 in
theorem c_X4_year {l : Launch} {D : gE} {L : Nat → Nat} {σ : St} {Q : Option Value → va_W → Prop} {d : Nat} {X : XT} (hX : rzT σ 0 X) (ho : okX X) {x y z : Int32} (h : ∀ σ', fc σ σ' → rzT σ' 0 X → Q (some (.int (yearR X x y z))) (wsOf D L σ')) : Ctr l D yX4_year cX4_year 7 (some .int) (rr (d + 4)) [.ref (L 24), .int x, .int y, .int z] (wsOf D L σ) Q := by
  refine g_start ky_X4_year (Nat.le_of_ble_eq_true rfl) ?_
  refine g_pick [0, 1, 2, 3] (lv' := [(0, .ref (L 24)), (1, .int x), (2, .int y), (3, .int z)]) rfl ?_
  refine g_iload_n dX4_year_0 rfl 1 rfl ?_
  refine g_iconst dX4_year_1 ci_0 ?_
  refine g_sipush dX4_year_2 sp_9999 ?_
  refine g_callS (As := [.int x, .int (nI 0), .int (nI 9999)]) km_X4_44 ky_X4_within ks_X4_within (by decide) rfl (Nat.le_of_ble_eq_true rfl) dX4_year_5 rfl (c_X4_withinN (by omega) (by omega) (fun p5 ha5 hb5 he5 => ?_) (fun h5 => ?_))
  · subst he5
    refine t_ifeq1 (tgt := 30) dX4_year_8 (by decide) ?_
    refine g_iload_n dX4_year_11 rfl 2 rfl ?_
    refine g_iconst dX4_year_12 ci_1 ?_
    refine g_bipush dX4_year_13 bp_99 ?_
    refine g_callS (As := [.int y, .int (nI 1), .int (nI 99)]) km_X4_44 ky_X4_within ks_X4_within (by decide) rfl (Nat.le_of_ble_eq_true rfl) dX4_year_15 rfl (c_X4_withinN (by omega) (by omega) (fun p15 ha15 hb15 he15 => ?_) (fun h15 => ?_))
    · subst he15
      refine t_ifeq1 (tgt := 30) dX4_year_18 (by decide) ?_
      refine g_iload_n dX4_year_21 rfl 3 rfl ?_
      refine g_iconst dX4_year_22 ci_0 ?_
      refine g_iconst dX4_year_23 ci_2 ?_
      refine g_callS (As := [.int z, .int (nI 0), .int (nI 2)]) km_X4_44 ky_X4_within ks_X4_within (by decide) rfl (Nat.le_of_ble_eq_true rfl) dX4_year_24 rfl (c_X4_withinN (by omega) (by omega) (fun p24 ha24 hb24 he24 => ?_) (fun h24 => ?_))
      · subst he24
        refine t_ifne1 33 dX4_year_27 (by decide) ?_
        refine g_aload_n dX4_year_33 rfl 0 rfl ?_
        refine g_get kf_X4_16 kC_X4 (by decide) 24 at_24 rfl dX4_year_34 ?_
        refine g_aload_n dX4_year_37 rfl 0 rfl ?_
        refine g_get kf_X4_10 kC_X4 (by decide) 24 at_24 rfl dX4_year_38 ?_
        refine g_callV (As := [.ref (L 0)]) km_X4_159 ky_X3_copy ki_X3_copy (by decide) 12 (at_tn (Or.inr (Or.inl rfl))) rfl rfl (Nat.le_of_ble_eq_true rfl) dX4_year_41 rfl (c_X3_copy (Or.inr (Or.inl rfl)) (Or.inl rfl) (by omega) hX (fun σ2 hf2 hT2 => ?_))
        refine g_iconst dX4_year_44 ci_0 ?_
        refine g_tope (z := nI (yrT X p5 0)) (rfl) ?_
        refine g_istore (lv' := [(4, .int (nI (yrT X p5 0))), (0, .ref (L 24)), (1, .int (nI p5)), (2, .int (nI p15)), (3, .int (nI p24))]) dX4_year_45 (by decide) rfl ?_
        refine g_iload_n dX4_year_47 rfl 2 rfl ?_
        refine g_tope (z := nI (yxN p5 0)) (rfl) ?_
        refine g_istore (lv' := [(5, .int (nI (yxN p5 0))), (4, .int (nI (yrT X p5 0))), (0, .ref (L 24)), (1, .int (nI p5)), (2, .int (nI p15)), (3, .int (nI p24))]) dX4_year_48 (by decide) rfl ?_
        refine g_iconst dX4_year_50 ci_1 ?_
        refine g_tope (z := nI (0 + 1)) (rfl) ?_
        refine g_istore (lv' := [(6, .int (nI (0 + 1))), (5, .int (nI (yxN p5 0))), (4, .int (nI (yrT X p5 0))), (0, .ref (L 24)), (1, .int (nI p5)), (2, .int (nI p15)), (3, .int (nI p24))]) dX4_year_51 (by decide) rfl ?_
        refine g_pick [0, 1, 2, 3, 4, 5, 6] (lv' := [(6, .int (nI (0 + 1))), (5, .int (nI (yxN p5 0))), (4, .int (nI (yrT X p5 0))), (0, .ref (L 24)), (1, .int (nI p5)), (2, .int (nI p15)), (3, .int (nI p24))]) rfl ?_
        exact lp_X4_year hX ho (by omega) (by omega) (by omega) (fun σ9 hf9 hX9 => qi (by unfold yearR; rw [inN_t (a := 0) (b := 9999) (by omega) (by omega) (by omega), inN_t (a := 1) (b := 99) (by omega) (by omega) (by omega), inN_t (a := 0) (b := 2) (by omega) (by omega) (by omega), if_pos (by rfl), ix_nI (by omega) (by omega), ix_nI (by omega) (by omega), ix_nI (by omega) (by omega)]) (h σ9 hf9 hX9)) p15 0 (by omega) _ hf2 hT2
      · refine t_ifne0 (tgt := 33) dX4_year_27 (by decide) ?_
        refine g_bipush dX4_year_30 bp_m2 ?_
        exact g_ireturn dX4_year_32 (Nat.le_refl _) (Nat.le_refl _) (qi (by unfold yearR; rw [inN_t (a := 0) (b := 9999) (by omega) (by omega) (by omega), inN_t (a := 1) (b := 99) (by omega) (by omega) (by omega), inN_f (a := 0) (b := 2) (by omega) h24]; rfl) (h _ fc_rfl hX))
    · refine t_ifeq0 30 dX4_year_18 (by decide) ?_
      refine g_bipush dX4_year_30 bp_m2 ?_
      exact g_ireturn dX4_year_32 (Nat.le_refl _) (Nat.le_refl _) (qi (by unfold yearR; rw [inN_t (a := 0) (b := 9999) (by omega) (by omega) (by omega), inN_f (a := 1) (b := 99) (by omega) h15]; rfl) (h _ fc_rfl hX))
  · refine t_ifeq0 30 dX4_year_8 (by decide) ?_
    refine g_bipush dX4_year_30 bp_m2 ?_
    exact g_ireturn dX4_year_32 (Nat.le_refl _) (Nat.le_refl _) (qi (by unfold yearR; rw [inN_f (a := 0) (b := 9999) (by omega) h5]; rfl) (h _ fc_rfl hX))
