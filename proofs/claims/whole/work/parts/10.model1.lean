set_option maxHeartbeats 4000000 in
set_option maxRecDepth 20000 in
theorem c_X5_in {l : Launch} {D : gE} {L : Nat → Nat} {σ : St} {Q : Option Value → va_W → Prop} {d : Nat} {x lo hi : Int64} (ht : lo ≤ x → x ≤ hi → Q (some (.int (nI 1))) (wsOf D L σ)) (hf : ¬ (lo ≤ x ∧ x ≤ hi) → Q (some (.int (nI 0))) (wsOf D L σ)) : Ctr l D yX5_in cX5_in 6 (some .boolean) (rr d) [.long x, .long lo, .long hi] (wsOf D L σ) Q := by
  refine g_start ky_X5_in (Nat.le_of_ble_eq_true rfl) ?_
  refine g_pick [0, 1, 2] (lv' := [(0, .long x), (2, .long lo), (4, .long hi)]) rfl ?_
  refine g_lload_n dX5_in_0 rfl 0 rfl ?_
  refine g_lload_n dX5_in_1 rfl 1 rfl ?_
  refine g_lcmp dX5_in_2 ?_
  refine g_iflt 17 dX5_in_3 (by decide) (fun h3 => ?_) (fun h3 => ?_)
  · refine g_iconst dX5_in_17 ci_0 ?_
    exact g_zreturn dX5_in_18 (Nat.le_refl _) (Nat.le_refl _) (Or.inl rfl) (hf (fun h => by rw [lcmp_lt] at h3; exact absurd h3 (Int64.not_lt.mpr h.1)))
  · refine g_lload_n dX5_in_6 rfl 0 rfl ?_
    refine g_lload dX5_in_7 2 rfl ?_
    refine g_lcmp dX5_in_9 ?_
    refine g_ifgt 17 dX5_in_10 (by decide) (fun h10 => ?_) (fun h10 => ?_)
    · refine g_iconst dX5_in_17 ci_0 ?_
      exact g_zreturn dX5_in_18 (Nat.le_refl _) (Nat.le_refl _) (Or.inl rfl) (hf (fun h => by rw [lcmp_gt] at h10; exact absurd h10 (Int64.not_lt.mpr h.2)))
    · refine g_iconst dX5_in_13 ci_1 ?_
      refine g_goto 18 dX5_in_14 (by decide) ?_
      exact g_zreturn dX5_in_18 (Nat.le_refl _) (Nat.le_refl _) (Or.inr rfl) (ht (by rw [lcmp_lt] at h3; exact Int64.not_lt.mp h3) (by rw [lcmp_gt] at h10; exact Int64.not_lt.mp h10))
theorem c_X5_inN {l : Launch} {D : gE} {L : Nat → Nat} {σ : St} {Q : Option Value → va_W → Prop} {d : Nat} {x : Int32} {a b : Nat} (ha0 : a < 2 ^ 31) (hb : b < 2 ^ 31) (ht : ∀ p, a ≤ p → p ≤ b → x = nI p → Q (some (.int (nI 1))) (wsOf D L σ)) (hf : (∀ p, a ≤ p → p ≤ b → ¬ x = nI p) → Q (some (.int (nI 0))) (wsOf D L σ)) : Ctr l D yX5_in cX5_in 6 (some .boolean) (rr d) [.long x.toInt64, .long ((nI a).toInt64), .long ((nI b).toInt64)] (wsOf D L σ) Q := by
  refine c_X5_in (fun h1 h2 => ?_) (fun h => ?_)
  · rw [fa_wide_le] at h1 h2
    by_cases ha : a ≤ b
    · obtain ⟨p, hp, rfl⟩ := nI_of2 (n := b) (nI_toInt hb) (fun h => nI_pos (show a < 2 ^ 31 by omega) (by rw [fa_lt] at h ⊢; rw [fa_le] at h1; omega)) h2
      exact ht p ((nI_leI (by omega) (by omega)).mp h1) hp rfl
    · exfalso
      rw [fa_le] at h1 h2
      rw [nI_toInt hb] at h2
      rw [nI_toInt ha0] at h1; omega
  · refine hf (fun p h1 h2 e => h ?_)
    subst e
    rw [fa_wide_le, fa_wide_le]
    exact ⟨nI_le h1 (by omega), nI_le h2 hb⟩
set_option maxHeartbeats 4000000 in
set_option maxRecDepth 20000 in
theorem c_X5_isNews {l : Launch} {D : gE} {L : Nat → Nat} {σ : St} {Q : Option Value → va_W → Prop} {d : Nat} {x : Int32} (ht : ∀ k, k < 8 → x = nI k → Q (some (.int (nI 1))) (wsOf D L σ)) (hf : (∀ k, k < 8 → ¬ x = nI k) → Q (some (.int (nI 0))) (wsOf D L σ)) : Ctr l D yX5_isNews cX5_isNews 1 (some .boolean) (rr (d + 1)) [.int x] (wsOf D L σ) Q := by
  refine g_start ky_X5_isNews (Nat.le_of_ble_eq_true rfl) ?_
  refine g_pick [0] (lv' := [(0, .int x)]) rfl ?_
  refine g_iload_n dX5_isNews_0 rfl 0 rfl ?_
  refine g_i2l dX5_isNews_1 ?_
  refine g_lconst dX5_isNews_2 lc_0 ?_
  refine g_ldc2_w kk_X5_122 dX5_isNews_3 ?_
  refine g_tople (z := (nI 7).toInt64) (by decide +kernel) ?_
  refine g_callS (As := [.long x.toInt64, .long ((nI 0).toInt64), .long ((nI 7).toInt64)]) km_X5_118 ky_X5_in ks_X5_in (by decide) rfl (Nat.le_of_ble_eq_true rfl) dX5_isNews_6 rfl (c_X5_inN (by omega) (by omega) (fun p6 ha6 hb6 he6 => ?_) (fun h6 => ?_))
  · exact g_zreturn dX5_isNews_9 (Nat.le_refl _) (Nat.le_refl _) (Or.inr rfl) (ht p6 (by omega) he6)
  · exact g_zreturn dX5_isNews_9 (Nat.le_refl _) (Nat.le_refl _) (Or.inl rfl) (hf (fun k hk => h6 k (by omega) (by omega)))
set_option maxHeartbeats 4000000 in
set_option maxRecDepth 20000 in
theorem c_X5_isTerrace {l : Launch} {D : gE} {L : Nat → Nat} {σ : St} {Q : Option Value → va_W → Prop} {d : Nat} {X : XT} (hX : rpM σ X) (ho : okX X) {x : Int32} (ht : ∀ t, t < x_sz X → x = nI t → Q (some (.int (nI 1))) (wsOf D L σ)) (hf : (∀ t, t < x_sz X → ¬ x = nI t) → Q (some (.int (nI 0))) (wsOf D L σ)) : Ctr l D yX5_isTerrace cX5_isTerrace 2 (some .boolean) (rr (d + 1)) [.ref (L 33), .int x] (wsOf D L σ) Q := by
  refine g_start ky_X5_isTerrace (Nat.le_of_ble_eq_true rfl) ?_
  refine g_pick [0, 1] (lv' := [(0, .ref (L 33)), (1, .int x)]) rfl ?_
  have hs := ok_sz ho
  refine g_iload_n dX5_isTerrace_0 rfl 1 rfl ?_
  refine g_i2l dX5_isTerrace_1 ?_
  refine g_lconst dX5_isTerrace_2 lc_0 ?_
  refine g_aload_n dX5_isTerrace_3 rfl 0 rfl ?_
  refine s_getM kf_X5_103 (by decide) rfl dX5_isTerrace_4 ?_
  refine g_tope (z := nI (x_sz X)) (rpM_sz hX) ?_
  refine g_iconst dX5_isTerrace_7 ci_1 ?_
  refine g_isub dX5_isTerrace_8 ?_
  refine g_tope (z := nI ((x_sz X) - 1)) (pk_sub (by omega)) ?_
  refine g_i2l dX5_isTerrace_9 ?_
  refine g_callS (As := [.long x.toInt64, .long ((nI 0).toInt64), .long ((nI ((x_sz X) - 1)).toInt64)]) km_X5_118 ky_X5_in ks_X5_in (by decide) rfl (Nat.le_of_ble_eq_true rfl) dX5_isTerrace_10 rfl (c_X5_inN (by omega) (by omega) (fun p10 ha10 hb10 he10 => ?_) (fun h10 => ?_))
  · exact g_zreturn dX5_isTerrace_13 (Nat.le_refl _) (Nat.le_refl _) (Or.inr rfl) (ht p10 (by omega) he10)
  · exact g_zreturn dX5_isTerrace_13 (Nat.le_refl _) (Nat.le_refl _) (Or.inl rfl) (hf (fun k hk => h10 k (by omega) (by omega)))
set_option maxHeartbeats 4000000 in
set_option maxRecDepth 20000 in
theorem c_X5_isBridge {l : Launch} {D : gE} {L : Nat → Nat} {σ : St} {Q : Option Value → va_W → Prop} {d : Nat} {X : XT} (hX : rpM σ X) {x : Int32} (ht : ∀ p, p < 8 → x = nI p → x_br X p = true → Q (some (.int (nI 1))) (wsOf D L σ)) (hf : (∀ p, p < 8 → x = nI p → x_br X p = false) → Q (some (.int (nI 0))) (wsOf D L σ)) : Ctr l D yX5_isBridge cX5_isBridge 2 (some .boolean) (rr (d + 1)) [.ref (L 33), .int x] (wsOf D L σ) Q := by
  refine g_start ky_X5_isBridge (Nat.le_of_ble_eq_true rfl) ?_
  refine g_pick [0, 1] (lv' := [(0, .ref (L 33)), (1, .int x)]) rfl ?_
  refine g_iload_n dX5_isBridge_0 rfl 1 rfl ?_
  refine g_i2l dX5_isBridge_1 ?_
  refine g_lconst dX5_isBridge_2 lc_0 ?_
  refine g_ldc2_w kk_X5_122 dX5_isBridge_3 ?_
  refine g_tople (z := (nI 7).toInt64) (by decide +kernel) ?_
  refine g_callS (As := [.long x.toInt64, .long ((nI 0).toInt64), .long ((nI 7).toInt64)]) km_X5_118 ky_X5_in ks_X5_in (by decide) rfl (Nat.le_of_ble_eq_true rfl) dX5_isBridge_6 rfl (c_X5_inN (by omega) (by omega) (fun p6 ha6 hb6 he6 => ?_) (fun h6 => ?_))
  · refine t_ifeq1 (tgt := 28) dX5_isBridge_9 (by decide) ?_
    refine g_aload_n dX5_isBridge_12 rfl 0 rfl ?_
    refine s_getM kf_X5_106 (by decide) rfl dX5_isBridge_13 ?_
    refine g_tope (z := nI (bitsN (x_br X) 8)) (rpM_br hX) ?_
    refine g_iload_n dX5_isBridge_16 rfl 1 rfl ?_
    refine g_tope he6 ?_
    refine g_ishr dX5_isBridge_17 ?_
    refine g_iconst dX5_isBridge_18 ci_1 ?_
    refine g_iand dX5_isBridge_19 ?_
    refine g_tope (z := nI (b2n ((x_br X) p6))) (gbB _ (by decide) (by omega)) ?_
    refine g_iconst dX5_isBridge_20 ci_1 ?_
    refine b_icmpne 28 dX5_isBridge_21 (by decide) (fun h21 => ?_) (fun h21 => ?_)
    · refine g_iconst dX5_isBridge_28 ci_0 ?_
      exact g_zreturn dX5_isBridge_29 (Nat.le_refl _) (Nat.le_refl _) (Or.inl rfl) (hf (fun p hp e => by rw [show p = p6 from (nI_eq (by omega) (by omega)).mp (e.symm.trans he6)]; exact h21))
    · refine g_iconst dX5_isBridge_24 ci_1 ?_
      refine g_goto 29 dX5_isBridge_25 (by decide) ?_
      exact g_zreturn dX5_isBridge_29 (Nat.le_refl _) (Nat.le_refl _) (Or.inr rfl) (ht p6 (by omega) he6 h21)
  · refine t_ifeq0 28 dX5_isBridge_9 (by decide) ?_
    refine g_iconst dX5_isBridge_28 ci_0 ?_
    exact g_zreturn dX5_isBridge_29 (Nat.le_refl _) (Nat.le_refl _) (Or.inl rfl) (hf (fun p hp e => absurd e (h6 p (by omega) (by omega))))
theorem c_X5_isBridgeN {l : Launch} {D : gE} {L : Nat → Nat} {σ : St} {Q : Option Value → va_W → Prop} {d : Nat} {X : XT} (hX : rpM σ X) {p : Nat} (hp : p < 8) (ht : x_br X p = true → Q (some (.int (nI 1))) (wsOf D L σ)) (hf : x_br X p = false → Q (some (.int (nI 0))) (wsOf D L σ)) : Ctr l D yX5_isBridge cX5_isBridge 2 (some .boolean) (rr (d + 1)) [.ref (L 33), .int (nI p)] (wsOf D L σ) Q :=
  c_X5_isBridge hX (fun q hq e h => ht (by rw [show p = q from (nI_eq (by omega) (by omega)).mp e]; exact h)) (fun h => hf (h p hp rfl))
set_option maxHeartbeats 4000000 in
set_option maxRecDepth 20000 in
theorem c_X5_isThere {l : Launch} {D : gE} {L : Nat → Nat} {σ : St} {Q : Option Value → va_W → Prop} {d : Nat} {X : XT} (hX : rpM σ X) {x : Int32} (ht : ∀ p, p < 6 → x = nI p → x_th X p = true → Q (some (.int (nI 1))) (wsOf D L σ)) (hf : (∀ p, p < 6 → x = nI p → x_th X p = false) → Q (some (.int (nI 0))) (wsOf D L σ)) : Ctr l D yX5_isThere cX5_isThere 2 (some .boolean) (rr (d + 1)) [.ref (L 33), .int x] (wsOf D L σ) Q := by
  refine g_start ky_X5_isThere (Nat.le_of_ble_eq_true rfl) ?_
  refine g_pick [0, 1] (lv' := [(0, .ref (L 33)), (1, .int x)]) rfl ?_
  refine g_iload_n dX5_isThere_0 rfl 1 rfl ?_
  refine g_i2l dX5_isThere_1 ?_
  refine g_lconst dX5_isThere_2 lc_0 ?_
  refine g_ldc2_w kk_X5_124 dX5_isThere_3 ?_
  refine g_tople (z := (nI 5).toInt64) (by decide +kernel) ?_
  refine g_callS (As := [.long x.toInt64, .long ((nI 0).toInt64), .long ((nI 5).toInt64)]) km_X5_118 ky_X5_in ks_X5_in (by decide) rfl (Nat.le_of_ble_eq_true rfl) dX5_isThere_6 rfl (c_X5_inN (by omega) (by omega) (fun p6 ha6 hb6 he6 => ?_) (fun h6 => ?_))
  · refine t_ifeq1 (tgt := 28) dX5_isThere_9 (by decide) ?_
    refine g_aload_n dX5_isThere_12 rfl 0 rfl ?_
    refine s_getM kf_X5_109 (by decide) rfl dX5_isThere_13 ?_
    refine g_tope (z := nI (bitsN (x_th X) 6)) (rpM_th hX) ?_
    refine g_iload_n dX5_isThere_16 rfl 1 rfl ?_
    refine g_tope he6 ?_
    refine g_ishr dX5_isThere_17 ?_
    refine g_iconst dX5_isThere_18 ci_1 ?_
    refine g_iand dX5_isThere_19 ?_
    refine g_tope (z := nI (b2n ((x_th X) p6))) (gbB _ (by decide) (by omega)) ?_
    refine g_iconst dX5_isThere_20 ci_1 ?_
    refine b_icmpne 28 dX5_isThere_21 (by decide) (fun h21 => ?_) (fun h21 => ?_)
    · refine g_iconst dX5_isThere_28 ci_0 ?_
      exact g_zreturn dX5_isThere_29 (Nat.le_refl _) (Nat.le_refl _) (Or.inl rfl) (hf (fun p hp e => by rw [show p = p6 from (nI_eq (by omega) (by omega)).mp (e.symm.trans he6)]; exact h21))
    · refine g_iconst dX5_isThere_24 ci_1 ?_
      refine g_goto 29 dX5_isThere_25 (by decide) ?_
      exact g_zreturn dX5_isThere_29 (Nat.le_refl _) (Nat.le_refl _) (Or.inr rfl) (ht p6 (by omega) he6 h21)
  · refine t_ifeq0 28 dX5_isThere_9 (by decide) ?_
    refine g_iconst dX5_isThere_28 ci_0 ?_
    exact g_zreturn dX5_isThere_29 (Nat.le_refl _) (Nat.le_refl _) (Or.inl rfl) (hf (fun p hp e => absurd e (h6 p (by omega) (by omega))))
theorem c_X5_isThereN {l : Launch} {D : gE} {L : Nat → Nat} {σ : St} {Q : Option Value → va_W → Prop} {d : Nat} {X : XT} (hX : rpM σ X) {p : Nat} (hp : p < 6) (ht : x_th X p = true → Q (some (.int (nI 1))) (wsOf D L σ)) (hf : x_th X p = false → Q (some (.int (nI 0))) (wsOf D L σ)) : Ctr l D yX5_isThere cX5_isThere 2 (some .boolean) (rr (d + 1)) [.ref (L 33), .int (nI p)] (wsOf D L σ) Q :=
  c_X5_isThere hX (fun q hq e h => ht (by rw [show p = q from (nI_eq (by omega) (by omega)).mp e]; exact h)) (fun h => hf (h p hp rfl))
set_option maxHeartbeats 4000000 in
theorem lp_X5_knowers {l : Launch} {D : gE} {L : Nat → Nat} {σ : St} {Q : Option Value → va_W → Prop} {d : Nat} {X : XT} (hX : rpM σ X) (ho : okX X) {k : Nat} (hk : k < 8) (h : Q (some (.int (nI (kcX X k)))) (wsOf D L σ)) : ∀ n p, p + n = 6 → G l D yX5_knowers cX5_knowers 4 (some .int) (rr (d + 2)) Q 0 0 4 [(3, .int (nI p)), (2, .int (nI (cntN (fun q => x_kn X q k) p))), (0, .ref (L 33)), (1, .int (nI k))] [] (wsOf D L σ) := by
  intro n
  induction n with
  | zero =>
    intro p hp
    obtain rfl : p = 6 := by omega
    refine g_iload_n dX5_knowers_4 rfl 0 rfl ?_
    refine g_bipush dX5_knowers_5 bp_6 ?_
    refine n_icmpge 41 dX5_knowers_7 (by decide) (by omega) (by omega) (fun h7 => ?_) (fun h7 => absurd h7 (by omega))
    refine g_iload_n dX5_knowers_41 rfl 1 rfl ?_
    exact g_ireturn dX5_knowers_42 (Nat.le_refl _) (Nat.le_refl _) (h)
  | succ n ih =>
    intro p hp
    refine g_iload_n dX5_knowers_4 rfl 0 rfl ?_
    refine g_bipush dX5_knowers_5 bp_6 ?_
    refine n_icmpge 41 dX5_knowers_7 (by decide) (by omega) (by omega) (fun h7 => absurd h7 (by omega)) (fun h7 => ?_)
    refine g_iload_n dX5_knowers_10 rfl 1 rfl ?_
    refine g_aload_n dX5_knowers_11 rfl 2 rfl ?_
    refine g_iload_n dX5_knowers_12 rfl 0 rfl ?_
    refine g_callV (As := [.int (nI p)]) km_X5_143 ky_X5_isThere ki_X5_isThere (by decide) 33 at_33 rfl rfl (Nat.le_of_ble_eq_true rfl) dX5_knowers_13 rfl (c_X5_isThereN hX (by omega) (fun h13 => ?_) (fun h13 => ?_))
    · refine t_ifeq1 (tgt := 32) dX5_knowers_16 (by decide) ?_
      refine g_aload_n dX5_knowers_19 rfl 2 rfl ?_
      refine s_getM kf_X5_28 (by decide) rfl dX5_knowers_20 ?_
      refine g_iload_n dX5_knowers_23 rfl 0 rfl ?_
      refine s_ald (q := 40) (n := 6) (at_ia (q := 40) rfl) (by omega) (by decide) dX5_knowers_24 ?_
      refine g_tope (z := nI (bitsN (x_kn X p) 8)) (rpM_kn hX (by omega) (by assumption)) ?_
      refine g_iload_n dX5_knowers_25 rfl 3 rfl ?_
      refine g_ishr dX5_knowers_26 ?_
      refine g_iconst dX5_knowers_27 ci_1 ?_
      refine g_iand dX5_knowers_28 ?_
      refine g_tope (z := nI (b2n ((x_kn X p) k))) (gbB _ (by decide) (by omega)) ?_
      refine g_goto 33 dX5_knowers_29 (by decide) ?_
      refine g_iadd dX5_knowers_33 ?_
      refine g_tope (z := nI (cntN (fun q => x_kn X q k) (p + 1))) (nI_add _ _) ?_
      refine g_istore_n (lv' := [(2, .int (nI (cntN (fun q => x_kn X q k) (p + 1)))), (3, .int (nI p)), (0, .ref (L 33)), (1, .int (nI k))]) dX5_knowers_34 rfl (by decide) rfl ?_
      refine g_iinc (v := nI (p + 1)) (lv' := [(3, .int (nI (p + 1))), (2, .int (nI (cntN (fun q => x_kn X q k) (p + 1)))), (0, .ref (L 33)), (1, .int (nI k))]) dX5_knowers_35 1 rfl (inc_n _) (by decide) rfl ?_
      refine g_goto 4 dX5_knowers_38 (by decide) ?_
      refine g_pick [0, 1, 2, 3] (lv' := [(3, .int (nI (p + 1))), (2, .int (nI (cntN (fun q => x_kn X q k) (p + 1)))), (0, .ref (L 33)), (1, .int (nI k))]) rfl ?_
      exact ih (p + 1) (by omega)
    · refine t_ifeq0 32 dX5_knowers_16 (by decide) ?_
      refine g_iconst dX5_knowers_32 ci_0 ?_
      refine g_iadd dX5_knowers_33 ?_
      refine g_tope (z := nI (cntN (fun q => x_kn X q k) (p + 1))) (by rw [nI_add]; simp only [cntN]; rw [ok_no ho (by omega) (by assumption)]; rfl) ?_
      refine g_istore_n (lv' := [(2, .int (nI (cntN (fun q => x_kn X q k) (p + 1)))), (3, .int (nI p)), (0, .ref (L 33)), (1, .int (nI k))]) dX5_knowers_34 rfl (by decide) rfl ?_
      refine g_iinc (v := nI (p + 1)) (lv' := [(3, .int (nI (p + 1))), (2, .int (nI (cntN (fun q => x_kn X q k) (p + 1)))), (0, .ref (L 33)), (1, .int (nI k))]) dX5_knowers_35 1 rfl (inc_n _) (by decide) rfl ?_
      refine g_goto 4 dX5_knowers_38 (by decide) ?_
      refine g_pick [0, 1, 2, 3] (lv' := [(3, .int (nI (p + 1))), (2, .int (nI (cntN (fun q => x_kn X q k) (p + 1)))), (0, .ref (L 33)), (1, .int (nI k))]) rfl ?_
      exact ih (p + 1) (by omega)
set_option maxHeartbeats 4000000 in
set_option maxRecDepth 20000 in
theorem c_X5_knowers {l : Launch} {D : gE} {L : Nat → Nat} {σ : St} {Q : Option Value → va_W → Prop} {d : Nat} {X : XT} (hX : rpM σ X) (ho : okX X) {k : Nat} (hk : k < 8) (h : Q (some (.int (nI (kcX X k)))) (wsOf D L σ)) : Ctr l D yX5_knowers cX5_knowers 4 (some .int) (rr (d + 2)) [.ref (L 33), .int (nI k)] (wsOf D L σ) Q := by
  refine g_start ky_X5_knowers (Nat.le_of_ble_eq_true rfl) ?_
  refine g_pick [0, 1] (lv' := [(0, .ref (L 33)), (1, .int (nI k))]) rfl ?_
  refine g_iconst dX5_knowers_0 ci_0 ?_
  refine g_istore_n (lv' := [(2, .int (nI 0)), (0, .ref (L 33)), (1, .int (nI k))]) dX5_knowers_1 rfl (by decide) rfl ?_
  refine g_iconst dX5_knowers_2 ci_0 ?_
  refine g_istore_n (lv' := [(3, .int (nI 0)), (2, .int (nI 0)), (0, .ref (L 33)), (1, .int (nI k))]) dX5_knowers_3 rfl (by decide) rfl ?_
  refine g_pick [0, 1, 2, 3] (lv' := [(3, .int (nI 0)), (2, .int (nI 0)), (0, .ref (L 33)), (1, .int (nI k))]) rfl ?_
  exact lp_X5_knowers hX ho hk h 6 0 rfl
