def tpR (X : XT) (p k : Nat) : Int32 := if x_th X p = true then (if k = 0 then nI (x_pl X p) else if k = 1 then nI (x_ki X p) else if k = 2 then nI (bitsN (x_kn X p) 8) else -2) else -2
def tbR (X : XT) (b k : Nat) : Int32 := if x_br X b = true then (if k = 0 then nI (x_ld X b) else if k = 1 then nI (x_lo X b) else if k = 2 then nI (x_hi X b) else -2) else -2
def twR (X : XT) (n v : Nat) : Int32 := if v = 0 then nI n else if v = 1 then nI (x_sz X) else if v = 2 then nI (bitsN (x_br X) 8) else if v = 3 then nI (bitsN (x_th X) 6) else if v = 4 then nI (x_fa X) else if v = 5 then nI (x_sg X) else nI (bitsN (x_pu X) 8)
def toldR (X : XT) (n : Nat) (x : Int32) : Int32 := if inN 1000 6999 x then tpR X (x.toInt.toNat / 1000 - 1) (x.toInt.toNat % 1000) else if inN 100 899 x then tbR X (x.toInt.toNat / 100 - 1) (x.toInt.toNat % 100) else if inN 10 17 x then zI (x_wt X (x.toInt.toNat - 10) + 1000) else if inN 20 27 x then nI (x_ab X (x.toInt.toNat - 20)) else if inN 0 6 x then twR X n x.toInt.toNat else -2
theorem tn_n {v : Nat} (h : v < 2 ^ 31) : (nI v).toInt.toNat = v := by rw [nI_toInt h]; rfl
theorem inN_no {a b p : Nat} (hp : p < 2 ^ 31) (h : p < a ∨ b < p) : inN a b (nI p) = false := by unfold inN inI; rw [nI_toInt hp]; simp; omega
theorem inN_ex {a b : Nat} {x : Int32} (h : inN a b x = true) : ∃ p, a ≤ p ∧ p ≤ b ∧ x = nI p := by
  unfold inN inI at h
  simp only [decide_eq_true_eq] at h
  have h2 := fb_rng x
  refine ⟨x.toInt.toNat, by omega, by omega, ?_⟩
  rw [fa_eq, nI_toInt (by omega)]
  omega
theorem inN_out {a b : Nat} {x : Int32} (h : inN a b x = false) : x.toInt < (a : Int) ∨ (b : Int) < x.toInt := by
  unfold inN inI at h
  simp only [decide_eq_false_iff_not] at h
  omega
set_option maxHeartbeats 4000000 in
set_option maxRecDepth 20000 in
theorem c_X5_toldOfBridge {l : Launch} {D : gE} {L : Nat → Nat} {σ : St} {Q : Option Value → va_W → Prop} {d : Nat} {X : XT} (hX : rpM σ X) (ho : okX X) {p k : Nat} (hp : p < 8) (hk : k < 2 ^ 31) (h : Q (some (.int (tbR X p k))) (wsOf D L σ)) : Ctr l D yX5_toldOfBridge cX5_toldOfBridge 3 (some .int) (rr (d + 2)) [.ref (L 33), .int (nI p), .int (nI k)] (wsOf D L σ) Q := by
  refine g_start ky_X5_toldOfBridge (Nat.le_of_ble_eq_true rfl) ?_
  refine g_pick [0, 1, 2] (lv' := [(0, .ref (L 33)), (1, .int (nI p)), (2, .int (nI k))]) rfl ?_
  refine g_aload_n dX5_toldOfBridge_0 rfl 0 rfl ?_
  refine g_iload_n dX5_toldOfBridge_1 rfl 1 rfl ?_
  refine g_callV (As := [.int (nI p)]) km_X5_140 ky_X5_isBridge ki_X5_isBridge (by decide) 33 at_33 rfl rfl (Nat.le_of_ble_eq_true rfl) dX5_toldOfBridge_2 rfl (c_X5_isBridgeN hX (by omega) (fun h2 => ?_) (fun h2 => ?_))
  · refine t_ifne1 11 dX5_toldOfBridge_5 (by decide) ?_
    refine g_iload_n dX5_toldOfBridge_11 rfl 2 rfl ?_
    refine n_ifne 24 dX5_toldOfBridge_12 (by decide) (by omega) (fun h12 => ?_) (fun h12 => ?_)
    · refine g_iload_n dX5_toldOfBridge_24 rfl 2 rfl ?_
      refine g_iconst dX5_toldOfBridge_25 ci_1 ?_
      refine n_icmpne 38 dX5_toldOfBridge_26 (by decide) (by omega) (by omega) (fun h26 => ?_) (fun h26 => ?_)
      · refine g_iload_n dX5_toldOfBridge_38 rfl 2 rfl ?_
        refine g_iconst dX5_toldOfBridge_39 ci_2 ?_
        refine n_icmpne 52 dX5_toldOfBridge_40 (by decide) (by omega) (by omega) (fun h40 => ?_) (fun h40 => ?_)
        · refine g_bipush dX5_toldOfBridge_52 bp_m2 ?_
          exact g_ireturn dX5_toldOfBridge_54 (Nat.le_refl _) (Nat.le_refl _) (qi (by unfold tbR; rw [h2, if_pos rfl, if_neg h12, if_neg h26, if_neg h40]) h)
        · refine g_aload_n dX5_toldOfBridge_43 rfl 0 rfl ?_
          refine s_getM kf_X5_13 (by decide) rfl dX5_toldOfBridge_44 ?_
          refine g_iload_n dX5_toldOfBridge_47 rfl 1 rfl ?_
          refine s_ald (q := 35) (n := 8) (at_ia (q := 35) rfl) (by omega) (by decide) dX5_toldOfBridge_48 ?_
          refine g_tope (z := nI (x_hi X p)) (rpM_hi hX (by omega)) ?_
          refine g_goto 54 dX5_toldOfBridge_49 (by decide) ?_
          exact g_ireturn dX5_toldOfBridge_54 (Nat.le_refl _) (Nat.le_refl _) (qi (by unfold tbR; rw [h2, if_pos rfl, if_neg h12, if_neg h26, if_pos h40]) h)
      · refine g_aload_n dX5_toldOfBridge_29 rfl 0 rfl ?_
        refine s_getM kf_X5_7 (by decide) rfl dX5_toldOfBridge_30 ?_
        refine g_iload_n dX5_toldOfBridge_33 rfl 1 rfl ?_
        refine s_ald (q := 34) (n := 8) (at_ia (q := 34) rfl) (by omega) (by decide) dX5_toldOfBridge_34 ?_
        refine g_tope (z := nI (x_lo X p)) (rpM_lo hX (by omega)) ?_
        refine g_goto 54 dX5_toldOfBridge_35 (by decide) ?_
        exact g_ireturn dX5_toldOfBridge_54 (Nat.le_refl _) (Nat.le_refl _) (qi (by unfold tbR; rw [h2, if_pos rfl, if_neg h12, if_pos h26]) h)
    · refine g_aload_n dX5_toldOfBridge_15 rfl 0 rfl ?_
      refine s_getM kf_X5_16 (by decide) rfl dX5_toldOfBridge_16 ?_
      refine g_iload_n dX5_toldOfBridge_19 rfl 1 rfl ?_
      refine s_ald (q := 36) (n := 8) (at_ia (q := 36) rfl) (by omega) (by decide) dX5_toldOfBridge_20 ?_
      refine g_tope (z := nI (x_ld X p)) (rpM_ld hX (by omega)) ?_
      refine g_goto 54 dX5_toldOfBridge_21 (by decide) ?_
      exact g_ireturn dX5_toldOfBridge_54 (Nat.le_refl _) (Nat.le_refl _) (qi (by unfold tbR; rw [h2, if_pos rfl, if_pos h12]) h)
  · refine t_ifne0 (tgt := 11) dX5_toldOfBridge_5 (by decide) ?_
    refine g_bipush dX5_toldOfBridge_8 bp_m2 ?_
    exact g_ireturn dX5_toldOfBridge_10 (Nat.le_refl _) (Nat.le_refl _) (qi (by unfold tbR; rw [h2, if_neg (by decide)]) h)
set_option maxHeartbeats 4000000 in
set_option maxRecDepth 20000 in
theorem c_X5_toldOfPerson {l : Launch} {D : gE} {L : Nat → Nat} {σ : St} {Q : Option Value → va_W → Prop} {d : Nat} {X : XT} (hX : rpM σ X) (ho : okX X) {p k : Nat} (hp : p < 6) (hk : k < 2 ^ 31) (h : Q (some (.int (tpR X p k))) (wsOf D L σ)) : Ctr l D yX5_toldOfPerson cX5_toldOfPerson 3 (some .int) (rr (d + 2)) [.ref (L 33), .int (nI p), .int (nI k)] (wsOf D L σ) Q := by
  refine g_start ky_X5_toldOfPerson (Nat.le_of_ble_eq_true rfl) ?_
  refine g_pick [0, 1, 2] (lv' := [(0, .ref (L 33)), (1, .int (nI p)), (2, .int (nI k))]) rfl ?_
  refine g_aload_n dX5_toldOfPerson_0 rfl 0 rfl ?_
  refine g_iload_n dX5_toldOfPerson_1 rfl 1 rfl ?_
  refine g_callV (As := [.int (nI p)]) km_X5_143 ky_X5_isThere ki_X5_isThere (by decide) 33 at_33 rfl rfl (Nat.le_of_ble_eq_true rfl) dX5_toldOfPerson_2 rfl (c_X5_isThereN hX (by omega) (fun h2 => ?_) (fun h2 => ?_))
  · refine t_ifne1 11 dX5_toldOfPerson_5 (by decide) ?_
    refine g_iload_n dX5_toldOfPerson_11 rfl 2 rfl ?_
    refine n_ifne 24 dX5_toldOfPerson_12 (by decide) (by omega) (fun h12 => ?_) (fun h12 => ?_)
    · refine g_iload_n dX5_toldOfPerson_24 rfl 2 rfl ?_
      refine g_iconst dX5_toldOfPerson_25 ci_1 ?_
      refine n_icmpne 38 dX5_toldOfPerson_26 (by decide) (by omega) (by omega) (fun h26 => ?_) (fun h26 => ?_)
      · refine g_iload_n dX5_toldOfPerson_38 rfl 2 rfl ?_
        refine g_iconst dX5_toldOfPerson_39 ci_2 ?_
        refine n_icmpne 52 dX5_toldOfPerson_40 (by decide) (by omega) (by omega) (fun h40 => ?_) (fun h40 => ?_)
        · refine g_bipush dX5_toldOfPerson_52 bp_m2 ?_
          exact g_ireturn dX5_toldOfPerson_54 (Nat.le_refl _) (Nat.le_refl _) (qi (by unfold tpR; rw [h2, if_pos rfl, if_neg h12, if_neg h26, if_neg h40]) h)
        · refine g_aload_n dX5_toldOfPerson_43 rfl 0 rfl ?_
          refine s_getM kf_X5_28 (by decide) rfl dX5_toldOfPerson_44 ?_
          refine g_iload_n dX5_toldOfPerson_47 rfl 1 rfl ?_
          refine s_ald (q := 40) (n := 6) (at_ia (q := 40) rfl) (by omega) (by decide) dX5_toldOfPerson_48 ?_
          refine g_tope (z := nI (bitsN (x_kn X p) 8)) (rpM_kn hX (by omega) (by assumption)) ?_
          refine g_goto 54 dX5_toldOfPerson_49 (by decide) ?_
          exact g_ireturn dX5_toldOfPerson_54 (Nat.le_refl _) (Nat.le_refl _) (qi (by unfold tpR; rw [h2, if_pos rfl, if_neg h12, if_neg h26, if_pos h40]) h)
      · refine g_aload_n dX5_toldOfPerson_29 rfl 0 rfl ?_
        refine s_getM kf_X5_25 (by decide) rfl dX5_toldOfPerson_30 ?_
        refine g_iload_n dX5_toldOfPerson_33 rfl 1 rfl ?_
        refine s_ald (q := 39) (n := 6) (at_ia (q := 39) rfl) (by omega) (by decide) dX5_toldOfPerson_34 ?_
        refine g_tope (z := nI (x_ki X p)) (rpM_ki hX (by omega)) ?_
        refine g_goto 54 dX5_toldOfPerson_35 (by decide) ?_
        exact g_ireturn dX5_toldOfPerson_54 (Nat.le_refl _) (Nat.le_refl _) (qi (by unfold tpR; rw [h2, if_pos rfl, if_neg h12, if_pos h26]) h)
    · refine g_aload_n dX5_toldOfPerson_15 rfl 0 rfl ?_
      refine s_getM kf_X5_22 (by decide) rfl dX5_toldOfPerson_16 ?_
      refine g_iload_n dX5_toldOfPerson_19 rfl 1 rfl ?_
      refine s_ald (q := 38) (n := 6) (at_ia (q := 38) rfl) (by omega) (by decide) dX5_toldOfPerson_20 ?_
      refine g_tope (z := nI (x_pl X p)) (rpM_pl hX (by omega)) ?_
      refine g_goto 54 dX5_toldOfPerson_21 (by decide) ?_
      exact g_ireturn dX5_toldOfPerson_54 (Nat.le_refl _) (Nat.le_refl _) (qi (by unfold tpR; rw [h2, if_pos rfl, if_pos h12]) h)
  · refine t_ifne0 (tgt := 11) dX5_toldOfPerson_5 (by decide) ?_
    refine g_bipush dX5_toldOfPerson_8 bp_m2 ?_
    exact g_ireturn dX5_toldOfPerson_10 (Nat.le_refl _) (Nat.le_refl _) (qi (by unfold tpR; rw [h2, if_neg (by decide)]) h)
set_option maxHeartbeats 4000000 in
set_option maxRecDepth 20000 in
theorem c_X5_told {l : Launch} {D : gE} {L : Nat → Nat} {σ : St} {Q : Option Value → va_W → Prop} {d : Nat} {X : XT} (hX : rpM σ X) (ho : okX X) {n : Nat} (hpad : sI σ 33 18 = nI n) {x : Int32} (h : ∀ σ', fr σ σ' → rpM σ' X → Q (some (.int (toldR X n x))) (wsOf D L σ')) : Ctr l D yX5_told cX5_told 2 (some .int) (rr (d + 3)) [.ref (L 33), .int x] (wsOf D L σ) Q := by
  refine g_start ky_X5_told (Nat.le_of_ble_eq_true rfl) ?_
  refine g_pick [0, 1] (lv' := [(0, .ref (L 33)), (1, .int x)]) rfl ?_
  refine g_iload_n dX5_told_0 rfl 1 rfl ?_
  refine g_i2l dX5_told_1 ?_
  refine g_ldc2_w kk_X5_373 dX5_told_2 ?_
  refine g_tople (z := (nI 1000).toInt64) (by decide +kernel) ?_
  refine g_ldc2_w kk_X5_375 dX5_told_5 ?_
  refine g_tople (z := (nI 6999).toInt64) (by decide +kernel) ?_
  refine g_callS (As := [.long x.toInt64, .long ((nI 1000).toInt64), .long ((nI 6999).toInt64)]) km_X5_118 ky_X5_in ks_X5_in (by decide) rfl (Nat.le_of_ble_eq_true rfl) dX5_told_8 rfl (c_X5_inN (by omega) (by omega) (fun p8 ha8 hb8 he8 => ?_) (fun h8 => ?_))
  · subst he8
    refine t_ifeq1 (tgt := 31) dX5_told_11 (by decide) ?_
    refine g_aload_n dX5_told_14 rfl 0 rfl ?_
    refine g_iload_n dX5_told_15 rfl 1 rfl ?_
    refine g_sipush dX5_told_16 sp_1000 ?_
    refine g_idiv dX5_told_19 (by decide +kernel) ?_
    refine g_tope (z := nI (p8 / 1000)) (pk_div (by omega) (by omega) (by omega)) ?_
    refine g_iconst dX5_told_20 ci_1 ?_
    refine g_isub dX5_told_21 ?_
    refine g_tope (z := nI ((p8 / 1000) - 1)) (pk_sub (by omega)) ?_
    refine g_iload_n dX5_told_22 rfl 1 rfl ?_
    refine g_sipush dX5_told_23 sp_1000 ?_
    refine g_irem dX5_told_26 (by decide +kernel) ?_
    refine g_tope (z := nI (p8 % 1000)) (pk_rem (by omega) (by omega) (by omega)) ?_
    refine g_callV (As := [.int (nI ((p8 / 1000) - 1)), .int (nI (p8 % 1000))]) km_X5_377 ky_X5_toldOfPerson ki_X5_toldOfPerson (by decide) 33 at_33 rfl rfl (Nat.le_of_ble_eq_true rfl) dX5_told_27 rfl (c_X5_toldOfPerson hX ho (by omega) (by omega) ?_)
    exact g_ireturn dX5_told_30 (Nat.le_refl _) (Nat.le_refl _) (qi (by unfold toldR; rw [inN_t (a := 1000) (b := 6999) (by omega) (by omega) (by omega), if_pos rfl, tn_n (by omega)]) (h _ fr_rfl hX))
  · refine t_ifeq0 31 dX5_told_11 (by decide) ?_
    refine g_iload_n dX5_told_31 rfl 1 rfl ?_
    refine g_i2l dX5_told_32 ?_
    refine g_ldc2_w kk_X5_380 dX5_told_33 ?_
    refine g_tople (z := (nI 100).toInt64) (by decide +kernel) ?_
    refine g_ldc2_w kk_X5_382 dX5_told_36 ?_
    refine g_tople (z := (nI 899).toInt64) (by decide +kernel) ?_
    refine g_callS (As := [.long x.toInt64, .long ((nI 100).toInt64), .long ((nI 899).toInt64)]) km_X5_118 ky_X5_in ks_X5_in (by decide) rfl (Nat.le_of_ble_eq_true rfl) dX5_told_39 rfl (c_X5_inN (by omega) (by omega) (fun p39 ha39 hb39 he39 => ?_) (fun h39 => ?_))
    · subst he39
      refine t_ifeq1 (tgt := 60) dX5_told_42 (by decide) ?_
      refine g_aload_n dX5_told_45 rfl 0 rfl ?_
      refine g_iload_n dX5_told_46 rfl 1 rfl ?_
      refine g_bipush dX5_told_47 bp_100 ?_
      refine g_idiv dX5_told_49 (by decide +kernel) ?_
      refine g_tope (z := nI (p39 / 100)) (pk_div (by omega) (by omega) (by omega)) ?_
      refine g_iconst dX5_told_50 ci_1 ?_
      refine g_isub dX5_told_51 ?_
      refine g_tope (z := nI ((p39 / 100) - 1)) (pk_sub (by omega)) ?_
      refine g_iload_n dX5_told_52 rfl 1 rfl ?_
      refine g_bipush dX5_told_53 bp_100 ?_
      refine g_irem dX5_told_55 (by decide +kernel) ?_
      refine g_tope (z := nI (p39 % 100)) (pk_rem (by omega) (by omega) (by omega)) ?_
      refine g_callV (As := [.int (nI ((p39 / 100) - 1)), .int (nI (p39 % 100))]) km_X5_384 ky_X5_toldOfBridge ki_X5_toldOfBridge (by decide) 33 at_33 rfl rfl (Nat.le_of_ble_eq_true rfl) dX5_told_56 rfl (c_X5_toldOfBridge hX ho (by omega) (by omega) ?_)
      exact g_ireturn dX5_told_59 (Nat.le_refl _) (Nat.le_refl _) (qi (by unfold toldR; rw [inN_no (by omega) (by omega), if_neg (by decide), inN_t (a := 100) (b := 899) (by omega) (by omega) (by omega), if_pos rfl, tn_n (by omega)]) (h _ fr_rfl hX))
    · refine t_ifeq0 60 dX5_told_42 (by decide) ?_
      refine g_iload_n dX5_told_60 rfl 1 rfl ?_
      refine g_i2l dX5_told_61 ?_
      refine g_ldc2_w kk_X5_344 dX5_told_62 ?_
      refine g_tople (z := (nI 10).toInt64) (by decide +kernel) ?_
      refine g_ldc2_w kk_X5_387 dX5_told_65 ?_
      refine g_tople (z := (nI 17).toInt64) (by decide +kernel) ?_
      refine g_callS (As := [.long x.toInt64, .long ((nI 10).toInt64), .long ((nI 17).toInt64)]) km_X5_118 ky_X5_in ks_X5_in (by decide) rfl (Nat.le_of_ble_eq_true rfl) dX5_told_68 rfl (c_X5_inN (by omega) (by omega) (fun p68 ha68 hb68 he68 => ?_) (fun h68 => ?_))
      · subst he68
        refine t_ifne1 88 dX5_told_71 (by decide) ?_
        refine g_iload_n dX5_told_88 rfl 1 rfl ?_
        refine g_bipush dX5_told_89 bp_20 ?_
        refine n_icmpge 110 dX5_told_91 (by decide) (by omega) (by omega) (fun h91 => absurd h91 (by omega)) (fun h91 => ?_)
        refine g_aload_n dX5_told_94 rfl 0 rfl ?_
        refine s_getM kf_X5_31 (by decide) rfl dX5_told_95 ?_
        refine g_iload_n dX5_told_98 rfl 1 rfl ?_
        refine g_bipush dX5_told_99 bp_10 ?_
        refine g_isub dX5_told_101 ?_
        refine g_tope (z := nI (p68 - 10)) (pk_sub (by omega)) ?_
        refine s_ald (q := 41) (n := 8) (at_ia (q := 41) rfl) (by omega) (by decide) dX5_told_102 ?_
        refine g_tope (z := zI (x_wt X (p68 - 10))) (rpM_wt hX (by omega)) ?_
        refine g_sipush dX5_told_103 sp_1000 ?_
        refine g_iadd dX5_told_106 ?_
        refine g_tope (z := zI (x_wt X (p68 - 10) + 1000)) (by rw [show nI 1000 = zI 1000 from by decide +kernel]; exact zI_add _ _) ?_
        refine g_goto 119 dX5_told_107 (by decide) ?_
        exact g_ireturn dX5_told_119 (Nat.le_refl _) (Nat.le_refl _) (qi (by unfold toldR; rw [inN_no (a := 1000) (b := 6999) (by omega) (by omega), if_neg (by decide), inN_no (a := 100) (b := 899) (by omega) (by omega), if_neg (by decide), inN_t (a := 10) (b := 17) (by omega) (by omega) (by omega), if_pos rfl, tn_n (by omega)]) (h _ fr_rfl hX))
      · refine t_ifne0 (tgt := 88) dX5_told_71 (by decide) ?_
        refine g_iload_n dX5_told_74 rfl 1 rfl ?_
        refine g_i2l dX5_told_75 ?_
        refine g_ldc2_w kk_X5_389 dX5_told_76 ?_
        refine g_tople (z := (nI 20).toInt64) (by decide +kernel) ?_
        refine g_ldc2_w kk_X5_391 dX5_told_79 ?_
        refine g_tople (z := (nI 27).toInt64) (by decide +kernel) ?_
        refine g_callS (As := [.long x.toInt64, .long ((nI 20).toInt64), .long ((nI 27).toInt64)]) km_X5_118 ky_X5_in ks_X5_in (by decide) rfl (Nat.le_of_ble_eq_true rfl) dX5_told_82 rfl (c_X5_inN (by omega) (by omega) (fun p82 ha82 hb82 he82 => ?_) (fun h82 => ?_))
        · subst he82
          refine t_ifeq1 (tgt := 120) dX5_told_85 (by decide) ?_
          refine g_iload_n dX5_told_88 rfl 1 rfl ?_
          refine g_bipush dX5_told_89 bp_20 ?_
          refine n_icmpge 110 dX5_told_91 (by decide) (by omega) (by omega) (fun h91 => ?_) (fun h91 => absurd h91 (by omega))
          refine g_aload_n dX5_told_110 rfl 0 rfl ?_
          refine s_getM kf_X5_34 (by decide) rfl dX5_told_111 ?_
          refine g_iload_n dX5_told_114 rfl 1 rfl ?_
          refine g_bipush dX5_told_115 bp_20 ?_
          refine g_isub dX5_told_117 ?_
          refine g_tope (z := nI (p82 - 20)) (pk_sub (by omega)) ?_
          refine s_ald (q := 42) (n := 8) (at_ia (q := 42) rfl) (by omega) (by decide) dX5_told_118 ?_
          refine g_tope (z := nI (x_ab X (p82 - 20))) (rpM_ab hX (by omega)) ?_
          exact g_ireturn dX5_told_119 (Nat.le_refl _) (Nat.le_refl _) (qi (by unfold toldR; rw [inN_no (a := 1000) (b := 6999) (by omega) (by omega), if_neg (by decide), inN_no (a := 100) (b := 899) (by omega) (by omega), if_neg (by decide), inN_no (a := 10) (b := 17) (by omega) (by omega), if_neg (by decide), inN_t (a := 20) (b := 27) (by omega) (by omega) (by omega), if_pos rfl, tn_n (by omega)]) (h _ fr_rfl hX))
        · refine t_ifeq0 120 dX5_told_85 (by decide) ?_
          refine g_iload_n dX5_told_120 rfl 1 rfl ?_
          by_cases hsw : inN 0 6 x = true
          · obtain ⟨v, -, hv, rfl⟩ := inN_ex hsw
            rcases (show v = 0 ∨ v = 1 ∨ v = 2 ∨ v = 3 ∨ v = 4 ∨ v = 5 ∨ v = 6 by omega) with rfl | rfl | rfl | rfl | rfl | rfl | rfl
            · refine g_tableIn 164 dX5_told_121 (by decide +kernel) (by decide +kernel) (by rfl) (by decide) ?_
              refine g_aload_n dX5_told_164 rfl 0 rfl ?_
              refine s_getM kf_X5_159 (by decide) rfl dX5_told_165 ?_
              refine g_tope (z := nI n) (hpad) ?_
              exact g_ireturn dX5_told_168 (Nat.le_refl _) (Nat.le_refl _) (qi (by unfold toldR; rw [inN_no (a := 1000) (b := 6999) (by omega) (by omega), if_neg (by decide), inN_no (a := 100) (b := 899) (by omega) (by omega), if_neg (by decide), inN_no (a := 10) (b := 17) (by omega) (by omega), if_neg (by decide), inN_no (a := 20) (b := 27) (by omega) (by omega), if_neg (by decide), inN_t (a := 0) (b := 6) (by omega) (by omega) (by omega), if_pos rfl, tn_n (by omega)]; rfl) (h _ fr_rfl hX))
            · refine g_tableIn 169 dX5_told_121 (by decide +kernel) (by decide +kernel) (by rfl) (by decide) ?_
              refine g_aload_n dX5_told_169 rfl 0 rfl ?_
              refine s_getM kf_X5_103 (by decide) rfl dX5_told_170 ?_
              refine g_tope (z := nI (x_sz X)) (rpM_sz hX) ?_
              exact g_ireturn dX5_told_173 (Nat.le_refl _) (Nat.le_refl _) (qi (by unfold toldR; rw [inN_no (a := 1000) (b := 6999) (by omega) (by omega), if_neg (by decide), inN_no (a := 100) (b := 899) (by omega) (by omega), if_neg (by decide), inN_no (a := 10) (b := 17) (by omega) (by omega), if_neg (by decide), inN_no (a := 20) (b := 27) (by omega) (by omega), if_neg (by decide), inN_t (a := 0) (b := 6) (by omega) (by omega) (by omega), if_pos rfl, tn_n (by omega)]; rfl) (h _ fr_rfl hX))
            · refine g_tableIn 174 dX5_told_121 (by decide +kernel) (by decide +kernel) (by rfl) (by decide) ?_
              refine g_aload_n dX5_told_174 rfl 0 rfl ?_
              refine s_getM kf_X5_106 (by decide) rfl dX5_told_175 ?_
              refine g_tope (z := nI (bitsN (x_br X) 8)) (rpM_br hX) ?_
              exact g_ireturn dX5_told_178 (Nat.le_refl _) (Nat.le_refl _) (qi (by unfold toldR; rw [inN_no (a := 1000) (b := 6999) (by omega) (by omega), if_neg (by decide), inN_no (a := 100) (b := 899) (by omega) (by omega), if_neg (by decide), inN_no (a := 10) (b := 17) (by omega) (by omega), if_neg (by decide), inN_no (a := 20) (b := 27) (by omega) (by omega), if_neg (by decide), inN_t (a := 0) (b := 6) (by omega) (by omega) (by omega), if_pos rfl, tn_n (by omega)]; rfl) (h _ fr_rfl hX))
            · refine g_tableIn 179 dX5_told_121 (by decide +kernel) (by decide +kernel) (by rfl) (by decide) ?_
              refine g_aload_n dX5_told_179 rfl 0 rfl ?_
              refine s_getM kf_X5_109 (by decide) rfl dX5_told_180 ?_
              refine g_tope (z := nI (bitsN (x_th X) 6)) (rpM_th hX) ?_
              exact g_ireturn dX5_told_183 (Nat.le_refl _) (Nat.le_refl _) (qi (by unfold toldR; rw [inN_no (a := 1000) (b := 6999) (by omega) (by omega), if_neg (by decide), inN_no (a := 100) (b := 899) (by omega) (by omega), if_neg (by decide), inN_no (a := 10) (b := 17) (by omega) (by omega), if_neg (by decide), inN_no (a := 20) (b := 27) (by omega) (by omega), if_neg (by decide), inN_t (a := 0) (b := 6) (by omega) (by omega) (by omega), if_pos rfl, tn_n (by omega)]; rfl) (h _ fr_rfl hX))
            · refine g_tableIn 184 dX5_told_121 (by decide +kernel) (by decide +kernel) (by rfl) (by decide) ?_
              refine g_aload_n dX5_told_184 rfl 0 rfl ?_
              refine s_getM kf_X5_95 (by decide) rfl dX5_told_185 ?_
              refine g_tope (z := nI (x_fa X)) (rpM_fa hX) ?_
              exact g_ireturn dX5_told_188 (Nat.le_refl _) (Nat.le_refl _) (qi (by unfold toldR; rw [inN_no (a := 1000) (b := 6999) (by omega) (by omega), if_neg (by decide), inN_no (a := 100) (b := 899) (by omega) (by omega), if_neg (by decide), inN_no (a := 10) (b := 17) (by omega) (by omega), if_neg (by decide), inN_no (a := 20) (b := 27) (by omega) (by omega), if_neg (by decide), inN_t (a := 0) (b := 6) (by omega) (by omega) (by omega), if_pos rfl, tn_n (by omega)]; rfl) (h _ fr_rfl hX))
            · refine g_tableIn 189 dX5_told_121 (by decide +kernel) (by decide +kernel) (by rfl) (by decide) ?_
              refine g_aload_n dX5_told_189 rfl 0 rfl ?_
              refine s_getM kf_X5_115 (by decide) rfl dX5_told_190 ?_
              refine g_tope (z := nI (x_sg X)) (rpM_sg hX) ?_
              exact g_ireturn dX5_told_193 (Nat.le_refl _) (Nat.le_refl _) (qi (by unfold toldR; rw [inN_no (a := 1000) (b := 6999) (by omega) (by omega), if_neg (by decide), inN_no (a := 100) (b := 899) (by omega) (by omega), if_neg (by decide), inN_no (a := 10) (b := 17) (by omega) (by omega), if_neg (by decide), inN_no (a := 20) (b := 27) (by omega) (by omega), if_neg (by decide), inN_t (a := 0) (b := 6) (by omega) (by omega) (by omega), if_pos rfl, tn_n (by omega)]; rfl) (h _ fr_rfl hX))
            · refine g_tableIn 194 dX5_told_121 (by decide +kernel) (by decide +kernel) (by rfl) (by decide) ?_
              refine g_aload_n dX5_told_194 rfl 0 rfl ?_
              refine s_getM kf_X5_112 (by decide) rfl dX5_told_195 ?_
              refine g_tope (z := nI (bitsN (x_pu X) 8)) (rpM_pu hX) ?_
              exact g_ireturn dX5_told_198 (Nat.le_refl _) (Nat.le_refl _) (qi (by unfold toldR; rw [inN_no (a := 1000) (b := 6999) (by omega) (by omega), if_neg (by decide), inN_no (a := 100) (b := 899) (by omega) (by omega), if_neg (by decide), inN_no (a := 10) (b := 17) (by omega) (by omega), if_neg (by decide), inN_no (a := 20) (b := 27) (by omega) (by omega), if_neg (by decide), inN_t (a := 0) (b := 6) (by omega) (by omega) (by omega), if_pos rfl, tn_n (by omega)]; rfl) (h _ fr_rfl hX))
          · have hsw : inN 0 6 x = false := by cases e : inN 0 6 x; rfl; exact absurd e hsw
            refine g_tableOut 199 dX5_told_121 (inN_out hsw) (by decide) ?_
            refine g_bipush dX5_told_199 bp_m2 ?_
            exact g_ireturn dX5_told_201 (Nat.le_refl _) (Nat.le_refl _) (qi (by unfold toldR; rw [inN_f (a := 1000) (b := 6999) (by omega) h8, if_neg (by decide), inN_f (a := 100) (b := 899) (by omega) h39, if_neg (by decide), inN_f (a := 10) (b := 17) (by omega) h68, if_neg (by decide), inN_f (a := 20) (b := 27) (by omega) h82, if_neg (by decide), hsw, if_neg (by decide)]) (h _ fr_rfl hX))
