/-! told, left, cried, floated, mended of the class -/
theorem ge_nat {x : Int32} {k : Nat} (hk : k < 2 ^ 31) (h : ¬ x < nI k) : ∃ j, j < 2 ^ 31 ∧ k ≤ j ∧ x = nI j := by
  rw [fa_lt, nI_toInt hk] at h
  have h0 : (0 : Int32).toInt = 0 := by decide +kernel
  obtain ⟨j, hj, rfl⟩ := nI_of (x := x) (fun q => by rw [fa_lt, h0] at q; omega)
  rw [nI_toInt hj] at h
  exact ⟨j, hj, by omega, rfl⟩
set_option maxHeartbeats 4000000 in
set_option maxRecDepth 20000 in
theorem c_X4_tellBridge {l : Launch} {D : gE} {L : Nat → Nat} {σ : St} {Q : Option Value → va_W → Prop} {d : Nat} {X : XT} (hX : rzT σ 0 X) (ho : okX X) {p k : Nat} (hp : p < 2 ^ 31) (hk : k < 2 ^ 31) (h : Q (some (.int (if p < 8 then tbR X p k else -2))) (wsOf D L σ)) : Ctr l D yX4_tellBridge cX4_tellBridge 3 (some .int) (rr (d + 2)) [.ref (L 24), .int (nI p), .int (nI k)] (wsOf D L σ) Q := by
  refine g_start ky_X4_tellBridge (Nat.le_of_ble_eq_true rfl) ?_
  refine g_pick [0, 1, 2] (lv' := [(0, .ref (L 24)), (1, .int (nI p)), (2, .int (nI k))]) rfl ?_
  refine g_aload_n dX4_tellBridge_0 rfl 0 rfl ?_
  refine g_get kf_X4_10 kC_X4 (by decide) 24 at_24 rfl dX4_tellBridge_1 ?_
  refine g_iload_n dX4_tellBridge_4 rfl 1 rfl ?_
  refine g_callV (As := [.int (nI p)]) km_X4_91 ky_X3_hasBridge ki_X3_hasBridge (by decide) 0 (at_tn (Or.inl rfl)) rfl rfl (Nat.le_of_ble_eq_true rfl) dX4_tellBridge_5 rfl (c_X3_hasBridge (Or.inl rfl) hX ho (fun q5 hq5 he5 h5 => ?_) (fun h5 => ?_))
  · obtain rfl : p = q5 := (nI_eq (by omega) (by omega)).mp he5
    refine t_ifne1 14 dX4_tellBridge_8 (by decide) ?_
    refine g_iload_n dX4_tellBridge_14 rfl 2 rfl ?_
    rcases (show k = 0 ∨ k = 1 ∨ k = 2 ∨ 2 < k by omega) with rfl | rfl | rfl | hk2
    · refine g_tableIn 40 dX4_tellBridge_15 (by decide +kernel) (by decide +kernel) (by rfl) (by decide) ?_
      refine g_aload_n dX4_tellBridge_40 rfl 0 rfl ?_
      refine g_get kf_X4_10 kC_X4 (by decide) 24 at_24 rfl dX4_tellBridge_41 ?_
      refine s_getT (b := 0) (Or.inl rfl) kf_X4_79 (by decide) rfl dX4_tellBridge_44 ?_
      refine g_iload_n dX4_tellBridge_47 rfl 1 rfl ?_
      refine s_ald (q := 3) (n := 8) (at_ia (q := 3) rfl) (by omega) (by decide) dX4_tellBridge_48 ?_
      refine g_tope (z := nI (x_ld X p)) (rpT_ld hX.1 (by omega)) ?_
      exact g_ireturn dX4_tellBridge_49 (Nat.le_refl _) (Nat.le_refl _) (qi (by rw [if_pos hq5]; unfold tbR; rw [h5, if_pos rfl]; rfl) h)
    · refine g_tableIn 50 dX4_tellBridge_15 (by decide +kernel) (by decide +kernel) (by rfl) (by decide) ?_
      refine g_aload_n dX4_tellBridge_50 rfl 0 rfl ?_
      refine g_get kf_X4_10 kC_X4 (by decide) 24 at_24 rfl dX4_tellBridge_51 ?_
      refine s_getT (b := 0) (Or.inl rfl) kf_X4_63 (by decide) rfl dX4_tellBridge_54 ?_
      refine g_iload_n dX4_tellBridge_57 rfl 1 rfl ?_
      refine s_ald (q := 1) (n := 8) (at_ia (q := 1) rfl) (by omega) (by decide) dX4_tellBridge_58 ?_
      refine g_tope (z := nI (x_lo X p)) (rpT_lo hX.1 (by omega)) ?_
      exact g_ireturn dX4_tellBridge_59 (Nat.le_refl _) (Nat.le_refl _) (qi (by rw [if_pos hq5]; unfold tbR; rw [h5, if_pos rfl]; rfl) h)
    · refine g_tableIn 60 dX4_tellBridge_15 (by decide +kernel) (by decide +kernel) (by rfl) (by decide) ?_
      refine g_aload_n dX4_tellBridge_60 rfl 0 rfl ?_
      refine g_get kf_X4_10 kC_X4 (by decide) 24 at_24 rfl dX4_tellBridge_61 ?_
      refine s_getT (b := 0) (Or.inl rfl) kf_X4_73 (by decide) rfl dX4_tellBridge_64 ?_
      refine g_iload_n dX4_tellBridge_67 rfl 1 rfl ?_
      refine s_ald (q := 2) (n := 8) (at_ia (q := 2) rfl) (by omega) (by decide) dX4_tellBridge_68 ?_
      refine g_tope (z := nI (x_hi X p)) (rpT_hi hX.1 (by omega)) ?_
      exact g_ireturn dX4_tellBridge_69 (Nat.le_refl _) (Nat.le_refl _) (qi (by rw [if_pos hq5]; unfold tbR; rw [h5, if_pos rfl]; rfl) h)
    · refine g_tableOut 70 dX4_tellBridge_15 (Or.inr (by rw [nI_toInt (by omega)]; omega)) (by decide) ?_
      refine g_bipush dX4_tellBridge_70 bp_m2 ?_
      exact g_ireturn dX4_tellBridge_72 (Nat.le_refl _) (Nat.le_refl _) (qi (by rw [if_pos hq5]; unfold tbR; rw [h5, if_pos rfl, if_neg (by omega), if_neg (by omega), if_neg (by omega)]) h)
  · refine t_ifne0 (tgt := 14) dX4_tellBridge_8 (by decide) ?_
    refine g_bipush dX4_tellBridge_11 bp_m2 ?_
    exact g_ireturn dX4_tellBridge_13 (Nat.le_refl _) (Nat.le_refl _) (qi (by by_cases c : p < 8; rw [if_pos c]; unfold tbR; rw [h5 p c rfl]; rfl; rw [if_neg c]) h)
set_option maxHeartbeats 4000000 in
set_option maxRecDepth 20000 in
theorem c_X4_tellPerson {l : Launch} {D : gE} {L : Nat → Nat} {σ : St} {Q : Option Value → va_W → Prop} {d : Nat} {X : XT} (hX : rzT σ 0 X) (ho : okX X) {p k : Nat} (hp : p < 2 ^ 31) (hk : k < 2 ^ 31) (h : Q (some (.int (if p < 6 then tpR X p k else -2))) (wsOf D L σ)) : Ctr l D yX4_tellPerson cX4_tellPerson 3 (some .int) (rr (d + 2)) [.ref (L 24), .int (nI p), .int (nI k)] (wsOf D L σ) Q := by
  refine g_start ky_X4_tellPerson (Nat.le_of_ble_eq_true rfl) ?_
  refine g_pick [0, 1, 2] (lv' := [(0, .ref (L 24)), (1, .int (nI p)), (2, .int (nI k))]) rfl ?_
  refine g_aload_n dX4_tellPerson_0 rfl 0 rfl ?_
  refine g_get kf_X4_10 kC_X4 (by decide) 24 at_24 rfl dX4_tellPerson_1 ?_
  refine g_iload_n dX4_tellPerson_4 rfl 1 rfl ?_
  refine g_callV (As := [.int (nI p)]) km_X4_106 ky_X3_hasPerson ki_X3_hasPerson (by decide) 0 (at_tn (Or.inl rfl)) rfl rfl (Nat.le_of_ble_eq_true rfl) dX4_tellPerson_5 rfl (c_X3_hasPerson (Or.inl rfl) hX ho (fun q5 hq5 he5 h5 => ?_) (fun h5 => ?_))
  · obtain rfl : p = q5 := (nI_eq (by omega) (by omega)).mp he5
    refine t_ifne1 14 dX4_tellPerson_8 (by decide) ?_
    refine g_iload_n dX4_tellPerson_14 rfl 2 rfl ?_
    rcases (show k = 0 ∨ k = 1 ∨ k = 2 ∨ 2 < k by omega) with rfl | rfl | rfl | hk2
    · refine g_tableIn 40 dX4_tellPerson_15 (by decide +kernel) (by decide +kernel) (by rfl) (by decide) ?_
      refine g_aload_n dX4_tellPerson_40 rfl 0 rfl ?_
      refine g_get kf_X4_10 kC_X4 (by decide) 24 at_24 rfl dX4_tellPerson_41 ?_
      refine s_getT (b := 0) (Or.inl rfl) kf_X4_97 (by decide) rfl dX4_tellPerson_44 ?_
      refine g_iload_n dX4_tellPerson_47 rfl 1 rfl ?_
      refine s_ald (q := 5) (n := 6) (at_ia (q := 5) rfl) (by omega) (by decide) dX4_tellPerson_48 ?_
      refine g_tope (z := nI (x_pl X p)) (rpT_pl hX.1 (by omega)) ?_
      exact g_ireturn dX4_tellPerson_49 (Nat.le_refl _) (Nat.le_refl _) (qi (by rw [if_pos hq5]; unfold tpR; rw [h5, if_pos rfl]; rfl) h)
    · refine g_tableIn 50 dX4_tellPerson_15 (by decide +kernel) (by decide +kernel) (by rfl) (by decide) ?_
      refine g_aload_n dX4_tellPerson_50 rfl 0 rfl ?_
      refine g_get kf_X4_10 kC_X4 (by decide) 24 at_24 rfl dX4_tellPerson_51 ?_
      refine s_getT (b := 0) (Or.inl rfl) kf_X4_100 (by decide) rfl dX4_tellPerson_54 ?_
      refine g_iload_n dX4_tellPerson_57 rfl 1 rfl ?_
      refine s_ald (q := 6) (n := 6) (at_ia (q := 6) rfl) (by omega) (by decide) dX4_tellPerson_58 ?_
      refine g_tope (z := nI (x_ki X p)) (rpT_ki hX.1 (by omega)) ?_
      exact g_ireturn dX4_tellPerson_59 (Nat.le_refl _) (Nat.le_refl _) (qi (by rw [if_pos hq5]; unfold tpR; rw [h5, if_pos rfl]; rfl) h)
    · refine g_tableIn 60 dX4_tellPerson_15 (by decide +kernel) (by decide +kernel) (by rfl) (by decide) ?_
      refine g_aload_n dX4_tellPerson_60 rfl 0 rfl ?_
      refine g_get kf_X4_10 kC_X4 (by decide) 24 at_24 rfl dX4_tellPerson_61 ?_
      refine s_getT (b := 0) (Or.inl rfl) kf_X4_103 (by decide) rfl dX4_tellPerson_64 ?_
      refine g_iload_n dX4_tellPerson_67 rfl 1 rfl ?_
      refine s_ald (q := 7) (n := 6) (at_ia (q := 7) rfl) (by omega) (by decide) dX4_tellPerson_68 ?_
      refine g_tope (z := nI (bitsN (x_kn X p) 8)) (rzT_kn hX (by omega)) ?_
      exact g_ireturn dX4_tellPerson_69 (Nat.le_refl _) (Nat.le_refl _) (qi (by rw [if_pos hq5]; unfold tpR; rw [h5, if_pos rfl]; rfl) h)
    · refine g_tableOut 70 dX4_tellPerson_15 (Or.inr (by rw [nI_toInt (by omega)]; omega)) (by decide) ?_
      refine g_bipush dX4_tellPerson_70 bp_m2 ?_
      exact g_ireturn dX4_tellPerson_72 (Nat.le_refl _) (Nat.le_refl _) (qi (by rw [if_pos hq5]; unfold tpR; rw [h5, if_pos rfl, if_neg (by omega), if_neg (by omega), if_neg (by omega)]) h)
  · refine t_ifne0 (tgt := 14) dX4_tellPerson_8 (by decide) ?_
    refine g_bipush dX4_tellPerson_11 bp_m2 ?_
    exact g_ireturn dX4_tellPerson_13 (Nat.le_refl _) (Nat.le_refl _) (qi (by by_cases c : p < 6; rw [if_pos c]; unfold tpR; rw [h5 p c rfl]; rfl; rw [if_neg c]) h)
theorem inN_big {a b : Nat} {x : Int32} (h : x < nI a ∨ nI b < x) (ha : a < 2 ^ 31 := by decide) (hb : b < 2 ^ 31 := by decide) : inN a b x = false := by
  unfold inN inI
  rw [decide_eq_false_iff_not]
  rcases h with h | h
  · rw [fa_lt, nI_toInt ha] at h; omega
  · rw [fa_lt, nI_toInt hb] at h; omega
set_option maxHeartbeats 4000000 in
set_option maxRecDepth 20000 in
theorem c_X4_told {l : Launch} {D : gE} {L : Nat → Nat} {σ : St} {Q : Option Value → va_W → Prop} {d : Nat} {X : XT} (hX : rzT σ 0 X) (ho : okX X) {n : Nat} (hpad : sI σ 26 1 = nI n) {x : Int32} (h : ∀ σ', fc σ σ' → rzT σ' 0 X → Q (some (.int (toldR X n x))) (wsOf D L σ')) : Ctr l D yX4_told cX4_told 2 (some .int) (rr (d + 3)) [.ref (L 24), .int x] (wsOf D L σ) Q := by
  refine g_start ky_X4_told (Nat.le_of_ble_eq_true rfl) ?_
  refine g_pick [0, 1] (lv' := [(0, .ref (L 24)), (1, .int x)]) rfl ?_
  refine g_iload_n dX4_told_0 rfl 1 rfl ?_
  refine g_bipush dX4_told_1 bp_10 ?_
  refine g_bipush dX4_told_3 bp_17 ?_
  refine g_callS (As := [.int x, .int (nI 10), .int (nI 17)]) km_X4_44 ky_X4_within ks_X4_within (by decide) rfl (Nat.le_of_ble_eq_true rfl) dX4_told_5 rfl (c_X4_withinN (by omega) (by omega) (fun p5 ha5 hb5 he5 => ?_) (fun h5 => ?_))
  · subst he5
    refine t_ifeq1 (tgt := 28) dX4_told_8 (by decide) ?_
    refine g_aload_n dX4_told_11 rfl 0 rfl ?_
    refine g_get kf_X4_10 kC_X4 (by decide) 24 at_24 rfl dX4_told_12 ?_
    refine s_getT (b := 0) (Or.inl rfl) kf_X4_112 (by decide) rfl dX4_told_15 ?_
    refine g_iload_n dX4_told_18 rfl 1 rfl ?_
    refine g_bipush dX4_told_19 bp_10 ?_
    refine g_isub dX4_told_21 ?_
    refine g_tope (z := nI (p5 - 10)) (pk_sub (by omega)) ?_
    refine s_ald (q := 8) (n := 8) (at_ia (q := 8) rfl) (by omega) (by decide) dX4_told_22 ?_
    refine g_tope (z := zI (x_wt X (p5 - 10))) (rpT_wt hX.1 (by omega)) ?_
    refine g_sipush dX4_told_23 sp_1000 ?_
    refine g_iadd dX4_told_26 ?_
    refine g_tope (z := zI (x_wt X (p5 - 10) + 1000)) (by rw [show nI 1000 = zI 1000 from by decide +kernel]; exact zI_add _ _) ?_
    exact g_ireturn dX4_told_27 (Nat.le_refl _) (Nat.le_refl _) (qi (by unfold toldR; rw [inN_no (a := 1000) (b := 6999) (by omega) (by omega), if_neg (by decide), inN_no (a := 100) (b := 899) (by omega) (by omega), if_neg (by decide), inN_t (a := 10) (b := 17) (by omega) (by omega) (by omega), if_pos rfl, tn_n (by omega)]) (h _ fc_rfl hX))
  · refine t_ifeq0 28 dX4_told_8 (by decide) ?_
    refine g_iload_n dX4_told_28 rfl 1 rfl ?_
    refine g_bipush dX4_told_29 bp_20 ?_
    refine g_bipush dX4_told_31 bp_27 ?_
    refine g_callS (As := [.int x, .int (nI 20), .int (nI 27)]) km_X4_44 ky_X4_within ks_X4_within (by decide) rfl (Nat.le_of_ble_eq_true rfl) dX4_told_33 rfl (c_X4_withinN (by omega) (by omega) (fun p33 ha33 hb33 he33 => ?_) (fun h33 => ?_))
    · subst he33
      refine t_ifeq1 (tgt := 52) dX4_told_36 (by decide) ?_
      refine g_aload_n dX4_told_39 rfl 0 rfl ?_
      refine g_get kf_X4_10 kC_X4 (by decide) 24 at_24 rfl dX4_told_40 ?_
      refine s_getT (b := 0) (Or.inl rfl) kf_X4_115 (by decide) rfl dX4_told_43 ?_
      refine g_iload_n dX4_told_46 rfl 1 rfl ?_
      refine g_bipush dX4_told_47 bp_20 ?_
      refine g_isub dX4_told_49 ?_
      refine g_tope (z := nI (p33 - 20)) (pk_sub (by omega)) ?_
      refine s_ald (q := 9) (n := 8) (at_ia (q := 9) rfl) (by omega) (by decide) dX4_told_50 ?_
      refine g_tope (z := nI (x_ab X (p33 - 20))) (rpT_ab hX.1 (by omega)) ?_
      exact g_ireturn dX4_told_51 (Nat.le_refl _) (Nat.le_refl _) (qi (by unfold toldR; rw [inN_no (a := 1000) (b := 6999) (by omega) (by omega), if_neg (by decide), inN_no (a := 100) (b := 899) (by omega) (by omega), if_neg (by decide), inN_no (a := 10) (b := 17) (by omega) (by omega), if_neg (by decide), inN_t (a := 20) (b := 27) (by omega) (by omega) (by omega), if_pos rfl, tn_n (by omega)]) (h _ fc_rfl hX))
    · refine t_ifeq0 52 dX4_told_36 (by decide) ?_
      refine g_iload_n dX4_told_52 rfl 1 rfl ?_
      refine g_sipush dX4_told_53 sp_1000 ?_
      refine g_icmplt 76 dX4_told_56 (by decide) (fun h56 => ?_) (fun h56 => ?_)
      · refine g_iload_n dX4_told_76 rfl 1 rfl ?_
        refine g_bipush dX4_told_77 bp_100 ?_
        refine g_icmplt 97 dX4_told_79 (by decide) (fun h79 => ?_) (fun h79 => ?_)
        · refine g_iload_n dX4_told_97 rfl 1 rfl ?_
          by_cases hsw : inN 0 6 x = true
          · obtain ⟨v, -, hv, rfl⟩ := inN_ex hsw
            rcases (show v = 0 ∨ v = 1 ∨ v = 2 ∨ v = 3 ∨ v = 4 ∨ v = 5 ∨ v = 6 by omega) with rfl | rfl | rfl | rfl | rfl | rfl | rfl
            · refine g_tableIn 140 dX4_told_98 (by decide +kernel) (by decide +kernel) (by rfl) (by decide) ?_
              refine g_aload_n dX4_told_140 rfl 0 rfl ?_
              refine g_get kf_X4_26 kC_X4 (by decide) 24 at_24 rfl dX4_told_141 ?_
              refine g_get kf_X4_124 kC_X2 (by decide) 26 at_26 rfl dX4_told_144 ?_
              refine g_tope (z := nI n) (hpad) ?_
              exact g_ireturn dX4_told_147 (Nat.le_refl _) (Nat.le_refl _) (qi (by unfold toldR; rw [inN_no (a := 1000) (b := 6999) (by omega) (by omega), if_neg (by decide), inN_no (a := 100) (b := 899) (by omega) (by omega), if_neg (by decide), inN_no (a := 10) (b := 17) (by omega) (by omega), if_neg (by decide), inN_no (a := 20) (b := 27) (by omega) (by omega), if_neg (by decide), inN_t (a := 0) (b := 6) (by omega) (by omega) (by omega), if_pos rfl, tn_n (by omega)]; rfl) (h _ fc_rfl hX))
            · refine g_tableIn 148 dX4_told_98 (by decide +kernel) (by decide +kernel) (by rfl) (by decide) ?_
              refine g_aload_n dX4_told_148 rfl 0 rfl ?_
              refine g_get kf_X4_10 kC_X4 (by decide) 24 at_24 rfl dX4_told_149 ?_
              refine s_getT (b := 0) (Or.inl rfl) kf_X4_48 (by decide) rfl dX4_told_152 ?_
              refine g_tope (z := nI (x_sz X)) (rpT_sz hX.1) ?_
              exact g_ireturn dX4_told_155 (Nat.le_refl _) (Nat.le_refl _) (qi (by unfold toldR; rw [inN_no (a := 1000) (b := 6999) (by omega) (by omega), if_neg (by decide), inN_no (a := 100) (b := 899) (by omega) (by omega), if_neg (by decide), inN_no (a := 10) (b := 17) (by omega) (by omega), if_neg (by decide), inN_no (a := 20) (b := 27) (by omega) (by omega), if_neg (by decide), inN_t (a := 0) (b := 6) (by omega) (by omega) (by omega), if_pos rfl, tn_n (by omega)]; rfl) (h _ fc_rfl hX))
            · refine g_tableIn 156 dX4_told_98 (by decide +kernel) (by decide +kernel) (by rfl) (by decide) ?_
              refine g_aload_n dX4_told_156 rfl 0 rfl ?_
              refine g_get kf_X4_10 kC_X4 (by decide) 24 at_24 rfl dX4_told_157 ?_
              refine s_getT (b := 0) (Or.inl rfl) kf_X4_60 (by decide) rfl dX4_told_160 ?_
              refine g_tope (z := nI (bitsN (x_br X) 8)) (rpT_br hX.1) ?_
              exact g_ireturn dX4_told_163 (Nat.le_refl _) (Nat.le_refl _) (qi (by unfold toldR; rw [inN_no (a := 1000) (b := 6999) (by omega) (by omega), if_neg (by decide), inN_no (a := 100) (b := 899) (by omega) (by omega), if_neg (by decide), inN_no (a := 10) (b := 17) (by omega) (by omega), if_neg (by decide), inN_no (a := 20) (b := 27) (by omega) (by omega), if_neg (by decide), inN_t (a := 0) (b := 6) (by omega) (by omega) (by omega), if_pos rfl, tn_n (by omega)]; rfl) (h _ fc_rfl hX))
            · refine g_tableIn 164 dX4_told_98 (by decide +kernel) (by decide +kernel) (by rfl) (by decide) ?_
              refine g_aload_n dX4_told_164 rfl 0 rfl ?_
              refine g_get kf_X4_10 kC_X4 (by decide) 24 at_24 rfl dX4_told_165 ?_
              refine s_getT (b := 0) (Or.inl rfl) kf_X4_94 (by decide) rfl dX4_told_168 ?_
              refine g_tope (z := nI (bitsN (x_th X) 6)) (rpT_th hX.1) ?_
              exact g_ireturn dX4_told_171 (Nat.le_refl _) (Nat.le_refl _) (qi (by unfold toldR; rw [inN_no (a := 1000) (b := 6999) (by omega) (by omega), if_neg (by decide), inN_no (a := 100) (b := 899) (by omega) (by omega), if_neg (by decide), inN_no (a := 10) (b := 17) (by omega) (by omega), if_neg (by decide), inN_no (a := 20) (b := 27) (by omega) (by omega), if_neg (by decide), inN_t (a := 0) (b := 6) (by omega) (by omega) (by omega), if_pos rfl, tn_n (by omega)]; rfl) (h _ fc_rfl hX))
            · refine g_tableIn 172 dX4_told_98 (by decide +kernel) (by decide +kernel) (by rfl) (by decide) ?_
              refine g_aload_n dX4_told_172 rfl 0 rfl ?_
              refine g_get kf_X4_10 kC_X4 (by decide) 24 at_24 rfl dX4_told_173 ?_
              refine s_getT (b := 0) (Or.inl rfl) kf_X4_121 (by decide) rfl dX4_told_176 ?_
              refine g_tope (z := nI (x_fa X)) (rpT_fa hX.1) ?_
              exact g_ireturn dX4_told_179 (Nat.le_refl _) (Nat.le_refl _) (qi (by unfold toldR; rw [inN_no (a := 1000) (b := 6999) (by omega) (by omega), if_neg (by decide), inN_no (a := 100) (b := 899) (by omega) (by omega), if_neg (by decide), inN_no (a := 10) (b := 17) (by omega) (by omega), if_neg (by decide), inN_no (a := 20) (b := 27) (by omega) (by omega), if_neg (by decide), inN_t (a := 0) (b := 6) (by omega) (by omega) (by omega), if_pos rfl, tn_n (by omega)]; rfl) (h _ fc_rfl hX))
            · refine g_tableIn 180 dX4_told_98 (by decide +kernel) (by decide +kernel) (by rfl) (by decide) ?_
              refine g_aload_n dX4_told_180 rfl 0 rfl ?_
              refine g_get kf_X4_10 kC_X4 (by decide) 24 at_24 rfl dX4_told_181 ?_
              refine s_getT (b := 0) (Or.inl rfl) kf_X4_225 (by decide) rfl dX4_told_184 ?_
              refine g_tope (z := nI (x_sg X)) (rpT_sg hX.1) ?_
              exact g_ireturn dX4_told_187 (Nat.le_refl _) (Nat.le_refl _) (qi (by unfold toldR; rw [inN_no (a := 1000) (b := 6999) (by omega) (by omega), if_neg (by decide), inN_no (a := 100) (b := 899) (by omega) (by omega), if_neg (by decide), inN_no (a := 10) (b := 17) (by omega) (by omega), if_neg (by decide), inN_no (a := 20) (b := 27) (by omega) (by omega), if_neg (by decide), inN_t (a := 0) (b := 6) (by omega) (by omega) (by omega), if_pos rfl, tn_n (by omega)]; rfl) (h _ fc_rfl hX))
            · refine g_tableIn 188 dX4_told_98 (by decide +kernel) (by decide +kernel) (by rfl) (by decide) ?_
              refine g_aload_n dX4_told_188 rfl 0 rfl ?_
              refine g_get kf_X4_10 kC_X4 (by decide) 24 at_24 rfl dX4_told_189 ?_
              refine s_getT (b := 0) (Or.inl rfl) kf_X4_118 (by decide) rfl dX4_told_192 ?_
              refine g_tope (z := nI (bitsN (x_pu X) 8)) (rpT_pu hX.1) ?_
              exact g_ireturn dX4_told_195 (Nat.le_refl _) (Nat.le_refl _) (qi (by unfold toldR; rw [inN_no (a := 1000) (b := 6999) (by omega) (by omega), if_neg (by decide), inN_no (a := 100) (b := 899) (by omega) (by omega), if_neg (by decide), inN_no (a := 10) (b := 17) (by omega) (by omega), if_neg (by decide), inN_no (a := 20) (b := 27) (by omega) (by omega), if_neg (by decide), inN_t (a := 0) (b := 6) (by omega) (by omega) (by omega), if_pos rfl, tn_n (by omega)]; rfl) (h _ fc_rfl hX))
          · have hsw : inN 0 6 x = false := by cases e : inN 0 6 x; rfl; exact absurd e hsw
            refine g_tableOut 196 dX4_told_98 (inN_out hsw) (by decide) ?_
            refine g_bipush dX4_told_196 bp_m2 ?_
            exact g_ireturn dX4_told_198 (Nat.le_refl _) (Nat.le_refl _) (qi (by unfold toldR; rw [inN_big (b := 6999) (Or.inl h56), if_neg (by decide), inN_big (b := 899) (Or.inl h79), if_neg (by decide), inN_f (a := 10) (b := 17) (by omega) h5, if_neg (by decide), inN_f (a := 20) (b := 27) (by omega) h33, if_neg (by decide), hsw, if_neg (by decide)]) (h _ fc_rfl hX))
        · obtain ⟨j, hj, hjk, rfl⟩ := ge_nat (by decide) h79
          have hj1 : j < 1000 := (nI_ltI hj (by decide)).mp h56
          refine g_aload_n dX4_told_82 rfl 0 rfl ?_
          refine g_iload_n dX4_told_83 rfl 1 rfl ?_
          refine g_bipush dX4_told_84 bp_100 ?_
          refine g_idiv dX4_told_86 (by decide +kernel) ?_
          refine g_tope (z := nI (j / 100)) (pk_div (by omega) (by omega) (by omega)) ?_
          refine g_iconst dX4_told_87 ci_1 ?_
          refine g_isub dX4_told_88 ?_
          refine g_tope (z := nI ((j / 100) - 1)) (pk_sub (by omega)) ?_
          refine g_iload_n dX4_told_89 rfl 1 rfl ?_
          refine g_bipush dX4_told_90 bp_100 ?_
          refine g_irem dX4_told_92 (by decide +kernel) ?_
          refine g_tope (z := nI (j % 100)) (pk_rem (by omega) (by omega) (by omega)) ?_
          refine g_callV (As := [.int (nI ((j / 100) - 1)), .int (nI (j % 100))]) km_X4_270 ky_X4_tellBridge ki_X4_tellBridge (by decide) 24 at_24 rfl rfl (Nat.le_of_ble_eq_true rfl) dX4_told_93 rfl (c_X4_tellBridge hX ho (by omega) (by omega) ?_)
          exact g_ireturn dX4_told_96 (Nat.le_refl _) (Nat.le_refl _) (qi (by unfold toldR; by_cases c : j ≤ 899; rw [if_pos (show j / 100 - 1 < 8 by omega), inN_no (a := 1000) (b := 6999) (by omega) (by omega), if_neg (by decide), inN_t (a := 100) (b := 899) (by omega) c (by omega), if_pos rfl, tn_n (by omega)]; rw [if_neg (show ¬ j / 100 - 1 < 8 by omega), inN_no (a := 1000) (b := 6999) (by omega) (by omega), if_neg (by decide), inN_no (a := 100) (b := 899) (by omega) (by omega), if_neg (by decide), inN_no (a := 10) (b := 17) (by omega) (by omega), if_neg (by decide), inN_no (a := 20) (b := 27) (by omega) (by omega), if_neg (by decide), inN_no (a := 0) (b := 6) (by omega) (by omega), if_neg (by decide)]) (h _ fc_rfl hX))
      · obtain ⟨j, hj, hjk, rfl⟩ := ge_nat (by decide) h56
        refine g_aload_n dX4_told_59 rfl 0 rfl ?_
        refine g_iload_n dX4_told_60 rfl 1 rfl ?_
        refine g_sipush dX4_told_61 sp_1000 ?_
        refine g_idiv dX4_told_64 (by decide +kernel) ?_
        refine g_tope (z := nI (j / 1000)) (pk_div (by omega) (by omega) (by omega)) ?_
        refine g_iconst dX4_told_65 ci_1 ?_
        refine g_isub dX4_told_66 ?_
        refine g_tope (z := nI ((j / 1000) - 1)) (pk_sub (by omega)) ?_
        refine g_iload_n dX4_told_67 rfl 1 rfl ?_
        refine g_sipush dX4_told_68 sp_1000 ?_
        refine g_irem dX4_told_71 (by decide +kernel) ?_
        refine g_tope (z := nI (j % 1000)) (pk_rem (by omega) (by omega) (by omega)) ?_
        refine g_callV (As := [.int (nI ((j / 1000) - 1)), .int (nI (j % 1000))]) km_X4_267 ky_X4_tellPerson ki_X4_tellPerson (by decide) 24 at_24 rfl rfl (Nat.le_of_ble_eq_true rfl) dX4_told_72 rfl (c_X4_tellPerson hX ho (by omega) (by omega) ?_)
        exact g_ireturn dX4_told_75 (Nat.le_refl _) (Nat.le_refl _) (qi (by unfold toldR; by_cases c : j ≤ 6999; rw [if_pos (show j / 1000 - 1 < 6 by omega), inN_t (a := 1000) (b := 6999) (by omega) c (by omega), if_pos rfl, tn_n (by omega)]; rw [if_neg (show ¬ j / 1000 - 1 < 6 by omega), inN_no (a := 1000) (b := 6999) (by omega) (by omega), if_neg (by decide), inN_no (a := 100) (b := 899) (by omega) (by omega), if_neg (by decide), inN_no (a := 10) (b := 17) (by omega) (by omega), if_neg (by decide), inN_no (a := 20) (b := 27) (by omega) (by omega), if_neg (by decide), inN_no (a := 0) (b := 6) (by omega) (by omega), if_neg (by decide)]) (h _ fc_rfl hX))
set_option maxHeartbeats 4000000 in
set_option maxRecDepth 20000 in
theorem c_X4_refuseTrip {l : Launch} {D : gE} {L : Nat → Nat} {σ : St} {Q : Option Value → va_W → Prop} {d : Nat} {X : XT} (hX : rzT σ 0 X) (ho : okX X) {x y z : Int32} (ht : ∀ p t w, p < 6 → x_th X p = true → t < x_sz X → w ≤ 1 → x = nI p → y = nI t → z = nI w → Q (some (.int (nI 0))) (wsOf D L σ)) (h1 : (thI X x && teI X y) = false → Q (some (.int (-1))) (wsOf D L σ)) (h2 : (thI X x && teI X y) = true → inN 0 1 z = false → Q (some (.int (-2))) (wsOf D L σ)) : Ctr l D yX4_refuseTrip cX4_refuseTrip 4 (some .int) (rr (d + 2)) [.ref (L 24), .int x, .int y, .int z] (wsOf D L σ) Q := by
  refine g_start ky_X4_refuseTrip (Nat.le_of_ble_eq_true rfl) ?_
  refine g_pick [0, 1, 2, 3] (lv' := [(0, .ref (L 24)), (1, .int x), (2, .int y), (3, .int z)]) rfl ?_
  refine g_aload_n dX4_refuseTrip_0 rfl 0 rfl ?_
  refine g_get kf_X4_10 kC_X4 (by decide) 24 at_24 rfl dX4_refuseTrip_1 ?_
  refine g_iload_n dX4_refuseTrip_4 rfl 1 rfl ?_
  refine g_callV (As := [.int x]) km_X4_106 ky_X3_hasPerson ki_X3_hasPerson (by decide) 0 (at_tn (Or.inl rfl)) rfl rfl (Nat.le_of_ble_eq_true rfl) dX4_refuseTrip_5 rfl (c_X3_hasPerson (Or.inl rfl) hX ho (fun p5 hp5 he5 h5 => ?_) (fun h5 => ?_))
  · subst he5
    refine t_ifeq1 (tgt := 22) dX4_refuseTrip_8 (by decide) ?_
    refine g_aload_n dX4_refuseTrip_11 rfl 0 rfl ?_
    refine g_get kf_X4_10 kC_X4 (by decide) 24 at_24 rfl dX4_refuseTrip_12 ?_
    refine g_iload_n dX4_refuseTrip_15 rfl 2 rfl ?_
    refine g_callV (As := [.int y]) km_X4_56 ky_X3_hasTerrace ki_X3_hasTerrace (by decide) 0 (at_tn (Or.inl rfl)) rfl rfl (Nat.le_of_ble_eq_true rfl) dX4_refuseTrip_16 rfl (c_X3_hasTerrace (Or.inl rfl) hX ho (fun t16 ht16 he16 => ?_) (fun h16 => ?_))
    · subst he16
      refine t_ifne1 24 dX4_refuseTrip_19 (by decide) ?_
      refine g_iload_n dX4_refuseTrip_24 rfl 3 rfl ?_
      refine g_iconst dX4_refuseTrip_25 ci_0 ?_
      refine g_iconst dX4_refuseTrip_26 ci_1 ?_
      refine g_callS (As := [.int z, .int (nI 0), .int (nI 1)]) km_X4_44 ky_X4_within ks_X4_within (by decide) rfl (Nat.le_of_ble_eq_true rfl) dX4_refuseTrip_27 rfl (c_X4_withinN (by omega) (by omega) (fun p27 ha27 hb27 he27 => ?_) (fun h27 => ?_))
      · subst he27
        refine t_ifeq1 (tgt := 37) dX4_refuseTrip_30 (by decide) ?_
        refine g_iconst dX4_refuseTrip_33 ci_0 ?_
        refine g_goto 39 dX4_refuseTrip_34 (by decide) ?_
        exact g_ireturn dX4_refuseTrip_39 (Nat.le_refl _) (Nat.le_refl _) (ht p5 t16 p27 hp5 h5 ht16 (by omega) rfl rfl rfl)
      · refine t_ifeq0 37 dX4_refuseTrip_30 (by decide) ?_
        refine g_bipush dX4_refuseTrip_37 bp_m2 ?_
        exact g_ireturn dX4_refuseTrip_39 (Nat.le_refl _) (Nat.le_refl _) (h2 (by rw [thI_t hp5 h5, teI_t ho ht16]; rfl) (inN_f (a := 0) (b := 1) (by omega) h27))
    · refine t_ifne0 (tgt := 24) dX4_refuseTrip_19 (by decide) ?_
      refine g_iconst dX4_refuseTrip_22 ci_m1 ?_
      exact g_ireturn dX4_refuseTrip_23 (Nat.le_refl _) (Nat.le_refl _) (h1 (by rw [teI_f h16, Bool.and_false]))
  · refine t_ifeq0 22 dX4_refuseTrip_8 (by decide) ?_
    refine g_iconst dX4_refuseTrip_22 ci_m1 ?_
    exact g_ireturn dX4_refuseTrip_23 (Nat.le_refl _) (Nat.le_refl _) (h1 (by rw [thI_f h5]; rfl))
theorem c_X4_countOrBits {l : Launch} {D : gE} {L : Nat → Nat} {σ : St} {Q : Option Value → va_W → Prop} {d : Nat} {best : Option Nat} {w : Nat} (hw : w ≤ 1) (hb : ∀ c, best = some c → c < 256) (h : Q (some (.int (fsR best (nI w)))) (wsOf D L σ)) : Ctr l D yX4_countOrBits cX4_countOrBits 2 (some .int) (rr (d + 1)) [.int (mdf best), .int (nI w)] (wsOf D L σ) Q := by
  cases best with
  | none =>
    show Ctr l D yX4_countOrBits cX4_countOrBits 2 (some .int) (rr (d + 1)) [.int (-6), .int (nI w)] (wsOf D L σ) Q
    refine g_start ky_X4_countOrBits (Nat.le_of_ble_eq_true rfl) ?_
    refine g_pick [0, 1] (lv' := [(0, .int (-6)), (1, .int (nI w))]) rfl ?_
    refine g_iload_n dX4_countOrBits_0 rfl 0 rfl ?_
    refine g_bipush dX4_countOrBits_1 bp_m6 ?_
    refine g_icmpeq 11 dX4_countOrBits_3 (by decide) (fun h3 => ?_) (fun h3 => absurd h3 (by decide +kernel))
    refine g_iload_n dX4_countOrBits_11 rfl 0 rfl ?_
    refine g_goto 19 dX4_countOrBits_12 (by decide) ?_
    exact g_ireturn dX4_countOrBits_19 (Nat.le_refl _) (Nat.le_refl _) (h)
  | some c =>
    have hc := hb c rfl
    show Ctr l D yX4_countOrBits cX4_countOrBits 2 (some .int) (rr (d + 1)) [.int (nI c), .int (nI w)] (wsOf D L σ) Q
    refine g_start ky_X4_countOrBits (Nat.le_of_ble_eq_true rfl) ?_
    refine g_pick [0, 1] (lv' := [(0, .int (nI c)), (1, .int (nI w))]) rfl ?_
    refine g_iload_n dX4_countOrBits_0 rfl 0 rfl ?_
    refine g_bipush dX4_countOrBits_1 bp_m6 ?_
    refine g_icmpeq 11 dX4_countOrBits_3 (by decide) (fun h3 => absurd h3 (nI_n6 (by omega))) (fun h3 => ?_)
    refine g_iload_n dX4_countOrBits_6 rfl 1 rfl ?_
    refine g_iconst dX4_countOrBits_7 ci_1 ?_
    refine n_icmpne 15 dX4_countOrBits_8 (by decide) (by omega) (by omega) (fun h8 => ?_) (fun h8 => ?_)
    · refine g_iload_n dX4_countOrBits_15 rfl 0 rfl ?_
      refine g_callS (As := [.int (nI c)]) km_X4_85 ky_J6_bitCount_0f7a4 ks_J6_bitCount_0f7a4 (by decide) rfl (Nat.le_of_ble_eq_true rfl) dX4_countOrBits_16 rfl (c_bitCount (by omega) ?_)
      exact g_ireturn dX4_countOrBits_19 (Nat.le_refl _) (Nat.le_refl _) (qi (by simp only [fsR]; rw [if_neg (fun e => h8 ((nI_eq (by omega) (by omega)).mp e))]) h)
    · refine g_iload_n dX4_countOrBits_11 rfl 0 rfl ?_
      refine g_goto 19 dX4_countOrBits_12 (by decide) ?_
      exact g_ireturn dX4_countOrBits_19 (Nat.le_refl _) (Nat.le_refl _) (qi (by simp only [fsR]; rw [h8, if_pos rfl]) h)
theorem xor_bits (f : Nat → Bool) {a : Nat} (ha : a < 256) : nI (bitsN f 8) ^^^ nI a = nI (bitsN (fun k => f k ^^ a.testBit k) 8) := by
  rw [fb_xorI]
  refine congrArg nI (bitsN_of_tb (Nat.xor_lt_two_pow (bitsN_lt f 8) (show a < 2 ^ 8 from ha)) (fun i hi => ?_))
  rw [Nat.testBit_xor, bitsN_in f hi]
theorem fw_s (G : Nat → Bool) (a : Nat) : fwN G (a + 1) = osN (fwN G a) a (G a) := rfl
set_option maxHeartbeats 4000000 in
set_option maxRecDepth 20000 in
theorem lp_X4_fewest {l : Launch} {D : gE} {L : Nat → Nat} {σ : St} {Q : Option Value → va_W → Prop} {d : Nat} {X : XT} (hX : rzT σ 0 X) (ho : okX X) {p g : Nat} {f : Nat → Bool} (hp : p < 6) (hg : g < 6) (h : Q (some (.int (mdf (fwN (fun a => subB f a && gdX X p g a) 256)))) (wsOf D L σ)) : ∀ n_ a, a + n_ = 256 → G l D yX4_fewest cX4_fewest 8 (some .int) (rr (d + 3)) Q 0 0 7 [(5, .int (nI a)), (4, .int (mdf (fwN (fun a => subB f a && gdX X p g a) a))), (0, .ref (L 24)), (1, .int (nI p)), (2, .int (nI g)), (3, .int (nI (bitsN f 8)))] [] (wsOf D L σ) := by
  intro n_
  induction n_ with
  | zero =>
    intro a hct
    obtain rfl : a = 256 := by omega
    refine g_iload dX4_fewest_7 0 rfl ?_
    refine g_sipush dX4_fewest_9 sp_256 ?_
    refine n_icmpge 123 dX4_fewest_12 (by decide) (by omega) (by omega) (fun h12 => ?_) (fun h12 => absurd h12 (by omega))
    refine g_iload dX4_fewest_123 1 rfl ?_
    exact g_ireturn dX4_fewest_125 (Nat.le_refl _) (Nat.le_refl _) (h)
  | succ n_ ih =>
    intro a hct
    have hpp := ok_p ho hp
    have hsm := sm_bd ho (p := p) (s := fun k => x_kn X p k ^^ a.testBit k) (n := 8) (Nat.le_refl 8)
    have hdl := @dN_le X (beX X (smX X p (fun k => x_kn X p k ^^ a.testBit k) 8).toNat) (x_pl X p) g
    have hpa := cntN_le a.testBit 8
    have hpa2 : pop a ≤ 8 := hpa
    refine g_iload dX4_fewest_7 0 rfl ?_
    refine g_sipush dX4_fewest_9 sp_256 ?_
    refine n_icmpge 123 dX4_fewest_12 (by decide) (by omega) (by omega) (fun h12 => absurd h12 (by omega)) (fun h12 => ?_)
    refine g_pick [0, 1, 2, 3, 4, 5] (lv' := [(5, .int (nI a)), (4, .int (mdf (fwN (fun a => subB f a && gdX X p g a) a))), (0, .ref (L 24)), (1, .int (nI p)), (2, .int (nI g)), (3, .int (nI (bitsN f 8)))]) rfl ?_
    rcases e9 : fwN (fun a => subB f a && gdX X p g a) a with _ | c
    · refine g_pick [0, 1, 2, 3, 4, 5] (lv' := [(5, .int (nI a)), (4, .int (-6)), (0, .ref (L 24)), (1, .int (nI p)), (2, .int (nI g)), (3, .int (nI (bitsN f 8)))]) rfl ?_
      refine g_iload dX4_fewest_15 1 rfl ?_
      refine g_bipush dX4_fewest_17 bp_m6 ?_
      refine g_icmpeq 35 dX4_fewest_19 (by decide) (fun h19 => ?_) (fun h19 => absurd h19 (by decide +kernel))
      refine g_iconst dX4_fewest_35 ci_1 ?_
      refine g_goto 40 dX4_fewest_36 (by decide) ?_
      refine g_istore (lv' := [(6, .int (nI 1)), (5, .int (nI a)), (4, .int (-6)), (0, .ref (L 24)), (1, .int (nI p)), (2, .int (nI g)), (3, .int (nI (bitsN f 8)))]) dX4_fewest_40 (by decide) rfl ?_
      refine g_iload dX4_fewest_42 0 rfl ?_
      refine t_ifeq1 (tgt := 117) dX4_fewest_44 (by decide) ?_
      refine g_iload dX4_fewest_47 1 rfl ?_
      refine g_iload_n dX4_fewest_49 rfl 6 rfl ?_
      refine g_iconst dX4_fewest_50 ci_m1 ?_
      refine g_ixor dX4_fewest_51 ?_
      refine g_iand dX4_fewest_52 ?_
      refine sb_ifne 117 dX4_fewest_53 (by decide) (by omega) (fun h53 => ?_) (fun h53 => ?_)
      · refine g_iinc (v := nI (a + 1)) (lv' := [(5, .int (nI (a + 1))), (6, .int (nI 1)), (4, .int (-6)), (0, .ref (L 24)), (1, .int (nI p)), (2, .int (nI g)), (3, .int (nI (bitsN f 8)))]) dX4_fewest_117 1 rfl (inc_n _) (by decide) rfl ?_
        refine g_goto 7 dX4_fewest_120 (by decide) ?_
        refine g_pick [0, 2, 3, 4, 5, 6] (lv' := [(5, .int (nI (a + 1))), (4, .int (-6)), (0, .ref (L 24)), (1, .int (nI p)), (2, .int (nI g)), (3, .int (nI (bitsN f 8)))]) rfl ?_
        have ih2 := ih (a + 1) (by omega)
        rw [show fwN (fun a => subB f a && gdX X p g a) (a + 1) = none by rw [fw_s, e9, show (subB f a && gdX X p g a) = false by rw [h53, Bool.false_and]]; rfl] at ih2
        exact ih2
      · refine g_iconst dX4_fewest_56 ci_0 ?_
        refine g_aload_n dX4_fewest_57 rfl 3 rfl ?_
        refine g_get kf_X4_10 kC_X4 (by decide) 24 at_24 rfl dX4_fewest_58 ?_
        refine g_iload_n dX4_fewest_61 rfl 4 rfl ?_
        refine g_aload_n dX4_fewest_62 rfl 3 rfl ?_
        refine g_get kf_X4_10 kC_X4 (by decide) 24 at_24 rfl dX4_fewest_63 ?_
        refine s_getT (b := 0) (Or.inl rfl) kf_X4_103 (by decide) rfl dX4_fewest_66 ?_
        refine g_iload_n dX4_fewest_69 rfl 4 rfl ?_
        refine s_ald (q := 7) (n := 6) (at_ia (q := 7) rfl) (by omega) (by decide) dX4_fewest_70 ?_
        refine g_tope (z := nI (bitsN (x_kn X p) 8)) (rzT_kn hX (by omega)) ?_
        refine g_iload dX4_fewest_71 1 rfl ?_
        refine g_ixor dX4_fewest_73 ?_
        refine g_tope (z := nI (bitsN (fun k => x_kn X p k ^^ a.testBit k) 8)) (xor_bits _ (by omega)) ?_
        refine g_callV (As := [.int (nI p), .int (nI (bitsN (fun k => x_kn X p k ^^ a.testBit k) 8))]) km_X4_273 ky_X3_sum ki_X3_sum (by decide) 0 (at_tn (Or.inl rfl)) rfl rfl (Nat.le_of_ble_eq_true rfl) dX4_fewest_74 rfl (c_X3_sum (Or.inl rfl) hX ho (by omega) ?_)
        refine g_callS (As := [.int (nI 0), .int (zI (smX X p (fun k => x_kn X p k ^^ a.testBit k) 8))]) km_X4_76 ky_J9_max_7cf53 ks_J9_max_7cf53 (by decide) rfl (Nat.le_of_ble_eq_true rfl) dX4_fewest_77 rfl (c_max0 (by omega) ?_)
        refine g_istore (lv' := [(7, .int (nI ((smX X p (fun k => x_kn X p k ^^ a.testBit k) 8).toNat))), (6, .int (nI 1)), (5, .int (nI a)), (4, .int (-6)), (0, .ref (L 24)), (1, .int (nI p)), (2, .int (nI g)), (3, .int (nI (bitsN f 8)))]) dX4_fewest_80 (by decide) rfl ?_
        refine g_aload_n dX4_fewest_82 rfl 4 rfl ?_
        refine g_get kf_X4_10 kC_X4 (by decide) 24 at_24 rfl dX4_fewest_83 ?_
        refine g_aload_n dX4_fewest_86 rfl 4 rfl ?_
        refine g_get kf_X4_10 kC_X4 (by decide) 24 at_24 rfl dX4_fewest_87 ?_
        refine s_getT (b := 0) (Or.inl rfl) kf_X4_97 (by decide) rfl dX4_fewest_90 ?_
        refine g_iload_n dX4_fewest_93 rfl 5 rfl ?_
        refine s_ald (q := 5) (n := 6) (at_ia (q := 5) rfl) (by omega) (by decide) dX4_fewest_94 ?_
        refine g_tope (z := nI (x_pl X p)) (rpT_pl hX.1 (by omega)) ?_
        refine g_iload_n dX4_fewest_95 rfl 6 rfl ?_
        refine g_aload_n dX4_fewest_96 rfl 4 rfl ?_
        refine g_get kf_X4_10 kC_X4 (by decide) 24 at_24 rfl dX4_fewest_97 ?_
        refine g_iload dX4_fewest_100 0 rfl ?_
        refine g_callV (As := [.int (nI ((smX X p (fun k => x_kn X p k ^^ a.testBit k) 8).toNat))]) km_X4_170 ky_X3_bearing ki_X3_bearing (by decide) 0 (at_tn (Or.inl rfl)) rfl rfl (Nat.le_of_ble_eq_true rfl) dX4_fewest_102 rfl (c_X3_bearing (Or.inl rfl) hX ho (by omega) ?_)
        refine g_callV (As := [.int (nI (x_pl X p)), .int (nI g), .int (nI (bitsN (beX X ((smX X p (fun k => x_kn X p k ^^ a.testBit k) 8).toNat)) 8))]) km_X4_173 ky_X3_distance ki_X3_distance (by decide) 0 (at_tn (Or.inl rfl)) rfl rfl (Nat.le_of_ble_eq_true rfl) dX4_fewest_105 rfl (c_X3_distance (Or.inl rfl) hX ho (by omega) (by omega) (fun h105 => ?_) (fun h105 => ?_))
        · refine g_bipush dX4_fewest_108 bp_m6 ?_
          refine g_icmpeq 117 dX4_fewest_110 (by decide) (fun h110 => absurd h110 (nI_n6 (by omega))) (fun h110 => ?_)
          refine g_iload dX4_fewest_113 2 rfl ?_
          refine g_istore (lv' := [(4, .int (nI a)), (7, .int (nI ((smX X p (fun k => x_kn X p k ^^ a.testBit k) 8).toNat))), (6, .int (nI 1)), (5, .int (nI a)), (0, .ref (L 24)), (1, .int (nI p)), (2, .int (nI g)), (3, .int (nI (bitsN f 8)))]) dX4_fewest_115 (by decide) rfl ?_
          refine g_iinc (v := nI (a + 1)) (lv' := [(5, .int (nI (a + 1))), (4, .int (nI a)), (7, .int (nI ((smX X p (fun k => x_kn X p k ^^ a.testBit k) 8).toNat))), (6, .int (nI 1)), (0, .ref (L 24)), (1, .int (nI p)), (2, .int (nI g)), (3, .int (nI (bitsN f 8)))]) dX4_fewest_117 3 rfl (inc_n _) (by decide) rfl ?_
          refine g_goto 7 dX4_fewest_120 (by decide) ?_
          refine g_pick [0, 1, 4, 5, 6, 7] (lv' := [(5, .int (nI (a + 1))), (4, .int (nI a)), (0, .ref (L 24)), (1, .int (nI p)), (2, .int (nI g)), (3, .int (nI (bitsN f 8)))]) rfl ?_
          have ih2 := ih (a + 1) (by omega)
          rw [show fwN (fun a => subB f a && gdX X p g a) (a + 1) = some a by rw [fw_s, e9, show (subB f a && gdX X p g a) = true by rw [h53, Bool.true_and]; unfold gdX wyX; rw [dN_sym, decide_eq_true_eq]; exact h105]; rfl] at ih2
          exact ih2
        · refine g_bipush dX4_fewest_108 bp_m6 ?_
          refine g_icmpeq 117 dX4_fewest_110 (by decide) (fun h110 => ?_) (fun h110 => absurd h110 (by decide +kernel))
          refine g_iinc (v := nI (a + 1)) (lv' := [(5, .int (nI (a + 1))), (7, .int (nI ((smX X p (fun k => x_kn X p k ^^ a.testBit k) 8).toNat))), (6, .int (nI 1)), (4, .int (-6)), (0, .ref (L 24)), (1, .int (nI p)), (2, .int (nI g)), (3, .int (nI (bitsN f 8)))]) dX4_fewest_117 2 rfl (inc_n _) (by decide) rfl ?_
          refine g_goto 7 dX4_fewest_120 (by decide) ?_
          refine g_pick [0, 3, 4, 5, 6, 7] (lv' := [(5, .int (nI (a + 1))), (4, .int (-6)), (0, .ref (L 24)), (1, .int (nI p)), (2, .int (nI g)), (3, .int (nI (bitsN f 8)))]) rfl ?_
          have ih2 := ih (a + 1) (by omega)
          rw [show fwN (fun a => subB f a && gdX X p g a) (a + 1) = none by rw [fw_s, e9, show (subB f a && gdX X p g a) = false by rw [h53, Bool.true_and]; unfold gdX wyX; rw [dN_sym, decide_eq_false_iff_not]; exact h105]; rfl] at ih2
          exact ih2
    · refine g_pick [0, 1, 2, 3, 4, 5] (lv' := [(5, .int (nI a)), (4, .int (nI c)), (0, .ref (L 24)), (1, .int (nI p)), (2, .int (nI g)), (3, .int (nI (bitsN f 8)))]) rfl ?_
      have hc := fw_lt _ _ e9
      have hpc2 : pop c ≤ 8 := cntN_le c.testBit 8
      refine g_iload dX4_fewest_15 1 rfl ?_
      refine g_bipush dX4_fewest_17 bp_m6 ?_
      refine g_icmpeq 35 dX4_fewest_19 (by decide) (fun h19 => absurd h19 (nI_n6 (by omega))) (fun h19 => ?_)
      refine g_iload dX4_fewest_22 0 rfl ?_
      refine g_callS (As := [.int (nI a)]) km_X4_85 ky_J6_bitCount_0f7a4 ks_J6_bitCount_0f7a4 (by decide) rfl (Nat.le_of_ble_eq_true rfl) dX4_fewest_24 rfl (c_bitCount (by omega) ?_)
      refine g_iload dX4_fewest_27 1 rfl ?_
      refine g_callS (As := [.int (nI c)]) km_X4_85 ky_J6_bitCount_0f7a4 ks_J6_bitCount_0f7a4 (by decide) rfl (Nat.le_of_ble_eq_true rfl) dX4_fewest_29 rfl (c_bitCount (by omega) ?_)
      refine n_icmpge 39 dX4_fewest_32 (by decide) (by omega) (by omega) (fun h32 => ?_) (fun h32 => ?_)
      · refine g_iconst dX4_fewest_39 ci_0 ?_
        refine g_istore (lv' := [(6, .int (nI 0)), (5, .int (nI a)), (4, .int (nI c)), (0, .ref (L 24)), (1, .int (nI p)), (2, .int (nI g)), (3, .int (nI (bitsN f 8)))]) dX4_fewest_40 (by decide) rfl ?_
        refine g_iload dX4_fewest_42 0 rfl ?_
        refine t_ifeq0 117 dX4_fewest_44 (by decide) ?_
        refine g_iinc (v := nI (a + 1)) (lv' := [(5, .int (nI (a + 1))), (6, .int (nI 0)), (4, .int (nI c)), (0, .ref (L 24)), (1, .int (nI p)), (2, .int (nI g)), (3, .int (nI (bitsN f 8)))]) dX4_fewest_117 1 rfl (inc_n _) (by decide) rfl ?_
        refine g_goto 7 dX4_fewest_120 (by decide) ?_
        refine g_pick [0, 2, 3, 4, 5, 6] (lv' := [(5, .int (nI (a + 1))), (4, .int (nI c)), (0, .ref (L 24)), (1, .int (nI p)), (2, .int (nI g)), (3, .int (nI (bitsN f 8)))]) rfl ?_
        have ih2 := ih (a + 1) (by omega)
        rw [show fwN (fun a => subB f a && gdX X p g a) (a + 1) = some c by rw [fw_s, e9]; show (if _ && decide (pop a < pop c) then some a else some c) = some c; rw [decide_eq_false (by omega), Bool.and_false]; rfl] at ih2
        exact ih2
      · refine g_iconst dX4_fewest_35 ci_1 ?_
        refine g_goto 40 dX4_fewest_36 (by decide) ?_
        refine g_istore (lv' := [(6, .int (nI 1)), (5, .int (nI a)), (4, .int (nI c)), (0, .ref (L 24)), (1, .int (nI p)), (2, .int (nI g)), (3, .int (nI (bitsN f 8)))]) dX4_fewest_40 (by decide) rfl ?_
        refine g_iload dX4_fewest_42 0 rfl ?_
        refine t_ifeq1 (tgt := 117) dX4_fewest_44 (by decide) ?_
        refine g_iload dX4_fewest_47 1 rfl ?_
        refine g_iload_n dX4_fewest_49 rfl 6 rfl ?_
        refine g_iconst dX4_fewest_50 ci_m1 ?_
        refine g_ixor dX4_fewest_51 ?_
        refine g_iand dX4_fewest_52 ?_
        refine sb_ifne 117 dX4_fewest_53 (by decide) (by omega) (fun h53 => ?_) (fun h53 => ?_)
        · refine g_iinc (v := nI (a + 1)) (lv' := [(5, .int (nI (a + 1))), (6, .int (nI 1)), (4, .int (nI c)), (0, .ref (L 24)), (1, .int (nI p)), (2, .int (nI g)), (3, .int (nI (bitsN f 8)))]) dX4_fewest_117 1 rfl (inc_n _) (by decide) rfl ?_
          refine g_goto 7 dX4_fewest_120 (by decide) ?_
          refine g_pick [0, 2, 3, 4, 5, 6] (lv' := [(5, .int (nI (a + 1))), (4, .int (nI c)), (0, .ref (L 24)), (1, .int (nI p)), (2, .int (nI g)), (3, .int (nI (bitsN f 8)))]) rfl ?_
          have ih2 := ih (a + 1) (by omega)
          rw [show fwN (fun a => subB f a && gdX X p g a) (a + 1) = some c by rw [fw_s, e9, show (subB f a && gdX X p g a) = false by rw [h53, Bool.false_and]]; rfl] at ih2
          exact ih2
        · refine g_iconst dX4_fewest_56 ci_0 ?_
          refine g_aload_n dX4_fewest_57 rfl 3 rfl ?_
          refine g_get kf_X4_10 kC_X4 (by decide) 24 at_24 rfl dX4_fewest_58 ?_
          refine g_iload_n dX4_fewest_61 rfl 4 rfl ?_
          refine g_aload_n dX4_fewest_62 rfl 3 rfl ?_
          refine g_get kf_X4_10 kC_X4 (by decide) 24 at_24 rfl dX4_fewest_63 ?_
          refine s_getT (b := 0) (Or.inl rfl) kf_X4_103 (by decide) rfl dX4_fewest_66 ?_
          refine g_iload_n dX4_fewest_69 rfl 4 rfl ?_
          refine s_ald (q := 7) (n := 6) (at_ia (q := 7) rfl) (by omega) (by decide) dX4_fewest_70 ?_
          refine g_tope (z := nI (bitsN (x_kn X p) 8)) (rzT_kn hX (by omega)) ?_
          refine g_iload dX4_fewest_71 1 rfl ?_
          refine g_ixor dX4_fewest_73 ?_
          refine g_tope (z := nI (bitsN (fun k => x_kn X p k ^^ a.testBit k) 8)) (xor_bits _ (by omega)) ?_
          refine g_callV (As := [.int (nI p), .int (nI (bitsN (fun k => x_kn X p k ^^ a.testBit k) 8))]) km_X4_273 ky_X3_sum ki_X3_sum (by decide) 0 (at_tn (Or.inl rfl)) rfl rfl (Nat.le_of_ble_eq_true rfl) dX4_fewest_74 rfl (c_X3_sum (Or.inl rfl) hX ho (by omega) ?_)
          refine g_callS (As := [.int (nI 0), .int (zI (smX X p (fun k => x_kn X p k ^^ a.testBit k) 8))]) km_X4_76 ky_J9_max_7cf53 ks_J9_max_7cf53 (by decide) rfl (Nat.le_of_ble_eq_true rfl) dX4_fewest_77 rfl (c_max0 (by omega) ?_)
          refine g_istore (lv' := [(7, .int (nI ((smX X p (fun k => x_kn X p k ^^ a.testBit k) 8).toNat))), (6, .int (nI 1)), (5, .int (nI a)), (4, .int (nI c)), (0, .ref (L 24)), (1, .int (nI p)), (2, .int (nI g)), (3, .int (nI (bitsN f 8)))]) dX4_fewest_80 (by decide) rfl ?_
          refine g_aload_n dX4_fewest_82 rfl 4 rfl ?_
          refine g_get kf_X4_10 kC_X4 (by decide) 24 at_24 rfl dX4_fewest_83 ?_
          refine g_aload_n dX4_fewest_86 rfl 4 rfl ?_
          refine g_get kf_X4_10 kC_X4 (by decide) 24 at_24 rfl dX4_fewest_87 ?_
          refine s_getT (b := 0) (Or.inl rfl) kf_X4_97 (by decide) rfl dX4_fewest_90 ?_
          refine g_iload_n dX4_fewest_93 rfl 5 rfl ?_
          refine s_ald (q := 5) (n := 6) (at_ia (q := 5) rfl) (by omega) (by decide) dX4_fewest_94 ?_
          refine g_tope (z := nI (x_pl X p)) (rpT_pl hX.1 (by omega)) ?_
          refine g_iload_n dX4_fewest_95 rfl 6 rfl ?_
          refine g_aload_n dX4_fewest_96 rfl 4 rfl ?_
          refine g_get kf_X4_10 kC_X4 (by decide) 24 at_24 rfl dX4_fewest_97 ?_
          refine g_iload dX4_fewest_100 0 rfl ?_
          refine g_callV (As := [.int (nI ((smX X p (fun k => x_kn X p k ^^ a.testBit k) 8).toNat))]) km_X4_170 ky_X3_bearing ki_X3_bearing (by decide) 0 (at_tn (Or.inl rfl)) rfl rfl (Nat.le_of_ble_eq_true rfl) dX4_fewest_102 rfl (c_X3_bearing (Or.inl rfl) hX ho (by omega) ?_)
          refine g_callV (As := [.int (nI (x_pl X p)), .int (nI g), .int (nI (bitsN (beX X ((smX X p (fun k => x_kn X p k ^^ a.testBit k) 8).toNat)) 8))]) km_X4_173 ky_X3_distance ki_X3_distance (by decide) 0 (at_tn (Or.inl rfl)) rfl rfl (Nat.le_of_ble_eq_true rfl) dX4_fewest_105 rfl (c_X3_distance (Or.inl rfl) hX ho (by omega) (by omega) (fun h105 => ?_) (fun h105 => ?_))
          · refine g_bipush dX4_fewest_108 bp_m6 ?_
            refine g_icmpeq 117 dX4_fewest_110 (by decide) (fun h110 => absurd h110 (nI_n6 (by omega))) (fun h110 => ?_)
            refine g_iload dX4_fewest_113 2 rfl ?_
            refine g_istore (lv' := [(4, .int (nI a)), (7, .int (nI ((smX X p (fun k => x_kn X p k ^^ a.testBit k) 8).toNat))), (6, .int (nI 1)), (5, .int (nI a)), (0, .ref (L 24)), (1, .int (nI p)), (2, .int (nI g)), (3, .int (nI (bitsN f 8)))]) dX4_fewest_115 (by decide) rfl ?_
            refine g_iinc (v := nI (a + 1)) (lv' := [(5, .int (nI (a + 1))), (4, .int (nI a)), (7, .int (nI ((smX X p (fun k => x_kn X p k ^^ a.testBit k) 8).toNat))), (6, .int (nI 1)), (0, .ref (L 24)), (1, .int (nI p)), (2, .int (nI g)), (3, .int (nI (bitsN f 8)))]) dX4_fewest_117 3 rfl (inc_n _) (by decide) rfl ?_
            refine g_goto 7 dX4_fewest_120 (by decide) ?_
            refine g_pick [0, 1, 4, 5, 6, 7] (lv' := [(5, .int (nI (a + 1))), (4, .int (nI a)), (0, .ref (L 24)), (1, .int (nI p)), (2, .int (nI g)), (3, .int (nI (bitsN f 8)))]) rfl ?_
            have ih2 := ih (a + 1) (by omega)
            rw [show fwN (fun a => subB f a && gdX X p g a) (a + 1) = some a by rw [fw_s, e9, show (subB f a && gdX X p g a) = true by rw [h53, Bool.true_and]; unfold gdX wyX; rw [dN_sym, decide_eq_true_eq]; exact h105]; show (if true && decide (pop a < pop c) then some a else some c) = some a; rw [decide_eq_true h32]; rfl] at ih2
            exact ih2
          · refine g_bipush dX4_fewest_108 bp_m6 ?_
            refine g_icmpeq 117 dX4_fewest_110 (by decide) (fun h110 => ?_) (fun h110 => absurd h110 (by decide +kernel))
            refine g_iinc (v := nI (a + 1)) (lv' := [(5, .int (nI (a + 1))), (7, .int (nI ((smX X p (fun k => x_kn X p k ^^ a.testBit k) 8).toNat))), (6, .int (nI 1)), (4, .int (nI c)), (0, .ref (L 24)), (1, .int (nI p)), (2, .int (nI g)), (3, .int (nI (bitsN f 8)))]) dX4_fewest_117 2 rfl (inc_n _) (by decide) rfl ?_
            refine g_goto 7 dX4_fewest_120 (by decide) ?_
            refine g_pick [0, 3, 4, 5, 6, 7] (lv' := [(5, .int (nI (a + 1))), (4, .int (nI c)), (0, .ref (L 24)), (1, .int (nI p)), (2, .int (nI g)), (3, .int (nI (bitsN f 8)))]) rfl ?_
            have ih2 := ih (a + 1) (by omega)
            rw [show fwN (fun a => subB f a && gdX X p g a) (a + 1) = some c by rw [fw_s, e9, show (subB f a && gdX X p g a) = false by rw [h53, Bool.true_and]; unfold gdX wyX; rw [dN_sym, decide_eq_false_iff_not]; exact h105]; rfl] at ih2
            exact ih2
set_option maxHeartbeats 4000000 in
set_option maxRecDepth 20000 in
theorem c_X4_fewest {l : Launch} {D : gE} {L : Nat → Nat} {σ : St} {Q : Option Value → va_W → Prop} {d : Nat} {X : XT} (hX : rzT σ 0 X) (ho : okX X) {p g : Nat} {f : Nat → Bool} (hp : p < 6) (hg : g < 6) (h : Q (some (.int (mdf (fwN (fun a => subB f a && gdX X p g a) 256)))) (wsOf D L σ)) : Ctr l D yX4_fewest cX4_fewest 8 (some .int) (rr (d + 3)) [.ref (L 24), .int (nI p), .int (nI g), .int (nI (bitsN f 8))] (wsOf D L σ) Q := by
  refine g_start ky_X4_fewest (Nat.le_of_ble_eq_true rfl) ?_
  refine g_pick [0, 1, 2, 3] (lv' := [(0, .ref (L 24)), (1, .int (nI p)), (2, .int (nI g)), (3, .int (nI (bitsN f 8)))]) rfl ?_
  refine g_bipush dX4_fewest_0 bp_m6 ?_
  refine g_tope (z := mdf (fwN (fun a => subB f a && gdX X p g a) 0)) (rfl) ?_
  refine g_istore (lv' := [(4, .int (mdf (fwN (fun a => subB f a && gdX X p g a) 0))), (0, .ref (L 24)), (1, .int (nI p)), (2, .int (nI g)), (3, .int (nI (bitsN f 8)))]) dX4_fewest_2 (by decide) rfl ?_
  refine g_iconst dX4_fewest_4 ci_0 ?_
  refine g_istore (lv' := [(5, .int (nI 0)), (4, .int (mdf (fwN (fun a => subB f a && gdX X p g a) 0))), (0, .ref (L 24)), (1, .int (nI p)), (2, .int (nI g)), (3, .int (nI (bitsN f 8)))]) dX4_fewest_5 (by decide) rfl ?_
  refine g_pick [0, 1, 2, 3, 4, 5] (lv' := [(5, .int (nI 0)), (4, .int (mdf (fwN (fun a => subB f a && gdX X p g a) 0))), (0, .ref (L 24)), (1, .int (nI p)), (2, .int (nI g)), (3, .int (nI (bitsN f 8)))]) rfl ?_
  exact lp_X4_fewest hX ho hp hg h 256 0 rfl
set_option maxHeartbeats 4000000 in
set_option maxRecDepth 20000 in
theorem c_X4_left {l : Launch} {D : gE} {L : Nat → Nat} {σ : St} {Q : Option Value → va_W → Prop} {d : Nat} {X : XT} (hX : rzT σ 0 X) (ho : okX X) {x y z : Int32} (h : ∀ σ', fc σ σ' → rzT σ' 0 X → Q (some (.int (tripR X x y z (leftF X)))) (wsOf D L σ')) : Ctr l D yX4_left cX4_left 5 (some .int) (rr (d + 4)) [.ref (L 24), .int x, .int y, .int z] (wsOf D L σ) Q := by
  refine g_start ky_X4_left (Nat.le_of_ble_eq_true rfl) ?_
  refine g_pick [0, 1, 2, 3] (lv' := [(0, .ref (L 24)), (1, .int x), (2, .int y), (3, .int z)]) rfl ?_
  refine g_aload_n dX4_left_0 rfl 0 rfl ?_
  refine g_iload_n dX4_left_1 rfl 1 rfl ?_
  refine g_iload_n dX4_left_2 rfl 2 rfl ?_
  refine g_iload_n dX4_left_3 rfl 3 rfl ?_
  refine g_callV (As := [.int x, .int y, .int z]) km_X4_181 ky_X4_refuseTrip ki_X4_refuseTrip (by decide) 24 at_24 rfl rfl (Nat.le_of_ble_eq_true rfl) dX4_left_4 rfl (c_X4_refuseTrip hX ho (fun p t w hp hth ht hw hx hy hz => ?_) (fun h4 => ?_) (fun h4 g4 => ?_))
  · subst hx
    subst hy
    subst hz
    have hsz := ok_sz ho
    have hpp := ok_p ho hp
    have hbu := bu_bd ho p
    refine g_istore (lv' := [(4, .int (nI 0)), (0, .ref (L 24)), (1, .int (nI p)), (2, .int (nI t)), (3, .int (nI w))]) dX4_left_7 (by decide) rfl ?_
    refine g_iload dX4_left_9 0 rfl ?_
    refine t_ifeq0 19 dX4_left_11 (by decide) ?_
    refine g_aload_n dX4_left_19 rfl 1 rfl ?_
    refine g_iload_n dX4_left_20 rfl 2 rfl ?_
    refine g_iload_n dX4_left_21 rfl 3 rfl ?_
    refine g_aload_n dX4_left_22 rfl 1 rfl ?_
    refine g_get kf_X4_10 kC_X4 (by decide) 24 at_24 rfl dX4_left_23 ?_
    refine s_getT (b := 0) (Or.inl rfl) kf_X4_103 (by decide) rfl dX4_left_26 ?_
    refine g_iload_n dX4_left_29 rfl 2 rfl ?_
    refine s_ald (q := 7) (n := 6) (at_ia (q := 7) rfl) (by omega) (by decide) dX4_left_30 ?_
    refine g_tope (z := nI (bitsN (x_kn X p) 8)) (rzT_kn hX (by omega)) ?_
    refine g_callV (As := [.int (nI p), .int (nI t), .int (nI (bitsN (x_kn X p) 8))]) km_X4_184 ky_X4_fewest ki_X4_fewest (by decide) 24 at_24 rfl rfl (Nat.le_of_ble_eq_true rfl) dX4_left_31 rfl (c_X4_fewest hX ho (by omega) (by omega) ?_)
    refine g_iload_n dX4_left_34 rfl 4 rfl ?_
    refine g_callS (As := [.int (mdf (fwN (fun a => subB (x_kn X p) a && gdX X p t a) 256)), .int (nI w)]) km_X4_187 ky_X4_countOrBits ks_X4_countOrBits (by decide) rfl (Nat.le_of_ble_eq_true rfl) dX4_left_35 rfl (c_X4_countOrBits (by omega) (fun c hc => fw_lt _ _ hc) ?_)
    exact g_ireturn dX4_left_38 (Nat.le_refl _) (Nat.le_refl _) (qi (by unfold tripR; rw [thI_t hp hth, teI_t ho ht, ix6 hp, ixt ho ht, if_pos (by rfl), inN_t (a := 0) (b := 1) (by omega) hw (by omega), if_pos rfl]; unfold leftF; rfl) (h _ fc_rfl hX))
  · refine g_istore (lv' := [(4, .int (-1)), (0, .ref (L 24)), (1, .int x), (2, .int y), (3, .int z)]) dX4_left_7 (by decide) rfl ?_
    refine g_iload dX4_left_9 0 rfl ?_
    refine g_ifeq 19 dX4_left_11 (by decide) (fun h11 => absurd h11 (by decide +kernel)) (fun h11 => ?_)
    refine g_iload dX4_left_14 0 rfl ?_
    refine g_goto 38 dX4_left_16 (by decide) ?_
    exact g_ireturn dX4_left_38 (Nat.le_refl _) (Nat.le_refl _) (qi (by unfold tripR; rw [h4, if_neg (by decide)]) (h _ fc_rfl hX))
  · refine g_istore (lv' := [(4, .int (-2)), (0, .ref (L 24)), (1, .int x), (2, .int y), (3, .int z)]) dX4_left_7 (by decide) rfl ?_
    refine g_iload dX4_left_9 0 rfl ?_
    refine g_ifeq 19 dX4_left_11 (by decide) (fun h11 => absurd h11 (by decide +kernel)) (fun h11 => ?_)
    refine g_iload dX4_left_14 0 rfl ?_
    refine g_goto 38 dX4_left_16 (by decide) ?_
    exact g_ireturn dX4_left_38 (Nat.le_refl _) (Nat.le_refl _) (qi (by unfold tripR; rw [h4, if_pos rfl, g4, if_neg (by decide)]) (h _ fc_rfl hX))
set_option maxHeartbeats 4000000 in
set_option maxRecDepth 20000 in
theorem c_X4_cried {l : Launch} {D : gE} {L : Nat → Nat} {σ : St} {Q : Option Value → va_W → Prop} {d : Nat} {X : XT} (hX : rzT σ 0 X) (ho : okX X) {x y z : Int32} (h : ∀ σ', fc σ σ' → rzT σ' 0 X → Q (some (.int (tripR X x y z (leftF X)))) (wsOf D L σ')) : Ctr l D yX4_cried cX4_cried 5 (some .int) (rr (d + 4)) [.ref (L 24), .int x, .int y, .int z] (wsOf D L σ) Q := by
  refine g_start ky_X4_cried (Nat.le_of_ble_eq_true rfl) ?_
  refine g_pick [0, 1, 2, 3] (lv' := [(0, .ref (L 24)), (1, .int x), (2, .int y), (3, .int z)]) rfl ?_
  refine g_aload_n dX4_cried_0 rfl 0 rfl ?_
  refine g_iload_n dX4_cried_1 rfl 1 rfl ?_
  refine g_iload_n dX4_cried_2 rfl 2 rfl ?_
  refine g_iload_n dX4_cried_3 rfl 3 rfl ?_
  refine g_callV (As := [.int x, .int y, .int z]) km_X4_181 ky_X4_refuseTrip ki_X4_refuseTrip (by decide) 24 at_24 rfl rfl (Nat.le_of_ble_eq_true rfl) dX4_cried_4 rfl (c_X4_refuseTrip hX ho (fun p t w hp hth ht hw hx hy hz => ?_) (fun h4 => ?_) (fun h4 g4 => ?_))
  · subst hx
    subst hy
    subst hz
    have hsz := ok_sz ho
    have hpp := ok_p ho hp
    have hbu := bu_bd ho p
    refine g_istore (lv' := [(4, .int (nI 0)), (0, .ref (L 24)), (1, .int (nI p)), (2, .int (nI t)), (3, .int (nI w))]) dX4_cried_7 (by decide) rfl ?_
    refine g_iload dX4_cried_9 0 rfl ?_
    refine t_ifeq0 19 dX4_cried_11 (by decide) ?_
    refine g_aload_n dX4_cried_19 rfl 1 rfl ?_
    refine g_iload_n dX4_cried_20 rfl 2 rfl ?_
    refine g_iload_n dX4_cried_21 rfl 3 rfl ?_
    refine g_aload_n dX4_cried_22 rfl 1 rfl ?_
    refine g_get kf_X4_10 kC_X4 (by decide) 24 at_24 rfl dX4_cried_23 ?_
    refine s_getT (b := 0) (Or.inl rfl) kf_X4_103 (by decide) rfl dX4_cried_26 ?_
    refine g_iload_n dX4_cried_29 rfl 2 rfl ?_
    refine s_ald (q := 7) (n := 6) (at_ia (q := 7) rfl) (by omega) (by decide) dX4_cried_30 ?_
    refine g_tope (z := nI (bitsN (x_kn X p) 8)) (rzT_kn hX (by omega)) ?_
    refine g_callV (As := [.int (nI p), .int (nI t), .int (nI (bitsN (x_kn X p) 8))]) km_X4_184 ky_X4_fewest ki_X4_fewest (by decide) 24 at_24 rfl rfl (Nat.le_of_ble_eq_true rfl) dX4_cried_31 rfl (c_X4_fewest hX ho (by omega) (by omega) ?_)
    refine g_iload_n dX4_cried_34 rfl 4 rfl ?_
    refine g_callS (As := [.int (mdf (fwN (fun a => subB (x_kn X p) a && gdX X p t a) 256)), .int (nI w)]) km_X4_187 ky_X4_countOrBits ks_X4_countOrBits (by decide) rfl (Nat.le_of_ble_eq_true rfl) dX4_cried_35 rfl (c_X4_countOrBits (by omega) (fun c hc => fw_lt _ _ hc) ?_)
    exact g_ireturn dX4_cried_38 (Nat.le_refl _) (Nat.le_refl _) (qi (by unfold tripR; rw [thI_t hp hth, teI_t ho ht, ix6 hp, ixt ho ht, if_pos (by rfl), inN_t (a := 0) (b := 1) (by omega) hw (by omega), if_pos rfl]; unfold leftF; rfl) (h _ fc_rfl hX))
  · refine g_istore (lv' := [(4, .int (-1)), (0, .ref (L 24)), (1, .int x), (2, .int y), (3, .int z)]) dX4_cried_7 (by decide) rfl ?_
    refine g_iload dX4_cried_9 0 rfl ?_
    refine g_ifeq 19 dX4_cried_11 (by decide) (fun h11 => absurd h11 (by decide +kernel)) (fun h11 => ?_)
    refine g_iload dX4_cried_14 0 rfl ?_
    refine g_goto 38 dX4_cried_16 (by decide) ?_
    exact g_ireturn dX4_cried_38 (Nat.le_refl _) (Nat.le_refl _) (qi (by unfold tripR; rw [h4, if_neg (by decide)]) (h _ fc_rfl hX))
  · refine g_istore (lv' := [(4, .int (-2)), (0, .ref (L 24)), (1, .int x), (2, .int y), (3, .int z)]) dX4_cried_7 (by decide) rfl ?_
    refine g_iload dX4_cried_9 0 rfl ?_
    refine g_ifeq 19 dX4_cried_11 (by decide) (fun h11 => absurd h11 (by decide +kernel)) (fun h11 => ?_)
    refine g_iload dX4_cried_14 0 rfl ?_
    refine g_goto 38 dX4_cried_16 (by decide) ?_
    exact g_ireturn dX4_cried_38 (Nat.le_refl _) (Nat.le_refl _) (qi (by unfold tripR; rw [h4, if_pos rfl, g4, if_neg (by decide)]) (h _ fc_rfl hX))
theorem and_nb8 (f g : Nat → Bool) : nI (bitsN f 8) &&& (nI (bitsN g 8) ^^^ (-1)) = nI (bitsN (fun i => f i && !g i) 8) := by
  rw [nb0]
  refine congrArg nI (bitsN_of_tb ?_ (fun i hi => ?_))
  · have h1 := bitsN_lt f 8
    exact Nat.xor_lt_two_pow h1 (Nat.lt_of_le_of_lt Nat.and_le_left h1)
  · rw [Nat.testBit_xor, Nat.testBit_and, bitsN_in f hi, bitsN_in g hi]
    cases f i <;> cases g i <;> rfl
set_option maxHeartbeats 4000000 in
set_option maxRecDepth 20000 in
theorem c_X4_floated {l : Launch} {D : gE} {L : Nat → Nat} {σ : St} {Q : Option Value → va_W → Prop} {d : Nat} {X : XT} (hX : rzT σ 0 X) (ho : okX X) {x y z : Int32} (h : ∀ σ', fc σ σ' → rzT σ' 0 X → Q (some (.int (tripR X x y z (floatF X)))) (wsOf D L σ')) : Ctr l D yX4_floated cX4_floated 6 (some .int) (rr (d + 4)) [.ref (L 24), .int x, .int y, .int z] (wsOf D L σ) Q := by
  refine g_start ky_X4_floated (Nat.le_of_ble_eq_true rfl) ?_
  refine g_pick [0, 1, 2, 3] (lv' := [(0, .ref (L 24)), (1, .int x), (2, .int y), (3, .int z)]) rfl ?_
  refine g_aload_n dX4_floated_0 rfl 0 rfl ?_
  refine g_iload_n dX4_floated_1 rfl 1 rfl ?_
  refine g_iload_n dX4_floated_2 rfl 2 rfl ?_
  refine g_iload_n dX4_floated_3 rfl 3 rfl ?_
  refine g_callV (As := [.int x, .int y, .int z]) km_X4_181 ky_X4_refuseTrip ki_X4_refuseTrip (by decide) 24 at_24 rfl rfl (Nat.le_of_ble_eq_true rfl) dX4_floated_4 rfl (c_X4_refuseTrip hX ho (fun p t w hp hth ht hw hx hy hz => ?_) (fun h4 => ?_) (fun h4 g4 => ?_))
  · subst hx
    subst hy
    subst hz
    have hsz := ok_sz ho
    have hpp := ok_p ho hp
    have hbu := bu_bd ho p
    refine g_istore (lv' := [(4, .int (nI 0)), (0, .ref (L 24)), (1, .int (nI p)), (2, .int (nI t)), (3, .int (nI w))]) dX4_floated_7 (by decide) rfl ?_
    refine g_iload dX4_floated_9 0 rfl ?_
    refine t_ifeq0 17 dX4_floated_11 (by decide) ?_
    refine g_aload_n dX4_floated_17 rfl 1 rfl ?_
    refine g_get kf_X4_10 kC_X4 (by decide) 24 at_24 rfl dX4_floated_18 ?_
    refine g_callV (As := []) km_X4_190 ky_X3_lies ki_X3_lies (by decide) 0 (at_tn (Or.inl rfl)) rfl rfl (Nat.le_of_ble_eq_true rfl) dX4_floated_21 rfl (c_X3_lies (Or.inl rfl) hX ho ?_)
    refine g_aload_n dX4_floated_24 rfl 1 rfl ?_
    refine g_get kf_X4_10 kC_X4 (by decide) 24 at_24 rfl dX4_floated_25 ?_
    refine s_getT (b := 0) (Or.inl rfl) kf_X4_118 (by decide) rfl dX4_floated_28 ?_
    refine g_tope (z := nI (bitsN (x_pu X) 8)) (rpT_pu hX.1) ?_
    refine g_iconst dX4_floated_31 ci_m1 ?_
    refine g_ixor dX4_floated_32 ?_
    refine g_iand dX4_floated_33 ?_
    refine g_tope (z := nI (bitsN (fun i => decide (x_wt X i < 0) && !x_pu X i) 8)) (and_nb8 _ _) ?_
    refine g_aload_n dX4_floated_34 rfl 1 rfl ?_
    refine g_get kf_X4_10 kC_X4 (by decide) 24 at_24 rfl dX4_floated_35 ?_
    refine s_getT (b := 0) (Or.inl rfl) kf_X4_103 (by decide) rfl dX4_floated_38 ?_
    refine g_iload_n dX4_floated_41 rfl 2 rfl ?_
    refine s_ald (q := 7) (n := 6) (at_ia (q := 7) rfl) (by omega) (by decide) dX4_floated_42 ?_
    refine g_tope (z := nI (bitsN (x_kn X p) 8)) (rzT_kn hX (by omega)) ?_
    refine g_iconst dX4_floated_43 ci_m1 ?_
    refine g_ixor dX4_floated_44 ?_
    refine g_iand dX4_floated_45 ?_
    refine g_tope (z := nI (bitsN (lieX X p) 8)) ((and_nb8 _ _).trans (bcg (fun i _ => by unfold lieX; cases decide (x_wt X i < 0) <;> cases x_pu X i <;> cases x_kn X p i <;> rfl))) ?_
    refine g_istore (lv' := [(5, .int (nI (bitsN (lieX X p) 8))), (4, .int (nI 0)), (0, .ref (L 24)), (1, .int (nI p)), (2, .int (nI t)), (3, .int (nI w))]) dX4_floated_46 (by decide) rfl ?_
    refine g_aload_n dX4_floated_48 rfl 2 rfl ?_
    refine g_iload_n dX4_floated_49 rfl 3 rfl ?_
    refine g_iload_n dX4_floated_50 rfl 4 rfl ?_
    refine g_iload dX4_floated_51 0 rfl ?_
    refine g_callV (As := [.int (nI p), .int (nI t), .int (nI (bitsN (lieX X p) 8))]) km_X4_184 ky_X4_fewest ki_X4_fewest (by decide) 24 at_24 rfl rfl (Nat.le_of_ble_eq_true rfl) dX4_floated_53 rfl (c_X4_fewest hX ho (by omega) (by omega) ?_)
    refine g_iload_n dX4_floated_56 rfl 5 rfl ?_
    refine g_callS (As := [.int (mdf (fwN (fun a => subB (lieX X p) a && gdX X p t a) 256)), .int (nI w)]) km_X4_187 ky_X4_countOrBits ks_X4_countOrBits (by decide) rfl (Nat.le_of_ble_eq_true rfl) dX4_floated_57 rfl (c_X4_countOrBits (by omega) (fun c hc => fw_lt _ _ hc) ?_)
    exact g_ireturn dX4_floated_60 (Nat.le_refl _) (Nat.le_refl _) (qi (by unfold tripR; rw [thI_t hp hth, teI_t ho ht, ix6 hp, ixt ho ht, if_pos (by rfl), inN_t (a := 0) (b := 1) (by omega) hw (by omega), if_pos rfl]; unfold floatF; rfl) (h _ fc_rfl hX))
  · refine g_istore (lv' := [(4, .int (-1)), (0, .ref (L 24)), (1, .int x), (2, .int y), (3, .int z)]) dX4_floated_7 (by decide) rfl ?_
    refine g_iload dX4_floated_9 0 rfl ?_
    refine g_ifeq 17 dX4_floated_11 (by decide) (fun h11 => absurd h11 (by decide +kernel)) (fun h11 => ?_)
    refine g_iload dX4_floated_14 0 rfl ?_
    exact g_ireturn dX4_floated_16 (Nat.le_refl _) (Nat.le_refl _) (qi (by unfold tripR; rw [h4, if_neg (by decide)]) (h _ fc_rfl hX))
  · refine g_istore (lv' := [(4, .int (-2)), (0, .ref (L 24)), (1, .int x), (2, .int y), (3, .int z)]) dX4_floated_7 (by decide) rfl ?_
    refine g_iload dX4_floated_9 0 rfl ?_
    refine g_ifeq 17 dX4_floated_11 (by decide) (fun h11 => absurd h11 (by decide +kernel)) (fun h11 => ?_)
    refine g_iload dX4_floated_14 0 rfl ?_
    exact g_ireturn dX4_floated_16 (Nat.le_refl _) (Nat.le_refl _) (qi (by unfold tripR; rw [h4, if_pos rfl, g4, if_neg (by decide)]) (h _ fc_rfl hX))
