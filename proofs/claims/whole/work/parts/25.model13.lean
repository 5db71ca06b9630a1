theorem sA_same (σ : St) (q : Nat) (f : Nat → Int32) : sA (setA σ q f) q = f := if_pos rfl
theorem sA_ne (σ : St) (q r : Nat) (h : r ≠ q) (f : Nat → Int32) : sA (setA σ q f) r = sA σ r := if_neg h
theorem sA_si (σ : St) (o k : Nat) (x : Int32) (q : Nat) : sA (setI σ o k x) q = sA σ q := rfl
set_option maxHeartbeats 4000000 in
set_option maxRecDepth 20000 in
theorem c_X5_isName {l : Launch} {D : gE} {L : Nat → Nat} {σ : St} {Q : Option Value → va_W → Prop} {d : Nat} {c : Nat} (hc : c < 2 ^ 31) (ht : 65 ≤ c ∧ c ≤ 70 → Q (some (.int (nI 1))) (wsOf D L σ)) (hf : ¬ (65 ≤ c ∧ c ≤ 70) → Q (some (.int (nI 0))) (wsOf D L σ)) : Ctr l D yX5_isName cX5_isName 1 (some .boolean) (rr (d + 1)) [.int (nI c)] (wsOf D L σ) Q := by
  refine g_start ky_X5_isName (Nat.le_of_ble_eq_true rfl) ?_
  refine g_pick [0] (lv' := [(0, .int (nI c))]) rfl ?_
  refine g_iload_n dX5_isName_0 rfl 0 rfl ?_
  refine g_i2l dX5_isName_1 ?_
  refine g_ldc2_w kk_X5_162 dX5_isName_2 ?_
  refine g_tople (z := (nI 65).toInt64) (by decide +kernel) ?_
  refine g_ldc2_w kk_X5_164 dX5_isName_5 ?_
  refine g_tople (z := (nI 70).toInt64) (by decide +kernel) ?_
  refine g_callS (As := [.long ((nI c).toInt64), .long ((nI 65).toInt64), .long ((nI 70).toInt64)]) km_X5_118 ky_X5_in ks_X5_in (by decide) rfl (Nat.le_of_ble_eq_true rfl) dX5_isName_8 rfl (c_X5_inN (by omega) (by omega) (fun p9 ha9 hb9 he9 => ?_) (fun h9 => ?_))
  · exact g_zreturn dX5_isName_11 (Nat.le_refl _) (Nat.le_refl _) (Or.inr rfl) (ht (by have := (nI_eq (by omega) (by omega)).mp he9; omega))
  · exact g_zreturn dX5_isName_11 (Nat.le_refl _) (Nat.le_refl _) (Or.inl rfl) (hf (fun q => h9 c q.1 q.2 rfl))
set_option maxHeartbeats 4000000 in
set_option maxRecDepth 20000 in
theorem c_X5_isLetter {l : Launch} {D : gE} {L : Nat → Nat} {σ : St} {Q : Option Value → va_W → Prop} {d : Nat} {c : Nat} (hc : c < 2 ^ 31) (ht : 97 ≤ c ∧ c ≤ 104 → Q (some (.int (nI 1))) (wsOf D L σ)) (hf : ¬ (97 ≤ c ∧ c ≤ 104) → Q (some (.int (nI 0))) (wsOf D L σ)) : Ctr l D yX5_isLetter cX5_isLetter 1 (some .boolean) (rr (d + 1)) [.int (nI c)] (wsOf D L σ) Q := by
  refine g_start ky_X5_isLetter (Nat.le_of_ble_eq_true rfl) ?_
  refine g_pick [0] (lv' := [(0, .int (nI c))]) rfl ?_
  refine g_iload_n dX5_isLetter_0 rfl 0 rfl ?_
  refine g_i2l dX5_isLetter_1 ?_
  refine g_ldc2_w kk_X5_166 dX5_isLetter_2 ?_
  refine g_tople (z := (nI 97).toInt64) (by decide +kernel) ?_
  refine g_ldc2_w kk_X5_168 dX5_isLetter_5 ?_
  refine g_tople (z := (nI 104).toInt64) (by decide +kernel) ?_
  refine g_callS (As := [.long ((nI c).toInt64), .long ((nI 97).toInt64), .long ((nI 104).toInt64)]) km_X5_118 ky_X5_in ks_X5_in (by decide) rfl (Nat.le_of_ble_eq_true rfl) dX5_isLetter_8 rfl (c_X5_inN (by omega) (by omega) (fun p9 ha9 hb9 he9 => ?_) (fun h9 => ?_))
  · exact g_zreturn dX5_isLetter_11 (Nat.le_refl _) (Nat.le_refl _) (Or.inr rfl) (ht (by have := (nI_eq (by omega) (by omega)).mp he9; omega))
  · exact g_zreturn dX5_isLetter_11 (Nat.le_refl _) (Nat.le_refl _) (Or.inl rfl) (hf (fun q => h9 c q.1 q.2 rfl))
set_option maxHeartbeats 4000000 in
set_option maxRecDepth 20000 in
theorem c_X5_readFirst {l : Launch} {D : gE} {L : Nat → Nat} {σ : St} {Q : Option Value → va_W → Prop} {d : Nat} {s : Nat → Nat} {i : Nat} (hI : pI σ s i) (hi : i < 60) (hs : s i < 127) (hd : pdS s i = 0) (ht : pdS s (i + 1) ≠ 4 → ∀ σ', fp σ σ' → pI σ' s (i + 1) → Q (some (.int (nI 1))) (wsOf D L σ')) (hf : pdS s (i + 1) = 4 → ∀ σ', fp σ σ' → Q (some (.int (nI 0))) (wsOf D L σ')) : Ctr l D yX5_readFirst cX5_readFirst 2 (some .boolean) (rr (d + 2)) [.ref (L 33), .int (nI (s i))] (wsOf D L σ) Q := by
  refine g_start ky_X5_readFirst (Nat.le_of_ble_eq_true rfl) ?_
  refine g_pick [0, 1] (lv' := [(0, .ref (L 33)), (1, .int (nI (s i)))]) rfl ?_
  have hjl := pj_le s i
  obtain ⟨i23, i24⟩ := And.intro hI.1 hI.2.1
  have hfp : fp σ σ := fp_rfl
  have a46 : sA σ 46 = sA σ 46 := rfl
  have a47 : sA σ 47 = sA σ 47 := rfl
  have a48 : sA σ 48 = sA σ 48 := rfl
  have a49 : sA σ 49 = sA σ 49 := rfl
  obtain ⟨hps, hb0⟩ := pinv0 hd
  refine g_aload_n dX5_readFirst_0 rfl 0 rfl ?_
  refine s_getM kf_X5_46 (by decide) rfl dX5_readFirst_1 ?_
  refine g_aload_n dX5_readFirst_4 rfl 0 rfl ?_
  refine s_getM kf_X5_170 (by decide) rfl dX5_readFirst_5 ?_
  refine g_tope (z := nI (pjS s i)) (i23) ?_
  refine g_iload_n dX5_readFirst_8 rfl 1 rfl ?_
  refine g_bipush dX5_readFirst_9 bp_46 ?_
  refine n_icmpne 18 dX5_readFirst_11 (by decide) (by omega) (by omega) (fun h11 => ?_) (fun h11 => ?_)
  · refine g_iconst dX5_readFirst_18 ci_2 ?_
    refine s_ast (q := 46) (n := 60) (at_ia (q := 46) rfl) (by omega) (by decide) dX5_readFirst_19 ?_
    have hfp := fp_A hfp 46 (by omega) (upd (sA σ 46) (pjS s i) (nI 2))
    have a46 : sA (setA σ 46 (upd (sA σ 46) (pjS s i) (nI 2))) 46 = upd (sA σ 46) (pjS s i) (nI 2) := (sA_same _ _ _).trans (by rw [a46])
    have a47 := (sA_ne σ 46 47 (by decide) (upd (sA σ 46) (pjS s i) (nI 2))).trans a47
    have a48 := (sA_ne σ 46 48 (by decide) (upd (sA σ 46) (pjS s i) (nI 2))).trans a48
    have a49 := (sA_ne σ 46 49 (by decide) (upd (sA σ 46) (pjS s i) (nI 2))).trans a49
    have i23 : sI (setA σ 46 (upd (sA σ 46) (pjS s i) (nI 2))) 33 23 = _ := i23
    have i24 : sI (setA σ 46 (upd (sA σ 46) (pjS s i) (nI 2))) 33 24 = _ := i24
    generalize setA σ 46 (upd (sA σ 46) (pjS s i) (nI 2)) = σr57 at hfp a46 a47 a48 a49 i23 i24 ⊢
    refine g_aload_n dX5_readFirst_20 rfl 0 rfl ?_
    refine s_getM kf_X5_49 (by decide) rfl dX5_readFirst_21 ?_
    refine g_aload_n dX5_readFirst_24 rfl 0 rfl ?_
    refine s_getM kf_X5_170 (by decide) rfl dX5_readFirst_25 ?_
    refine g_tope (z := nI (pjS s i)) (i23) ?_
    refine g_iload_n dX5_readFirst_28 rfl 1 rfl ?_
    refine g_bipush dX5_readFirst_29 bp_65 ?_
    refine g_isub dX5_readFirst_31 ?_
    refine g_tope (z := nI (s i) - nI 65) (rfl) ?_
    refine s_ast (q := 47) (n := 60) (at_ia (q := 47) rfl) (by omega) (by decide) dX5_readFirst_32 ?_
    have hfp := fp_A hfp 47 (by omega) (upd (sA σr57 47) (pjS s i) (nI (s i) - nI 65))
    have a46 := (sA_ne σr57 47 46 (by decide) (upd (sA σr57 47) (pjS s i) (nI (s i) - nI 65))).trans a46
    have a47 : sA (setA σr57 47 (upd (sA σr57 47) (pjS s i) (nI (s i) - nI 65))) 47 = upd (sA σ 47) (pjS s i) (nI (s i) - nI 65) := (sA_same _ _ _).trans (by rw [a47])
    have a48 := (sA_ne σr57 47 48 (by decide) (upd (sA σr57 47) (pjS s i) (nI (s i) - nI 65))).trans a48
    have a49 := (sA_ne σr57 47 49 (by decide) (upd (sA σr57 47) (pjS s i) (nI (s i) - nI 65))).trans a49
    have i23 : sI (setA σr57 47 (upd (sA σr57 47) (pjS s i) (nI (s i) - nI 65))) 33 23 = _ := i23
    have i24 : sI (setA σr57 47 (upd (sA σr57 47) (pjS s i) (nI (s i) - nI 65))) 33 24 = _ := i24
    generalize setA σr57 47 (upd (sA σr57 47) (pjS s i) (nI (s i) - nI 65)) = σr58 at hfp a46 a47 a48 a49 i23 i24 ⊢
    refine g_aload_n dX5_readFirst_33 rfl 0 rfl ?_
    refine g_iload_n dX5_readFirst_34 rfl 1 rfl ?_
    refine g_bipush dX5_readFirst_35 bp_46 ?_
    refine n_icmpne 44 dX5_readFirst_37 (by decide) (by omega) (by omega) (fun h37 => ?_) (fun h37 => absurd h37 (fun e => h11 e))
    refine g_iload_n dX5_readFirst_44 rfl 1 rfl ?_
    refine g_bipush dX5_readFirst_45 bp_33 ?_
    refine n_icmpne 54 dX5_readFirst_47 (by decide) (by omega) (by omega) (fun h47 => ?_) (fun h47 => ?_)
    · refine g_iconst dX5_readFirst_54 ci_1 ?_
      refine s_putM kf_X5_173 (by decide) dX5_readFirst_55 ?_
      have hfp := fp_I hfp 24 (by omega) (nI 1)
      have a46 := (sA_si σr58 33 24 (nI 1) 46).trans a46
      have a47 := (sA_si σr58 33 24 (nI 1) 47).trans a47
      have a48 := (sA_si σr58 33 24 (nI 1) 48).trans a48
      have a49 := (sA_si σr58 33 24 (nI 1) 49).trans a49
      have i23 := (sI_ne σr58 33 24 23 (by decide) (nI 1)).trans i23
      have i24 : sI (setI σr58 33 24 (nI 1)) 33 24 = nI 1 := sI_same _ _ _ _
      generalize setI σr58 33 24 (nI 1) = σr59 at hfp a46 a47 a48 a49 i23 i24 ⊢
      refine g_aload_n dX5_readFirst_58 rfl 0 rfl ?_
      refine g_dup dX5_readFirst_59 rfl ?_
      refine s_getM kf_X5_170 (by decide) rfl dX5_readFirst_60 ?_
      refine g_tope (z := nI (pjS s i)) (i23) ?_
      refine g_iload_n dX5_readFirst_63 rfl 1 rfl ?_
      refine g_bipush dX5_readFirst_64 bp_46 ?_
      refine n_icmpne 73 dX5_readFirst_66 (by decide) (by omega) (by omega) (fun h66 => ?_) (fun h66 => absurd h66 (fun e => h11 e))
      refine g_iconst dX5_readFirst_73 ci_0 ?_
      refine g_iadd dX5_readFirst_74 ?_
      refine g_tope (z := nI (pjS s i)) (nI_add _ _) ?_
      refine s_putM kf_X5_170 (by decide) dX5_readFirst_75 ?_
      have hfp := fp_I hfp 23 (by omega) (nI (pjS s i))
      have a46 := (sA_si σr59 33 23 (nI (pjS s i)) 46).trans a46
      have a47 := (sA_si σr59 33 23 (nI (pjS s i)) 47).trans a47
      have a48 := (sA_si σr59 33 23 (nI (pjS s i)) 48).trans a48
      have a49 := (sA_si σr59 33 23 (nI (pjS s i)) 49).trans a49
      have i23 : sI (setI σr59 33 23 (nI (pjS s i))) 33 23 = nI (pjS s i) := sI_same _ _ _ _
      have i24 := (sI_ne σr59 33 23 24 (by decide) (nI (pjS s i))).trans i24
      generalize setI σr59 33 23 (nI (pjS s i)) = σr60 at hfp a46 a47 a48 a49 i23 i24 ⊢
      refine g_iload_n dX5_readFirst_78 rfl 1 rfl ?_
      refine g_bipush dX5_readFirst_79 bp_46 ?_
      refine n_icmpeq 97 dX5_readFirst_81 (by decide) (by omega) (by omega) (fun h81 => absurd h81 (h11)) (fun h81 => ?_)
      refine g_iload_n dX5_readFirst_84 rfl 1 rfl ?_
      refine g_bipush dX5_readFirst_85 bp_33 ?_
      refine n_icmpeq 97 dX5_readFirst_87 (by decide) (by omega) (by omega) (fun h87 => absurd h87 (h47)) (fun h87 => ?_)
      refine g_iload_n dX5_readFirst_90 rfl 1 rfl ?_
      refine g_callS (As := [.int (nI (s i))]) km_X5_176 ky_X5_isName ks_X5_isName (by decide) rfl (Nat.le_of_ble_eq_true rfl) dX5_readFirst_91 rfl (c_X5_isName (by omega) (fun h91 => ?_) (fun h91 => ?_))
      · refine t_ifeq1 (tgt := 101) dX5_readFirst_94 (by decide) ?_
        refine g_iconst dX5_readFirst_97 ci_1 ?_
        refine g_goto 102 dX5_readFirst_98 (by decide) ?_
        exact g_zreturn dX5_readFirst_102 (Nat.le_refl _) (Nat.le_refl _) (Or.inr rfl) ((fun hn => ht (by rw [show pdS s (i + 1) = 1 from hn]; decide) _ hfp (pI_next hI (fun q j q1 q2 hj => by rcases (show q = 46 ∨ q = 47 ∨ q = 48 ∨ q = 49 by omega) with rfl | rfl | rfl | rfl; rw [a46]; exact if_neg hj; rw [a47]; exact if_neg hj; rw [a48]; rw [a49]) (i23.trans (by simp only [pjS]; rw [hn]; rfl)) (i24.trans (by rw [show pdS s (i + 1) = 1 from hn])) (fun q => absurd q (by rw [show pdS s (i + 1) = 1 from hn]; decide)) (fun _ => by rw [a47, hb0]; exact if_pos rfl) (fun q => absurd q (by rw [show pdS s (i + 1) = 1 from hn]; decide)) (fun q => absurd q (by rw [show pdS s (i + 1) = 1 from hn]; decide)))) (show nxS (pdS s i) (s i) = 1 by rw [hd]; unfold nxS; rw [if_pos rfl, if_pos h91]))
      · refine t_ifeq0 101 dX5_readFirst_94 (by decide) ?_
        refine g_iconst dX5_readFirst_101 ci_0 ?_
        exact g_zreturn dX5_readFirst_102 (Nat.le_refl _) (Nat.le_refl _) (Or.inl rfl) (hf (show nxS (pdS s i) (s i) = 4 by rw [hd]; unfold nxS; rw [if_pos rfl, if_neg h91, if_neg h47, if_neg h11]) _ hfp)
    · refine g_iconst dX5_readFirst_50 ci_3 ?_
      refine g_goto 55 dX5_readFirst_51 (by decide) ?_
      refine s_putM kf_X5_173 (by decide) dX5_readFirst_55 ?_
      have hfp := fp_I hfp 24 (by omega) (nI 3)
      have a46 := (sA_si σr58 33 24 (nI 3) 46).trans a46
      have a47 := (sA_si σr58 33 24 (nI 3) 47).trans a47
      have a48 := (sA_si σr58 33 24 (nI 3) 48).trans a48
      have a49 := (sA_si σr58 33 24 (nI 3) 49).trans a49
      have i23 := (sI_ne σr58 33 24 23 (by decide) (nI 3)).trans i23
      have i24 : sI (setI σr58 33 24 (nI 3)) 33 24 = nI 3 := sI_same _ _ _ _
      generalize setI σr58 33 24 (nI 3) = σr61 at hfp a46 a47 a48 a49 i23 i24 ⊢
      refine g_aload_n dX5_readFirst_58 rfl 0 rfl ?_
      refine g_dup dX5_readFirst_59 rfl ?_
      refine s_getM kf_X5_170 (by decide) rfl dX5_readFirst_60 ?_
      refine g_tope (z := nI (pjS s i)) (i23) ?_
      refine g_iload_n dX5_readFirst_63 rfl 1 rfl ?_
      refine g_bipush dX5_readFirst_64 bp_46 ?_
      refine n_icmpne 73 dX5_readFirst_66 (by decide) (by omega) (by omega) (fun h66 => ?_) (fun h66 => absurd h66 (fun e => h11 e))
      refine g_iconst dX5_readFirst_73 ci_0 ?_
      refine g_iadd dX5_readFirst_74 ?_
      refine g_tope (z := nI (pjS s i)) (nI_add _ _) ?_
      refine s_putM kf_X5_170 (by decide) dX5_readFirst_75 ?_
      have hfp := fp_I hfp 23 (by omega) (nI (pjS s i))
      have a46 := (sA_si σr61 33 23 (nI (pjS s i)) 46).trans a46
      have a47 := (sA_si σr61 33 23 (nI (pjS s i)) 47).trans a47
      have a48 := (sA_si σr61 33 23 (nI (pjS s i)) 48).trans a48
      have a49 := (sA_si σr61 33 23 (nI (pjS s i)) 49).trans a49
      have i23 : sI (setI σr61 33 23 (nI (pjS s i))) 33 23 = nI (pjS s i) := sI_same _ _ _ _
      have i24 := (sI_ne σr61 33 23 24 (by decide) (nI (pjS s i))).trans i24
      generalize setI σr61 33 23 (nI (pjS s i)) = σr62 at hfp a46 a47 a48 a49 i23 i24 ⊢
      refine g_iload_n dX5_readFirst_78 rfl 1 rfl ?_
      refine g_bipush dX5_readFirst_79 bp_46 ?_
      refine n_icmpeq 97 dX5_readFirst_81 (by decide) (by omega) (by omega) (fun h81 => absurd h81 (h11)) (fun h81 => ?_)
      refine g_iload_n dX5_readFirst_84 rfl 1 rfl ?_
      refine g_bipush dX5_readFirst_85 bp_33 ?_
      refine n_icmpeq 97 dX5_readFirst_87 (by decide) (by omega) (by omega) (fun h87 => ?_) (fun h87 => absurd h87 (fun e => e h47))
      refine g_iconst dX5_readFirst_97 ci_1 ?_
      refine g_goto 102 dX5_readFirst_98 (by decide) ?_
      exact g_zreturn dX5_readFirst_102 (Nat.le_refl _) (Nat.le_refl _) (Or.inr rfl) ((fun hn => ht (by rw [show pdS s (i + 1) = 3 from hn]; decide) _ hfp (pI_next hI (fun q j q1 q2 hj => by rcases (show q = 46 ∨ q = 47 ∨ q = 48 ∨ q = 49 by omega) with rfl | rfl | rfl | rfl; rw [a46]; exact if_neg hj; rw [a47]; exact if_neg hj; rw [a48]; rw [a49]) (i23.trans (by simp only [pjS]; rw [hn]; rfl)) (i24.trans (by rw [show pdS s (i + 1) = 3 from hn])) (fun q => absurd q (by rw [show pdS s (i + 1) = 3 from hn]; decide)) (fun q => absurd q (by rw [show pdS s (i + 1) = 3 from hn]; decide)) (fun q => absurd q (by rw [show pdS s (i + 1) = 3 from hn]; decide)) (fun _ => by rw [a46]; exact if_pos rfl))) (show nxS (pdS s i) (s i) = 3 by rw [hd]; unfold nxS; rw [if_pos rfl, if_neg (show ¬ (65 ≤ s i ∧ s i ≤ 70) by omega), if_pos h47]))
  · refine g_iconst dX5_readFirst_14 ci_3 ?_
    refine g_goto 19 dX5_readFirst_15 (by decide) ?_
    refine s_ast (q := 46) (n := 60) (at_ia (q := 46) rfl) (by omega) (by decide) dX5_readFirst_19 ?_
    have hfp := fp_A hfp 46 (by omega) (upd (sA σ 46) (pjS s i) (nI 3))
    have a46 : sA (setA σ 46 (upd (sA σ 46) (pjS s i) (nI 3))) 46 = upd (sA σ 46) (pjS s i) (nI 3) := (sA_same _ _ _).trans (by rw [a46])
    have a47 := (sA_ne σ 46 47 (by decide) (upd (sA σ 46) (pjS s i) (nI 3))).trans a47
    have a48 := (sA_ne σ 46 48 (by decide) (upd (sA σ 46) (pjS s i) (nI 3))).trans a48
    have a49 := (sA_ne σ 46 49 (by decide) (upd (sA σ 46) (pjS s i) (nI 3))).trans a49
    have i23 : sI (setA σ 46 (upd (sA σ 46) (pjS s i) (nI 3))) 33 23 = _ := i23
    have i24 : sI (setA σ 46 (upd (sA σ 46) (pjS s i) (nI 3))) 33 24 = _ := i24
    generalize setA σ 46 (upd (sA σ 46) (pjS s i) (nI 3)) = σr63 at hfp a46 a47 a48 a49 i23 i24 ⊢
    refine g_aload_n dX5_readFirst_20 rfl 0 rfl ?_
    refine s_getM kf_X5_49 (by decide) rfl dX5_readFirst_21 ?_
    refine g_aload_n dX5_readFirst_24 rfl 0 rfl ?_
    refine s_getM kf_X5_170 (by decide) rfl dX5_readFirst_25 ?_
    refine g_tope (z := nI (pjS s i)) (i23) ?_
    refine g_iload_n dX5_readFirst_28 rfl 1 rfl ?_
    refine g_bipush dX5_readFirst_29 bp_65 ?_
    refine g_isub dX5_readFirst_31 ?_
    refine g_tope (z := nI (s i) - nI 65) (rfl) ?_
    refine s_ast (q := 47) (n := 60) (at_ia (q := 47) rfl) (by omega) (by decide) dX5_readFirst_32 ?_
    have hfp := fp_A hfp 47 (by omega) (upd (sA σr63 47) (pjS s i) (nI (s i) - nI 65))
    have a46 := (sA_ne σr63 47 46 (by decide) (upd (sA σr63 47) (pjS s i) (nI (s i) - nI 65))).trans a46
    have a47 : sA (setA σr63 47 (upd (sA σr63 47) (pjS s i) (nI (s i) - nI 65))) 47 = upd (sA σ 47) (pjS s i) (nI (s i) - nI 65) := (sA_same _ _ _).trans (by rw [a47])
    have a48 := (sA_ne σr63 47 48 (by decide) (upd (sA σr63 47) (pjS s i) (nI (s i) - nI 65))).trans a48
    have a49 := (sA_ne σr63 47 49 (by decide) (upd (sA σr63 47) (pjS s i) (nI (s i) - nI 65))).trans a49
    have i23 : sI (setA σr63 47 (upd (sA σr63 47) (pjS s i) (nI (s i) - nI 65))) 33 23 = _ := i23
    have i24 : sI (setA σr63 47 (upd (sA σr63 47) (pjS s i) (nI (s i) - nI 65))) 33 24 = _ := i24
    generalize setA σr63 47 (upd (sA σr63 47) (pjS s i) (nI (s i) - nI 65)) = σr64 at hfp a46 a47 a48 a49 i23 i24 ⊢
    refine g_aload_n dX5_readFirst_33 rfl 0 rfl ?_
    refine g_iload_n dX5_readFirst_34 rfl 1 rfl ?_
    refine g_bipush dX5_readFirst_35 bp_46 ?_
    refine n_icmpne 44 dX5_readFirst_37 (by decide) (by omega) (by omega) (fun h37 => absurd h37 (fun e => e h11)) (fun h37 => ?_)
    refine g_iconst dX5_readFirst_40 ci_0 ?_
    refine g_goto 55 dX5_readFirst_41 (by decide) ?_
    refine s_putM kf_X5_173 (by decide) dX5_readFirst_55 ?_
    have hfp := fp_I hfp 24 (by omega) (nI 0)
    have a46 := (sA_si σr64 33 24 (nI 0) 46).trans a46
    have a47 := (sA_si σr64 33 24 (nI 0) 47).trans a47
    have a48 := (sA_si σr64 33 24 (nI 0) 48).trans a48
    have a49 := (sA_si σr64 33 24 (nI 0) 49).trans a49
    have i23 := (sI_ne σr64 33 24 23 (by decide) (nI 0)).trans i23
    have i24 : sI (setI σr64 33 24 (nI 0)) 33 24 = nI 0 := sI_same _ _ _ _
    generalize setI σr64 33 24 (nI 0) = σr65 at hfp a46 a47 a48 a49 i23 i24 ⊢
    refine g_aload_n dX5_readFirst_58 rfl 0 rfl ?_
    refine g_dup dX5_readFirst_59 rfl ?_
    refine s_getM kf_X5_170 (by decide) rfl dX5_readFirst_60 ?_
    refine g_tope (z := nI (pjS s i)) (i23) ?_
    refine g_iload_n dX5_readFirst_63 rfl 1 rfl ?_
    refine g_bipush dX5_readFirst_64 bp_46 ?_
    refine n_icmpne 73 dX5_readFirst_66 (by decide) (by omega) (by omega) (fun h66 => absurd h66 (fun e => e h11)) (fun h66 => ?_)
    refine g_iconst dX5_readFirst_69 ci_1 ?_
    refine g_goto 74 dX5_readFirst_70 (by decide) ?_
    refine g_iadd dX5_readFirst_74 ?_
    refine g_tope (z := nI (pjS s i + 1)) (nI_add _ _) ?_
    refine s_putM kf_X5_170 (by decide) dX5_readFirst_75 ?_
    have hfp := fp_I hfp 23 (by omega) (nI (pjS s i + 1))
    have a46 := (sA_si σr65 33 23 (nI (pjS s i + 1)) 46).trans a46
    have a47 := (sA_si σr65 33 23 (nI (pjS s i + 1)) 47).trans a47
    have a48 := (sA_si σr65 33 23 (nI (pjS s i + 1)) 48).trans a48
    have a49 := (sA_si σr65 33 23 (nI (pjS s i + 1)) 49).trans a49
    have i23 : sI (setI σr65 33 23 (nI (pjS s i + 1))) 33 23 = nI (pjS s i + 1) := sI_same _ _ _ _
    have i24 := (sI_ne σr65 33 23 24 (by decide) (nI (pjS s i + 1))).trans i24
    generalize setI σr65 33 23 (nI (pjS s i + 1)) = σr66 at hfp a46 a47 a48 a49 i23 i24 ⊢
    refine g_iload_n dX5_readFirst_78 rfl 1 rfl ?_
    refine g_bipush dX5_readFirst_79 bp_46 ?_
    refine n_icmpeq 97 dX5_readFirst_81 (by decide) (by omega) (by omega) (fun h81 => ?_) (fun h81 => absurd h81 (fun e => e h11))
    refine g_iconst dX5_readFirst_97 ci_1 ?_
    refine g_goto 102 dX5_readFirst_98 (by decide) ?_
    exact g_zreturn dX5_readFirst_102 (Nat.le_refl _) (Nat.le_refl _) (Or.inr rfl) ((fun hn => ht (by rw [show pdS s (i + 1) = 0 from hn]; decide) _ hfp (pI_next hI (fun q j q1 q2 hj => by rcases (show q = 46 ∨ q = 47 ∨ q = 48 ∨ q = 49 by omega) with rfl | rfl | rfl | rfl; rw [a46]; exact if_neg hj; rw [a47]; exact if_neg hj; rw [a48]; rw [a49]) (i23.trans (by simp only [pjS]; rw [hn]; rfl)) (i24.trans (by rw [show pdS s (i + 1) = 0 from hn])) (fun _ => by rw [hps]; unfold stA; have hk : kdS s i = 3 := (by unfold kdS; rw [if_pos h11]); rw [hb0, hk, a46]; exact ⟨if_pos rfl, fun q => by omega, fun q => by omega, fun q => by omega, fun q => by omega⟩) (fun q => absurd q (by rw [show pdS s (i + 1) = 0 from hn]; decide)) (fun q => absurd q (by rw [show pdS s (i + 1) = 0 from hn]; decide)) (fun q => absurd q (by rw [show pdS s (i + 1) = 0 from hn]; decide)))) (show nxS (pdS s i) (s i) = 0 by rw [hd]; unfold nxS; rw [if_pos rfl, if_neg (show ¬ (65 ≤ s i ∧ s i ≤ 70) by omega), if_neg (show ¬ s i = 33 by omega), if_pos h11]))
set_option maxHeartbeats 4000000 in
set_option maxRecDepth 20000 in
theorem c_X5_readSecond {l : Launch} {D : gE} {L : Nat → Nat} {σ : St} {Q : Option Value → va_W → Prop} {d : Nat} {s : Nat → Nat} {i : Nat} (hI : pI σ s i) (hi : i < 60) (hs : s i < 127) (hd : pdS s i = 1) (ht : pdS s (i + 1) ≠ 4 → ∀ σ', fp σ σ' → pI σ' s (i + 1) → Q (some (.int (nI 1))) (wsOf D L σ')) (hf : pdS s (i + 1) = 4 → ∀ σ', fp σ σ' → Q (some (.int (nI 0))) (wsOf D L σ')) : Ctr l D yX5_readSecond cX5_readSecond 3 (some .boolean) (rr (d + 2)) [.ref (L 33), .int (nI (s i))] (wsOf D L σ) Q := by
  refine g_start ky_X5_readSecond (Nat.le_of_ble_eq_true rfl) ?_
  refine g_pick [0, 1] (lv' := [(0, .ref (L 33)), (1, .int (nI (s i)))]) rfl ?_
  have hjl := pj_le s i
  obtain ⟨i23, i24⟩ := And.intro hI.1 hI.2.1
  have hfp : fp σ σ := fp_rfl
  have a46 : sA σ 46 = sA σ 46 := rfl
  have a47 : sA σ 47 = sA σ 47 := rfl
  have a48 : sA σ 48 = sA σ 48 := rfl
  have a49 : sA σ 49 = sA σ 49 := rfl
  obtain ⟨hps, hb1, hp1⟩ := pinv1 hd
  refine g_iload_n dX5_readSecond_0 rfl 1 rfl ?_
  refine g_i2l dX5_readSecond_1 ?_
  refine g_ldc2_w kk_X5_179 dX5_readSecond_2 ?_
  refine g_tople (z := (nI 48).toInt64) (by decide +kernel) ?_
  refine g_ldc2_w kk_X5_181 dX5_readSecond_5 ?_
  refine g_tople (z := (nI 55).toInt64) (by decide +kernel) ?_
  refine g_callS (As := [.long ((nI (s i)).toInt64), .long ((nI 48).toInt64), .long ((nI 55).toInt64)]) km_X5_118 ky_X5_in ks_X5_in (by decide) rfl (Nat.le_of_ble_eq_true rfl) dX5_readSecond_8 rfl (c_X5_inN (by omega) (by omega) (fun p8 ha8 hb8 he8 => ?_) (fun h8 => ?_))
  · have he8 := (nI_eq (by omega) (by omega)).mp he8
    refine g_istore_n (lv' := [(2, .int (nI 1)), (0, .ref (L 33)), (1, .int (nI (s i)))]) dX5_readSecond_11 rfl (by decide) rfl ?_
    refine g_aload_n dX5_readSecond_12 rfl 1 rfl ?_
    refine s_getM kf_X5_46 (by decide) rfl dX5_readSecond_13 ?_
    refine g_aload_n dX5_readSecond_16 rfl 1 rfl ?_
    refine s_getM kf_X5_170 (by decide) rfl dX5_readSecond_17 ?_
    refine g_tope (z := nI (pjS s i)) (i23) ?_
    refine g_iload_n dX5_readSecond_20 rfl 0 rfl ?_
    refine t_ifeq1 (tgt := 28) dX5_readSecond_21 (by decide) ?_
    refine g_iconst dX5_readSecond_24 ci_1 ?_
    refine g_goto 29 dX5_readSecond_25 (by decide) ?_
    refine s_ast (q := 46) (n := 60) (at_ia (q := 46) rfl) (by omega) (by decide) dX5_readSecond_29 ?_
    have hfp := fp_A hfp 46 (by omega) (upd (sA σ 46) (pjS s i) (nI 1))
    have a46 : sA (setA σ 46 (upd (sA σ 46) (pjS s i) (nI 1))) 46 = upd (sA σ 46) (pjS s i) (nI 1) := (sA_same _ _ _).trans (by rw [a46])
    have a47 := (sA_ne σ 46 47 (by decide) (upd (sA σ 46) (pjS s i) (nI 1))).trans a47
    have a48 := (sA_ne σ 46 48 (by decide) (upd (sA σ 46) (pjS s i) (nI 1))).trans a48
    have a49 := (sA_ne σ 46 49 (by decide) (upd (sA σ 46) (pjS s i) (nI 1))).trans a49
    have i23 : sI (setA σ 46 (upd (sA σ 46) (pjS s i) (nI 1))) 33 23 = _ := i23
    have i24 : sI (setA σ 46 (upd (sA σ 46) (pjS s i) (nI 1))) 33 24 = _ := i24
    generalize setA σ 46 (upd (sA σ 46) (pjS s i) (nI 1)) = σr67 at hfp a46 a47 a48 a49 i23 i24 ⊢
    refine g_aload_n dX5_readSecond_30 rfl 1 rfl ?_
    refine s_getM kf_X5_52 (by decide) rfl dX5_readSecond_31 ?_
    refine g_aload_n dX5_readSecond_34 rfl 1 rfl ?_
    refine s_getM kf_X5_170 (by decide) rfl dX5_readSecond_35 ?_
    refine g_tope (z := nI (pjS s i)) (i23) ?_
    refine g_iload_n dX5_readSecond_38 rfl 2 rfl ?_
    refine g_bipush dX5_readSecond_39 bp_65 ?_
    refine g_isub dX5_readSecond_41 ?_
    refine g_tope (z := nI (s i) - nI 65) (rfl) ?_
    refine s_ast (q := 48) (n := 60) (at_ia (q := 48) rfl) (by omega) (by decide) dX5_readSecond_42 ?_
    have hfp := fp_A hfp 48 (by omega) (upd (sA σr67 48) (pjS s i) (nI (s i) - nI 65))
    have a46 := (sA_ne σr67 48 46 (by decide) (upd (sA σr67 48) (pjS s i) (nI (s i) - nI 65))).trans a46
    have a47 := (sA_ne σr67 48 47 (by decide) (upd (sA σr67 48) (pjS s i) (nI (s i) - nI 65))).trans a47
    have a48 : sA (setA σr67 48 (upd (sA σr67 48) (pjS s i) (nI (s i) - nI 65))) 48 = upd (sA σ 48) (pjS s i) (nI (s i) - nI 65) := (sA_same _ _ _).trans (by rw [a48])
    have a49 := (sA_ne σr67 48 49 (by decide) (upd (sA σr67 48) (pjS s i) (nI (s i) - nI 65))).trans a49
    have i23 : sI (setA σr67 48 (upd (sA σr67 48) (pjS s i) (nI (s i) - nI 65))) 33 23 = _ := i23
    have i24 : sI (setA σr67 48 (upd (sA σr67 48) (pjS s i) (nI (s i) - nI 65))) 33 24 = _ := i24
    generalize setA σr67 48 (upd (sA σr67 48) (pjS s i) (nI (s i) - nI 65)) = σr68 at hfp a46 a47 a48 a49 i23 i24 ⊢
    refine g_aload_n dX5_readSecond_43 rfl 1 rfl ?_
    refine s_getM kf_X5_55 (by decide) rfl dX5_readSecond_44 ?_
    refine g_aload_n dX5_readSecond_47 rfl 1 rfl ?_
    refine s_getM kf_X5_170 (by decide) rfl dX5_readSecond_48 ?_
    refine g_tope (z := nI (pjS s i)) (i23) ?_
    refine g_iload_n dX5_readSecond_51 rfl 2 rfl ?_
    refine g_bipush dX5_readSecond_52 bp_48 ?_
    refine g_isub dX5_readSecond_54 ?_
    refine g_tope (z := nI (s i) - nI 48) (rfl) ?_
    refine s_ast (q := 49) (n := 60) (at_ia (q := 49) rfl) (by omega) (by decide) dX5_readSecond_55 ?_
    have hfp := fp_A hfp 49 (by omega) (upd (sA σr68 49) (pjS s i) (nI (s i) - nI 48))
    have a46 := (sA_ne σr68 49 46 (by decide) (upd (sA σr68 49) (pjS s i) (nI (s i) - nI 48))).trans a46
    have a47 := (sA_ne σr68 49 47 (by decide) (upd (sA σr68 49) (pjS s i) (nI (s i) - nI 48))).trans a47
    have a48 := (sA_ne σr68 49 48 (by decide) (upd (sA σr68 49) (pjS s i) (nI (s i) - nI 48))).trans a48
    have a49 : sA (setA σr68 49 (upd (sA σr68 49) (pjS s i) (nI (s i) - nI 48))) 49 = upd (sA σ 49) (pjS s i) (nI (s i) - nI 48) := (sA_same _ _ _).trans (by rw [a49])
    have i23 : sI (setA σr68 49 (upd (sA σr68 49) (pjS s i) (nI (s i) - nI 48))) 33 23 = _ := i23
    have i24 : sI (setA σr68 49 (upd (sA σr68 49) (pjS s i) (nI (s i) - nI 48))) 33 24 = _ := i24
    generalize setA σr68 49 (upd (sA σr68 49) (pjS s i) (nI (s i) - nI 48)) = σr69 at hfp a46 a47 a48 a49 i23 i24 ⊢
    refine g_aload_n dX5_readSecond_56 rfl 1 rfl ?_
    refine g_dup dX5_readSecond_57 rfl ?_
    refine s_getM kf_X5_170 (by decide) rfl dX5_readSecond_58 ?_
    refine g_tope (z := nI (pjS s i)) (i23) ?_
    refine g_iload_n dX5_readSecond_61 rfl 0 rfl ?_
    refine t_ifeq1 (tgt := 69) dX5_readSecond_62 (by decide) ?_
    refine g_iconst dX5_readSecond_65 ci_1 ?_
    refine g_goto 70 dX5_readSecond_66 (by decide) ?_
    refine g_iadd dX5_readSecond_70 ?_
    refine g_tope (z := nI (pjS s i + 1)) (nI_add _ _) ?_
    refine s_putM kf_X5_170 (by decide) dX5_readSecond_71 ?_
    have hfp := fp_I hfp 23 (by omega) (nI (pjS s i + 1))
    have a46 := (sA_si σr69 33 23 (nI (pjS s i + 1)) 46).trans a46
    have a47 := (sA_si σr69 33 23 (nI (pjS s i + 1)) 47).trans a47
    have a48 := (sA_si σr69 33 23 (nI (pjS s i + 1)) 48).trans a48
    have a49 := (sA_si σr69 33 23 (nI (pjS s i + 1)) 49).trans a49
    have i23 : sI (setI σr69 33 23 (nI (pjS s i + 1))) 33 23 = nI (pjS s i + 1) := sI_same _ _ _ _
    have i24 := (sI_ne σr69 33 23 24 (by decide) (nI (pjS s i + 1))).trans i24
    generalize setI σr69 33 23 (nI (pjS s i + 1)) = σr70 at hfp a46 a47 a48 a49 i23 i24 ⊢
    refine g_aload_n dX5_readSecond_74 rfl 1 rfl ?_
    refine g_iload_n dX5_readSecond_75 rfl 0 rfl ?_
    refine t_ifeq1 (tgt := 83) dX5_readSecond_76 (by decide) ?_
    refine g_iconst dX5_readSecond_79 ci_0 ?_
    refine g_goto 84 dX5_readSecond_80 (by decide) ?_
    refine s_putM kf_X5_173 (by decide) dX5_readSecond_84 ?_
    have hfp := fp_I hfp 24 (by omega) (nI 0)
    have a46 := (sA_si σr70 33 24 (nI 0) 46).trans a46
    have a47 := (sA_si σr70 33 24 (nI 0) 47).trans a47
    have a48 := (sA_si σr70 33 24 (nI 0) 48).trans a48
    have a49 := (sA_si σr70 33 24 (nI 0) 49).trans a49
    have i23 := (sI_ne σr70 33 24 23 (by decide) (nI 0)).trans i23
    have i24 : sI (setI σr70 33 24 (nI 0)) 33 24 = nI 0 := sI_same _ _ _ _
    generalize setI σr70 33 24 (nI 0) = σr71 at hfp a46 a47 a48 a49 i23 i24 ⊢
    refine g_iload_n dX5_readSecond_87 rfl 0 rfl ?_
    refine t_ifne1 98 dX5_readSecond_88 (by decide) ?_
    refine g_iconst dX5_readSecond_98 ci_1 ?_
    refine g_goto 103 dX5_readSecond_99 (by decide) ?_
    exact g_zreturn dX5_readSecond_103 (Nat.le_refl _) (Nat.le_refl _) (Or.inr rfl) ((fun hn => ht (by rw [show pdS s (i + 1) = 0 from hn]; decide) _ hfp (pI_next hI (fun q j q1 q2 hj => by rcases (show q = 46 ∨ q = 47 ∨ q = 48 ∨ q = 49 by omega) with rfl | rfl | rfl | rfl; rw [a46]; exact if_neg hj; rw [a47]; rw [a48]; exact if_neg hj; rw [a49]; exact if_neg hj) (i23.trans (by simp only [pjS]; rw [hn]; rfl)) (i24.trans (by rw [show pdS s (i + 1) = 0 from hn])) (fun _ => by rw [hps]; unfold stA; have hk : kdS s (pbS s i) = 1 := (by unfold kdS; rw [hb1, if_neg (by omega), if_neg (by omega), if_neg (by omega)]); rw [hk, a46, a47, a48, a49]; exact ⟨if_pos rfl, fun _ => hI.2.2.2.1 (Or.inl hd), fun q => by omega, fun _ => by rw [hb1]; exact if_pos rfl, fun q => by omega⟩) (fun q => absurd q (by rw [show pdS s (i + 1) = 0 from hn]; decide)) (fun q => absurd q (by rw [show pdS s (i + 1) = 0 from hn]; decide)) (fun q => absurd q (by rw [show pdS s (i + 1) = 0 from hn]; decide)))) (show nxS (pdS s i) (s i) = 0 by rw [hd]; unfold nxS; rw [if_neg (by decide), if_pos rfl, if_neg (show ¬ (65 ≤ s i ∧ s i ≤ 70) by omega), if_pos (show 48 ≤ s i ∧ s i ≤ 55 by omega)]))
  · refine g_istore_n (lv' := [(2, .int (nI 0)), (0, .ref (L 33)), (1, .int (nI (s i)))]) dX5_readSecond_11 rfl (by decide) rfl ?_
    refine g_aload_n dX5_readSecond_12 rfl 1 rfl ?_
    refine s_getM kf_X5_46 (by decide) rfl dX5_readSecond_13 ?_
    refine g_aload_n dX5_readSecond_16 rfl 1 rfl ?_
    refine s_getM kf_X5_170 (by decide) rfl dX5_readSecond_17 ?_
    refine g_tope (z := nI (pjS s i)) (i23) ?_
    refine g_iload_n dX5_readSecond_20 rfl 0 rfl ?_
    refine t_ifeq0 28 dX5_readSecond_21 (by decide) ?_
    refine g_iconst dX5_readSecond_28 ci_0 ?_
    refine s_ast (q := 46) (n := 60) (at_ia (q := 46) rfl) (by omega) (by decide) dX5_readSecond_29 ?_
    have hfp := fp_A hfp 46 (by omega) (upd (sA σ 46) (pjS s i) (nI 0))
    have a46 : sA (setA σ 46 (upd (sA σ 46) (pjS s i) (nI 0))) 46 = upd (sA σ 46) (pjS s i) (nI 0) := (sA_same _ _ _).trans (by rw [a46])
    have a47 := (sA_ne σ 46 47 (by decide) (upd (sA σ 46) (pjS s i) (nI 0))).trans a47
    have a48 := (sA_ne σ 46 48 (by decide) (upd (sA σ 46) (pjS s i) (nI 0))).trans a48
    have a49 := (sA_ne σ 46 49 (by decide) (upd (sA σ 46) (pjS s i) (nI 0))).trans a49
    have i23 : sI (setA σ 46 (upd (sA σ 46) (pjS s i) (nI 0))) 33 23 = _ := i23
    have i24 : sI (setA σ 46 (upd (sA σ 46) (pjS s i) (nI 0))) 33 24 = _ := i24
    generalize setA σ 46 (upd (sA σ 46) (pjS s i) (nI 0)) = σr72 at hfp a46 a47 a48 a49 i23 i24 ⊢
    refine g_aload_n dX5_readSecond_30 rfl 1 rfl ?_
    refine s_getM kf_X5_52 (by decide) rfl dX5_readSecond_31 ?_
    refine g_aload_n dX5_readSecond_34 rfl 1 rfl ?_
    refine s_getM kf_X5_170 (by decide) rfl dX5_readSecond_35 ?_
    refine g_tope (z := nI (pjS s i)) (i23) ?_
    refine g_iload_n dX5_readSecond_38 rfl 2 rfl ?_
    refine g_bipush dX5_readSecond_39 bp_65 ?_
    refine g_isub dX5_readSecond_41 ?_
    refine g_tope (z := nI (s i) - nI 65) (rfl) ?_
    refine s_ast (q := 48) (n := 60) (at_ia (q := 48) rfl) (by omega) (by decide) dX5_readSecond_42 ?_
    have hfp := fp_A hfp 48 (by omega) (upd (sA σr72 48) (pjS s i) (nI (s i) - nI 65))
    have a46 := (sA_ne σr72 48 46 (by decide) (upd (sA σr72 48) (pjS s i) (nI (s i) - nI 65))).trans a46
    have a47 := (sA_ne σr72 48 47 (by decide) (upd (sA σr72 48) (pjS s i) (nI (s i) - nI 65))).trans a47
    have a48 : sA (setA σr72 48 (upd (sA σr72 48) (pjS s i) (nI (s i) - nI 65))) 48 = upd (sA σ 48) (pjS s i) (nI (s i) - nI 65) := (sA_same _ _ _).trans (by rw [a48])
    have a49 := (sA_ne σr72 48 49 (by decide) (upd (sA σr72 48) (pjS s i) (nI (s i) - nI 65))).trans a49
    have i23 : sI (setA σr72 48 (upd (sA σr72 48) (pjS s i) (nI (s i) - nI 65))) 33 23 = _ := i23
    have i24 : sI (setA σr72 48 (upd (sA σr72 48) (pjS s i) (nI (s i) - nI 65))) 33 24 = _ := i24
    generalize setA σr72 48 (upd (sA σr72 48) (pjS s i) (nI (s i) - nI 65)) = σr73 at hfp a46 a47 a48 a49 i23 i24 ⊢
    refine g_aload_n dX5_readSecond_43 rfl 1 rfl ?_
    refine s_getM kf_X5_55 (by decide) rfl dX5_readSecond_44 ?_
    refine g_aload_n dX5_readSecond_47 rfl 1 rfl ?_
    refine s_getM kf_X5_170 (by decide) rfl dX5_readSecond_48 ?_
    refine g_tope (z := nI (pjS s i)) (i23) ?_
    refine g_iload_n dX5_readSecond_51 rfl 2 rfl ?_
    refine g_bipush dX5_readSecond_52 bp_48 ?_
    refine g_isub dX5_readSecond_54 ?_
    refine g_tope (z := nI (s i) - nI 48) (rfl) ?_
    refine s_ast (q := 49) (n := 60) (at_ia (q := 49) rfl) (by omega) (by decide) dX5_readSecond_55 ?_
    have hfp := fp_A hfp 49 (by omega) (upd (sA σr73 49) (pjS s i) (nI (s i) - nI 48))
    have a46 := (sA_ne σr73 49 46 (by decide) (upd (sA σr73 49) (pjS s i) (nI (s i) - nI 48))).trans a46
    have a47 := (sA_ne σr73 49 47 (by decide) (upd (sA σr73 49) (pjS s i) (nI (s i) - nI 48))).trans a47
    have a48 := (sA_ne σr73 49 48 (by decide) (upd (sA σr73 49) (pjS s i) (nI (s i) - nI 48))).trans a48
    have a49 : sA (setA σr73 49 (upd (sA σr73 49) (pjS s i) (nI (s i) - nI 48))) 49 = upd (sA σ 49) (pjS s i) (nI (s i) - nI 48) := (sA_same _ _ _).trans (by rw [a49])
    have i23 : sI (setA σr73 49 (upd (sA σr73 49) (pjS s i) (nI (s i) - nI 48))) 33 23 = _ := i23
    have i24 : sI (setA σr73 49 (upd (sA σr73 49) (pjS s i) (nI (s i) - nI 48))) 33 24 = _ := i24
    generalize setA σr73 49 (upd (sA σr73 49) (pjS s i) (nI (s i) - nI 48)) = σr74 at hfp a46 a47 a48 a49 i23 i24 ⊢
    refine g_aload_n dX5_readSecond_56 rfl 1 rfl ?_
    refine g_dup dX5_readSecond_57 rfl ?_
    refine s_getM kf_X5_170 (by decide) rfl dX5_readSecond_58 ?_
    refine g_tope (z := nI (pjS s i)) (i23) ?_
    refine g_iload_n dX5_readSecond_61 rfl 0 rfl ?_
    refine t_ifeq0 69 dX5_readSecond_62 (by decide) ?_
    refine g_iconst dX5_readSecond_69 ci_0 ?_
    refine g_iadd dX5_readSecond_70 ?_
    refine g_tope (z := nI (pjS s i)) (nI_add _ _) ?_
    refine s_putM kf_X5_170 (by decide) dX5_readSecond_71 ?_
    have hfp := fp_I hfp 23 (by omega) (nI (pjS s i))
    have a46 := (sA_si σr74 33 23 (nI (pjS s i)) 46).trans a46
    have a47 := (sA_si σr74 33 23 (nI (pjS s i)) 47).trans a47
    have a48 := (sA_si σr74 33 23 (nI (pjS s i)) 48).trans a48
    have a49 := (sA_si σr74 33 23 (nI (pjS s i)) 49).trans a49
    have i23 : sI (setI σr74 33 23 (nI (pjS s i))) 33 23 = nI (pjS s i) := sI_same _ _ _ _
    have i24 := (sI_ne σr74 33 23 24 (by decide) (nI (pjS s i))).trans i24
    generalize setI σr74 33 23 (nI (pjS s i)) = σr75 at hfp a46 a47 a48 a49 i23 i24 ⊢
    refine g_aload_n dX5_readSecond_74 rfl 1 rfl ?_
    refine g_iload_n dX5_readSecond_75 rfl 0 rfl ?_
    refine t_ifeq0 83 dX5_readSecond_76 (by decide) ?_
    refine g_iconst dX5_readSecond_83 ci_2 ?_
    refine s_putM kf_X5_173 (by decide) dX5_readSecond_84 ?_
    have hfp := fp_I hfp 24 (by omega) (nI 2)
    have a46 := (sA_si σr75 33 24 (nI 2) 46).trans a46
    have a47 := (sA_si σr75 33 24 (nI 2) 47).trans a47
    have a48 := (sA_si σr75 33 24 (nI 2) 48).trans a48
    have a49 := (sA_si σr75 33 24 (nI 2) 49).trans a49
    have i23 := (sI_ne σr75 33 24 23 (by decide) (nI 2)).trans i23
    have i24 : sI (setI σr75 33 24 (nI 2)) 33 24 = nI 2 := sI_same _ _ _ _
    generalize setI σr75 33 24 (nI 2) = σr76 at hfp a46 a47 a48 a49 i23 i24 ⊢
    refine g_iload_n dX5_readSecond_87 rfl 0 rfl ?_
    refine t_ifne0 (tgt := 98) dX5_readSecond_88 (by decide) ?_
    refine g_iload_n dX5_readSecond_91 rfl 2 rfl ?_
    refine g_callS (As := [.int (nI (s i))]) km_X5_176 ky_X5_isName ks_X5_isName (by decide) rfl (Nat.le_of_ble_eq_true rfl) dX5_readSecond_92 rfl (c_X5_isName (by omega) (fun h92 => ?_) (fun h92 => ?_))
    · refine t_ifeq1 (tgt := 102) dX5_readSecond_95 (by decide) ?_
      refine g_iconst dX5_readSecond_98 ci_1 ?_
      refine g_goto 103 dX5_readSecond_99 (by decide) ?_
      exact g_zreturn dX5_readSecond_103 (Nat.le_refl _) (Nat.le_refl _) (Or.inr rfl) ((fun hn => ht (by rw [show pdS s (i + 1) = 2 from hn]; decide) _ hfp (pI_next hI (fun q j q1 q2 hj => by rcases (show q = 46 ∨ q = 47 ∨ q = 48 ∨ q = 49 by omega) with rfl | rfl | rfl | rfl; rw [a46]; exact if_neg hj; rw [a47]; rw [a48]; exact if_neg hj; rw [a49]; exact if_neg hj) (i23.trans (by simp only [pjS]; rw [hn]; rfl)) (i24.trans (by rw [show pdS s (i + 1) = 2 from hn])) (fun q => absurd q (by rw [show pdS s (i + 1) = 2 from hn]; decide)) (fun _ => by rw [a47]; exact hI.2.2.2.1 (Or.inl hd)) (fun _ => by rw [a46, a48, hb1]; exact ⟨if_pos rfl, if_pos rfl⟩) (fun q => absurd q (by rw [show pdS s (i + 1) = 2 from hn]; decide)))) (show nxS (pdS s i) (s i) = 2 by rw [hd]; unfold nxS; rw [if_neg (by decide), if_pos rfl, if_pos h92]))
    · refine t_ifeq0 102 dX5_readSecond_95 (by decide) ?_
      refine g_iconst dX5_readSecond_102 ci_0 ?_
      exact g_zreturn dX5_readSecond_103 (Nat.le_refl _) (Nat.le_refl _) (Or.inl rfl) (hf (show nxS (pdS s i) (s i) = 4 by rw [hd]; unfold nxS; rw [if_neg (by decide), if_pos rfl, if_neg h92, if_neg (fun q => h8 (s i) q.1 q.2 rfl)]) _ hfp)
set_option maxHeartbeats 4000000 in
set_option maxRecDepth 20000 in
theorem c_X5_readNews {l : Launch} {D : gE} {L : Nat → Nat} {σ : St} {Q : Option Value → va_W → Prop} {d : Nat} {s : Nat → Nat} {i : Nat} (hI : pI σ s i) (hi : i < 60) (hs : s i < 127) (hd : pdS s i = 2 ∨ pdS s i = 3) (ht : pdS s (i + 1) ≠ 4 → ∀ σ', fp σ σ' → pI σ' s (i + 1) → Q (some (.int (nI 1))) (wsOf D L σ')) (hf : pdS s (i + 1) = 4 → ∀ σ', fp σ σ' → Q (some (.int (nI 0))) (wsOf D L σ')) : Ctr l D yX5_readNews cX5_readNews 2 (some .boolean) (rr (d + 2)) [.ref (L 33), .int (nI (s i))] (wsOf D L σ) Q := by
  refine g_start ky_X5_readNews (Nat.le_of_ble_eq_true rfl) ?_
  refine g_pick [0, 1] (lv' := [(0, .ref (L 33)), (1, .int (nI (s i)))]) rfl ?_
  have hjl := pj_le s i
  obtain ⟨i23, i24⟩ := And.intro hI.1 hI.2.1
  have hfp : fp σ σ := fp_rfl
  have a46 : sA σ 46 = sA σ 46 := rfl
  have a47 : sA σ 47 = sA σ 47 := rfl
  have a48 : sA σ 48 = sA σ 48 := rfl
  have a49 : sA σ 49 = sA σ 49 := rfl
  refine g_aload_n dX5_readNews_0 rfl 0 rfl ?_
  refine s_getM kf_X5_55 (by decide) rfl dX5_readNews_1 ?_
  refine g_aload_n dX5_readNews_4 rfl 0 rfl ?_
  refine s_getM kf_X5_170 (by decide) rfl dX5_readNews_5 ?_
  refine g_tope (z := nI (pjS s i)) (i23) ?_
  refine g_iload_n dX5_readNews_8 rfl 1 rfl ?_
  refine g_bipush dX5_readNews_9 bp_97 ?_
  refine g_isub dX5_readNews_11 ?_
  refine g_tope (z := nI (s i) - nI 97) (rfl) ?_
  refine s_ast (q := 49) (n := 60) (at_ia (q := 49) rfl) (by omega) (by decide) dX5_readNews_12 ?_
  have hfp := fp_A hfp 49 (by omega) (upd (sA σ 49) (pjS s i) (nI (s i) - nI 97))
  have a46 := (sA_ne σ 49 46 (by decide) (upd (sA σ 49) (pjS s i) (nI (s i) - nI 97))).trans a46
  have a47 := (sA_ne σ 49 47 (by decide) (upd (sA σ 49) (pjS s i) (nI (s i) - nI 97))).trans a47
  have a48 := (sA_ne σ 49 48 (by decide) (upd (sA σ 49) (pjS s i) (nI (s i) - nI 97))).trans a48
  have a49 : sA (setA σ 49 (upd (sA σ 49) (pjS s i) (nI (s i) - nI 97))) 49 = upd (sA σ 49) (pjS s i) (nI (s i) - nI 97) := (sA_same _ _ _).trans (by rw [a49])
  have i23 : sI (setA σ 49 (upd (sA σ 49) (pjS s i) (nI (s i) - nI 97))) 33 23 = _ := i23
  have i24 : sI (setA σ 49 (upd (sA σ 49) (pjS s i) (nI (s i) - nI 97))) 33 24 = _ := i24
  generalize setA σ 49 (upd (sA σ 49) (pjS s i) (nI (s i) - nI 97)) = σr77 at hfp a46 a47 a48 a49 i23 i24 ⊢
  refine g_aload_n dX5_readNews_13 rfl 0 rfl ?_
  refine g_dup dX5_readNews_14 rfl ?_
  refine s_getM kf_X5_170 (by decide) rfl dX5_readNews_15 ?_
  refine g_tope (z := nI (pjS s i)) (i23) ?_
  refine g_iconst dX5_readNews_18 ci_1 ?_
  refine g_iadd dX5_readNews_19 ?_
  refine g_tope (z := nI (pjS s i + 1)) (nI_add _ _) ?_
  refine s_putM kf_X5_170 (by decide) dX5_readNews_20 ?_
  have hfp := fp_I hfp 23 (by omega) (nI (pjS s i + 1))
  have a46 := (sA_si σr77 33 23 (nI (pjS s i + 1)) 46).trans a46
  have a47 := (sA_si σr77 33 23 (nI (pjS s i + 1)) 47).trans a47
  have a48 := (sA_si σr77 33 23 (nI (pjS s i + 1)) 48).trans a48
  have a49 := (sA_si σr77 33 23 (nI (pjS s i + 1)) 49).trans a49
  have i23 : sI (setI σr77 33 23 (nI (pjS s i + 1))) 33 23 = nI (pjS s i + 1) := sI_same _ _ _ _
  have i24 := (sI_ne σr77 33 23 24 (by decide) (nI (pjS s i + 1))).trans i24
  generalize setI σr77 33 23 (nI (pjS s i + 1)) = σr78 at hfp a46 a47 a48 a49 i23 i24 ⊢
  refine g_aload_n dX5_readNews_23 rfl 0 rfl ?_
  refine g_iconst dX5_readNews_24 ci_0 ?_
  refine s_putM kf_X5_173 (by decide) dX5_readNews_25 ?_
  have hfp := fp_I hfp 24 (by omega) (nI 0)
  have a46 := (sA_si σr78 33 24 (nI 0) 46).trans a46
  have a47 := (sA_si σr78 33 24 (nI 0) 47).trans a47
  have a48 := (sA_si σr78 33 24 (nI 0) 48).trans a48
  have a49 := (sA_si σr78 33 24 (nI 0) 49).trans a49
  have i23 := (sI_ne σr78 33 24 23 (by decide) (nI 0)).trans i23
  have i24 : sI (setI σr78 33 24 (nI 0)) 33 24 = nI 0 := sI_same _ _ _ _
  generalize setI σr78 33 24 (nI 0) = σr79 at hfp a46 a47 a48 a49 i23 i24 ⊢
  refine g_iload_n dX5_readNews_28 rfl 1 rfl ?_
  refine g_callS (As := [.int (nI (s i))]) km_X5_183 ky_X5_isLetter ks_X5_isLetter (by decide) rfl (Nat.le_of_ble_eq_true rfl) dX5_readNews_29 rfl (c_X5_isLetter (by omega) (fun h29 => ?_) (fun h29 => ?_))
  · exact g_zreturn dX5_readNews_32 (Nat.le_refl _) (Nat.le_refl _) (Or.inr rfl) ((fun hn => ht (by rw [show pdS s (i + 1) = 0 from hn]; decide) _ hfp (pI_next hI (fun q j q1 q2 hj => by rcases (show q = 46 ∨ q = 47 ∨ q = 48 ∨ q = 49 by omega) with rfl | rfl | rfl | rfl; rw [a46]; rw [a47]; rw [a48]; rw [a49]; exact if_neg hj) (i23.trans (by simp only [pjS]; rw [hn]; rfl)) (i24.trans (by rw [show pdS s (i + 1) = 0 from hn])) (fun _ => by unfold stA; rw [a46, a47, a48, a49]; rcases hd with hd | hd; obtain ⟨hps, hq⟩ := pinv2 hd; rw [hps]; have hk : kdS s (pbS s i) = 0 := (by unfold kdS; rw [if_neg (by omega), if_neg (by omega), if_pos (by omega)]); rw [hk]; exact ⟨(hI.2.2.2.2.1 hd).1, fun _ => hI.2.2.2.1 (Or.inr hd), fun _ => ⟨(hI.2.2.2.2.1 hd).2, by rw [show pbS s i + 2 = i by omega]; exact if_pos rfl⟩, fun q => by omega, fun q => by omega⟩; obtain ⟨hps, hq⟩ := pinv3 hd; rw [hps]; have hk : kdS s (pbS s i) = 2 := (by unfold kdS; rw [if_neg (by omega), if_pos (by omega)]); rw [hk]; exact ⟨hI.2.2.2.2.2 hd, fun q => by omega, fun q => by omega, fun q => by omega, fun _ => by rw [show pbS s i + 1 = i by omega]; exact if_pos rfl⟩) (fun q => absurd q (by rw [show pdS s (i + 1) = 0 from hn]; decide)) (fun q => absurd q (by rw [show pdS s (i + 1) = 0 from hn]; decide)) (fun q => absurd q (by rw [show pdS s (i + 1) = 0 from hn]; decide)))) (show nxS (pdS s i) (s i) = 0 by unfold nxS; rw [if_neg (by omega), if_neg (by omega), if_neg (by omega), if_pos h29]))
  · exact g_zreturn dX5_readNews_32 (Nat.le_refl _) (Nat.le_refl _) (Or.inl rfl) (hf (show nxS (pdS s i) (s i) = 4 by unfold nxS; rw [if_neg (by omega), if_neg (by omega), if_neg (by omega), if_neg h29]) _ hfp)
/-- the pad, of the class and of the reference -/
def pdM (σ : St) (s : Nat → Nat) (n : Nat) : Prop := sI σ 33 18 = nI n ∧ n ≤ 60 ∧ (∀ i, i < n → sA σ 45 i = nI (s i)) ∧ ∀ i, i < n → s i < 127
theorem fp_pad {a b : St} {s : Nat → Nat} {n : Nat} (h : fp a b) (hp : pdM a s n) : pdM b s n := ⟨(h.2.2.1 18 (by decide) (by decide)).trans hp.1, hp.2.1, fun i hi => by rw [h.1 45 (by omega)]; exact hp.2.2.1 i hi, hp.2.2.2⟩
theorem flt_at {s : Nat → Nat} {n i : Nat} (hi : i < n) (h : ∀ j, j ≤ i → pdS s j ≠ 4) (h4 : pdS s (i + 1) = 4) : fltR s n = nI i := by
  have e : firstN (fun i => pdS s (i + 1) == 4) n = i := firstN_is hi (by simp [h4]) (fun j hj => by simp; exact h (j + 1) (by omega))
  unfold fltR
  rw [e, if_pos hi]
theorem flt_no {s : Nat → Nat} {n : Nat} (h : ∀ j, j ≤ n → pdS s j ≠ 4) : fltR s n = if pdS s n = 0 then -6 else nI n := by
  have e : firstN (fun i => pdS s (i + 1) == 4) n = n := firstN_none (fun j hj => by simp; exact h (j + 1) (by omega))
  unfold fltR
  rw [e, if_neg (by omega)]
set_option maxHeartbeats 4000000 in
set_option maxRecDepth 20000 in
theorem lp_X5_fault {l : Launch} {D : gE} {L : Nat → Nat} {σ : St} {Q : Option Value → va_W → Prop} {d : Nat} {s : Nat → Nat} {n : Nat} (h : ∀ σ', fp σ σ' → (pdS s n = 0 → (∀ j, j ≤ n → pdS s j ≠ 4) → pI σ' s n) → Q (some (.int (fltR s n))) (wsOf D L σ')) : ∀ m i, i + m = n → ∀ σ', fp σ σ' → pdM σ' s n → pI σ' s i → (∀ j, j ≤ i → pdS s j ≠ 4) → G l D yX5_fault cX5_fault 3 (some .int) (rr (d + 3)) Q 0 0 12 [(1, .int (nI i)), (0, .ref (L 33))] [] (wsOf D L σ') := by
  intro m
  induction m with
  | zero =>
    intro i hct σ' hfp hp hI hno
    obtain rfl : i = n := by omega
    have hn60 := hp.2.1
    have hpd := pd_le s i
    refine g_iload_n dX5_fault_12 rfl 0 rfl ?_
    refine g_aload_n dX5_fault_13 rfl 1 rfl ?_
    refine s_getM kf_X5_159 (by decide) rfl dX5_fault_14 ?_
    refine g_tope (z := nI i) (hp.1) ?_
    refine n_icmpge 84 dX5_fault_17 (by decide) (by omega) (by omega) (fun h17 => ?_) (fun h17 => absurd h17 (by omega))
    refine g_aload_n dX5_fault_84 rfl 1 rfl ?_
    refine s_getM kf_X5_173 (by decide) rfl dX5_fault_85 ?_
    refine g_tope (z := nI (pdS s i)) (hI.2.1) ?_
    refine n_ifne 96 dX5_fault_88 (by decide) (by omega) (fun h88 => ?_) (fun h88 => ?_)
    · refine g_aload_n dX5_fault_96 rfl 1 rfl ?_
      refine s_getM kf_X5_159 (by decide) rfl dX5_fault_97 ?_
      refine g_tope (z := nI i) (hp.1) ?_
      exact g_ireturn dX5_fault_100 (Nat.le_refl _) (Nat.le_refl _) (qi (by rw [flt_no hno, if_neg h88]) (h _ hfp (fun q _ => absurd q h88)))
    · refine g_bipush dX5_fault_91 bp_m6 ?_
      refine g_goto 100 dX5_fault_93 (by decide) ?_
      exact g_ireturn dX5_fault_100 (Nat.le_refl _) (Nat.le_refl _) (qi (by rw [flt_no hno, if_pos h88]) (h _ hfp (fun _ _ => hI)))
  | succ m ih =>
    intro i hct σ' hfp hp hI hno
    have hn60 := hp.2.1
    have hpd := pd_le s i
    refine g_iload_n dX5_fault_12 rfl 0 rfl ?_
    refine g_aload_n dX5_fault_13 rfl 1 rfl ?_
    refine s_getM kf_X5_159 (by decide) rfl dX5_fault_14 ?_
    refine g_tope (z := nI n) (hp.1) ?_
    refine n_icmpge 84 dX5_fault_17 (by decide) (by omega) (by omega) (fun h17 => absurd h17 (by omega)) (fun h17 => ?_)
    refine g_aload_n dX5_fault_20 rfl 1 rfl ?_
    refine s_getM kf_X5_173 (by decide) rfl dX5_fault_21 ?_
    refine g_tope (z := nI (pdS s i)) (hI.2.1) ?_
    refine n_ifne 40 dX5_fault_24 (by decide) (by omega) (fun h24 => ?_) (fun h24 => ?_)
    · refine g_aload_n dX5_fault_40 rfl 1 rfl ?_
      refine s_getM kf_X5_173 (by decide) rfl dX5_fault_41 ?_
      refine g_tope (z := nI (pdS s i)) (hI.2.1) ?_
      refine g_iconst dX5_fault_44 ci_1 ?_
      refine n_icmpne 61 dX5_fault_45 (by decide) (by omega) (by omega) (fun h45 => ?_) (fun h45 => ?_)
      · refine g_aload_n dX5_fault_61 rfl 1 rfl ?_
        refine g_aload_n dX5_fault_62 rfl 1 rfl ?_
        refine s_getM kf_X5_43 (by decide) rfl dX5_fault_63 ?_
        refine g_iload_n dX5_fault_66 rfl 0 rfl ?_
        refine s_ald (q := 45) (n := 60) (at_ia (q := 45) rfl) (by omega) (by decide) dX5_fault_67 ?_
        refine g_tope (z := nI (s i)) (hp.2.2.1 _ (by omega)) ?_
        refine g_callV (As := [.int (nI (s i))]) km_X5_192 ky_X5_readNews ki_X5_readNews (by decide) 33 at_33 rfl rfl (Nat.le_of_ble_eq_true rfl) dX5_fault_68 rfl (c_X5_readNews hI (by omega) (hp.2.2.2 i (by omega)) (by have := hno i (Nat.le_refl i); omega) (fun hn σ2 hf2 hI2 => ?_) (fun hn σ2 hf2 => ?_))
        · refine g_istore_n (lv' := [(2, .int (nI 1)), (1, .int (nI i)), (0, .ref (L 33))]) dX5_fault_71 rfl (by decide) rfl ?_
          refine g_iload_n dX5_fault_72 rfl 0 rfl ?_
          refine t_ifne1 78 dX5_fault_73 (by decide) ?_
          refine g_iinc (v := nI (i + 1)) (lv' := [(1, .int (nI (i + 1))), (2, .int (nI 1)), (0, .ref (L 33))]) dX5_fault_78 1 rfl (inc_n _) (by decide) rfl ?_
          refine g_goto 12 dX5_fault_81 (by decide) ?_
          refine g_pick [0, 2] (lv' := [(1, .int (nI (i + 1))), (0, .ref (L 33))]) rfl ?_
          exact ih (i + 1) (by omega) _ (fp_trans hfp hf2) (fp_pad hf2 hp) hI2 (fun j hj => by by_cases e : j = i + 1; rw [e]; exact hn; exact hno j (by omega))
        · refine g_istore_n (lv' := [(2, .int (nI 0)), (1, .int (nI i)), (0, .ref (L 33))]) dX5_fault_71 rfl (by decide) rfl ?_
          refine g_iload_n dX5_fault_72 rfl 0 rfl ?_
          refine t_ifne0 (tgt := 78) dX5_fault_73 (by decide) ?_
          refine g_iload_n dX5_fault_76 rfl 1 rfl ?_
          exact g_ireturn dX5_fault_77 (Nat.le_refl _) (Nat.le_refl _) (qi (flt_at (by omega) hno hn).symm (h _ (fp_trans hfp hf2) (fun _ q => absurd hn (q (i + 1) (by omega)))))
      · refine g_aload_n dX5_fault_48 rfl 1 rfl ?_
        refine g_aload_n dX5_fault_49 rfl 1 rfl ?_
        refine s_getM kf_X5_43 (by decide) rfl dX5_fault_50 ?_
        refine g_iload_n dX5_fault_53 rfl 0 rfl ?_
        refine s_ald (q := 45) (n := 60) (at_ia (q := 45) rfl) (by omega) (by decide) dX5_fault_54 ?_
        refine g_tope (z := nI (s i)) (hp.2.2.1 _ (by omega)) ?_
        refine g_callV (As := [.int (nI (s i))]) km_X5_189 ky_X5_readSecond ki_X5_readSecond (by decide) 33 at_33 rfl rfl (Nat.le_of_ble_eq_true rfl) dX5_fault_55 rfl (c_X5_readSecond hI (by omega) (hp.2.2.2 i (by omega)) h45 (fun hn σ2 hf2 hI2 => ?_) (fun hn σ2 hf2 => ?_))
        · refine g_goto 71 dX5_fault_58 (by decide) ?_
          refine g_istore_n (lv' := [(2, .int (nI 1)), (1, .int (nI i)), (0, .ref (L 33))]) dX5_fault_71 rfl (by decide) rfl ?_
          refine g_iload_n dX5_fault_72 rfl 0 rfl ?_
          refine t_ifne1 78 dX5_fault_73 (by decide) ?_
          refine g_iinc (v := nI (i + 1)) (lv' := [(1, .int (nI (i + 1))), (2, .int (nI 1)), (0, .ref (L 33))]) dX5_fault_78 1 rfl (inc_n _) (by decide) rfl ?_
          refine g_goto 12 dX5_fault_81 (by decide) ?_
          refine g_pick [0, 2] (lv' := [(1, .int (nI (i + 1))), (0, .ref (L 33))]) rfl ?_
          exact ih (i + 1) (by omega) _ (fp_trans hfp hf2) (fp_pad hf2 hp) hI2 (fun j hj => by by_cases e : j = i + 1; rw [e]; exact hn; exact hno j (by omega))
        · refine g_goto 71 dX5_fault_58 (by decide) ?_
          refine g_istore_n (lv' := [(2, .int (nI 0)), (1, .int (nI i)), (0, .ref (L 33))]) dX5_fault_71 rfl (by decide) rfl ?_
          refine g_iload_n dX5_fault_72 rfl 0 rfl ?_
          refine t_ifne0 (tgt := 78) dX5_fault_73 (by decide) ?_
          refine g_iload_n dX5_fault_76 rfl 1 rfl ?_
          exact g_ireturn dX5_fault_77 (Nat.le_refl _) (Nat.le_refl _) (qi (flt_at (by omega) hno hn).symm (h _ (fp_trans hfp hf2) (fun _ q => absurd hn (q (i + 1) (by omega)))))
    · refine g_aload_n dX5_fault_27 rfl 1 rfl ?_
      refine g_aload_n dX5_fault_28 rfl 1 rfl ?_
      refine s_getM kf_X5_43 (by decide) rfl dX5_fault_29 ?_
      refine g_iload_n dX5_fault_32 rfl 0 rfl ?_
      refine s_ald (q := 45) (n := 60) (at_ia (q := 45) rfl) (by omega) (by decide) dX5_fault_33 ?_
      refine g_tope (z := nI (s i)) (hp.2.2.1 _ (by omega)) ?_
      refine g_callV (As := [.int (nI (s i))]) km_X5_186 ky_X5_readFirst ki_X5_readFirst (by decide) 33 at_33 rfl rfl (Nat.le_of_ble_eq_true rfl) dX5_fault_34 rfl (c_X5_readFirst hI (by omega) (hp.2.2.2 i (by omega)) h24 (fun hn σ2 hf2 hI2 => ?_) (fun hn σ2 hf2 => ?_))
      · refine g_goto 71 dX5_fault_37 (by decide) ?_
        refine g_istore_n (lv' := [(2, .int (nI 1)), (1, .int (nI i)), (0, .ref (L 33))]) dX5_fault_71 rfl (by decide) rfl ?_
        refine g_iload_n dX5_fault_72 rfl 0 rfl ?_
        refine t_ifne1 78 dX5_fault_73 (by decide) ?_
        refine g_iinc (v := nI (i + 1)) (lv' := [(1, .int (nI (i + 1))), (2, .int (nI 1)), (0, .ref (L 33))]) dX5_fault_78 1 rfl (inc_n _) (by decide) rfl ?_
        refine g_goto 12 dX5_fault_81 (by decide) ?_
        refine g_pick [0, 2] (lv' := [(1, .int (nI (i + 1))), (0, .ref (L 33))]) rfl ?_
        exact ih (i + 1) (by omega) _ (fp_trans hfp hf2) (fp_pad hf2 hp) hI2 (fun j hj => by by_cases e : j = i + 1; rw [e]; exact hn; exact hno j (by omega))
      · refine g_goto 71 dX5_fault_37 (by decide) ?_
        refine g_istore_n (lv' := [(2, .int (nI 0)), (1, .int (nI i)), (0, .ref (L 33))]) dX5_fault_71 rfl (by decide) rfl ?_
        refine g_iload_n dX5_fault_72 rfl 0 rfl ?_
        refine t_ifne0 (tgt := 78) dX5_fault_73 (by decide) ?_
        refine g_iload_n dX5_fault_76 rfl 1 rfl ?_
        exact g_ireturn dX5_fault_77 (Nat.le_refl _) (Nat.le_refl _) (qi (flt_at (by omega) hno hn).symm (h _ (fp_trans hfp hf2) (fun _ q => absurd hn (q (i + 1) (by omega)))))
set_option maxHeartbeats 4000000 in
set_option maxRecDepth 20000 in
theorem c_X5_fault {l : Launch} {D : gE} {L : Nat → Nat} {σ : St} {Q : Option Value → va_W → Prop} {d : Nat} {s : Nat → Nat} {n : Nat} (hp : pdM σ s n) (h : ∀ σ', fp σ σ' → (pdS s n = 0 → (∀ j, j ≤ n → pdS s j ≠ 4) → pI σ' s n) → Q (some (.int (fltR s n))) (wsOf D L σ')) : Ctr l D yX5_fault cX5_fault 3 (some .int) (rr (d + 3)) [.ref (L 33)] (wsOf D L σ) Q := by
  refine g_start ky_X5_fault (Nat.le_of_ble_eq_true rfl) ?_
  refine g_pick [0] (lv' := [(0, .ref (L 33))]) rfl ?_
  refine g_aload_n dX5_fault_0 rfl 0 rfl ?_
  refine g_iconst dX5_fault_1 ci_0 ?_
  refine s_putM kf_X5_170 (by decide) dX5_fault_2 ?_
  have hfp := fp_I (fp_rfl (σ := σ)) 23 (by omega) (nI 0)
  refine g_aload_n dX5_fault_5 rfl 0 rfl ?_
  refine g_iconst dX5_fault_6 ci_0 ?_
  refine s_putM kf_X5_173 (by decide) dX5_fault_7 ?_
  have hfp := fp_I hfp 24 (by omega) (nI 0)
  refine g_iconst dX5_fault_10 ci_0 ?_
  refine g_istore_n (lv' := [(1, .int (nI 0)), (0, .ref (L 33))]) dX5_fault_11 rfl (by decide) rfl ?_
  refine g_pick [0, 1] (lv' := [(1, .int (nI 0)), (0, .ref (L 33))]) rfl ?_
  exact lp_X5_fault h n 0 (by omega) _ hfp (fp_pad hfp hp) ⟨sI_ne _ _ _ _ (by decide) _ |>.trans (sI_same _ _ _ _), sI_same _ _ _ _, fun j hj => absurd hj (by simp only [pjS]; omega), fun q => by simp only [pdS] at q; omega, fun q => by simp only [pdS] at q; omega, fun q => by simp only [pdS] at q; omega⟩ (fun j hj => by rw [show j = 0 by omega]; simp [pdS])
