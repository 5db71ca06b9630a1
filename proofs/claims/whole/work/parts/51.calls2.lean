/-! JUDGED, BEHIND, DONE of the class -/
theorem flt_ok {s : Nat → Nat} {n : Nat} (hn : n ≤ 60) (h : fltR s n = -6) : ∀ j, j ≤ n → pdS s j ≠ 4 := by
  rcases flt_cases (s := s) hn with ⟨_, _, h4⟩ | ⟨v, hv, e⟩
  · exact h4
  · rw [h] at e; exact absurd e.symm (nI_m6 hv)
def fcQ (σ σ' : St) : Prop := (∀ q, 24 ≤ q → q < 30 ∨ 32 < q → sA σ' q = sA σ q) ∧ (∀ o, 24 ≤ o → o ≠ 28 → o ≠ 26 → sI σ' o = sI σ o) ∧ sK σ' = sK σ ∧ sM σ' = sM σ
theorem fc_Q {σ σ' : St} (h : fc σ σ') : fcQ σ σ' := ⟨h.1, fun o h1 h2 _ => h.2.1 o h1 h2, h.2.2.1, h.2.2.2⟩
theorem fcQ_I {σ σ' : St} (h : fc σ σ') (x : Int32) : fcQ σ (setI σ' 26 1 x) := ⟨h.1, fun o h1 h2 h3 => (if_neg h3).trans (h.2.1 o h1 h2), h.2.2.1, h.2.2.2⟩
theorem qdC {Q : Option Value → va_W → Prop} {D : gE} {L : Nat → Nat} {σ : St} {X : XT} {s : Nat → Nat} {n : Nat} (h : ∀ σ', fcQ σ σ' → rzT σ' 0 (doneO X s n).2.1 → padC σ' s (doneO X s n).2.2 → Q (some (.int (doneO X s n).1)) (wsOf D L σ')) {r : Int32} {X' : XT} {n' : Nat} (e : doneO X s n = (r, X', n')) {σ' : St} (hf : fcQ σ σ') (hX : rzT σ' 0 X') (hp : padC σ' s n') : Q (some (.int r)) (wsOf D L σ') := by
  rw [e] at h; exact h σ' hf hX hp
set_option maxHeartbeats 4000000 in
set_option maxRecDepth 20000 in
theorem c_X4_judge {l : Launch} {D : gE} {L : Nat → Nat} {σ : St} {Q : Option Value → va_W → Prop} {d : Nat} {X : XT} (hX : rzT σ 0 X) (ho : okX X) {s : Nat → Nat} {n : Nat} (hp : padC σ s n) {x : Int32} (h : ∀ σ', fc σ σ' → rzT σ' 0 X → Q (some (.int (judgeR X s n x))) (wsOf D L σ')) : Ctr l D yX4_judge cX4_judge 2 (some .int) (rr (d + 6)) [.ref (L 24), .int x] (wsOf D L σ) Q := by
  refine g_start ky_X4_judge (Nat.le_of_ble_eq_true rfl) ?_
  refine g_pick [0, 1] (lv' := [(0, .ref (L 24)), (1, .int x)]) rfl ?_
  refine g_iload_n dX4_judge_0 rfl 1 rfl ?_
  refine g_iconst dX4_judge_1 ci_0 ?_
  refine g_iconst dX4_judge_2 ci_4 ?_
  refine g_callS (As := [.int x, .int (nI 0), .int (nI 4)]) km_X4_44 ky_X4_within ks_X4_within (by decide) rfl (Nat.le_of_ble_eq_true rfl) dX4_judge_3 rfl (c_X4_withinN (by omega) (by omega) (fun p3 ha3 hb3 he3 => ?_) (fun h3 => ?_))
  · subst he3
    refine t_ifne1 12 dX4_judge_6 (by decide) ?_
    refine g_aload_n dX4_judge_12 rfl 0 rfl ?_
    refine g_get kf_X4_33 kC_X4 (by decide) 24 at_24 rfl dX4_judge_13 ?_
    refine g_aload_n dX4_judge_16 rfl 0 rfl ?_
    refine g_get kf_X4_26 kC_X4 (by decide) 24 at_24 rfl dX4_judge_17 ?_
    refine g_aload_n dX4_judge_20 rfl 0 rfl ?_
    refine g_get kf_X4_10 kC_X4 (by decide) 24 at_24 rfl dX4_judge_21 ?_
    refine g_aload_n dX4_judge_24 rfl 0 rfl ?_
    refine g_get kf_X4_16 kC_X4 (by decide) 24 at_24 rfl dX4_judge_25 ?_
    refine g_callV (As := [.ref (L 26), .ref (L 0), .ref (L 12)]) km_X4_134 ky_X0_live ki_X0_live (by decide) 28 at_28 rfl rfl (Nat.le_of_ble_eq_true rfl) dX4_judge_28 rfl (c_X0_live hp hX ho (fun v hv hf σ2 hf2 e0 => ?_) (fun hf hg σ2 hf2 e0 r1 e2 => ?_) (fun hf hg σ2 hf2 e0 e2 hct hT => ?_))
    · refine g_aload_n dX4_judge_31 rfl 0 rfl ?_
      refine g_get kf_X4_33 kC_X4 (by decide) 24 at_24 rfl dX4_judge_32 ?_
      refine g_get kf_X4_138 kC_X0 (by decide) 28 at_28 rfl dX4_judge_35 ?_
      refine g_tope (z := (-5)) (e0) ?_
      refine g_bipush dX4_judge_38 bp_m5 ?_
      refine g_icmpeq 60 dX4_judge_40 (by decide) (fun h40 => ?_) (fun h40 => absurd h40 (by decide +kernel))
      refine g_aload_n dX4_judge_60 rfl 0 rfl ?_
      refine g_get kf_X4_33 kC_X4 (by decide) 24 at_24 rfl dX4_judge_61 ?_
      refine g_get kf_X4_138 kC_X0 (by decide) 28 at_28 rfl dX4_judge_64 ?_
      refine g_tope (z := (-5)) (e0) ?_
      exact g_ireturn dX4_judge_67 (Nat.le_refl _) (Nat.le_refl _) (qi (by unfold judgeR; rw [inN_t (a := 0) (b := 4) (by omega) (by omega) (by omega), if_pos rfl, if_neg (by rw [hf]; exact nI_m6 hv)]) (h _ (fc_fD hf2) (fD_0 hf2 hX)))
    · refine g_aload_n dX4_judge_31 rfl 0 rfl ?_
      refine g_get kf_X4_33 kC_X4 (by decide) 24 at_24 rfl dX4_judge_32 ?_
      refine g_get kf_X4_138 kC_X0 (by decide) 28 at_28 rfl dX4_judge_35 ?_
      refine g_tope (z := (-3)) (e0) ?_
      refine g_bipush dX4_judge_38 bp_m5 ?_
      refine g_icmpeq 60 dX4_judge_40 (by decide) (fun h40 => absurd h40 (by decide +kernel)) (fun h40 => ?_)
      refine g_aload_n dX4_judge_43 rfl 0 rfl ?_
      refine g_get kf_X4_33 kC_X4 (by decide) 24 at_24 rfl dX4_judge_44 ?_
      refine g_get kf_X4_138 kC_X0 (by decide) 28 at_28 rfl dX4_judge_47 ?_
      refine g_tope (z := (-3)) (e0) ?_
      refine g_bipush dX4_judge_50 bp_m3 ?_
      refine g_icmpne 68 dX4_judge_52 (by decide) (fun h52 => absurd h52 (by decide +kernel)) (fun h52 => ?_)
      refine g_iload_n dX4_judge_55 rfl 1 rfl ?_
      refine g_iconst dX4_judge_56 ci_2 ?_
      refine n_icmplt 68 dX4_judge_57 (by decide) (by omega) (by omega) (fun h57 => ?_) (fun h57 => ?_)
      · refine g_iload_n dX4_judge_68 rfl 1 rfl ?_
        rcases (show p3 = 0 ∨ p3 = 1 ∨ p3 = 2 ∨ p3 = 3 ∨ p3 = 4 by omega) with rfl | rfl | rfl | rfl | rfl
        · refine g_tableIn 100 dX4_judge_69 (by decide +kernel) (by decide +kernel) (by rfl) (by decide) ?_
          refine g_aload_n dX4_judge_100 rfl 0 rfl ?_
          refine g_get kf_X4_33 kC_X4 (by decide) 24 at_24 rfl dX4_judge_101 ?_
          refine g_get kf_X4_138 kC_X0 (by decide) 28 at_28 rfl dX4_judge_104 ?_
          refine g_tope (z := (-3)) (e0) ?_
          refine g_bipush dX4_judge_107 bp_m3 ?_
          refine g_icmpne 122 dX4_judge_109 (by decide) (fun h109 => absurd h109 (by decide +kernel)) (fun h109 => ?_)
          refine g_aload_n dX4_judge_112 rfl 0 rfl ?_
          refine g_get kf_X4_33 kC_X4 (by decide) 24 at_24 rfl dX4_judge_113 ?_
          refine g_get kf_X4_141 kC_X0 (by decide) 28 at_28 rfl dX4_judge_116 ?_
          refine g_tope (z := nI (gdS s X (pjS s n))) (e2) ?_
          refine g_goto 124 dX4_judge_119 (by decide) ?_
          exact g_ireturn dX4_judge_124 (Nat.le_refl _) (Nat.le_refl _) (qi (by rw [judge_in (by omega) hf]; unfold jdR; rw [if_pos hg]; rfl) (h _ (fc_fD hf2) (fD_0 hf2 hX)))
        · refine g_tableIn 125 dX4_judge_69 (by decide +kernel) (by decide +kernel) (by rfl) (by decide) ?_
          refine g_aload_n dX4_judge_125 rfl 0 rfl ?_
          refine g_get kf_X4_33 kC_X4 (by decide) 24 at_24 rfl dX4_judge_126 ?_
          refine g_get kf_X4_138 kC_X0 (by decide) 28 at_28 rfl dX4_judge_129 ?_
          refine g_tope (z := (-3)) (e0) ?_
          refine g_bipush dX4_judge_132 bp_m3 ?_
          refine g_icmpne 147 dX4_judge_134 (by decide) (fun h134 => absurd h134 (by decide +kernel)) (fun h134 => ?_)
          refine g_aload_n dX4_judge_137 rfl 0 rfl ?_
          refine g_get kf_X4_33 kC_X4 (by decide) 24 at_24 rfl dX4_judge_138 ?_
          refine g_get kf_X4_144 kC_X0 (by decide) 28 at_28 rfl dX4_judge_141 ?_
          refine g_tope (z := nI (wyS s X (gdS s X (pjS s n)))) (r1) ?_
          refine g_goto 149 dX4_judge_144 (by decide) ?_
          exact g_ireturn dX4_judge_149 (Nat.le_refl _) (Nat.le_refl _) (qi (by rw [judge_in (by omega) hf]; unfold jdR; rw [if_pos hg]; rfl) (h _ (fc_fD hf2) (fD_0 hf2 hX)))
        · refine g_tableIn 150 dX4_judge_69 (by decide +kernel) (by decide +kernel) (by rfl) (by decide) ?_
          refine g_aload_n dX4_judge_150 rfl 0 rfl ?_
          refine g_get kf_X4_33 kC_X4 (by decide) 24 at_24 rfl dX4_judge_151 ?_
          refine g_get kf_X4_147 kC_X0 (by decide) 28 at_28 rfl dX4_judge_154 ?_
          exact g_ireturn dX4_judge_157 (Nat.le_refl _) (Nat.le_refl _) (absurd h57 (by decide))
        · refine g_tableIn 158 dX4_judge_69 (by decide +kernel) (by decide +kernel) (by rfl) (by decide) ?_
          refine g_aload_n dX4_judge_158 rfl 0 rfl ?_
          refine g_get kf_X4_33 kC_X4 (by decide) 24 at_24 rfl dX4_judge_159 ?_
          refine g_get kf_X4_150 kC_X0 (by decide) 28 at_28 rfl dX4_judge_162 ?_
          exact g_ireturn dX4_judge_165 (Nat.le_refl _) (Nat.le_refl _) (absurd h57 (by decide))
        · refine g_tableOut 166 dX4_judge_69 (by decide +kernel) (by decide) ?_
          refine g_aload_n dX4_judge_166 rfl 0 rfl ?_
          refine g_get kf_X4_33 kC_X4 (by decide) 24 at_24 rfl dX4_judge_167 ?_
          refine g_get kf_X4_153 kC_X0 (by decide) 28 at_28 rfl dX4_judge_170 ?_
          exact g_ireturn dX4_judge_173 (Nat.le_refl _) (Nat.le_refl _) (absurd h57 (by decide))
      · refine g_aload_n dX4_judge_60 rfl 0 rfl ?_
        refine g_get kf_X4_33 kC_X4 (by decide) 24 at_24 rfl dX4_judge_61 ?_
        refine g_get kf_X4_138 kC_X0 (by decide) 28 at_28 rfl dX4_judge_64 ?_
        refine g_tope (z := (-3)) (e0) ?_
        exact g_ireturn dX4_judge_67 (Nat.le_refl _) (Nat.le_refl _) (qi (by rw [judge_in (by omega) hf]; unfold jdR; rw [if_pos hg, if_neg (by omega), if_neg (by omega)]) (h _ (fc_fD hf2) (fD_0 hf2 hX)))
    · have hok := dy_ok (wf_all s n (flt_ok hp.2.1 hf n (Nat.le_refl n))) ho _ (Nat.le_refl (pjS s n))
      refine g_aload_n dX4_judge_31 rfl 0 rfl ?_
      refine g_get kf_X4_33 kC_X4 (by decide) 24 at_24 rfl dX4_judge_32 ?_
      refine g_get kf_X4_138 kC_X0 (by decide) 28 at_28 rfl dX4_judge_35 ?_
      refine g_tope (z := nI 0) (e0) ?_
      refine g_bipush dX4_judge_38 bp_m5 ?_
      refine g_icmpeq 60 dX4_judge_40 (by decide) (fun h40 => absurd h40 (by decide +kernel)) (fun h40 => ?_)
      refine g_aload_n dX4_judge_43 rfl 0 rfl ?_
      refine g_get kf_X4_33 kC_X4 (by decide) 24 at_24 rfl dX4_judge_44 ?_
      refine g_get kf_X4_138 kC_X0 (by decide) 28 at_28 rfl dX4_judge_47 ?_
      refine g_tope (z := nI 0) (e0) ?_
      refine g_bipush dX4_judge_50 bp_m3 ?_
      refine g_icmpne 68 dX4_judge_52 (by decide) (fun h52 => ?_) (fun h52 => absurd h52 (by decide +kernel))
      refine g_iload_n dX4_judge_68 rfl 1 rfl ?_
      rcases (show p3 = 0 ∨ p3 = 1 ∨ p3 = 2 ∨ p3 = 3 ∨ p3 = 4 by omega) with rfl | rfl | rfl | rfl | rfl
      · refine g_tableIn 100 dX4_judge_69 (by decide +kernel) (by decide +kernel) (by rfl) (by decide) ?_
        refine g_aload_n dX4_judge_100 rfl 0 rfl ?_
        refine g_get kf_X4_33 kC_X4 (by decide) 24 at_24 rfl dX4_judge_101 ?_
        refine g_get kf_X4_138 kC_X0 (by decide) 28 at_28 rfl dX4_judge_104 ?_
        refine g_tope (z := nI 0) (e0) ?_
        refine g_bipush dX4_judge_107 bp_m3 ?_
        refine g_icmpne 122 dX4_judge_109 (by decide) (fun h109 => ?_) (fun h109 => absurd h109 (by decide +kernel))
        refine g_bipush dX4_judge_122 bp_m6 ?_
        exact g_ireturn dX4_judge_124 (Nat.le_refl _) (Nat.le_refl _) (qi (by rw [judge_in (by omega) hf]; unfold jdR; rw [if_neg (by omega)]; rfl) (h _ (fc_fD hf2) (fD_0 hf2 hX)))
      · refine g_tableIn 125 dX4_judge_69 (by decide +kernel) (by decide +kernel) (by rfl) (by decide) ?_
        refine g_aload_n dX4_judge_125 rfl 0 rfl ?_
        refine g_get kf_X4_33 kC_X4 (by decide) 24 at_24 rfl dX4_judge_126 ?_
        refine g_get kf_X4_138 kC_X0 (by decide) 28 at_28 rfl dX4_judge_129 ?_
        refine g_tope (z := nI 0) (e0) ?_
        refine g_bipush dX4_judge_132 bp_m3 ?_
        refine g_icmpne 147 dX4_judge_134 (by decide) (fun h134 => ?_) (fun h134 => absurd h134 (by decide +kernel))
        refine g_bipush dX4_judge_147 bp_m6 ?_
        exact g_ireturn dX4_judge_149 (Nat.le_refl _) (Nat.le_refl _) (qi (by rw [judge_in (by omega) hf]; unfold jdR; rw [if_neg (by omega)]; rfl) (h _ (fc_fD hf2) (fD_0 hf2 hX)))
      · refine g_tableIn 150 dX4_judge_69 (by decide +kernel) (by decide +kernel) (by rfl) (by decide) ?_
        refine g_aload_n dX4_judge_150 rfl 0 rfl ?_
        refine g_get kf_X4_33 kC_X4 (by decide) 24 at_24 rfl dX4_judge_151 ?_
        refine g_get kf_X4_147 kC_X0 (by decide) 28 at_28 rfl dX4_judge_154 ?_
        refine g_tope (z := nI (kcS s 0 (pjS s n))) (hct.1) ?_
        exact g_ireturn dX4_judge_157 (Nat.le_refl _) (Nat.le_refl _) (qi (by rw [judge_in (by omega) hf]; unfold jdR; rw [if_neg (by omega)]; rfl) (h _ (fc_fD hf2) (fD_0 hf2 hX)))
      · refine g_tableIn 158 dX4_judge_69 (by decide +kernel) (by decide +kernel) (by rfl) (by decide) ?_
        refine g_aload_n dX4_judge_158 rfl 0 rfl ?_
        refine g_get kf_X4_33 kC_X4 (by decide) 24 at_24 rfl dX4_judge_159 ?_
        refine g_get kf_X4_150 kC_X0 (by decide) 28 at_28 rfl dX4_judge_162 ?_
        refine g_tope (z := nI (kcS s 1 (pjS s n))) (hct.2.1) ?_
        exact g_ireturn dX4_judge_165 (Nat.le_refl _) (Nat.le_refl _) (qi (by rw [judge_in (by omega) hf]; unfold jdR; rw [if_neg (by omega)]; rfl) (h _ (fc_fD hf2) (fD_0 hf2 hX)))
      · refine g_tableOut 166 dX4_judge_69 (by decide +kernel) (by decide) ?_
        refine g_aload_n dX4_judge_166 rfl 0 rfl ?_
        refine g_get kf_X4_33 kC_X4 (by decide) 24 at_24 rfl dX4_judge_167 ?_
        refine g_get kf_X4_153 kC_X0 (by decide) 28 at_28 rfl dX4_judge_170 ?_
        refine g_tope (z := nI (kcS s 3 (pjS s n))) (hct.2.2) ?_
        exact g_ireturn dX4_judge_173 (Nat.le_refl _) (Nat.le_refl _) (qi (by rw [judge_in (by omega) hf]; unfold jdR; rw [if_neg (by omega)]; rfl) (h _ (fc_fD hf2) (fD_0 hf2 hX)))
  · refine t_ifne0 (tgt := 12) dX4_judge_6 (by decide) ?_
    refine g_bipush dX4_judge_9 bp_m2 ?_
    exact g_ireturn dX4_judge_11 (Nat.le_refl _) (Nat.le_refl _) (qi (by unfold judgeR; rw [inN_f (a := 0) (b := 4) (by omega) h3]; rfl) (h _ fc_rfl hX))
set_option maxHeartbeats 4000000 in
set_option maxRecDepth 20000 in
theorem c_X4_behind {l : Launch} {D : gE} {L : Nat → Nat} {σ : St} {Q : Option Value → va_W → Prop} {d : Nat} {X : XT} (hX : rzT σ 0 X) (ho : okX X) {s : Nat → Nat} {n : Nat} (hp : padC σ s n) {x y : Int32} (h : ∀ σ', fc σ σ' → rzT σ' 0 X → Q (some (.int (behindR X s n x y))) (wsOf D L σ')) : Ctr l D yX4_behind cX4_behind 3 (some .int) (rr (d + 6)) [.ref (L 24), .int x, .int y] (wsOf D L σ) Q := by
  refine g_start ky_X4_behind (Nat.le_of_ble_eq_true rfl) ?_
  refine g_pick [0, 1, 2] (lv' := [(0, .ref (L 24)), (1, .int x), (2, .int y)]) rfl ?_
  refine g_aload_n dX4_behind_0 rfl 0 rfl ?_
  refine g_get kf_X4_10 kC_X4 (by decide) 24 at_24 rfl dX4_behind_1 ?_
  refine g_iload_n dX4_behind_4 rfl 1 rfl ?_
  refine g_callV (As := [.int x]) km_X4_106 ky_X3_hasPerson ki_X3_hasPerson (by decide) 0 (at_tn (Or.inl rfl)) rfl rfl (Nat.le_of_ble_eq_true rfl) dX4_behind_5 rfl (c_X3_hasPerson (Or.inl rfl) hX ho (fun p5 hp5 he5 h5 => ?_) (fun h5 => ?_))
  · subst he5
    refine t_ifne1 13 dX4_behind_8 (by decide) ?_
    refine g_iload_n dX4_behind_13 rfl 2 rfl ?_
    refine g_iconst dX4_behind_14 ci_0 ?_
    refine g_iconst dX4_behind_15 ci_2 ?_
    refine g_callS (As := [.int y, .int (nI 0), .int (nI 2)]) km_X4_44 ky_X4_within ks_X4_within (by decide) rfl (Nat.le_of_ble_eq_true rfl) dX4_behind_16 rfl (c_X4_withinN (by omega) (by omega) (fun p16 ha16 hb16 he16 => ?_) (fun h16 => ?_))
    · subst he16
      refine t_ifne1 25 dX4_behind_19 (by decide) ?_
      refine g_aload_n dX4_behind_25 rfl 0 rfl ?_
      refine g_get kf_X4_33 kC_X4 (by decide) 24 at_24 rfl dX4_behind_26 ?_
      refine g_aload_n dX4_behind_29 rfl 0 rfl ?_
      refine g_get kf_X4_26 kC_X4 (by decide) 24 at_24 rfl dX4_behind_30 ?_
      refine g_aload_n dX4_behind_33 rfl 0 rfl ?_
      refine g_get kf_X4_10 kC_X4 (by decide) 24 at_24 rfl dX4_behind_34 ?_
      refine g_aload_n dX4_behind_37 rfl 0 rfl ?_
      refine g_get kf_X4_16 kC_X4 (by decide) 24 at_24 rfl dX4_behind_38 ?_
      refine g_callV (As := [.ref (L 26), .ref (L 0), .ref (L 12)]) km_X4_134 ky_X0_live ki_X0_live (by decide) 28 at_28 rfl rfl (Nat.le_of_ble_eq_true rfl) dX4_behind_41 rfl (c_X0_live hp hX ho (fun v hv hf σ2 hf2 e0 => ?_) (fun hf hg σ2 hf2 e0 r1 e2 => ?_) (fun hf hg σ2 hf2 e0 e2 hct hT => ?_))
      · refine g_aload_n dX4_behind_44 rfl 0 rfl ?_
        refine g_get kf_X4_33 kC_X4 (by decide) 24 at_24 rfl dX4_behind_45 ?_
        refine g_get kf_X4_138 kC_X0 (by decide) 28 at_28 rfl dX4_behind_48 ?_
        refine g_tope (z := (-5)) (e0) ?_
        refine g_ifeq 62 dX4_behind_51 (by decide) (fun h51 => absurd h51 (by decide +kernel)) (fun h51 => ?_)
        refine g_aload_n dX4_behind_54 rfl 0 rfl ?_
        refine g_get kf_X4_33 kC_X4 (by decide) 24 at_24 rfl dX4_behind_55 ?_
        refine g_get kf_X4_138 kC_X0 (by decide) 28 at_28 rfl dX4_behind_58 ?_
        refine g_tope (z := (-5)) (e0) ?_
        exact g_ireturn dX4_behind_61 (Nat.le_refl _) (Nat.le_refl _) (qi (by unfold behindR; rw [thI_t hp5 h5, if_pos rfl, inN_t (a := 0) (b := 2) (by omega) (by omega) (by omega), if_pos rfl, if_neg (by rw [hf]; exact nI_m6 hv)]) (h _ (fc_fD hf2) (fD_0 hf2 hX)))
      · refine g_aload_n dX4_behind_44 rfl 0 rfl ?_
        refine g_get kf_X4_33 kC_X4 (by decide) 24 at_24 rfl dX4_behind_45 ?_
        refine g_get kf_X4_138 kC_X0 (by decide) 28 at_28 rfl dX4_behind_48 ?_
        refine g_tope (z := (-3)) (e0) ?_
        refine g_ifeq 62 dX4_behind_51 (by decide) (fun h51 => absurd h51 (by decide +kernel)) (fun h51 => ?_)
        refine g_aload_n dX4_behind_54 rfl 0 rfl ?_
        refine g_get kf_X4_33 kC_X4 (by decide) 24 at_24 rfl dX4_behind_55 ?_
        refine g_get kf_X4_138 kC_X0 (by decide) 28 at_28 rfl dX4_behind_58 ?_
        refine g_tope (z := (-3)) (e0) ?_
        exact g_ireturn dX4_behind_61 (Nat.le_refl _) (Nat.le_refl _) (qi (by rw [behind_in hp5 h5 (by omega) hf, if_pos hg]) (h _ (fc_fD hf2) (fD_0 hf2 hX)))
      · have hok := dy_ok (wf_all s n (flt_ok hp.2.1 hf n (Nat.le_refl n))) ho _ (Nat.le_refl (pjS s n))
        refine g_aload_n dX4_behind_44 rfl 0 rfl ?_
        refine g_get kf_X4_33 kC_X4 (by decide) 24 at_24 rfl dX4_behind_45 ?_
        refine g_get kf_X4_138 kC_X0 (by decide) 28 at_28 rfl dX4_behind_48 ?_
        refine g_tope (z := nI 0) (e0) ?_
        refine t_ifeq0 62 dX4_behind_51 (by decide) ?_
        refine g_iload_n dX4_behind_62 rfl 2 rfl ?_
        rcases (show p16 = 0 ∨ p16 = 1 ∨ p16 = 2 by omega) with rfl | rfl | rfl
        · refine g_lookup (off := 25) 88 dX4_behind_63 (by decide) (by decide +kernel) (by decide) ?_
          refine g_aload_n dX4_behind_88 rfl 0 rfl ?_
          refine g_get kf_X4_16 kC_X4 (by decide) 24 at_24 rfl dX4_behind_89 ?_
          refine s_getT (b := 12) (Or.inr (Or.inl rfl)) kf_X4_97 (by decide) rfl dX4_behind_92 ?_
          refine g_iload_n dX4_behind_95 rfl 1 rfl ?_
          refine s_ald (q := 17) (n := 6) (at_ia (q := 17) rfl) (by omega) (by decide) dX4_behind_96 ?_
          refine g_tope (z := nI (x_pl (dyS s X (pjS s n)) p5)) (rpT_pl hT.1 (by omega)) ?_
          exact g_ireturn dX4_behind_97 (Nat.le_refl _) (Nat.le_refl _) (qi (by rw [behind_in hp5 h5 (by omega) hf, if_neg (by omega)]; rfl) (h _ (fc_fD hf2) (fD_0 hf2 hX)))
        · refine g_lookup (off := 35) 98 dX4_behind_63 (by decide) (by decide +kernel) (by decide) ?_
          refine g_aload_n dX4_behind_98 rfl 0 rfl ?_
          refine g_get kf_X4_16 kC_X4 (by decide) 24 at_24 rfl dX4_behind_99 ?_
          refine g_iload_n dX4_behind_102 rfl 1 rfl ?_
          refine g_callV (As := [.int (nI p5)]) km_X4_156 ky_X3_burden ki_X3_burden (by decide) 12 (at_tn (Or.inr (Or.inl rfl))) rfl rfl (Nat.le_of_ble_eq_true rfl) dX4_behind_103 rfl (c_X3_burden (Or.inr (Or.inl rfl)) hT hok (by omega) ?_)
          exact g_ireturn dX4_behind_106 (Nat.le_refl _) (Nat.le_refl _) (qi (by rw [behind_in hp5 h5 (by omega) hf, if_neg (by omega)]; rfl) (h _ (fc_fD hf2) (fD_0 hf2 hX)))
        · refine g_lookup (off := 44) 107 dX4_behind_63 (by decide) (by decide +kernel) (by decide) ?_
          refine g_aload_n dX4_behind_107 rfl 0 rfl ?_
          refine g_get kf_X4_16 kC_X4 (by decide) 24 at_24 rfl dX4_behind_108 ?_
          refine s_getT (b := 12) (Or.inr (Or.inl rfl)) kf_X4_103 (by decide) rfl dX4_behind_111 ?_
          refine g_iload_n dX4_behind_114 rfl 1 rfl ?_
          refine s_ald (q := 19) (n := 6) (at_ia (q := 19) rfl) (by omega) (by decide) dX4_behind_115 ?_
          refine g_tope (z := nI (bitsN (x_kn (dyS s X (pjS s n)) p5) 8)) (rzT_kn hT (by omega)) ?_
          exact g_ireturn dX4_behind_116 (Nat.le_refl _) (Nat.le_refl _) (qi (by rw [behind_in hp5 h5 (by omega) hf, if_neg (by omega)]; rfl) (h _ (fc_fD hf2) (fD_0 hf2 hX)))
    · refine t_ifne0 (tgt := 25) dX4_behind_19 (by decide) ?_
      refine g_bipush dX4_behind_22 bp_m2 ?_
      exact g_ireturn dX4_behind_24 (Nat.le_refl _) (Nat.le_refl _) (qi (by unfold behindR; rw [thI_t hp5 h5, if_pos rfl, inN_f (a := 0) (b := 2) (by omega) h16]; rfl) (h _ fc_rfl hX))
  · refine t_ifne0 (tgt := 13) dX4_behind_8 (by decide) ?_
    refine g_iconst dX4_behind_11 ci_m1 ?_
    exact g_ireturn dX4_behind_12 (Nat.le_refl _) (Nat.le_refl _) (qi (by unfold behindR; rw [thI_f h5]; rfl) (h _ fc_rfl hX))
set_option maxHeartbeats 4000000 in
set_option maxRecDepth 20000 in
theorem c_X4_done {l : Launch} {D : gE} {L : Nat → Nat} {σ : St} {Q : Option Value → va_W → Prop} {d : Nat} {X : XT} (hX : rzT σ 0 X) (ho : okX X) {s : Nat → Nat} {n : Nat} (hp : padC σ s n) (h : ∀ σ', fcQ σ σ' → rzT σ' 0 (doneO X s n).2.1 → padC σ' s (doneO X s n).2.2 → Q (some (.int ((doneO X s n).1))) (wsOf D L σ')) : Ctr l D yX4_done cX4_done 1 (some .int) (rr (d + 6)) [.ref (L 24)] (wsOf D L σ) Q := by
  refine g_start ky_X4_done (Nat.le_of_ble_eq_true rfl) ?_
  refine g_pick [0] (lv' := [(0, .ref (L 24))]) rfl ?_
  refine g_aload_n dX4_done_0 rfl 0 rfl ?_
  refine g_get kf_X4_33 kC_X4 (by decide) 24 at_24 rfl dX4_done_1 ?_
  refine g_aload_n dX4_done_4 rfl 0 rfl ?_
  refine g_get kf_X4_26 kC_X4 (by decide) 24 at_24 rfl dX4_done_5 ?_
  refine g_aload_n dX4_done_8 rfl 0 rfl ?_
  refine g_get kf_X4_10 kC_X4 (by decide) 24 at_24 rfl dX4_done_9 ?_
  refine g_aload_n dX4_done_12 rfl 0 rfl ?_
  refine g_get kf_X4_16 kC_X4 (by decide) 24 at_24 rfl dX4_done_13 ?_
  refine g_callV (As := [.ref (L 26), .ref (L 0), .ref (L 12)]) km_X4_134 ky_X0_live ki_X0_live (by decide) 28 at_28 rfl rfl (Nat.le_of_ble_eq_true rfl) dX4_done_16 rfl (c_X0_live hp hX ho (fun v hv hf σ2 hf2 e0 => ?_) (fun hf hg σ2 hf2 e0 r1 e2 => ?_) (fun hf hg σ2 hf2 e0 e2 hct hT => ?_))
  · refine g_aload_n dX4_done_19 rfl 0 rfl ?_
    refine g_get kf_X4_33 kC_X4 (by decide) 24 at_24 rfl dX4_done_20 ?_
    refine g_get kf_X4_138 kC_X0 (by decide) 28 at_28 rfl dX4_done_23 ?_
    refine g_tope (z := (-5)) (e0) ?_
    refine g_ifeq 37 dX4_done_26 (by decide) (fun h26 => absurd h26 (by decide +kernel)) (fun h26 => ?_)
    refine g_aload_n dX4_done_29 rfl 0 rfl ?_
    refine g_get kf_X4_33 kC_X4 (by decide) 24 at_24 rfl dX4_done_30 ?_
    refine g_get kf_X4_138 kC_X0 (by decide) 28 at_28 rfl dX4_done_33 ?_
    refine g_tope (z := (-5)) (e0) ?_
    exact g_ireturn dX4_done_36 (Nat.le_refl _) (Nat.le_refl _) (qdC h (by unfold doneO; rw [if_neg (by rw [hf]; exact nI_m6 hv)]) (fc_Q (fc_fD hf2)) (fD_0 hf2 hX) (fD_pad hf2 hp))
  · refine g_aload_n dX4_done_19 rfl 0 rfl ?_
    refine g_get kf_X4_33 kC_X4 (by decide) 24 at_24 rfl dX4_done_20 ?_
    refine g_get kf_X4_138 kC_X0 (by decide) 28 at_28 rfl dX4_done_23 ?_
    refine g_tope (z := (-3)) (e0) ?_
    refine g_ifeq 37 dX4_done_26 (by decide) (fun h26 => absurd h26 (by decide +kernel)) (fun h26 => ?_)
    refine g_aload_n dX4_done_29 rfl 0 rfl ?_
    refine g_get kf_X4_33 kC_X4 (by decide) 24 at_24 rfl dX4_done_30 ?_
    refine g_get kf_X4_138 kC_X0 (by decide) 28 at_28 rfl dX4_done_33 ?_
    refine g_tope (z := (-3)) (e0) ?_
    exact g_ireturn dX4_done_36 (Nat.le_refl _) (Nat.le_refl _) (qdC h (by unfold doneO; rw [if_pos hf, if_pos hg]) (fc_Q (fc_fD hf2)) (fD_0 hf2 hX) (fD_pad hf2 hp))
  · have hok := dy_ok (wf_all s n (flt_ok hp.2.1 hf n (Nat.le_refl n))) ho _ (Nat.le_refl (pjS s n))
    refine g_aload_n dX4_done_19 rfl 0 rfl ?_
    refine g_get kf_X4_33 kC_X4 (by decide) 24 at_24 rfl dX4_done_20 ?_
    refine g_get kf_X4_138 kC_X0 (by decide) 28 at_28 rfl dX4_done_23 ?_
    refine g_tope (z := nI 0) (e0) ?_
    refine t_ifeq0 37 dX4_done_26 (by decide) ?_
    refine g_aload_n dX4_done_37 rfl 0 rfl ?_
    refine g_get kf_X4_10 kC_X4 (by decide) 24 at_24 rfl dX4_done_38 ?_
    refine g_aload_n dX4_done_41 rfl 0 rfl ?_
    refine g_get kf_X4_16 kC_X4 (by decide) 24 at_24 rfl dX4_done_42 ?_
    refine g_callV (As := [.ref (L 12)]) km_X4_159 ky_X3_copy ki_X3_copy (by decide) 0 (at_tn (Or.inl rfl)) rfl rfl (Nat.le_of_ble_eq_true rfl) dX4_done_45 rfl (c_X3_copy (Or.inl rfl) (Or.inr (Or.inl rfl)) (by omega) hT (fun σ3 hf3 hX3 => ?_))
    refine g_aload_n dX4_done_48 rfl 0 rfl ?_
    refine g_get kf_X4_26 kC_X4 (by decide) 24 at_24 rfl dX4_done_49 ?_
    refine g_iconst dX4_done_52 ci_0 ?_
    refine s_putP kf_X4_124 dX4_done_53 ?_
    refine g_aload_n dX4_done_56 rfl 0 rfl ?_
    refine g_get kf_X4_33 kC_X4 (by decide) 24 at_24 rfl dX4_done_57 ?_
    refine g_get kf_X4_141 kC_X0 (by decide) 28 at_28 rfl dX4_done_60 ?_
    refine g_tope (z := nI (pjS s n)) ((congrFun (hf3.2.1 28 (by decide)) 2).trans e2) ?_
    exact g_ireturn dX4_done_63 (Nat.le_refl _) (Nat.le_refl _) (qdC h (by unfold doneO; rw [if_pos hf, if_neg (by omega)]) (fcQ_I (fc_trans (fc_fD hf2) (fc_ft hf3 (by decide))) (nI 0)) (rz_gen (fun _ _ _ => rfl) rfl hX3) padC_0)
set_option maxHeartbeats 4000000 in
set_option maxRecDepth 20000 in
theorem c_X4_heavy {l : Launch} {D : gE} {L : Nat → Nat} {σ : St} {Q : Option Value → va_W → Prop} {d : Nat} {X : XT} (hX : rzT σ 0 X) (ho : okX X) {x y : Int32} (h : ∀ σ', fc σ σ' → rzT σ' 0 X → Q (some (.int (heavyR X x y))) (wsOf D L σ')) : Ctr l D yX4_heavy cX4_heavy 3 (some .int) (rr (d + 2)) [.ref (L 24), .int x, .int y] (wsOf D L σ) Q := by
  refine g_start ky_X4_heavy (Nat.le_of_ble_eq_true rfl) ?_
  refine g_pick [0, 1, 2] (lv' := [(0, .ref (L 24)), (1, .int x), (2, .int y)]) rfl ?_
  refine g_aload_n dX4_heavy_0 rfl 0 rfl ?_
  refine g_get kf_X4_10 kC_X4 (by decide) 24 at_24 rfl dX4_heavy_1 ?_
  refine g_iload_n dX4_heavy_4 rfl 1 rfl ?_
  refine g_callV (As := [.int x]) km_X4_106 ky_X3_hasPerson ki_X3_hasPerson (by decide) 0 (at_tn (Or.inl rfl)) rfl rfl (Nat.le_of_ble_eq_true rfl) dX4_heavy_5 rfl (c_X3_hasPerson (Or.inl rfl) hX ho (fun p5 hp5 he5 h5 => ?_) (fun h5 => ?_))
  · subst he5
    refine t_ifeq1 (tgt := 18) dX4_heavy_8 (by decide) ?_
    refine g_iload_n dX4_heavy_11 rfl 2 rfl ?_
    refine g_callS (As := [.int y]) km_X4_109 ky_X4_isNews ks_X4_isNews (by decide) rfl (Nat.le_of_ble_eq_true rfl) dX4_heavy_12 rfl (c_X4_isNews (fun k12 hk12 he12 => ?_) (fun h12 => ?_))
    · subst he12
      refine t_ifne1 20 dX4_heavy_15 (by decide) ?_
      refine g_aload_n dX4_heavy_20 rfl 0 rfl ?_
      refine g_get kf_X4_10 kC_X4 (by decide) 24 at_24 rfl dX4_heavy_21 ?_
      refine s_getT (b := 0) (Or.inl rfl) kf_X4_103 (by decide) rfl dX4_heavy_24 ?_
      refine g_iload_n dX4_heavy_27 rfl 1 rfl ?_
      refine s_ald (q := 7) (n := 6) (at_ia (q := 7) rfl) (by omega) (by decide) dX4_heavy_28 ?_
      refine g_tope (z := nI (bitsN (x_kn X p5) 8)) (rzT_kn hX (by omega)) ?_
      refine g_iload_n dX4_heavy_29 rfl 2 rfl ?_
      refine g_callS (As := [.int (nI (bitsN (x_kn X p5) 8)), .int (nI k12)]) km_X4_163 ky_X4_has ks_X4_has (by decide) rfl (Nat.le_of_ble_eq_true rfl) dX4_heavy_30 rfl (c_X4_has (n := 8) (by decide) (by omega) (fun h30 => ?_) (fun h30 => ?_))
      · refine t_ifeq1 (tgt := 52) dX4_heavy_33 (by decide) ?_
        refine g_aload_n dX4_heavy_36 rfl 0 rfl ?_
        refine g_get kf_X4_10 kC_X4 (by decide) 24 at_24 rfl dX4_heavy_37 ?_
        refine g_iload_n dX4_heavy_40 rfl 1 rfl ?_
        refine g_iload_n dX4_heavy_41 rfl 2 rfl ?_
        refine g_callV (As := [.int (nI p5), .int (nI k12)]) km_X4_167 ky_X3_weightFor ki_X3_weightFor (by decide) 0 (at_tn (Or.inl rfl)) rfl rfl (Nat.le_of_ble_eq_true rfl) dX4_heavy_42 rfl (c_X3_weightFor (Or.inl rfl) hX ho (by omega) (by omega) ?_)
        refine g_sipush dX4_heavy_45 sp_1000 ?_
        refine g_iadd dX4_heavy_48 ?_
        refine g_tope (z := zI (hwX X p5 k12 + 1000)) (by rw [show nI 1000 = zI 1000 from by decide +kernel]; exact zI_add _ _) ?_
        refine g_goto 54 dX4_heavy_49 (by decide) ?_
        exact g_ireturn dX4_heavy_54 (Nat.le_refl _) (Nat.le_refl _) (qi (by unfold heavyR; rw [thI_t hp5 h5, nwI_t hk12, ix6 hp5, ix8 hk12, if_pos (by rfl), if_pos h30]; unfold hwX; rw [h30]; rfl) (h _ fc_rfl hX))
      · refine t_ifeq0 52 dX4_heavy_33 (by decide) ?_
        refine g_bipush dX4_heavy_52 bp_m6 ?_
        exact g_ireturn dX4_heavy_54 (Nat.le_refl _) (Nat.le_refl _) (qi (by unfold heavyR; rw [thI_t hp5 h5, nwI_t hk12, ix6 hp5, ix8 hk12, if_pos (by rfl), if_neg (by rw [h30]; decide)]) (h _ fc_rfl hX))
    · refine t_ifne0 (tgt := 20) dX4_heavy_15 (by decide) ?_
      refine g_iconst dX4_heavy_18 ci_m1 ?_
      exact g_ireturn dX4_heavy_19 (Nat.le_refl _) (Nat.le_refl _) (qi (by unfold heavyR; rw [nwI_f h12, Bool.and_false]; rfl) (h _ fc_rfl hX))
  · refine t_ifeq0 18 dX4_heavy_8 (by decide) ?_
    refine g_iconst dX4_heavy_18 ci_m1 ?_
    exact g_ireturn dX4_heavy_19 (Nat.le_refl _) (Nat.le_refl _) (qi (by unfold heavyR; rw [thI_f h5]; rfl) (h _ fc_rfl hX))
set_option maxHeartbeats 4000000 in
set_option maxRecDepth 20000 in
theorem c_X4_carries {l : Launch} {D : gE} {L : Nat → Nat} {σ : St} {Q : Option Value → va_W → Prop} {d : Nat} {X : XT} (hX : rzT σ 0 X) (ho : okX X) {x : Int32} (h : ∀ σ', fc σ σ' → rzT σ' 0 X → Q (some (.int (carriesR X x))) (wsOf D L σ')) : Ctr l D yX4_carries cX4_carries 2 (some .int) (rr (d + 3)) [.ref (L 24), .int x] (wsOf D L σ) Q := by
  refine g_start ky_X4_carries (Nat.le_of_ble_eq_true rfl) ?_
  refine g_pick [0, 1] (lv' := [(0, .ref (L 24)), (1, .int x)]) rfl ?_
  refine g_aload_n dX4_carries_0 rfl 0 rfl ?_
  refine g_get kf_X4_10 kC_X4 (by decide) 24 at_24 rfl dX4_carries_1 ?_
  refine g_iload_n dX4_carries_4 rfl 1 rfl ?_
  refine g_callV (As := [.int x]) km_X4_106 ky_X3_hasPerson ki_X3_hasPerson (by decide) 0 (at_tn (Or.inl rfl)) rfl rfl (Nat.le_of_ble_eq_true rfl) dX4_carries_5 rfl (c_X3_hasPerson (Or.inl rfl) hX ho (fun p5 hp5 he5 h5 => ?_) (fun h5 => ?_))
  · subst he5
    refine t_ifeq1 (tgt := 22) dX4_carries_8 (by decide) ?_
    refine g_aload_n dX4_carries_11 rfl 0 rfl ?_
    refine g_get kf_X4_10 kC_X4 (by decide) 24 at_24 rfl dX4_carries_12 ?_
    refine g_iload_n dX4_carries_15 rfl 1 rfl ?_
    refine g_callV (As := [.int (nI p5)]) km_X4_156 ky_X3_burden ki_X3_burden (by decide) 0 (at_tn (Or.inl rfl)) rfl rfl (Nat.le_of_ble_eq_true rfl) dX4_carries_16 rfl (c_X3_burden (Or.inl rfl) hX ho (by omega) ?_)
    refine g_goto 23 dX4_carries_19 (by decide) ?_
    exact g_ireturn dX4_carries_23 (Nat.le_refl _) (Nat.le_refl _) (qi (by unfold carriesR; rw [thI_t hp5 h5, ix6 hp5]; rfl) (h _ fc_rfl hX))
  · refine t_ifeq0 22 dX4_carries_8 (by decide) ?_
    refine g_iconst dX4_carries_22 ci_m1 ?_
    exact g_ireturn dX4_carries_23 (Nat.le_refl _) (Nat.le_refl _) (qi (by unfold carriesR; rw [thI_f h5]; rfl) (h _ fc_rfl hX))
set_option maxHeartbeats 4000000 in
set_option maxRecDepth 20000 in
theorem c_X4_bent {l : Launch} {D : gE} {L : Nat → Nat} {σ : St} {Q : Option Value → va_W → Prop} {d : Nat} {X : XT} (hX : rzT σ 0 X) (ho : okX X) {x : Int32} (h : ∀ σ', fc σ σ' → rzT σ' 0 X → Q (some (.int (bentR X x))) (wsOf D L σ')) : Ctr l D yX4_bent cX4_bent 2 (some .int) (rr (d + 2)) [.ref (L 24), .int x] (wsOf D L σ) Q := by
  refine g_start ky_X4_bent (Nat.le_of_ble_eq_true rfl) ?_
  refine g_pick [0, 1] (lv' := [(0, .ref (L 24)), (1, .int x)]) rfl ?_
  refine g_aload_n dX4_bent_0 rfl 0 rfl ?_
  refine g_get kf_X4_10 kC_X4 (by decide) 24 at_24 rfl dX4_bent_1 ?_
  refine g_iload_n dX4_bent_4 rfl 1 rfl ?_
  refine g_callV (As := [.int x]) km_X4_91 ky_X3_hasBridge ki_X3_hasBridge (by decide) 0 (at_tn (Or.inl rfl)) rfl rfl (Nat.le_of_ble_eq_true rfl) dX4_bent_5 rfl (c_X3_hasBridge (Or.inl rfl) hX ho (fun p5 hp5 he5 h5 => ?_) (fun h5 => ?_))
  · subst he5
    refine t_ifeq1 (tgt := 23) dX4_bent_8 (by decide) ?_
    refine g_aload_n dX4_bent_11 rfl 0 rfl ?_
    refine g_get kf_X4_10 kC_X4 (by decide) 24 at_24 rfl dX4_bent_12 ?_
    refine s_getT (b := 0) (Or.inl rfl) kf_X4_82 (by decide) rfl dX4_bent_15 ?_
    refine g_iload_n dX4_bent_18 rfl 1 rfl ?_
    refine s_ald (q := 4) (n := 8) (at_ia (q := 4) rfl) (by omega) (by decide) dX4_bent_19 ?_
    refine g_tope (z := nI (x_bn X p5)) (rpT_bn hX.1 (by omega)) ?_
    refine g_goto 24 dX4_bent_20 (by decide) ?_
    exact g_ireturn dX4_bent_24 (Nat.le_refl _) (Nat.le_refl _) (qi (by unfold bentR; rw [brI_t hp5 h5, ix8 hp5]; rfl) (h _ fc_rfl hX))
  · refine t_ifeq0 23 dX4_bent_8 (by decide) ?_
    refine g_iconst dX4_bent_23 ci_m1 ?_
    exact g_ireturn dX4_bent_24 (Nat.le_refl _) (Nat.le_refl _) (qi (by unfold bentR; rw [brI_f h5]; rfl) (h _ fc_rfl hX))
set_option maxHeartbeats 4000000 in
set_option maxRecDepth 20000 in
theorem c_X4_who {l : Launch} {D : gE} {L : Nat → Nat} {σ : St} {Q : Option Value → va_W → Prop} {d : Nat} {X : XT} (hX : rzT σ 0 X) (ho : okX X) {x : Int32} (h : ∀ σ', fc σ σ' → rzT σ' 0 X → Q (some (.int (whoR X x))) (wsOf D L σ')) : Ctr l D yX4_who cX4_who 2 (some .int) (rr (d + 4)) [.ref (L 24), .int x] (wsOf D L σ) Q := by
  refine g_start ky_X4_who (Nat.le_of_ble_eq_true rfl) ?_
  refine g_pick [0, 1] (lv' := [(0, .ref (L 24)), (1, .int x)]) rfl ?_
  have hsg := ok_sg ho
  refine g_iload_n dX4_who_0 rfl 1 rfl ?_
  refine g_iconst dX4_who_1 ci_0 ?_
  refine g_aload_n dX4_who_2 rfl 0 rfl ?_
  refine g_get kf_X4_10 kC_X4 (by decide) 24 at_24 rfl dX4_who_3 ?_
  refine s_getT (b := 0) (Or.inl rfl) kf_X4_225 (by decide) rfl dX4_who_6 ?_
  refine g_tope (z := nI (x_sg X)) (rpT_sg hX.1) ?_
  refine g_iconst dX4_who_9 ci_1 ?_
  refine g_isub dX4_who_10 ?_
  refine g_tope (z := nI (x_sg X) - nI 1) (rfl) ?_
  refine g_callS (As := [.int x, .int (nI 0), .int (nI (x_sg X) - nI 1)]) km_X4_44 ky_X4_within ks_X4_within (by decide) rfl (Nat.le_of_ble_eq_true rfl) dX4_who_11 rfl (c_X4_withinS (by omega) (fun p11 hp11 he11 => ?_) (fun h11 => ?_))
  · subst he11
    refine t_ifeq1 (tgt := 36) dX4_who_14 (by decide) ?_
    refine g_aload_n dX4_who_17 rfl 0 rfl ?_
    refine g_get kf_X4_10 kC_X4 (by decide) 24 at_24 rfl dX4_who_18 ?_
    refine g_aload_n dX4_who_21 rfl 0 rfl ?_
    refine g_get kf_X4_10 kC_X4 (by decide) 24 at_24 rfl dX4_who_22 ?_
    refine s_getT (b := 0) (Or.inl rfl) kf_X4_231 (by decide) rfl dX4_who_25 ?_
    refine g_iload_n dX4_who_28 rfl 1 rfl ?_
    refine s_ald (q := 11) (n := 6) (at_ia (q := 11) rfl) (by omega) (by decide) dX4_who_29 ?_
    refine g_tope (z := nI (x_sv X p11)) (rpT_sv hX.1 (by omega)) ?_
    have hsv := ok_sb ho (i := p11) (by omega)
    refine g_callV (As := [.int (nI (x_sv X p11))]) km_X4_234 ky_X3_carriersOf ki_X3_carriersOf (by decide) 0 (at_tn (Or.inl rfl)) rfl rfl (Nat.le_of_ble_eq_true rfl) dX4_who_30 rfl (c_X3_carriersOf (Or.inl rfl) hX ho (by omega) ?_)
    refine g_goto 38 dX4_who_33 (by decide) ?_
    exact g_ireturn dX4_who_38 (Nat.le_refl _) (Nat.le_refl _) (qi (by unfold whoR; rw [ix_nI hp11 (by omega), if_pos hp11]) (h _ fc_rfl hX))
  · refine t_ifeq0 36 dX4_who_14 (by decide) ?_
    refine g_bipush dX4_who_36 bp_m2 ?_
    exact g_ireturn dX4_who_38 (Nat.le_refl _) (Nat.le_refl _) (qi (by unfold whoR; rw [if_neg (ix_no h11)]) (h _ fc_rfl hX))
set_option maxHeartbeats 4000000 in
set_option maxRecDepth 20000 in
theorem c_X4_feeOf {l : Launch} {D : gE} {L : Nat → Nat} {σ : St} {Q : Option Value → va_W → Prop} {d : Nat} {X : XT} (hX : rzT σ 0 X) (ho : okX X) {p g : Nat} (hp : p < 6) (hg : g < 6) (ht : waN X p g < 6 → Q (some (.int (nI (buX X p * waN X p g)))) (wsOf D L σ)) (hf : ¬ waN X p g < 6 → Q (some (.int (-6))) (wsOf D L σ)) : Ctr l D yX4_feeOf cX4_feeOf 5 (some .int) (rr (d + 3)) [.ref (L 24), .int (nI p), .int (nI g)] (wsOf D L σ) Q := by
  refine g_start ky_X4_feeOf (Nat.le_of_ble_eq_true rfl) ?_
  refine g_pick [0, 1, 2] (lv' := [(0, .ref (L 24)), (1, .int (nI p)), (2, .int (nI g))]) rfl ?_
  have hpp := ok_p ho hp
  have hbu := bu_bd ho p
  have hsz := ok_sz ho
  have hdl := @dN_le X (beX X (buX X p)) (x_pl X p) g
  refine g_aload_n dX4_feeOf_0 rfl 0 rfl ?_
  refine g_get kf_X4_10 kC_X4 (by decide) 24 at_24 rfl dX4_feeOf_1 ?_
  refine g_iload_n dX4_feeOf_4 rfl 1 rfl ?_
  refine g_callV (As := [.int (nI p)]) km_X4_156 ky_X3_burden ki_X3_burden (by decide) 0 (at_tn (Or.inl rfl)) rfl rfl (Nat.le_of_ble_eq_true rfl) dX4_feeOf_5 rfl (c_X3_burden (Or.inl rfl) hX ho (by omega) ?_)
  refine g_istore_n (lv' := [(3, .int (nI (buX X p))), (0, .ref (L 24)), (1, .int (nI p)), (2, .int (nI g))]) dX4_feeOf_8 rfl (by decide) rfl ?_
  refine g_aload_n dX4_feeOf_9 rfl 1 rfl ?_
  refine g_get kf_X4_10 kC_X4 (by decide) 24 at_24 rfl dX4_feeOf_10 ?_
  refine g_aload_n dX4_feeOf_13 rfl 1 rfl ?_
  refine g_get kf_X4_10 kC_X4 (by decide) 24 at_24 rfl dX4_feeOf_14 ?_
  refine s_getT (b := 0) (Or.inl rfl) kf_X4_97 (by decide) rfl dX4_feeOf_17 ?_
  refine g_iload_n dX4_feeOf_20 rfl 2 rfl ?_
  refine s_ald (q := 5) (n := 6) (at_ia (q := 5) rfl) (by omega) (by decide) dX4_feeOf_21 ?_
  refine g_tope (z := nI (x_pl X p)) (rpT_pl hX.1 (by omega)) ?_
  refine g_iload_n dX4_feeOf_22 rfl 3 rfl ?_
  refine g_aload_n dX4_feeOf_23 rfl 1 rfl ?_
  refine g_get kf_X4_10 kC_X4 (by decide) 24 at_24 rfl dX4_feeOf_24 ?_
  refine g_iload_n dX4_feeOf_27 rfl 0 rfl ?_
  refine g_callV (As := [.int (nI (buX X p))]) km_X4_170 ky_X3_bearing ki_X3_bearing (by decide) 0 (at_tn (Or.inl rfl)) rfl rfl (Nat.le_of_ble_eq_true rfl) dX4_feeOf_28 rfl (c_X3_bearing (Or.inl rfl) hX ho (by omega) ?_)
  refine g_callV (As := [.int (nI (x_pl X p)), .int (nI g), .int (nI (bitsN (beX X (buX X p)) 8))]) km_X4_173 ky_X3_distance ki_X3_distance (by decide) 0 (at_tn (Or.inl rfl)) rfl rfl (Nat.le_of_ble_eq_true rfl) dX4_feeOf_31 rfl (c_X3_distance (Or.inl rfl) hX ho (by omega) (by omega) (fun h31 => ?_) (fun h31 => ?_))
  · refine g_istore (lv' := [(4, .int (nI (dN X (beX X (buX X p)) (x_pl X p) g))), (3, .int (nI (buX X p))), (0, .ref (L 24)), (1, .int (nI p)), (2, .int (nI g))]) dX4_feeOf_34 (by decide) rfl ?_
    refine g_iload dX4_feeOf_36 0 rfl ?_
    refine g_bipush dX4_feeOf_38 bp_m6 ?_
    refine g_icmpne 48 dX4_feeOf_40 (by decide) (fun h40 => ?_) (fun h40 => absurd h40 (nI_n6 (by omega)))
    refine g_iload_n dX4_feeOf_48 rfl 1 rfl ?_
    refine g_iload dX4_feeOf_49 0 rfl ?_
    refine g_imul dX4_feeOf_51 ?_
    refine g_tope (z := nI (buX X p * waN X p g)) ((pk_mul _ _).trans (by unfold waN; rw [dN_sym])) ?_
    exact g_ireturn dX4_feeOf_52 (Nat.le_refl _) (Nat.le_refl _) (ht (by unfold waN; rw [dN_sym]; exact h31))
  · refine g_istore (lv' := [(4, .int (-6)), (3, .int (nI (buX X p))), (0, .ref (L 24)), (1, .int (nI p)), (2, .int (nI g))]) dX4_feeOf_34 (by decide) rfl ?_
    refine g_iload dX4_feeOf_36 0 rfl ?_
    refine g_bipush dX4_feeOf_38 bp_m6 ?_
    refine g_icmpne 48 dX4_feeOf_40 (by decide) (fun h40 => absurd h40 (by decide +kernel)) (fun h40 => ?_)
    refine g_bipush dX4_feeOf_43 bp_m6 ?_
    refine g_goto 52 dX4_feeOf_45 (by decide) ?_
    exact g_ireturn dX4_feeOf_52 (Nat.le_refl _) (Nat.le_refl _) (hf (by unfold waN; rw [dN_sym]; exact h31))
set_option maxHeartbeats 4000000 in
set_option maxRecDepth 20000 in
theorem c_X4_fee {l : Launch} {D : gE} {L : Nat → Nat} {σ : St} {Q : Option Value → va_W → Prop} {d : Nat} {X : XT} (hX : rzT σ 0 X) (ho : okX X) {x y : Int32} (h : ∀ σ', fc σ σ' → rzT σ' 0 X → Q (some (.int (feeR X x y))) (wsOf D L σ')) : Ctr l D yX4_fee cX4_fee 3 (some .int) (rr (d + 4)) [.ref (L 24), .int x, .int y] (wsOf D L σ) Q := by
  refine g_start ky_X4_fee (Nat.le_of_ble_eq_true rfl) ?_
  refine g_pick [0, 1, 2] (lv' := [(0, .ref (L 24)), (1, .int x), (2, .int y)]) rfl ?_
  have hsz := ok_sz ho
  refine g_aload_n dX4_fee_0 rfl 0 rfl ?_
  refine g_get kf_X4_10 kC_X4 (by decide) 24 at_24 rfl dX4_fee_1 ?_
  refine g_iload_n dX4_fee_4 rfl 1 rfl ?_
  refine g_callV (As := [.int x]) km_X4_106 ky_X3_hasPerson ki_X3_hasPerson (by decide) 0 (at_tn (Or.inl rfl)) rfl rfl (Nat.le_of_ble_eq_true rfl) dX4_fee_5 rfl (c_X3_hasPerson (Or.inl rfl) hX ho (fun p5 hp5 he5 h5 => ?_) (fun h5 => ?_))
  · subst he5
    refine t_ifeq1 (tgt := 22) dX4_fee_8 (by decide) ?_
    refine g_aload_n dX4_fee_11 rfl 0 rfl ?_
    refine g_get kf_X4_10 kC_X4 (by decide) 24 at_24 rfl dX4_fee_12 ?_
    refine g_iload_n dX4_fee_15 rfl 2 rfl ?_
    refine g_callV (As := [.int y]) km_X4_56 ky_X3_hasTerrace ki_X3_hasTerrace (by decide) 0 (at_tn (Or.inl rfl)) rfl rfl (Nat.le_of_ble_eq_true rfl) dX4_fee_16 rfl (c_X3_hasTerrace (Or.inl rfl) hX ho (fun t16 ht16 he16 => ?_) (fun h16 => ?_))
    · subst he16
      refine t_ifne1 24 dX4_fee_19 (by decide) ?_
      refine g_aload_n dX4_fee_24 rfl 0 rfl ?_
      refine g_iload_n dX4_fee_25 rfl 1 rfl ?_
      refine g_iload_n dX4_fee_26 rfl 2 rfl ?_
      refine g_callV (As := [.int (nI p5), .int (nI t16)]) km_X4_222 ky_X4_feeOf ki_X4_feeOf (by decide) 24 at_24 rfl rfl (Nat.le_of_ble_eq_true rfl) dX4_fee_27 rfl (c_X4_feeOf hX ho (by omega) (by omega) (fun h27 => ?_) (fun h27 => ?_))
      · exact g_ireturn dX4_fee_30 (Nat.le_refl _) (Nat.le_refl _) (qi (by unfold feeR feeN; rw [thI_t hp5 h5, teI_t ho ht16, ix6 hp5, ixt ho ht16, if_pos (by rfl), if_pos h27]) (h _ fc_rfl hX))
      · exact g_ireturn dX4_fee_30 (Nat.le_refl _) (Nat.le_refl _) (qi (by unfold feeR feeN; rw [thI_t hp5 h5, teI_t ho ht16, ix6 hp5, ixt ho ht16, if_pos (by rfl), if_neg h27]) (h _ fc_rfl hX))
    · refine t_ifne0 (tgt := 24) dX4_fee_19 (by decide) ?_
      refine g_iconst dX4_fee_22 ci_m1 ?_
      exact g_ireturn dX4_fee_23 (Nat.le_refl _) (Nat.le_refl _) (qi (by unfold feeR; rw [teI_f h16, Bool.and_false]; rfl) (h _ fc_rfl hX))
  · refine t_ifeq0 22 dX4_fee_8 (by decide) ?_
    refine g_iconst dX4_fee_22 ci_m1 ?_
    exact g_ireturn dX4_fee_23 (Nat.le_refl _) (Nat.le_refl _) (qi (by unfold feeR; rw [thI_f h5]; rfl) (h _ fc_rfl hX))
set_option maxHeartbeats 4000000 in
set_option maxRecDepth 20000 in
theorem lp_X4_fees {l : Launch} {D : gE} {L : Nat → Nat} {σ : St} {Q : Option Value → va_W → Prop} {d : Nat} {X : XT} (hX : rzT σ 0 X) (ho : okX X) {g w : Nat} (hg : g < 6) (hw : w ≤ 1) (h : Q (some (.int (if w = 0 then nI (sumNN (feN X g) 6) else nI (cntN (hwN X g) 6)))) (wsOf D L σ)) : ∀ n_ p, p + n_ = 6 → G l D yX4_fees cX4_fees 7 (some .int) (rr (d + 4)) Q 0 0 33 [(5, .int (nI p)), (4, .int (nI (cntN (hwN X g) p))), (3, .int (nI (sumNN (feN X g) p))), (0, .ref (L 24)), (1, .int (nI g)), (2, .int (nI w))] [] (wsOf D L σ) := by
  intro n_
  induction n_ with
  | zero =>
    intro p hct
    obtain rfl : p = 6 := by omega
    refine g_iload dX4_fees_33 0 rfl ?_
    refine g_bipush dX4_fees_35 bp_6 ?_
    refine n_icmpge 87 dX4_fees_37 (by decide) (by omega) (by omega) (fun h37 => ?_) (fun h37 => absurd h37 (by omega))
    refine g_iload_n dX4_fees_87 rfl 5 rfl ?_
    refine n_ifne 95 dX4_fees_88 (by decide) (by omega) (fun h88 => ?_) (fun h88 => ?_)
    · refine g_iload dX4_fees_95 1 rfl ?_
      exact g_ireturn dX4_fees_97 (Nat.le_refl _) (Nat.le_refl _) (qi (by rw [if_neg h88]) h)
    · refine g_iload_n dX4_fees_91 rfl 2 rfl ?_
      refine g_goto 97 dX4_fees_92 (by decide) ?_
      exact g_ireturn dX4_fees_97 (Nat.le_refl _) (Nat.le_refl _) (qi (by rw [if_pos h88]) h)
  | succ n_ ih =>
    intro p hct
    have hbu := bu_bd ho p
    have hml : buX X p * waN X p g ≤ 1584 * 6 := Nat.mul_le_mul hbu dN_le
    refine g_iload dX4_fees_33 0 rfl ?_
    refine g_bipush dX4_fees_35 bp_6 ?_
    refine n_icmpge 87 dX4_fees_37 (by decide) (by omega) (by omega) (fun h37 => absurd h37 (by omega)) (fun h37 => ?_)
    refine g_aload_n dX4_fees_40 rfl 3 rfl ?_
    refine g_get kf_X4_10 kC_X4 (by decide) 24 at_24 rfl dX4_fees_41 ?_
    refine g_iload dX4_fees_44 0 rfl ?_
    refine g_callV (As := [.int (nI p)]) km_X4_106 ky_X3_hasPerson ki_X3_hasPerson (by decide) 0 (at_tn (Or.inl rfl)) rfl rfl (Nat.le_of_ble_eq_true rfl) dX4_fees_46 rfl (c_X3_hasPersonN (Or.inl rfl) hX ho (by omega) (fun h46 => ?_) (fun h46 => ?_))
    · refine t_ifeq1 (tgt := 62) dX4_fees_49 (by decide) ?_
      refine g_aload_n dX4_fees_52 rfl 3 rfl ?_
      refine g_iload dX4_fees_53 0 rfl ?_
      refine g_iload_n dX4_fees_55 rfl 4 rfl ?_
      refine g_callV (As := [.int (nI p), .int (nI g)]) km_X4_222 ky_X4_feeOf ki_X4_feeOf (by decide) 24 at_24 rfl rfl (Nat.le_of_ble_eq_true rfl) dX4_fees_56 rfl (c_X4_feeOf hX ho (by omega) (by omega) (fun h56 => ?_) (fun h56 => ?_))
      · refine g_goto 64 dX4_fees_59 (by decide) ?_
        refine g_istore (lv' := [(6, .int (nI (buX X p * waN X p g))), (5, .int (nI p)), (4, .int (nI (cntN (hwN X g) p))), (3, .int (nI (sumNN (feN X g) p))), (0, .ref (L 24)), (1, .int (nI g)), (2, .int (nI w))]) dX4_fees_64 (by decide) rfl ?_
        refine g_iload dX4_fees_66 0 rfl ?_
        refine g_bipush dX4_fees_68 bp_m6 ?_
        refine g_icmpeq 81 dX4_fees_70 (by decide) (fun h70 => absurd h70 (nI_n6 (by omega))) (fun h70 => ?_)
        refine g_iload_n dX4_fees_73 rfl 3 rfl ?_
        refine g_iload dX4_fees_74 0 rfl ?_
        refine g_iadd dX4_fees_76 ?_
        refine g_tope (z := nI (sumNN (feN X g) p + (buX X p * waN X p g))) (nI_add _ _) ?_
        refine g_istore_n (lv' := [(3, .int (nI (sumNN (feN X g) p + (buX X p * waN X p g)))), (6, .int (nI (buX X p * waN X p g))), (5, .int (nI p)), (4, .int (nI (cntN (hwN X g) p))), (0, .ref (L 24)), (1, .int (nI g)), (2, .int (nI w))]) dX4_fees_77 rfl (by decide) rfl ?_
        refine g_iinc (v := nI (cntN (hwN X g) p + 1)) (lv' := [(4, .int (nI (cntN (hwN X g) p + 1))), (3, .int (nI (sumNN (feN X g) p + (buX X p * waN X p g)))), (6, .int (nI (buX X p * waN X p g))), (5, .int (nI p)), (0, .ref (L 24)), (1, .int (nI g)), (2, .int (nI w))]) dX4_fees_78 3 rfl (inc_n _) (by decide) rfl ?_
        refine g_iinc (v := nI (p + 1)) (lv' := [(5, .int (nI (p + 1))), (4, .int (nI (cntN (hwN X g) p + 1))), (3, .int (nI (sumNN (feN X g) p + (buX X p * waN X p g)))), (6, .int (nI (buX X p * waN X p g))), (0, .ref (L 24)), (1, .int (nI g)), (2, .int (nI w))]) dX4_fees_81 3 rfl (inc_n _) (by decide) rfl ?_
        refine g_goto 33 dX4_fees_84 (by decide) ?_
        refine g_pick [0, 1, 2, 4, 5, 6] (lv' := [(5, .int (nI (p + 1))), (4, .int (nI (cntN (hwN X g) p + 1))), (3, .int (nI (sumNN (feN X g) p + (buX X p * waN X p g)))), (0, .ref (L 24)), (1, .int (nI g)), (2, .int (nI w))]) rfl ?_
        have ih2 := ih (p + 1) (by omega)
        have e1 : hwN X g p = true := by unfold hwN; rw [h46, decide_eq_true h56]; rfl
        rw [show cntN (hwN X g) (p + 1) = cntN (hwN X g) p + 1 by rw [cntN_s, e1, b2n_t], show sumNN (feN X g) (p + 1) = sumNN (feN X g) p + buX X p * waN X p g by rw [sumNN_s]; unfold feN; rw [e1, if_pos rfl]] at ih2
        exact ih2
      · refine g_goto 64 dX4_fees_59 (by decide) ?_
        refine g_istore (lv' := [(6, .int (-6)), (5, .int (nI p)), (4, .int (nI (cntN (hwN X g) p))), (3, .int (nI (sumNN (feN X g) p))), (0, .ref (L 24)), (1, .int (nI g)), (2, .int (nI w))]) dX4_fees_64 (by decide) rfl ?_
        refine g_iload dX4_fees_66 0 rfl ?_
        refine g_bipush dX4_fees_68 bp_m6 ?_
        refine g_icmpeq 81 dX4_fees_70 (by decide) (fun h70 => ?_) (fun h70 => absurd h70 (by decide +kernel))
        refine g_iinc (v := nI (p + 1)) (lv' := [(5, .int (nI (p + 1))), (6, .int (-6)), (4, .int (nI (cntN (hwN X g) p))), (3, .int (nI (sumNN (feN X g) p))), (0, .ref (L 24)), (1, .int (nI g)), (2, .int (nI w))]) dX4_fees_81 1 rfl (inc_n _) (by decide) rfl ?_
        refine g_goto 33 dX4_fees_84 (by decide) ?_
        refine g_pick [0, 2, 3, 4, 5, 6] (lv' := [(5, .int (nI (p + 1))), (4, .int (nI (cntN (hwN X g) p))), (3, .int (nI (sumNN (feN X g) p))), (0, .ref (L 24)), (1, .int (nI g)), (2, .int (nI w))]) rfl ?_
        have ih2 := ih (p + 1) (by omega)
        have e1 : hwN X g p = false := by unfold hwN; rw [decide_eq_false h56, Bool.and_false]
        rw [show cntN (hwN X g) (p + 1) = cntN (hwN X g) p by rw [cntN_s, e1, b2n_f, Nat.add_zero], show sumNN (feN X g) (p + 1) = sumNN (feN X g) p by rw [sumNN_s]; unfold feN; rw [e1, if_neg (by decide), Nat.add_zero]] at ih2
        exact ih2
    · refine t_ifeq0 62 dX4_fees_49 (by decide) ?_
      refine g_bipush dX4_fees_62 bp_m6 ?_
      refine g_istore (lv' := [(6, .int (-6)), (5, .int (nI p)), (4, .int (nI (cntN (hwN X g) p))), (3, .int (nI (sumNN (feN X g) p))), (0, .ref (L 24)), (1, .int (nI g)), (2, .int (nI w))]) dX4_fees_64 (by decide) rfl ?_
      refine g_iload dX4_fees_66 0 rfl ?_
      refine g_bipush dX4_fees_68 bp_m6 ?_
      refine g_icmpeq 81 dX4_fees_70 (by decide) (fun h70 => ?_) (fun h70 => absurd h70 (by decide +kernel))
      refine g_iinc (v := nI (p + 1)) (lv' := [(5, .int (nI (p + 1))), (6, .int (-6)), (4, .int (nI (cntN (hwN X g) p))), (3, .int (nI (sumNN (feN X g) p))), (0, .ref (L 24)), (1, .int (nI g)), (2, .int (nI w))]) dX4_fees_81 1 rfl (inc_n _) (by decide) rfl ?_
      refine g_goto 33 dX4_fees_84 (by decide) ?_
      refine g_pick [0, 2, 3, 4, 5, 6] (lv' := [(5, .int (nI (p + 1))), (4, .int (nI (cntN (hwN X g) p))), (3, .int (nI (sumNN (feN X g) p))), (0, .ref (L 24)), (1, .int (nI g)), (2, .int (nI w))]) rfl ?_
      have ih2 := ih (p + 1) (by omega)
      have e1 : hwN X g p = false := by unfold hwN; rw [h46]; rfl
      rw [show cntN (hwN X g) (p + 1) = cntN (hwN X g) p by rw [cntN_s, e1, b2n_f, Nat.add_zero], show sumNN (feN X g) (p + 1) = sumNN (feN X g) p by rw [sumNN_s]; unfold feN; rw [e1, if_neg (by decide), Nat.add_zero]] at ih2
      exact ih2
set_option maxHeartbeats 4000000 in
set_option maxRecDepth 20000 in
theorem c_X4_fees {l : Launch} {D : gE} {L : Nat → Nat} {σ : St} {Q : Option Value → va_W → Prop} {d : Nat} {X : XT} (hX : rzT σ 0 X) (ho : okX X) {x y : Int32} (h : ∀ σ', fc σ σ' → rzT σ' 0 X → Q (some (.int (feesR X x y))) (wsOf D L σ')) : Ctr l D yX4_fees cX4_fees 7 (some .int) (rr (d + 4)) [.ref (L 24), .int x, .int y] (wsOf D L σ) Q := by
  refine g_start ky_X4_fees (Nat.le_of_ble_eq_true rfl) ?_
  refine g_pick [0, 1, 2] (lv' := [(0, .ref (L 24)), (1, .int x), (2, .int y)]) rfl ?_
  have hsz := ok_sz ho
  refine g_aload_n dX4_fees_0 rfl 0 rfl ?_
  refine g_get kf_X4_10 kC_X4 (by decide) 24 at_24 rfl dX4_fees_1 ?_
  refine g_iload_n dX4_fees_4 rfl 1 rfl ?_
  refine g_callV (As := [.int x]) km_X4_56 ky_X3_hasTerrace ki_X3_hasTerrace (by decide) 0 (at_tn (Or.inl rfl)) rfl rfl (Nat.le_of_ble_eq_true rfl) dX4_fees_5 rfl (c_X3_hasTerrace (Or.inl rfl) hX ho (fun t5 ht5 he5 => ?_) (fun h5 => ?_))
  · subst he5
    refine t_ifne1 13 dX4_fees_8 (by decide) ?_
    refine g_iload_n dX4_fees_13 rfl 2 rfl ?_
    refine g_iconst dX4_fees_14 ci_0 ?_
    refine g_iconst dX4_fees_15 ci_1 ?_
    refine g_callS (As := [.int y, .int (nI 0), .int (nI 1)]) km_X4_44 ky_X4_within ks_X4_within (by decide) rfl (Nat.le_of_ble_eq_true rfl) dX4_fees_16 rfl (c_X4_withinN (by omega) (by omega) (fun p16 ha16 hb16 he16 => ?_) (fun h16 => ?_))
    · subst he16
      refine t_ifne1 25 dX4_fees_19 (by decide) ?_
      refine g_iconst dX4_fees_25 ci_0 ?_
      refine g_istore_n (lv' := [(3, .int (nI 0)), (0, .ref (L 24)), (1, .int (nI t5)), (2, .int (nI p16))]) dX4_fees_26 rfl (by decide) rfl ?_
      refine g_iconst dX4_fees_27 ci_0 ?_
      refine g_istore (lv' := [(4, .int (nI 0)), (3, .int (nI 0)), (0, .ref (L 24)), (1, .int (nI t5)), (2, .int (nI p16))]) dX4_fees_28 (by decide) rfl ?_
      refine g_iconst dX4_fees_30 ci_0 ?_
      refine g_istore (lv' := [(5, .int (nI 0)), (4, .int (nI 0)), (3, .int (nI 0)), (0, .ref (L 24)), (1, .int (nI t5)), (2, .int (nI p16))]) dX4_fees_31 (by decide) rfl ?_
      refine g_pick [0, 1, 2, 3, 4, 5] (lv' := [(5, .int (nI 0)), (4, .int (nI 0)), (3, .int (nI 0)), (0, .ref (L 24)), (1, .int (nI t5)), (2, .int (nI p16))]) rfl ?_
      refine lp_X4_fees hX ho (by omega) (by omega) (qi ?_ (h _ fc_rfl hX)) 6 0 rfl
      unfold feesR; rw [teI_t ho ht5, if_pos rfl, inN_t (a := 0) (b := 1) (by omega) (by omega) (by omega), if_pos rfl, ixt ho ht5]
      by_cases c : p16 = 0
      · rw [c, if_pos rfl, if_pos rfl]
      · rw [if_neg c, if_neg (fun e => c ((nI_eq (by omega) (by omega)).mp e))]
    · refine t_ifne0 (tgt := 25) dX4_fees_19 (by decide) ?_
      refine g_bipush dX4_fees_22 bp_m2 ?_
      exact g_ireturn dX4_fees_24 (Nat.le_refl _) (Nat.le_refl _) (qi (by unfold feesR; rw [teI_t ho ht5, if_pos rfl, inN_f (a := 0) (b := 1) (by omega) h16]; rfl) (h _ fc_rfl hX))
  · refine t_ifne0 (tgt := 13) dX4_fees_8 (by decide) ?_
    refine g_iconst dX4_fees_11 ci_m1 ?_
    exact g_ireturn dX4_fees_12 (Nat.le_refl _) (Nat.le_refl _) (qi (by unfold feesR; rw [teI_f h5]; rfl) (h _ fc_rfl hX))
set_option maxHeartbeats 4000000 in
set_option maxRecDepth 20000 in
theorem c_X3_bridgeOfNone {l : Launch} {D : gE} {L : Nat → Nat} {σ : St} {Q : Option Value → va_W → Prop} {d : Nat} {b : Nat} (hb : tn σ b) {X : XT} (hX : rzT σ b X) (ho : okX X) {m : Nat → Bool} {a g : Nat} {i : Int32} (ha : a < 6) (hg : g < 6) (hd : ¬ dN X m g a < 6) (h : Q (some (.int (bwR X m a g i))) (wsOf D L σ)) : Ctr l D yX3_bridgeOfWay cX3_bridgeOfWay 8 (some .int) (rr (d + 4)) [.ref (L b), .int (nI a), .int (nI g), .int (nI (bitsN m 8)), .int i] (wsOf D L σ) Q := by
  refine g_start ky_X3_bridgeOfWay (Nat.le_of_ble_eq_true rfl) ?_
  refine g_pick [0, 1, 2, 3, 4] (lv' := [(0, .ref (L b)), (1, .int (nI a)), (2, .int (nI g)), (3, .int (nI (bitsN m 8))), (4, .int i)]) rfl ?_
  refine g_iload_n dX3_bridgeOfWay_0 rfl 1 rfl ?_
  refine g_istore (lv' := [(5, .int (nI a)), (0, .ref (L b)), (1, .int (nI a)), (2, .int (nI g)), (3, .int (nI (bitsN m 8))), (4, .int i)]) dX3_bridgeOfWay_1 (by decide) rfl ?_
  refine g_bipush dX3_bridgeOfWay_3 bp_m6 ?_
  refine g_istore (lv' := [(6, .int (-6)), (5, .int (nI a)), (0, .ref (L b)), (1, .int (nI a)), (2, .int (nI g)), (3, .int (nI (bitsN m 8))), (4, .int i)]) dX3_bridgeOfWay_5 (by decide) rfl ?_
  refine g_iconst dX3_bridgeOfWay_7 ci_0 ?_
  refine g_istore (lv' := [(7, .int (nI 0)), (6, .int (-6)), (5, .int (nI a)), (0, .ref (L b)), (1, .int (nI a)), (2, .int (nI g)), (3, .int (nI (bitsN m 8))), (4, .int i)]) dX3_bridgeOfWay_8 (by decide) rfl ?_
  refine g_iload dX3_bridgeOfWay_10 0 rfl ?_
  refine g_iload dX3_bridgeOfWay_12 7 rfl ?_
  refine g_icmpgt 60 dX3_bridgeOfWay_14 (by decide) (fun h14 => ?_) (fun h14 => ?_)
  · refine g_iload dX3_bridgeOfWay_60 1 rfl ?_
    exact g_ireturn dX3_bridgeOfWay_62 (Nat.le_refl _) (Nat.le_refl _) (qi (bw_end (Or.inl hd)) h)
  · refine g_iload dX3_bridgeOfWay_17 0 rfl ?_
    refine g_bipush dX3_bridgeOfWay_19 bp_6 ?_
    refine n_icmpge 60 dX3_bridgeOfWay_21 (by decide) (by omega) (by omega) (fun h21 => absurd h21 (by omega)) (fun h21 => ?_)
    refine g_aload_n dX3_bridgeOfWay_24 rfl 3 rfl ?_
    refine g_iload dX3_bridgeOfWay_25 2 rfl ?_
    refine g_iload_n dX3_bridgeOfWay_27 rfl 5 rfl ?_
    refine g_iload_n dX3_bridgeOfWay_28 rfl 6 rfl ?_
    refine g_callV (As := [.int (nI a), .int (nI g), .int (nI (bitsN m 8))]) km_X3_122 ky_X3_nextBridge ki_X3_nextBridge (by decide) b (at_tn hb) rfl rfl (Nat.le_of_ble_eq_true rfl) dX3_bridgeOfWay_29 rfl (c_X3_nextBridge hb hX ho ha hg (nx_two (P := fun v => G l D yX3_bridgeOfWay cX3_bridgeOfWay 8 (some .int) (rr (d + 4)) Q 0 0 32 [(7, .int (nI 0)), (6, .int (-6)), (5, .int (nI a)), (0, .ref (L b)), (1, .int (nI a)), (2, .int (nI g)), (3, .int (nI (bitsN m 8))), (4, .int i)] (.int v :: []) (wsOf D L σ)) ho hg (fun h0 h6 h8 => absurd h6 hd) (fun h0 => ?_)))
    refine g_istore (lv' := [(6, .int (-6)), (7, .int (nI 0)), (5, .int (nI a)), (0, .ref (L b)), (1, .int (nI a)), (2, .int (nI g)), (3, .int (nI (bitsN m 8))), (4, .int i)]) dX3_bridgeOfWay_32 (by decide) rfl ?_
    refine g_iload dX3_bridgeOfWay_34 0 rfl ?_
    refine g_bipush dX3_bridgeOfWay_36 bp_m6 ?_
    refine g_icmpne 44 dX3_bridgeOfWay_38 (by decide) (fun h38 => absurd h38 (by decide +kernel)) (fun h38 => ?_)
    refine g_bipush dX3_bridgeOfWay_41 bp_m6 ?_
    exact g_ireturn dX3_bridgeOfWay_43 (Nat.le_refl _) (Nat.le_refl _) (qi (bw_end (Or.inl hd)) h)
theorem c_X3_bridgeOfAll {l : Launch} {D : gE} {L : Nat → Nat} {σ : St} {Q : Option Value → va_W → Prop} {d : Nat} {b : Nat} (hb : tn σ b) {X : XT} (hX : rzT σ b X) (ho : okX X) {m : Nat → Bool} {a g : Nat} {i : Int32} (ha : a < 6) (hg : g < 6) (h : Q (some (.int (bwR X m a g i))) (wsOf D L σ)) : Ctr l D yX3_bridgeOfWay cX3_bridgeOfWay 8 (some .int) (rr (d + 4)) [.ref (L b), .int (nI a), .int (nI g), .int (nI (bitsN m 8)), .int i] (wsOf D L σ) Q := by
  by_cases hd : dN X m g a < 6
  · exact c_X3_bridgeOfWay hb hX ho ha hg hd h
  · exact c_X3_bridgeOfNone hb hX ho ha hg hd h
set_option maxHeartbeats 4000000 in
set_option maxRecDepth 20000 in
theorem c_X4_way {l : Launch} {D : gE} {L : Nat → Nat} {σ : St} {Q : Option Value → va_W → Prop} {d : Nat} {X : XT} (hX : rzT σ 0 X) (ho : okX X) {x y i : Int32} (h : ∀ σ', fc σ σ' → rzT σ' 0 X → Q (some (.int (wayR X x y i))) (wsOf D L σ')) : Ctr l D yX4_way cX4_way 6 (some .int) (rr (d + 5)) [.ref (L 24), .int x, .int y, .int i] (wsOf D L σ) Q := by
  refine g_start ky_X4_way (Nat.le_of_ble_eq_true rfl) ?_
  refine g_pick [0, 1, 2, 3] (lv' := [(0, .ref (L 24)), (1, .int x), (2, .int y), (3, .int i)]) rfl ?_
  have hsz := ok_sz ho
  refine g_aload_n dX4_way_0 rfl 0 rfl ?_
  refine g_get kf_X4_10 kC_X4 (by decide) 24 at_24 rfl dX4_way_1 ?_
  refine g_iload_n dX4_way_4 rfl 1 rfl ?_
  refine g_callV (As := [.int x]) km_X4_106 ky_X3_hasPerson ki_X3_hasPerson (by decide) 0 (at_tn (Or.inl rfl)) rfl rfl (Nat.le_of_ble_eq_true rfl) dX4_way_5 rfl (c_X3_hasPerson (Or.inl rfl) hX ho (fun p5 hp5 he5 h5 => ?_) (fun h5 => ?_))
  · subst he5
    refine t_ifeq1 (tgt := 22) dX4_way_8 (by decide) ?_
    refine g_aload_n dX4_way_11 rfl 0 rfl ?_
    refine g_get kf_X4_10 kC_X4 (by decide) 24 at_24 rfl dX4_way_12 ?_
    refine g_iload_n dX4_way_15 rfl 2 rfl ?_
    refine g_callV (As := [.int y]) km_X4_56 ky_X3_hasTerrace ki_X3_hasTerrace (by decide) 0 (at_tn (Or.inl rfl)) rfl rfl (Nat.le_of_ble_eq_true rfl) dX4_way_16 rfl (c_X3_hasTerrace (Or.inl rfl) hX ho (fun t16 ht16 he16 => ?_) (fun h16 => ?_))
    · subst he16
      refine t_ifne1 24 dX4_way_19 (by decide) ?_
      have hpp := ok_p ho hp5
      have hbu := bu_bd ho p5
      refine g_aload_n dX4_way_24 rfl 0 rfl ?_
      refine g_get kf_X4_10 kC_X4 (by decide) 24 at_24 rfl dX4_way_25 ?_
      refine g_aload_n dX4_way_28 rfl 0 rfl ?_
      refine g_get kf_X4_10 kC_X4 (by decide) 24 at_24 rfl dX4_way_29 ?_
      refine g_iload_n dX4_way_32 rfl 1 rfl ?_
      refine g_callV (As := [.int (nI p5)]) km_X4_156 ky_X3_burden ki_X3_burden (by decide) 0 (at_tn (Or.inl rfl)) rfl rfl (Nat.le_of_ble_eq_true rfl) dX4_way_33 rfl (c_X3_burden (Or.inl rfl) hX ho (by omega) ?_)
      refine g_callV (As := [.int (nI (buX X p5))]) km_X4_170 ky_X3_bearing ki_X3_bearing (by decide) 0 (at_tn (Or.inl rfl)) rfl rfl (Nat.le_of_ble_eq_true rfl) dX4_way_36 rfl (c_X3_bearing (Or.inl rfl) hX ho (by omega) ?_)
      refine g_istore (lv' := [(4, .int (nI (bitsN (beX X (buX X p5)) 8))), (0, .ref (L 24)), (1, .int (nI p5)), (2, .int (nI t16)), (3, .int i)]) dX4_way_39 (by decide) rfl ?_
      refine g_aload_n dX4_way_41 rfl 1 rfl ?_
      refine g_get kf_X4_10 kC_X4 (by decide) 24 at_24 rfl dX4_way_42 ?_
      refine s_getT (b := 0) (Or.inl rfl) kf_X4_97 (by decide) rfl dX4_way_45 ?_
      refine g_iload_n dX4_way_48 rfl 2 rfl ?_
      refine s_ald (q := 5) (n := 6) (at_ia (q := 5) rfl) (by omega) (by decide) dX4_way_49 ?_
      refine g_tope (z := nI (x_pl X p5)) (rpT_pl hX.1 (by omega)) ?_
      refine g_istore (lv' := [(5, .int (nI (x_pl X p5))), (4, .int (nI (bitsN (beX X (buX X p5)) 8))), (0, .ref (L 24)), (1, .int (nI p5)), (2, .int (nI t16)), (3, .int i)]) dX4_way_50 (by decide) rfl ?_
      refine g_iload_n dX4_way_52 rfl 5 rfl ?_
      refine g_iconst dX4_way_53 ci_m1 ?_
      refine g_icmpne 72 dX4_way_54 (by decide) (fun h54 => ?_) (fun h54 => ?_)
      · refine g_aload_n dX4_way_72 rfl 2 rfl ?_
        refine g_get kf_X4_10 kC_X4 (by decide) 24 at_24 rfl dX4_way_73 ?_
        refine g_iload dX4_way_76 0 rfl ?_
        refine g_iload_n dX4_way_78 rfl 4 rfl ?_
        refine g_iload dX4_way_79 1 rfl ?_
        refine g_iload_n dX4_way_81 rfl 5 rfl ?_
        refine g_callV (As := [.int (nI (x_pl X p5)), .int (nI t16), .int (nI (bitsN (beX X (buX X p5)) 8)), .int i]) km_X4_177 ky_X3_bridgeOfWay ki_X3_bridgeOfWay (by decide) 0 (at_tn (Or.inl rfl)) rfl rfl (Nat.le_of_ble_eq_true rfl) dX4_way_82 rfl (c_X3_bridgeOfAll (Or.inl rfl) hX ho (by omega) (by omega) ?_)
        exact g_ireturn dX4_way_85 (Nat.le_refl _) (Nat.le_refl _) (qi (by unfold wayR; rw [thI_t hp5 h5, teI_t ho ht16, ix6 hp5, ixt ho ht16, if_pos (by rfl)]; unfold bwR; by_cases c : waN X p5 t16 < 6; rw [if_pos c, if_neg h54, if_pos (show dN X (beX X (buX X p5)) t16 (x_pl X p5) < 6 from c)]; rfl; rw [if_neg c, if_neg (show ¬ dN X (beX X (buX X p5)) t16 (x_pl X p5) < 6 from c)]) (h _ fc_rfl hX))
      · refine g_aload_n dX4_way_57 rfl 2 rfl ?_
        refine g_get kf_X4_10 kC_X4 (by decide) 24 at_24 rfl dX4_way_58 ?_
        refine g_iload dX4_way_61 0 rfl ?_
        refine g_iload_n dX4_way_63 rfl 4 rfl ?_
        refine g_iload dX4_way_64 1 rfl ?_
        refine g_callV (As := [.int (nI (x_pl X p5)), .int (nI t16), .int (nI (bitsN (beX X (buX X p5)) 8))]) km_X4_173 ky_X3_distance ki_X3_distance (by decide) 0 (at_tn (Or.inl rfl)) rfl rfl (Nat.le_of_ble_eq_true rfl) dX4_way_66 rfl (c_X3_distance (Or.inl rfl) hX ho (by omega) (by omega) (fun h66 => ?_) (fun h66 => ?_))
        · refine g_goto 85 dX4_way_69 (by decide) ?_
          exact g_ireturn dX4_way_85 (Nat.le_refl _) (Nat.le_refl _) (qi (by unfold wayR; rw [thI_t hp5 h5, teI_t ho ht16, ix6 hp5, ixt ho ht16, if_pos (by rfl), if_pos (show waN X p5 t16 < 6 by unfold waN; rw [dN_sym]; exact h66), if_pos h54]; unfold waN; rw [dN_sym]) (h _ fc_rfl hX))
        · refine g_goto 85 dX4_way_69 (by decide) ?_
          exact g_ireturn dX4_way_85 (Nat.le_refl _) (Nat.le_refl _) (qi (by unfold wayR; rw [thI_t hp5 h5, teI_t ho ht16, ix6 hp5, ixt ho ht16, if_pos (by rfl), if_neg (show ¬ waN X p5 t16 < 6 by unfold waN; rw [dN_sym]; exact h66)]) (h _ fc_rfl hX))
    · refine t_ifne0 (tgt := 24) dX4_way_19 (by decide) ?_
      refine g_iconst dX4_way_22 ci_m1 ?_
      exact g_ireturn dX4_way_23 (Nat.le_refl _) (Nat.le_refl _) (qi (by unfold wayR; rw [teI_f h16, Bool.and_false]; rfl) (h _ fc_rfl hX))
  · refine t_ifeq0 22 dX4_way_8 (by decide) ?_
    refine g_iconst dX4_way_22 ci_m1 ?_
    exact g_ireturn dX4_way_23 (Nat.le_refl _) (Nat.le_refl _) (qi (by unfold wayR; rw [thI_f h5]; rfl) (h _ fc_rfl hX))
