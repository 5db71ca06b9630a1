theorem setA_id (σ : St) (q : Nat) : setA σ q (sA σ q) = σ := by
  unfold setA
  have : (fun q' => if q' = q then sA σ q else sA σ q') = sA σ := by
    funext q'
    by_cases h : q' = q
    · simp [h]
    · simp [h]
  rw [this]
theorem ws_id {D : gE} {L : Nat → Nat} (σ : St) (q : Nat) : wsOf D L σ = wsOf D L (setA σ q (sA σ q)) := by rw [setA_id]
set_option maxHeartbeats 4000000 in
set_option maxRecDepth 20000 in
theorem bd_X5_findFar {l : Launch} {D : gE} {L : Nat → Nat} {σ : St} {Q : Option Value → va_W → Prop} {d : Nat} {X : XT} (hX : rpM σ X) (ho : okX X) {m : Nat → Bool} {g : Nat} (hg : g < 6) {b r : Nat} (hb : b < 8) (hr : r < 6) {f : Nat → Int32} {F : Nat → Nat} (hF : ∀ t, t < 6 → f t = nI (F t)) (hB : ∀ t, F t ≤ 1000) (kk : ∀ f', (∀ t, t < 6 → f' t = nI (rlx X m b F t)) → G l D yX5_findFar cX5_findFar 7 none (rr d) Q 0 0 168 [(4, .int (nI b)), (3, .int (nI r)), (0, .ref (L 33)), (1, .int (nI g)), (2, .int (nI (bitsN m 8)))] [] (wsOf D L (setA σ 54 f'))) : G l D yX5_findFar cX5_findFar 7 none (rr d) Q 0 0 50 [(4, .int (nI b)), (3, .int (nI r)), (0, .ref (L 33)), (1, .int (nI g)), (2, .int (nI (bitsN m 8)))] [] (wsOf D L (setA σ 54 f)) := by
  have hX1 := rpM_A hX 54 (by omega) f
  have hbb := ok_b ho hb
  have b1 := hB (x_lo X b)
  have b2 := hB (x_hi X b)
  refine g_iload_n dX5_findFar_50 rfl 4 rfl ?_
  refine g_iload dX5_findFar_51 0 rfl ?_
  refine g_ishr dX5_findFar_53 ?_
  refine g_iconst dX5_findFar_54 ci_1 ?_
  refine g_iand dX5_findFar_55 ?_
  refine g_tope (z := nI (b2n (m b))) (gbB _ (by decide) (by omega)) ?_
  refine g_iconst dX5_findFar_56 ci_1 ?_
  refine b_icmpne 168 dX5_findFar_57 (by decide) (fun h57 => ?_) (fun h57 => ?_)
  · refine g_pick [0, 1, 2, 3, 4] (lv' := [(4, .int (nI b)), (3, .int (nI r)), (0, .ref (L 33)), (1, .int (nI g)), (2, .int (nI (bitsN m 8)))]) rfl ?_
    exact kk f (fun t ht => by rw [hF t ht]; unfold rlx; rw [if_neg (by rw [h57]; decide)])
  · refine g_aload_n dX5_findFar_60 rfl 2 rfl ?_
    refine s_getM kf_X5_7 (by decide) rfl dX5_findFar_61 ?_
    refine g_iload dX5_findFar_64 0 rfl ?_
    refine s_ald (q := 34) (n := 8) (at_ia (q := 34) rfl) (by omega) (by decide) dX5_findFar_66 ?_
    refine g_tope (z := nI (x_lo X b)) (rpM_lo hX1 (by omega)) ?_
    refine g_istore (lv' := [(5, .int (nI (x_lo X b))), (4, .int (nI b)), (3, .int (nI r)), (0, .ref (L 33)), (1, .int (nI g)), (2, .int (nI (bitsN m 8)))]) dX5_findFar_67 (by decide) rfl ?_
    refine g_aload_n dX5_findFar_69 rfl 3 rfl ?_
    refine s_getM kf_X5_13 (by decide) rfl dX5_findFar_70 ?_
    refine g_iload dX5_findFar_73 1 rfl ?_
    refine s_ald (q := 35) (n := 8) (at_ia (q := 35) rfl) (by omega) (by decide) dX5_findFar_75 ?_
    refine g_tope (z := nI (x_hi X b)) (rpM_hi hX1 (by omega)) ?_
    refine g_istore (lv' := [(6, .int (nI (x_hi X b))), (5, .int (nI (x_lo X b))), (4, .int (nI b)), (3, .int (nI r)), (0, .ref (L 33)), (1, .int (nI g)), (2, .int (nI (bitsN m 8)))]) dX5_findFar_76 (by decide) rfl ?_
    refine g_aload_n dX5_findFar_78 rfl 4 rfl ?_
    refine s_getM kf_X5_70 (by decide) rfl dX5_findFar_79 ?_
    refine g_iload dX5_findFar_82 1 rfl ?_
    refine g_aload_n dX5_findFar_84 rfl 4 rfl ?_
    refine s_getM kf_X5_70 (by decide) rfl dX5_findFar_85 ?_
    refine g_iload dX5_findFar_88 0 rfl ?_
    refine s_ald (q := 54) (n := 6) (at_ia (q := 54) rfl) (by omega) (by decide) dX5_findFar_90 ?_
    refine g_tope (z := nI (F (x_hi X b))) (hF _ (by omega)) ?_
    refine g_iconst dX5_findFar_91 ci_1 ?_
    refine g_iadd dX5_findFar_92 ?_
    refine g_tope (z := nI (F (x_hi X b) + 1)) (nI_add _ _) ?_
    refine g_aload_n dX5_findFar_93 rfl 4 rfl ?_
    refine s_getM kf_X5_70 (by decide) rfl dX5_findFar_94 ?_
    refine g_iload dX5_findFar_97 1 rfl ?_
    refine s_ald (q := 54) (n := 6) (at_ia (q := 54) rfl) (by omega) (by decide) dX5_findFar_99 ?_
    refine g_tope (z := nI (F (x_lo X b))) (hF _ (by omega)) ?_
    refine n_icmpge 115 dX5_findFar_100 (by decide) (by omega) (by omega) (fun h100 => ?_) (fun h100 => ?_)
    · refine g_aload_n dX5_findFar_115 rfl 4 rfl ?_
      refine s_getM kf_X5_70 (by decide) rfl dX5_findFar_116 ?_
      refine g_iload dX5_findFar_119 1 rfl ?_
      refine s_ald (q := 54) (n := 6) (at_ia (q := 54) rfl) (by omega) (by decide) dX5_findFar_121 ?_
      refine g_tope (z := nI (F (x_lo X b))) (hF _ (by omega)) ?_
      refine s_ast (q := 54) (n := 6) (at_ia (q := 54) rfl) (by omega) (by decide) dX5_findFar_122 ?_
      refine g_ws (ws_twice σ 54 _ _) ?_
      have hF1 : ∀ t, t < 6 → (upd (sA (setA σ 54 f) 54) (x_lo X b) (nI (F (x_lo X b)))) t = nI (updN F (x_lo X b) (F (x_lo X b)) t) := upd_nI (f := sA (setA σ 54 f) 54) hF
      generalize upd (sA (setA σ 54 f) 54) (x_lo X b) (nI (F (x_lo X b))) = f1 at hF1 ⊢
      have hB1 : ∀ t, updN F (x_lo X b) (F (x_lo X b)) t ≤ 1000 := fun t => Nat.le_trans (upd1_le (by omega) t) (hB t)
      have b13 := hB1 (x_lo X b)
      have b14 := hB1 (x_hi X b)
      refine g_aload_n dX5_findFar_123 rfl 4 rfl ?_
      refine s_getM kf_X5_70 (by decide) rfl dX5_findFar_124 ?_
      refine g_iload dX5_findFar_127 0 rfl ?_
      refine g_aload_n dX5_findFar_129 rfl 4 rfl ?_
      refine s_getM kf_X5_70 (by decide) rfl dX5_findFar_130 ?_
      refine g_iload dX5_findFar_133 1 rfl ?_
      refine s_ald (q := 54) (n := 6) (at_ia (q := 54) rfl) (by omega) (by decide) dX5_findFar_135 ?_
      refine g_tope (z := nI ((updN F (x_lo X b) (F (x_lo X b))) (x_lo X b))) (hF1 _ (by omega)) ?_
      refine g_iconst dX5_findFar_136 ci_1 ?_
      refine g_iadd dX5_findFar_137 ?_
      refine g_tope (z := nI ((updN F (x_lo X b) (F (x_lo X b))) (x_lo X b) + 1)) (nI_add _ _) ?_
      refine g_aload_n dX5_findFar_138 rfl 4 rfl ?_
      refine s_getM kf_X5_70 (by decide) rfl dX5_findFar_139 ?_
      refine g_iload dX5_findFar_142 0 rfl ?_
      refine s_ald (q := 54) (n := 6) (at_ia (q := 54) rfl) (by omega) (by decide) dX5_findFar_144 ?_
      refine g_tope (z := nI ((updN F (x_lo X b) (F (x_lo X b))) (x_hi X b))) (hF1 _ (by omega)) ?_
      refine n_icmpge 160 dX5_findFar_145 (by decide) (by omega) (by omega) (fun h145 => ?_) (fun h145 => ?_)
      · refine g_aload_n dX5_findFar_160 rfl 4 rfl ?_
        refine s_getM kf_X5_70 (by decide) rfl dX5_findFar_161 ?_
        refine g_iload dX5_findFar_164 0 rfl ?_
        refine s_ald (q := 54) (n := 6) (at_ia (q := 54) rfl) (by omega) (by decide) dX5_findFar_166 ?_
        refine g_tope (z := nI ((updN F (x_lo X b) (F (x_lo X b))) (x_hi X b))) (hF1 _ (by omega)) ?_
        refine s_ast (q := 54) (n := 6) (at_ia (q := 54) rfl) (by omega) (by decide) dX5_findFar_167 ?_
        refine g_ws (ws_twice σ 54 _ _) ?_
        have hF2 : ∀ t, t < 6 → (upd (sA (setA σ 54 f1) 54) (x_hi X b) (nI ((updN F (x_lo X b) (F (x_lo X b))) (x_hi X b)))) t = nI (updN (updN F (x_lo X b) (F (x_lo X b))) (x_hi X b) ((updN F (x_lo X b) (F (x_lo X b))) (x_hi X b)) t) := upd_nI (f := sA (setA σ 54 f1) 54) hF1
        generalize upd (sA (setA σ 54 f1) 54) (x_hi X b) (nI ((updN F (x_lo X b) (F (x_lo X b))) (x_hi X b))) = f2 at hF2 ⊢
        have hB2 : ∀ t, updN (updN F (x_lo X b) (F (x_lo X b))) (x_hi X b) ((updN F (x_lo X b) (F (x_lo X b))) (x_hi X b)) t ≤ 1000 := fun t => Nat.le_trans (upd1_le (by omega) t) (hB1 t)
        have b23 := hB2 (x_lo X b)
        have b24 := hB2 (x_hi X b)
        refine g_pick [2, 3, 4, 5, 6] (lv' := [(4, .int (nI b)), (3, .int (nI r)), (0, .ref (L 33)), (1, .int (nI g)), (2, .int (nI (bitsN m 8)))]) rfl ?_
        have e1 : mn1 F (x_hi X b) (x_lo X b) = F (x_lo X b) := if_neg (by omega)
        have e2 : mn1 (updN F (x_lo X b) (F (x_lo X b))) (x_lo X b) (x_hi X b) = (updN F (x_lo X b) (F (x_lo X b))) (x_hi X b) := if_neg (by omega)
        exact kk f2 (fun t ht => by rw [hF2 t ht]; unfold rlx; rw [if_pos h57, e1, e2])
      · refine g_aload_n dX5_findFar_148 rfl 4 rfl ?_
        refine s_getM kf_X5_70 (by decide) rfl dX5_findFar_149 ?_
        refine g_iload dX5_findFar_152 1 rfl ?_
        refine s_ald (q := 54) (n := 6) (at_ia (q := 54) rfl) (by omega) (by decide) dX5_findFar_154 ?_
        refine g_tope (z := nI ((updN F (x_lo X b) (F (x_lo X b))) (x_lo X b))) (hF1 _ (by omega)) ?_
        refine g_iconst dX5_findFar_155 ci_1 ?_
        refine g_iadd dX5_findFar_156 ?_
        refine g_tope (z := nI ((updN F (x_lo X b) (F (x_lo X b))) (x_lo X b) + 1)) (nI_add _ _) ?_
        refine g_goto 167 dX5_findFar_157 (by decide) ?_
        refine s_ast (q := 54) (n := 6) (at_ia (q := 54) rfl) (by omega) (by decide) dX5_findFar_167 ?_
        refine g_ws (ws_twice σ 54 _ _) ?_
        have hF2 : ∀ t, t < 6 → (upd (sA (setA σ 54 f1) 54) (x_hi X b) (nI ((updN F (x_lo X b) (F (x_lo X b))) (x_lo X b) + 1))) t = nI (updN (updN F (x_lo X b) (F (x_lo X b))) (x_hi X b) ((updN F (x_lo X b) (F (x_lo X b))) (x_lo X b) + 1) t) := upd_nI (f := sA (setA σ 54 f1) 54) hF1
        generalize upd (sA (setA σ 54 f1) 54) (x_hi X b) (nI ((updN F (x_lo X b) (F (x_lo X b))) (x_lo X b) + 1)) = f2 at hF2 ⊢
        have hB2 : ∀ t, updN (updN F (x_lo X b) (F (x_lo X b))) (x_hi X b) ((updN F (x_lo X b) (F (x_lo X b))) (x_lo X b) + 1) t ≤ 1000 := fun t => Nat.le_trans (upd1_le (by omega) t) (hB1 t)
        have b23 := hB2 (x_lo X b)
        have b24 := hB2 (x_hi X b)
        refine g_pick [2, 3, 4, 5, 6] (lv' := [(4, .int (nI b)), (3, .int (nI r)), (0, .ref (L 33)), (1, .int (nI g)), (2, .int (nI (bitsN m 8)))]) rfl ?_
        have e1 : mn1 F (x_hi X b) (x_lo X b) = F (x_lo X b) := if_neg (by omega)
        have e2 : mn1 (updN F (x_lo X b) (F (x_lo X b))) (x_lo X b) (x_hi X b) = (updN F (x_lo X b) (F (x_lo X b))) (x_lo X b) + 1 := if_pos h145
        exact kk f2 (fun t ht => by rw [hF2 t ht]; unfold rlx; rw [if_pos h57, e1, e2])
    · refine g_aload_n dX5_findFar_103 rfl 4 rfl ?_
      refine s_getM kf_X5_70 (by decide) rfl dX5_findFar_104 ?_
      refine g_iload dX5_findFar_107 0 rfl ?_
      refine s_ald (q := 54) (n := 6) (at_ia (q := 54) rfl) (by omega) (by decide) dX5_findFar_109 ?_
      refine g_tope (z := nI (F (x_hi X b))) (hF _ (by omega)) ?_
      refine g_iconst dX5_findFar_110 ci_1 ?_
      refine g_iadd dX5_findFar_111 ?_
      refine g_tope (z := nI (F (x_hi X b) + 1)) (nI_add _ _) ?_
      refine g_goto 122 dX5_findFar_112 (by decide) ?_
      refine s_ast (q := 54) (n := 6) (at_ia (q := 54) rfl) (by omega) (by decide) dX5_findFar_122 ?_
      refine g_ws (ws_twice σ 54 _ _) ?_
      have hF1 : ∀ t, t < 6 → (upd (sA (setA σ 54 f) 54) (x_lo X b) (nI (F (x_hi X b) + 1))) t = nI (updN F (x_lo X b) (F (x_hi X b) + 1) t) := upd_nI (f := sA (setA σ 54 f) 54) hF
      generalize upd (sA (setA σ 54 f) 54) (x_lo X b) (nI (F (x_hi X b) + 1)) = f1 at hF1 ⊢
      have hB1 : ∀ t, updN F (x_lo X b) (F (x_hi X b) + 1) t ≤ 1000 := fun t => Nat.le_trans (upd1_le (by omega) t) (hB t)
      have b13 := hB1 (x_lo X b)
      have b14 := hB1 (x_hi X b)
      refine g_aload_n dX5_findFar_123 rfl 4 rfl ?_
      refine s_getM kf_X5_70 (by decide) rfl dX5_findFar_124 ?_
      refine g_iload dX5_findFar_127 0 rfl ?_
      refine g_aload_n dX5_findFar_129 rfl 4 rfl ?_
      refine s_getM kf_X5_70 (by decide) rfl dX5_findFar_130 ?_
      refine g_iload dX5_findFar_133 1 rfl ?_
      refine s_ald (q := 54) (n := 6) (at_ia (q := 54) rfl) (by omega) (by decide) dX5_findFar_135 ?_
      refine g_tope (z := nI ((updN F (x_lo X b) (F (x_hi X b) + 1)) (x_lo X b))) (hF1 _ (by omega)) ?_
      refine g_iconst dX5_findFar_136 ci_1 ?_
      refine g_iadd dX5_findFar_137 ?_
      refine g_tope (z := nI ((updN F (x_lo X b) (F (x_hi X b) + 1)) (x_lo X b) + 1)) (nI_add _ _) ?_
      refine g_aload_n dX5_findFar_138 rfl 4 rfl ?_
      refine s_getM kf_X5_70 (by decide) rfl dX5_findFar_139 ?_
      refine g_iload dX5_findFar_142 0 rfl ?_
      refine s_ald (q := 54) (n := 6) (at_ia (q := 54) rfl) (by omega) (by decide) dX5_findFar_144 ?_
      refine g_tope (z := nI ((updN F (x_lo X b) (F (x_hi X b) + 1)) (x_hi X b))) (hF1 _ (by omega)) ?_
      refine n_icmpge 160 dX5_findFar_145 (by decide) (by omega) (by omega) (fun h145 => ?_) (fun h145 => ?_)
      · refine g_aload_n dX5_findFar_160 rfl 4 rfl ?_
        refine s_getM kf_X5_70 (by decide) rfl dX5_findFar_161 ?_
        refine g_iload dX5_findFar_164 0 rfl ?_
        refine s_ald (q := 54) (n := 6) (at_ia (q := 54) rfl) (by omega) (by decide) dX5_findFar_166 ?_
        refine g_tope (z := nI ((updN F (x_lo X b) (F (x_hi X b) + 1)) (x_hi X b))) (hF1 _ (by omega)) ?_
        refine s_ast (q := 54) (n := 6) (at_ia (q := 54) rfl) (by omega) (by decide) dX5_findFar_167 ?_
        refine g_ws (ws_twice σ 54 _ _) ?_
        have hF2 : ∀ t, t < 6 → (upd (sA (setA σ 54 f1) 54) (x_hi X b) (nI ((updN F (x_lo X b) (F (x_hi X b) + 1)) (x_hi X b)))) t = nI (updN (updN F (x_lo X b) (F (x_hi X b) + 1)) (x_hi X b) ((updN F (x_lo X b) (F (x_hi X b) + 1)) (x_hi X b)) t) := upd_nI (f := sA (setA σ 54 f1) 54) hF1
        generalize upd (sA (setA σ 54 f1) 54) (x_hi X b) (nI ((updN F (x_lo X b) (F (x_hi X b) + 1)) (x_hi X b))) = f2 at hF2 ⊢
        have hB2 : ∀ t, updN (updN F (x_lo X b) (F (x_hi X b) + 1)) (x_hi X b) ((updN F (x_lo X b) (F (x_hi X b) + 1)) (x_hi X b)) t ≤ 1000 := fun t => Nat.le_trans (upd1_le (by omega) t) (hB1 t)
        have b23 := hB2 (x_lo X b)
        have b24 := hB2 (x_hi X b)
        refine g_pick [2, 3, 4, 5, 6] (lv' := [(4, .int (nI b)), (3, .int (nI r)), (0, .ref (L 33)), (1, .int (nI g)), (2, .int (nI (bitsN m 8)))]) rfl ?_
        have e1 : mn1 F (x_hi X b) (x_lo X b) = F (x_hi X b) + 1 := if_pos h100
        have e2 : mn1 (updN F (x_lo X b) (F (x_hi X b) + 1)) (x_lo X b) (x_hi X b) = (updN F (x_lo X b) (F (x_hi X b) + 1)) (x_hi X b) := if_neg (by omega)
        exact kk f2 (fun t ht => by rw [hF2 t ht]; unfold rlx; rw [if_pos h57, e1, e2])
      · refine g_aload_n dX5_findFar_148 rfl 4 rfl ?_
        refine s_getM kf_X5_70 (by decide) rfl dX5_findFar_149 ?_
        refine g_iload dX5_findFar_152 1 rfl ?_
        refine s_ald (q := 54) (n := 6) (at_ia (q := 54) rfl) (by omega) (by decide) dX5_findFar_154 ?_
        refine g_tope (z := nI ((updN F (x_lo X b) (F (x_hi X b) + 1)) (x_lo X b))) (hF1 _ (by omega)) ?_
        refine g_iconst dX5_findFar_155 ci_1 ?_
        refine g_iadd dX5_findFar_156 ?_
        refine g_tope (z := nI ((updN F (x_lo X b) (F (x_hi X b) + 1)) (x_lo X b) + 1)) (nI_add _ _) ?_
        refine g_goto 167 dX5_findFar_157 (by decide) ?_
        refine s_ast (q := 54) (n := 6) (at_ia (q := 54) rfl) (by omega) (by decide) dX5_findFar_167 ?_
        refine g_ws (ws_twice σ 54 _ _) ?_
        have hF2 : ∀ t, t < 6 → (upd (sA (setA σ 54 f1) 54) (x_hi X b) (nI ((updN F (x_lo X b) (F (x_hi X b) + 1)) (x_lo X b) + 1))) t = nI (updN (updN F (x_lo X b) (F (x_hi X b) + 1)) (x_hi X b) ((updN F (x_lo X b) (F (x_hi X b) + 1)) (x_lo X b) + 1) t) := upd_nI (f := sA (setA σ 54 f1) 54) hF1
        generalize upd (sA (setA σ 54 f1) 54) (x_hi X b) (nI ((updN F (x_lo X b) (F (x_hi X b) + 1)) (x_lo X b) + 1)) = f2 at hF2 ⊢
        have hB2 : ∀ t, updN (updN F (x_lo X b) (F (x_hi X b) + 1)) (x_hi X b) ((updN F (x_lo X b) (F (x_hi X b) + 1)) (x_lo X b) + 1) t ≤ 1000 := fun t => Nat.le_trans (upd1_le (by omega) t) (hB1 t)
        have b23 := hB2 (x_lo X b)
        have b24 := hB2 (x_hi X b)
        refine g_pick [2, 3, 4, 5, 6] (lv' := [(4, .int (nI b)), (3, .int (nI r)), (0, .ref (L 33)), (1, .int (nI g)), (2, .int (nI (bitsN m 8)))]) rfl ?_
        have e1 : mn1 F (x_hi X b) (x_lo X b) = F (x_hi X b) + 1 := if_pos h100
        have e2 : mn1 (updN F (x_lo X b) (F (x_hi X b) + 1)) (x_lo X b) (x_hi X b) = (updN F (x_lo X b) (F (x_hi X b) + 1)) (x_lo X b) + 1 := if_pos h145
        exact kk f2 (fun t ht => by rw [hF2 t ht]; unfold rlx; rw [if_pos h57, e1, e2])
set_option maxHeartbeats 4000000 in
set_option maxRecDepth 20000 in
theorem l1_X5_findFar {l : Launch} {D : gE} {L : Nat → Nat} {σ : St} {Q : Option Value → va_W → Prop} {d : Nat} {X : XT} (hX : rpM σ X) (ho : okX X) {m : Nat → Bool} {g : Nat} (hg : g < 6) {r : Nat} (hr : r < 6) {F : Nat → Nat} (hB : ∀ t, F t ≤ 1000) (kk : ∀ f, (∀ t, t < 6 → f t = nI (rnd X m F 8 t)) → G l D yX5_findFar cX5_findFar 7 none (rr d) Q 0 0 174 [(4, .int (nI 8)), (3, .int (nI r)), (0, .ref (L 33)), (1, .int (nI g)), (2, .int (nI (bitsN m 8)))] [] (wsOf D L (setA σ 54 f))) : ∀ n b, b + n = 8 → ∀ f, (∀ t, t < 6 → f t = nI (rnd X m F b t)) → G l D yX5_findFar cX5_findFar 7 none (rr d) Q 0 0 43 [(4, .int (nI b)), (3, .int (nI r)), (0, .ref (L 33)), (1, .int (nI g)), (2, .int (nI (bitsN m 8)))] [] (wsOf D L (setA σ 54 f)) := by
  intro n
  induction n with
  | zero =>
    intro b hct f hF
    obtain rfl : b = 8 := by omega
    refine g_iload dX5_findFar_43 0 rfl ?_
    refine g_bipush dX5_findFar_45 bp_8 ?_
    refine n_icmpge 174 dX5_findFar_47 (by decide) (by omega) (by omega) (fun h47 => ?_) (fun h47 => absurd h47 (by omega))
    exact kk f hF
  | succ n ih =>
    intro b hct f hF
    refine g_iload dX5_findFar_43 0 rfl ?_
    refine g_bipush dX5_findFar_45 bp_8 ?_
    refine n_icmpge 174 dX5_findFar_47 (by decide) (by omega) (by omega) (fun h47 => absurd h47 (by omega)) (fun h47 => ?_)
    refine bd_X5_findFar hX ho hg (by omega) hr (F := rnd X m F b) hF (fun t => Nat.le_trans (rnd_le X m F t b) (hB t)) (fun f2 hF2 => ?_)
    refine g_iinc (v := nI (b + 1)) (lv' := [(4, .int (nI (b + 1))), (3, .int (nI r)), (0, .ref (L 33)), (1, .int (nI g)), (2, .int (nI (bitsN m 8)))]) dX5_findFar_168 0 rfl (inc_n _) (by decide) rfl ?_
    refine g_goto 43 dX5_findFar_171 (by decide) ?_
    refine g_pick [0, 1, 2, 3, 4] (lv' := [(4, .int (nI (b + 1))), (3, .int (nI r)), (0, .ref (L 33)), (1, .int (nI g)), (2, .int (nI (bitsN m 8)))]) rfl ?_
    exact ih (b + 1) (by omega) f2 hF2
set_option maxHeartbeats 4000000 in
set_option maxRecDepth 20000 in
theorem l2_X5_findFar {l : Launch} {D : gE} {L : Nat → Nat} {σ : St} {Q : Option Value → va_W → Prop} {d : Nat} {X : XT} (hX : rpM σ X) (ho : okX X) {m : Nat → Bool} {g : Nat} (hg : g < 6) (h : ∀ f, (∀ t, t < 6 → f t = nI (faX X m g t)) → Q none (wsOf D L (setA σ 54 f))) : ∀ n r, r + n = 6 → ∀ f, (∀ t, t < 6 → f t = nI (bfd X m g r t)) → G l D yX5_findFar cX5_findFar 7 none (rr d) Q 0 0 34 [(3, .int (nI r)), (0, .ref (L 33)), (1, .int (nI g)), (2, .int (nI (bitsN m 8)))] [] (wsOf D L (setA σ 54 f)) := by
  intro n
  induction n with
  | zero =>
    intro r hct f hF
    obtain rfl : r = 6 := by omega
    refine g_iload_n dX5_findFar_34 rfl 0 rfl ?_
    refine g_bipush dX5_findFar_35 bp_6 ?_
    refine n_icmpge 180 dX5_findFar_37 (by decide) (by omega) (by omega) (fun h37 => ?_) (fun h37 => absurd h37 (by omega))
    exact g_return dX5_findFar_180 (Nat.le_refl _) (Nat.le_refl _) (h f (fun t ht => by rw [hF t ht, bfd_is ho hg]))
  | succ n ih =>
    intro r hct f hF
    refine g_iload_n dX5_findFar_34 rfl 0 rfl ?_
    refine g_bipush dX5_findFar_35 bp_6 ?_
    refine n_icmpge 180 dX5_findFar_37 (by decide) (by omega) (by omega) (fun h37 => absurd h37 (by omega)) (fun h37 => ?_)
    refine g_iconst dX5_findFar_40 ci_0 ?_
    refine g_istore (lv' := [(4, .int (nI 0)), (3, .int (nI r)), (0, .ref (L 33)), (1, .int (nI g)), (2, .int (nI (bitsN m 8)))]) dX5_findFar_41 (by decide) rfl ?_
    refine g_pick [0, 1, 2, 3, 4] (lv' := [(4, .int (nI 0)), (3, .int (nI r)), (0, .ref (L 33)), (1, .int (nI g)), (2, .int (nI (bitsN m 8)))]) rfl ?_
    refine l1_X5_findFar hX ho hg (by omega) (F := bfd X m g r) (fun t => bfd_le X m g t r) (fun f2 hF2 => ?_) 8 0 rfl f hF
    refine g_iinc (v := nI (r + 1)) (lv' := [(3, .int (nI (r + 1))), (4, .int (nI 8)), (0, .ref (L 33)), (1, .int (nI g)), (2, .int (nI (bitsN m 8)))]) dX5_findFar_174 1 rfl (inc_n _) (by decide) rfl ?_
    refine g_goto 34 dX5_findFar_177 (by decide) ?_
    refine g_pick [0, 2, 3, 4] (lv' := [(3, .int (nI (r + 1))), (0, .ref (L 33)), (1, .int (nI g)), (2, .int (nI (bitsN m 8)))]) rfl ?_
    exact ih (r + 1) (by omega) f2 hF2
set_option maxHeartbeats 4000000 in
set_option maxRecDepth 20000 in
theorem l3_X5_findFar {l : Launch} {D : gE} {L : Nat → Nat} {σ : St} {Q : Option Value → va_W → Prop} {d : Nat} {X : XT} (hX : rpM σ X) (ho : okX X) {m : Nat → Bool} {g : Nat} (hg : g < 6) (h : ∀ f, (∀ t, t < 6 → f t = nI (faX X m g t)) → Q none (wsOf D L (setA σ 54 f))) : ∀ n t, t + n = 6 → ∀ f, (∀ j, j < t → f j = nI (bfd X m g 0 j)) → G l D yX5_findFar cX5_findFar 7 none (rr d) Q 0 0 2 [(3, .int (nI t)), (0, .ref (L 33)), (1, .int (nI g)), (2, .int (nI (bitsN m 8)))] [] (wsOf D L (setA σ 54 f)) := by
  intro n
  induction n with
  | zero =>
    intro t hct f hF
    obtain rfl : t = 6 := by omega
    refine g_iload_n dX5_findFar_2 rfl 0 rfl ?_
    refine g_bipush dX5_findFar_3 bp_6 ?_
    refine n_icmpge 32 dX5_findFar_5 (by decide) (by omega) (by omega) (fun h5 => ?_) (fun h5 => absurd h5 (by omega))
    refine g_iconst dX5_findFar_32 ci_0 ?_
    refine g_istore_n (lv' := [(3, .int (nI 0)), (0, .ref (L 33)), (1, .int (nI g)), (2, .int (nI (bitsN m 8)))]) dX5_findFar_33 rfl (by decide) rfl ?_
    refine g_pick [0, 1, 2, 3] (lv' := [(3, .int (nI 0)), (0, .ref (L 33)), (1, .int (nI g)), (2, .int (nI (bitsN m 8)))]) rfl ?_
    exact l2_X5_findFar hX ho hg h 6 0 rfl f hF
  | succ n ih =>
    intro t hct f hF
    refine g_iload_n dX5_findFar_2 rfl 0 rfl ?_
    refine g_bipush dX5_findFar_3 bp_6 ?_
    refine n_icmpge 32 dX5_findFar_5 (by decide) (by omega) (by omega) (fun h5 => absurd h5 (by omega)) (fun h5 => ?_)
    refine g_aload_n dX5_findFar_8 rfl 1 rfl ?_
    refine s_getM kf_X5_70 (by decide) rfl dX5_findFar_9 ?_
    refine g_iload_n dX5_findFar_12 rfl 0 rfl ?_
    refine g_iload_n dX5_findFar_13 rfl 0 rfl ?_
    refine g_iload_n dX5_findFar_14 rfl 2 rfl ?_
    refine n_icmpne 22 dX5_findFar_15 (by decide) (by omega) (by omega) (fun h15 => ?_) (fun h15 => ?_)
    · refine g_sipush dX5_findFar_22 sp_1000 ?_
      refine s_ast (q := 54) (n := 6) (at_ia (q := 54) rfl) (by omega) (by decide) dX5_findFar_25 ?_
      refine g_ws (ws_twice σ 54 _ _) ?_
      refine g_iinc (v := nI (t + 1)) (lv' := [(3, .int (nI (t + 1))), (0, .ref (L 33)), (1, .int (nI g)), (2, .int (nI (bitsN m 8)))]) dX5_findFar_26 0 rfl (inc_n _) (by decide) rfl ?_
      refine g_goto 2 dX5_findFar_29 (by decide) ?_
      refine g_pick [0, 1, 2, 3] (lv' := [(3, .int (nI (t + 1))), (0, .ref (L 33)), (1, .int (nI g)), (2, .int (nI (bitsN m 8)))]) rfl ?_
      exact ih (t + 1) (by omega) _ (fun j hj => by
          by_cases e : j = t
          · subst e; show (if j = j then _ else _) = _; rw [if_pos rfl]; simp only [bfd]; rw [if_neg h15]
          · show (if j = t then _ else _) = _; rw [if_neg e]; exact hF j (by omega))
    · refine g_iconst dX5_findFar_18 ci_0 ?_
      refine g_goto 25 dX5_findFar_19 (by decide) ?_
      refine s_ast (q := 54) (n := 6) (at_ia (q := 54) rfl) (by omega) (by decide) dX5_findFar_25 ?_
      refine g_ws (ws_twice σ 54 _ _) ?_
      refine g_iinc (v := nI (t + 1)) (lv' := [(3, .int (nI (t + 1))), (0, .ref (L 33)), (1, .int (nI g)), (2, .int (nI (bitsN m 8)))]) dX5_findFar_26 0 rfl (inc_n _) (by decide) rfl ?_
      refine g_goto 2 dX5_findFar_29 (by decide) ?_
      refine g_pick [0, 1, 2, 3] (lv' := [(3, .int (nI (t + 1))), (0, .ref (L 33)), (1, .int (nI g)), (2, .int (nI (bitsN m 8)))]) rfl ?_
      exact ih (t + 1) (by omega) _ (fun j hj => by
          by_cases e : j = t
          · subst e; show (if j = j then _ else _) = _; rw [if_pos rfl]; simp only [bfd]; rw [if_pos h15]
          · show (if j = t then _ else _) = _; rw [if_neg e]; exact hF j (by omega))
set_option maxHeartbeats 4000000 in
set_option maxRecDepth 20000 in
theorem c_X5_findFar {l : Launch} {D : gE} {L : Nat → Nat} {σ : St} {Q : Option Value → va_W → Prop} {d : Nat} {X : XT} (hX : rpM σ X) (ho : okX X) {m : Nat → Bool} {g : Nat} (hg : g < 6) (h : ∀ f, (∀ t, t < 6 → f t = nI (faX X m g t)) → Q none (wsOf D L (setA σ 54 f))) : Ctr l D yX5_findFar cX5_findFar 7 none (rr d) [.ref (L 33), .int (nI g), .int (nI (bitsN m 8))] (wsOf D L σ) Q := by
  refine g_start ky_X5_findFar (Nat.le_of_ble_eq_true rfl) ?_
  refine g_pick [0, 1, 2] (lv' := [(0, .ref (L 33)), (1, .int (nI g)), (2, .int (nI (bitsN m 8)))]) rfl ?_
  refine g_iconst dX5_findFar_0 ci_0 ?_
  refine g_istore_n (lv' := [(3, .int (nI 0)), (0, .ref (L 33)), (1, .int (nI g)), (2, .int (nI (bitsN m 8)))]) dX5_findFar_1 rfl (by decide) rfl ?_
  refine g_pick [0, 1, 2, 3] (lv' := [(3, .int (nI 0)), (0, .ref (L 33)), (1, .int (nI g)), (2, .int (nI (bitsN m 8)))]) rfl ?_
  refine g_ws (ws_id σ 54) ?_
  exact l3_X5_findFar hX ho hg h 6 0 rfl _ (fun j hj => absurd hj (by omega))
set_option maxHeartbeats 4000000 in
set_option maxRecDepth 20000 in
theorem c_X5_farBy {l : Launch} {D : gE} {L : Nat → Nat} {σ : St} {Q : Option Value → va_W → Prop} {d : Nat} {X : XT} (hX : rpM σ X) (ho : okX X) {a g w : Nat} (ha : a < 6) (hg : g < 6) (hw : w < 2 ^ 31) (h : ∀ f, Q (some (.int (nI (faX X (beX X w) g a)))) (wsOf D L (setA σ 54 f))) : Ctr l D yX5_farBy cX5_farBy 4 (some .int) (rr (d + 3)) [.ref (L 33), .int (nI a), .int (nI g), .int (nI w)] (wsOf D L σ) Q := by
  refine g_start ky_X5_farBy (Nat.le_of_ble_eq_true rfl) ?_
  refine g_pick [0, 1, 2, 3] (lv' := [(0, .ref (L 33)), (1, .int (nI a)), (2, .int (nI g)), (3, .int (nI w))]) rfl ?_
  refine g_aload_n dX5_farBy_0 rfl 0 rfl ?_
  refine g_iload_n dX5_farBy_1 rfl 2 rfl ?_
  refine g_aload_n dX5_farBy_2 rfl 0 rfl ?_
  refine g_iload_n dX5_farBy_3 rfl 3 rfl ?_
  refine g_callV (As := [.int (nI w)]) km_X5_257 ky_X5_bearing ki_X5_bearing (by decide) 33 at_33 rfl rfl (Nat.le_of_ble_eq_true rfl) dX5_farBy_4 rfl (c_X5_bearing hX ho (by omega) ?_)
  refine g_callV (As := [.int (nI g), .int (nI (bitsN (beX X w) 8))]) km_X5_260 ky_X5_findFar ki_X5_findFar (by decide) 33 at_33 rfl rfl (Nat.le_of_ble_eq_true rfl) dX5_farBy_7 rfl (c_X5_findFar hX ho (by omega) (fun f7 hf7 => ?_))
  refine g_aload_n dX5_farBy_10 rfl 0 rfl ?_
  refine s_getM kf_X5_70 (by decide) rfl dX5_farBy_11 ?_
  refine g_iload_n dX5_farBy_14 rfl 1 rfl ?_
  refine s_ald (q := 54) (n := 6) (at_ia (q := 54) rfl) (by omega) (by decide) dX5_farBy_15 ?_
  refine g_tope (z := nI (faX X (beX X w) g a)) (hf7 _ (by omega)) ?_
  exact g_ireturn dX5_farBy_16 (Nat.le_refl _) (Nat.le_refl _) (h f7)
/-- there is a WAY from a to g for w pounds -/
def wyX (X : XT) (w a g : Nat) : Bool := decide (dN X (beX X w) g a < 6)
theorem wy_t {X : XT} {w a g : Nat} (h : faX X (beX X w) g a < 1000) : wyX X w a g = true := by
  have := fa_lt6 h; unfold faX at h; unfold wyX; split at h <;> simp_all
theorem wy_f {X : XT} {w a g : Nat} (h : 1000 ≤ faX X (beX X w) g a) : wyX X w a g = false := by
  unfold faX at h; unfold wyX; split at h
  · omega
  · simp only [decide_eq_false_iff_not]; assumption
set_option maxHeartbeats 4000000 in
set_option maxRecDepth 20000 in
theorem c_X5_hasWay {l : Launch} {D : gE} {L : Nat → Nat} {σ : St} {Q : Option Value → va_W → Prop} {d : Nat} {X : XT} (hX : rpM σ X) (ho : okX X) {p g w : Nat} (hp : p < 6) (hg : g < 6) (hw : w < 2 ^ 31) (ht : wyX X w (x_pl X p) g = true → ∀ f, Q (some (.int (nI 1))) (wsOf D L (setA σ 54 f))) (hf : wyX X w (x_pl X p) g = false → ∀ f, Q (some (.int (nI 0))) (wsOf D L (setA σ 54 f))) : Ctr l D yX5_hasWay cX5_hasWay 4 (some .boolean) (rr (d + 4)) [.ref (L 33), .int (nI p), .int (nI g), .int (nI w)] (wsOf D L σ) Q := by
  refine g_start ky_X5_hasWay (Nat.le_of_ble_eq_true rfl) ?_
  refine g_pick [0, 1, 2, 3] (lv' := [(0, .ref (L 33)), (1, .int (nI p)), (2, .int (nI g)), (3, .int (nI w))]) rfl ?_
  have hpp := ok_p ho hp
  have hfa := fa_le2 (X := X) (m := beX X w) (s := g) (t := x_pl X p)
  refine g_aload_n dX5_hasWay_0 rfl 0 rfl ?_
  refine g_aload_n dX5_hasWay_1 rfl 0 rfl ?_
  refine s_getM kf_X5_22 (by decide) rfl dX5_hasWay_2 ?_
  refine g_iload_n dX5_hasWay_5 rfl 1 rfl ?_
  refine s_ald (q := 38) (n := 6) (at_ia (q := 38) rfl) (by omega) (by decide) dX5_hasWay_6 ?_
  refine g_tope (z := nI (x_pl X p)) (rpM_pl hX (by omega)) ?_
  refine g_iload_n dX5_hasWay_7 rfl 2 rfl ?_
  refine g_iload_n dX5_hasWay_8 rfl 3 rfl ?_
  refine g_callV (As := [.int (nI (x_pl X p)), .int (nI g), .int (nI w)]) km_X5_264 ky_X5_farBy ki_X5_farBy (by decide) 33 at_33 rfl rfl (Nat.le_of_ble_eq_true rfl) dX5_hasWay_9 rfl (c_X5_farBy hX ho (by omega) (by omega) (by omega) (fun f9 => ?_))
  refine g_sipush dX5_hasWay_12 sp_1000 ?_
  refine n_icmpge 22 dX5_hasWay_15 (by decide) (by omega) (by omega) (fun h15 => ?_) (fun h15 => ?_)
  · refine g_iconst dX5_hasWay_22 ci_0 ?_
    exact g_zreturn dX5_hasWay_23 (Nat.le_refl _) (Nat.le_refl _) (Or.inl rfl) (hf (wy_f h15) f9)
  · refine g_iconst dX5_hasWay_18 ci_1 ?_
    refine g_goto 23 dX5_hasWay_19 (by decide) ?_
    exact g_zreturn dX5_hasWay_23 (Nat.le_refl _) (Nat.le_refl _) (Or.inr rfl) (ht (wy_t h15) f9)
