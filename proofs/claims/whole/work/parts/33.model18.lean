set_option maxHeartbeats 4000000 in
set_option maxRecDepth 20000 in
theorem c_X5_pass {l : Launch} {D : gE} {L : Nat → Nat} {σ : St} {Q : Option Value → va_W → Prop} {d : Nat} {w : Bool} {a : Nat} (h46 : sI σ 33 46 = nI (b2n w)) (h45 : sI σ 33 45 = nI a) (ha : a < 200) {v : Int32} (h : Q (some (.int (psV σ w a v))) (wsOf D L (psS' σ w a v))) : Ctr l D yX5_pass cX5_pass 3 (some .int) (rr d) [.ref (L 33), .int v] (wsOf D L σ) Q := by
  refine g_start ky_X5_pass (Nat.le_of_ble_eq_true rfl) ?_
  refine g_pick [0, 1] (lv' := [(0, .ref (L 33)), (1, .int v)]) rfl ?_
  refine g_aload_n dX5_pass_0 rfl 0 rfl ?_
  refine s_getM kf_X5_360 (by decide) rfl dX5_pass_1 ?_
  refine g_tope (z := nI (b2n w)) (h46) ?_
  refine b_ifeq 11 dX5_pass_4 (by decide) (fun h4 => ?_) (fun h4 => ?_)
  · refine g_aload_n dX5_pass_11 rfl 0 rfl ?_
    refine s_getM kf_X5_88 (by decide) rfl dX5_pass_12 ?_
    refine g_aload_n dX5_pass_15 rfl 0 rfl ?_
    refine s_getM kf_X5_364 (by decide) rfl dX5_pass_16 ?_
    refine g_tope (z := nI a) (h45) ?_
    refine s_ald (q := 60) (n := 200) (at_ia (q := 60) rfl) (by omega) (by decide) dX5_pass_19 ?_
    refine g_tope (z := psV σ w a v) (by unfold psV; rw [if_neg (by rw [h4]; decide)]) ?_
    refine g_istore_n (lv' := [(2, .int (psV σ w a v)), (0, .ref (L 33)), (1, .int v)]) dX5_pass_20 rfl (by decide) rfl ?_
    refine g_aload_n dX5_pass_21 rfl 1 rfl ?_
    refine s_getM kf_X5_88 (by decide) rfl dX5_pass_22 ?_
    refine g_aload_n dX5_pass_25 rfl 1 rfl ?_
    refine s_getM kf_X5_364 (by decide) rfl dX5_pass_26 ?_
    refine g_tope (z := nI a) (h45) ?_
    refine g_iload_n dX5_pass_29 rfl 0 rfl ?_
    refine s_ast (q := 60) (n := 200) (at_ia (q := 60) rfl) (by omega) (by decide) dX5_pass_30 ?_
    refine g_aload_n dX5_pass_31 rfl 1 rfl ?_
    refine g_dup dX5_pass_32 rfl ?_
    refine s_getM kf_X5_364 (by decide) rfl dX5_pass_33 ?_
    refine g_tope (z := nI a) (h45) ?_
    refine g_iconst dX5_pass_36 ci_1 ?_
    refine g_iadd dX5_pass_37 ?_
    refine g_tope (z := nI (a + 1)) (nI_add _ _) ?_
    refine s_putM kf_X5_364 (by decide) dX5_pass_38 ?_
    refine g_iload_n dX5_pass_41 rfl 0 rfl ?_
    exact g_ireturn dX5_pass_42 (Nat.le_refl _) (Nat.le_refl _) (h)
  · refine g_iload_n dX5_pass_7 rfl 1 rfl ?_
    refine g_goto 20 dX5_pass_8 (by decide) ?_
    refine g_tope (z := psV σ w a v) (by unfold psV; rw [if_pos h4]) ?_
    refine g_istore_n (lv' := [(2, .int (psV σ w a v)), (0, .ref (L 33)), (1, .int v)]) dX5_pass_20 rfl (by decide) rfl ?_
    refine g_aload_n dX5_pass_21 rfl 1 rfl ?_
    refine s_getM kf_X5_88 (by decide) rfl dX5_pass_22 ?_
    refine g_aload_n dX5_pass_25 rfl 1 rfl ?_
    refine s_getM kf_X5_364 (by decide) rfl dX5_pass_26 ?_
    refine g_tope (z := nI a) (h45) ?_
    refine g_iload_n dX5_pass_29 rfl 0 rfl ?_
    refine s_ast (q := 60) (n := 200) (at_ia (q := 60) rfl) (by omega) (by decide) dX5_pass_30 ?_
    refine g_aload_n dX5_pass_31 rfl 1 rfl ?_
    refine g_dup dX5_pass_32 rfl ?_
    refine s_getM kf_X5_364 (by decide) rfl dX5_pass_33 ?_
    refine g_tope (z := nI a) (h45) ?_
    refine g_iconst dX5_pass_36 ci_1 ?_
    refine g_iadd dX5_pass_37 ?_
    refine g_tope (z := nI (a + 1)) (nI_add _ _) ?_
    refine s_putM kf_X5_364 (by decide) dX5_pass_38 ?_
    refine g_iload_n dX5_pass_41 rfl 0 rfl ?_
    exact g_ireturn dX5_pass_42 (Nat.le_refl _) (Nat.le_refl _) (h)
set_option maxHeartbeats 4000000 in
set_option maxRecDepth 20000 in
theorem l2_X5_passAll {l : Launch} {D : gE} {L : Nat → Nat} {σ : St} {Q : Option Value → va_W → Prop} {d : Nat} {n : Nat} {w : Bool} (hn : n ≤ 1) (h : ∀ σ', PV σ n w 84 σ' → Q none (wsOf D L σ')) : ∀ n_ i, i + n_ = 6 → ∀ σ', PV σ n w (54 + 5 * i) σ' → G l D yX5_passAll cX5_passAll 2 none (rr (d + 1)) Q 0 0 184 [(1, .int (nI i)), (0, .ref (L 33))] [] (wsOf D L σ') := by
  intro n_
  induction n_ with
  | zero =>
    intro i hct σ' hP
    obtain rfl : i = 6 := by omega
    refine g_iload_n dX5_passAll_184 rfl 0 rfl ?_
    refine g_bipush dX5_passAll_185 bp_6 ?_
    refine n_icmpge 276 dX5_passAll_187 (by decide) (by omega) (by omega) (fun h187 => ?_) (fun h187 => absurd h187 (by omega))
    exact g_return dX5_passAll_276 (Nat.le_refl _) (Nat.le_refl _) (h _ hP)
  | succ n_ ih =>
    intro i hct σ' hP
    refine g_iload_n dX5_passAll_184 rfl 0 rfl ?_
    refine g_bipush dX5_passAll_185 bp_6 ?_
    refine n_icmpge 276 dX5_passAll_187 (by decide) (by omega) (by omega) (fun h187 => absurd h187 (by omega)) (fun h187 => ?_)
    refine g_aload_n dX5_passAll_190 rfl 1 rfl ?_
    refine s_getM kf_X5_22 (by decide) rfl dX5_passAll_191 ?_
    refine g_iload_n dX5_passAll_194 rfl 0 rfl ?_
    refine g_aload_n dX5_passAll_195 rfl 1 rfl ?_
    refine g_aload_n dX5_passAll_196 rfl 1 rfl ?_
    refine s_getM kf_X5_22 (by decide) rfl dX5_passAll_197 ?_
    refine g_iload_n dX5_passAll_200 rfl 0 rfl ?_
    refine s_ald (q := 38) (n := 6) (at_ia (q := 38) rfl) (by omega) (by decide) dX5_passAll_201 ?_
    refine g_callV (As := [.int (sA σ' 38 i)]) km_X5_367 ky_X5_pass ki_X5_pass (by decide) 33 at_33 rfl rfl (Nat.le_of_ble_eq_true rfl) dX5_passAll_202 rfl (c_X5_pass hP.2.2.2.2.1 hP.2.2.2.1 (by omega) ?_)
    refine s_ast (q := 38) (n := 6) (at_ia (q := 38) rfl) (by omega) (by decide) dX5_passAll_205 ?_
    have hP := pv_6 (c := 54 + 5 * i + 0) hP (i := i) (j := 0) (q := 38) (by omega) (by decide) rfl rfl rfl
    generalize setA (psS' σ' w (100 * n + (54 + 5 * i + 0)) (sA σ' 38 i)) 38 (upd (sA (psS' σ' w (100 * n + (54 + 5 * i + 0)) (sA σ' 38 i)) 38) i (psV σ' w (100 * n + (54 + 5 * i + 0)) (sA σ' 38 i))) = σp91 at hP ⊢
    refine g_aload_n dX5_passAll_206 rfl 1 rfl ?_
    refine s_getM kf_X5_25 (by decide) rfl dX5_passAll_207 ?_
    refine g_iload_n dX5_passAll_210 rfl 0 rfl ?_
    refine g_aload_n dX5_passAll_211 rfl 1 rfl ?_
    refine g_aload_n dX5_passAll_212 rfl 1 rfl ?_
    refine s_getM kf_X5_25 (by decide) rfl dX5_passAll_213 ?_
    refine g_iload_n dX5_passAll_216 rfl 0 rfl ?_
    refine s_ald (q := 39) (n := 6) (at_ia (q := 39) rfl) (by omega) (by decide) dX5_passAll_217 ?_
    refine g_callV (As := [.int (sA σp91 39 i)]) km_X5_367 ky_X5_pass ki_X5_pass (by decide) 33 at_33 rfl rfl (Nat.le_of_ble_eq_true rfl) dX5_passAll_218 rfl (c_X5_pass hP.2.2.2.2.1 hP.2.2.2.1 (by omega) ?_)
    refine s_ast (q := 39) (n := 6) (at_ia (q := 39) rfl) (by omega) (by decide) dX5_passAll_221 ?_
    have hP := pv_6 (c := 54 + 5 * i + 1) hP (i := i) (j := 1) (q := 39) (by omega) (by decide) rfl rfl rfl
    generalize setA (psS' σp91 w (100 * n + (54 + 5 * i + 1)) (sA σp91 39 i)) 39 (upd (sA (psS' σp91 w (100 * n + (54 + 5 * i + 1)) (sA σp91 39 i)) 39) i (psV σp91 w (100 * n + (54 + 5 * i + 1)) (sA σp91 39 i))) = σp92 at hP ⊢
    refine g_aload_n dX5_passAll_222 rfl 1 rfl ?_
    refine s_getM kf_X5_28 (by decide) rfl dX5_passAll_223 ?_
    refine g_iload_n dX5_passAll_226 rfl 0 rfl ?_
    refine g_aload_n dX5_passAll_227 rfl 1 rfl ?_
    refine g_aload_n dX5_passAll_228 rfl 1 rfl ?_
    refine s_getM kf_X5_28 (by decide) rfl dX5_passAll_229 ?_
    refine g_iload_n dX5_passAll_232 rfl 0 rfl ?_
    refine s_ald (q := 40) (n := 6) (at_ia (q := 40) rfl) (by omega) (by decide) dX5_passAll_233 ?_
    refine g_callV (As := [.int (sA σp92 40 i)]) km_X5_367 ky_X5_pass ki_X5_pass (by decide) 33 at_33 rfl rfl (Nat.le_of_ble_eq_true rfl) dX5_passAll_234 rfl (c_X5_pass hP.2.2.2.2.1 hP.2.2.2.1 (by omega) ?_)
    refine s_ast (q := 40) (n := 6) (at_ia (q := 40) rfl) (by omega) (by decide) dX5_passAll_237 ?_
    have hP := pv_6 (c := 54 + 5 * i + 2) hP (i := i) (j := 2) (q := 40) (by omega) (by decide) rfl rfl rfl
    generalize setA (psS' σp92 w (100 * n + (54 + 5 * i + 2)) (sA σp92 40 i)) 40 (upd (sA (psS' σp92 w (100 * n + (54 + 5 * i + 2)) (sA σp92 40 i)) 40) i (psV σp92 w (100 * n + (54 + 5 * i + 2)) (sA σp92 40 i))) = σp93 at hP ⊢
    refine g_aload_n dX5_passAll_238 rfl 1 rfl ?_
    refine s_getM kf_X5_37 (by decide) rfl dX5_passAll_239 ?_
    refine g_iload_n dX5_passAll_242 rfl 0 rfl ?_
    refine g_aload_n dX5_passAll_243 rfl 1 rfl ?_
    refine g_aload_n dX5_passAll_244 rfl 1 rfl ?_
    refine s_getM kf_X5_37 (by decide) rfl dX5_passAll_245 ?_
    refine g_iload_n dX5_passAll_248 rfl 0 rfl ?_
    refine s_ald (q := 43) (n := 6) (at_ia (q := 43) rfl) (by omega) (by decide) dX5_passAll_249 ?_
    refine g_callV (As := [.int (sA σp93 43 i)]) km_X5_367 ky_X5_pass ki_X5_pass (by decide) 33 at_33 rfl rfl (Nat.le_of_ble_eq_true rfl) dX5_passAll_250 rfl (c_X5_pass hP.2.2.2.2.1 hP.2.2.2.1 (by omega) ?_)
    refine s_ast (q := 43) (n := 6) (at_ia (q := 43) rfl) (by omega) (by decide) dX5_passAll_253 ?_
    have hP := pv_6 (c := 54 + 5 * i + 3) hP (i := i) (j := 3) (q := 43) (by omega) (by decide) rfl rfl rfl
    generalize setA (psS' σp93 w (100 * n + (54 + 5 * i + 3)) (sA σp93 43 i)) 43 (upd (sA (psS' σp93 w (100 * n + (54 + 5 * i + 3)) (sA σp93 43 i)) 43) i (psV σp93 w (100 * n + (54 + 5 * i + 3)) (sA σp93 43 i))) = σp94 at hP ⊢
    refine g_aload_n dX5_passAll_254 rfl 1 rfl ?_
    refine s_getM kf_X5_40 (by decide) rfl dX5_passAll_255 ?_
    refine g_iload_n dX5_passAll_258 rfl 0 rfl ?_
    refine g_aload_n dX5_passAll_259 rfl 1 rfl ?_
    refine g_aload_n dX5_passAll_260 rfl 1 rfl ?_
    refine s_getM kf_X5_40 (by decide) rfl dX5_passAll_261 ?_
    refine g_iload_n dX5_passAll_264 rfl 0 rfl ?_
    refine s_ald (q := 44) (n := 6) (at_ia (q := 44) rfl) (by omega) (by decide) dX5_passAll_265 ?_
    refine g_callV (As := [.int (sA σp94 44 i)]) km_X5_367 ky_X5_pass ki_X5_pass (by decide) 33 at_33 rfl rfl (Nat.le_of_ble_eq_true rfl) dX5_passAll_266 rfl (c_X5_pass hP.2.2.2.2.1 hP.2.2.2.1 (by omega) ?_)
    refine s_ast (q := 44) (n := 6) (at_ia (q := 44) rfl) (by omega) (by decide) dX5_passAll_269 ?_
    have hP := pv_6 (c := 54 + 5 * i + 4) hP (i := i) (j := 4) (q := 44) (by omega) (by decide) rfl rfl rfl
    generalize setA (psS' σp94 w (100 * n + (54 + 5 * i + 4)) (sA σp94 44 i)) 44 (upd (sA (psS' σp94 w (100 * n + (54 + 5 * i + 4)) (sA σp94 44 i)) 44) i (psV σp94 w (100 * n + (54 + 5 * i + 4)) (sA σp94 44 i))) = σp95 at hP ⊢
    refine g_iinc (v := nI (i + 1)) (lv' := [(1, .int (nI (i + 1))), (0, .ref (L 33))]) dX5_passAll_270 0 rfl (inc_n _) (by decide) rfl ?_
    refine g_goto 184 dX5_passAll_273 (by decide) ?_
    refine g_pick [0, 1] (lv' := [(1, .int (nI (i + 1))), (0, .ref (L 33))]) rfl ?_
    exact ih (i + 1) (by omega) _ hP
set_option maxHeartbeats 4000000 in
set_option maxRecDepth 20000 in
theorem l1_X5_passAll {l : Launch} {D : gE} {L : Nat → Nat} {σ : St} {Q : Option Value → va_W → Prop} {d : Nat} {n : Nat} {w : Bool} (hn : n ≤ 1) (h : ∀ σ', PV σ n w 84 σ' → Q none (wsOf D L σ')) : ∀ n_ i, i + n_ = 8 → ∀ σ', PV σ n w (6 + 6 * i) σ' → G l D yX5_passAll cX5_passAll 2 none (rr (d + 1)) Q 0 0 74 [(1, .int (nI i)), (0, .ref (L 33))] [] (wsOf D L σ') := by
  intro n_
  induction n_ with
  | zero =>
    intro i hct σ' hP
    obtain rfl : i = 8 := by omega
    refine g_iload_n dX5_passAll_74 rfl 0 rfl ?_
    refine g_bipush dX5_passAll_75 bp_8 ?_
    refine n_icmpge 182 dX5_passAll_77 (by decide) (by omega) (by omega) (fun h77 => ?_) (fun h77 => absurd h77 (by omega))
    refine g_iconst dX5_passAll_182 ci_0 ?_
    refine g_istore_n (lv' := [(1, .int (nI 0)), (0, .ref (L 33))]) dX5_passAll_183 rfl (by decide) rfl ?_
    refine g_pick [0, 1] (lv' := [(1, .int (nI 0)), (0, .ref (L 33))]) rfl ?_
    exact l2_X5_passAll hn h 6 0 rfl _ hP
  | succ n_ ih =>
    intro i hct σ' hP
    refine g_iload_n dX5_passAll_74 rfl 0 rfl ?_
    refine g_bipush dX5_passAll_75 bp_8 ?_
    refine n_icmpge 182 dX5_passAll_77 (by decide) (by omega) (by omega) (fun h77 => absurd h77 (by omega)) (fun h77 => ?_)
    refine g_aload_n dX5_passAll_80 rfl 1 rfl ?_
    refine s_getM kf_X5_7 (by decide) rfl dX5_passAll_81 ?_
    refine g_iload_n dX5_passAll_84 rfl 0 rfl ?_
    refine g_aload_n dX5_passAll_85 rfl 1 rfl ?_
    refine g_aload_n dX5_passAll_86 rfl 1 rfl ?_
    refine s_getM kf_X5_7 (by decide) rfl dX5_passAll_87 ?_
    refine g_iload_n dX5_passAll_90 rfl 0 rfl ?_
    refine s_ald (q := 34) (n := 8) (at_ia (q := 34) rfl) (by omega) (by decide) dX5_passAll_91 ?_
    refine g_callV (As := [.int (sA σ' 34 i)]) km_X5_367 ky_X5_pass ki_X5_pass (by decide) 33 at_33 rfl rfl (Nat.le_of_ble_eq_true rfl) dX5_passAll_92 rfl (c_X5_pass hP.2.2.2.2.1 hP.2.2.2.1 (by omega) ?_)
    refine s_ast (q := 34) (n := 8) (at_ia (q := 34) rfl) (by omega) (by decide) dX5_passAll_95 ?_
    have hP := pv_8 (c := 6 + 6 * i + 0) hP (i := i) (j := 0) (q := 34) (by omega) (by decide) rfl rfl rfl
    generalize setA (psS' σ' w (100 * n + (6 + 6 * i + 0)) (sA σ' 34 i)) 34 (upd (sA (psS' σ' w (100 * n + (6 + 6 * i + 0)) (sA σ' 34 i)) 34) i (psV σ' w (100 * n + (6 + 6 * i + 0)) (sA σ' 34 i))) = σp96 at hP ⊢
    refine g_aload_n dX5_passAll_96 rfl 1 rfl ?_
    refine s_getM kf_X5_13 (by decide) rfl dX5_passAll_97 ?_
    refine g_iload_n dX5_passAll_100 rfl 0 rfl ?_
    refine g_aload_n dX5_passAll_101 rfl 1 rfl ?_
    refine g_aload_n dX5_passAll_102 rfl 1 rfl ?_
    refine s_getM kf_X5_13 (by decide) rfl dX5_passAll_103 ?_
    refine g_iload_n dX5_passAll_106 rfl 0 rfl ?_
    refine s_ald (q := 35) (n := 8) (at_ia (q := 35) rfl) (by omega) (by decide) dX5_passAll_107 ?_
    refine g_callV (As := [.int (sA σp96 35 i)]) km_X5_367 ky_X5_pass ki_X5_pass (by decide) 33 at_33 rfl rfl (Nat.le_of_ble_eq_true rfl) dX5_passAll_108 rfl (c_X5_pass hP.2.2.2.2.1 hP.2.2.2.1 (by omega) ?_)
    refine s_ast (q := 35) (n := 8) (at_ia (q := 35) rfl) (by omega) (by decide) dX5_passAll_111 ?_
    have hP := pv_8 (c := 6 + 6 * i + 1) hP (i := i) (j := 1) (q := 35) (by omega) (by decide) rfl rfl rfl
    generalize setA (psS' σp96 w (100 * n + (6 + 6 * i + 1)) (sA σp96 35 i)) 35 (upd (sA (psS' σp96 w (100 * n + (6 + 6 * i + 1)) (sA σp96 35 i)) 35) i (psV σp96 w (100 * n + (6 + 6 * i + 1)) (sA σp96 35 i))) = σp97 at hP ⊢
    refine g_aload_n dX5_passAll_112 rfl 1 rfl ?_
    refine s_getM kf_X5_16 (by decide) rfl dX5_passAll_113 ?_
    refine g_iload_n dX5_passAll_116 rfl 0 rfl ?_
    refine g_aload_n dX5_passAll_117 rfl 1 rfl ?_
    refine g_aload_n dX5_passAll_118 rfl 1 rfl ?_
    refine s_getM kf_X5_16 (by decide) rfl dX5_passAll_119 ?_
    refine g_iload_n dX5_passAll_122 rfl 0 rfl ?_
    refine s_ald (q := 36) (n := 8) (at_ia (q := 36) rfl) (by omega) (by decide) dX5_passAll_123 ?_
    refine g_callV (As := [.int (sA σp97 36 i)]) km_X5_367 ky_X5_pass ki_X5_pass (by decide) 33 at_33 rfl rfl (Nat.le_of_ble_eq_true rfl) dX5_passAll_124 rfl (c_X5_pass hP.2.2.2.2.1 hP.2.2.2.1 (by omega) ?_)
    refine s_ast (q := 36) (n := 8) (at_ia (q := 36) rfl) (by omega) (by decide) dX5_passAll_127 ?_
    have hP := pv_8 (c := 6 + 6 * i + 2) hP (i := i) (j := 2) (q := 36) (by omega) (by decide) rfl rfl rfl
    generalize setA (psS' σp97 w (100 * n + (6 + 6 * i + 2)) (sA σp97 36 i)) 36 (upd (sA (psS' σp97 w (100 * n + (6 + 6 * i + 2)) (sA σp97 36 i)) 36) i (psV σp97 w (100 * n + (6 + 6 * i + 2)) (sA σp97 36 i))) = σp98 at hP ⊢
    refine g_aload_n dX5_passAll_128 rfl 1 rfl ?_
    refine s_getM kf_X5_19 (by decide) rfl dX5_passAll_129 ?_
    refine g_iload_n dX5_passAll_132 rfl 0 rfl ?_
    refine g_aload_n dX5_passAll_133 rfl 1 rfl ?_
    refine g_aload_n dX5_passAll_134 rfl 1 rfl ?_
    refine s_getM kf_X5_19 (by decide) rfl dX5_passAll_135 ?_
    refine g_iload_n dX5_passAll_138 rfl 0 rfl ?_
    refine s_ald (q := 37) (n := 8) (at_ia (q := 37) rfl) (by omega) (by decide) dX5_passAll_139 ?_
    refine g_callV (As := [.int (sA σp98 37 i)]) km_X5_367 ky_X5_pass ki_X5_pass (by decide) 33 at_33 rfl rfl (Nat.le_of_ble_eq_true rfl) dX5_passAll_140 rfl (c_X5_pass hP.2.2.2.2.1 hP.2.2.2.1 (by omega) ?_)
    refine s_ast (q := 37) (n := 8) (at_ia (q := 37) rfl) (by omega) (by decide) dX5_passAll_143 ?_
    have hP := pv_8 (c := 6 + 6 * i + 3) hP (i := i) (j := 3) (q := 37) (by omega) (by decide) rfl rfl rfl
    generalize setA (psS' σp98 w (100 * n + (6 + 6 * i + 3)) (sA σp98 37 i)) 37 (upd (sA (psS' σp98 w (100 * n + (6 + 6 * i + 3)) (sA σp98 37 i)) 37) i (psV σp98 w (100 * n + (6 + 6 * i + 3)) (sA σp98 37 i))) = σp99 at hP ⊢
    refine g_aload_n dX5_passAll_144 rfl 1 rfl ?_
    refine s_getM kf_X5_31 (by decide) rfl dX5_passAll_145 ?_
    refine g_iload_n dX5_passAll_148 rfl 0 rfl ?_
    refine g_aload_n dX5_passAll_149 rfl 1 rfl ?_
    refine g_aload_n dX5_passAll_150 rfl 1 rfl ?_
    refine s_getM kf_X5_31 (by decide) rfl dX5_passAll_151 ?_
    refine g_iload_n dX5_passAll_154 rfl 0 rfl ?_
    refine s_ald (q := 41) (n := 8) (at_ia (q := 41) rfl) (by omega) (by decide) dX5_passAll_155 ?_
    refine g_callV (As := [.int (sA σp99 41 i)]) km_X5_367 ky_X5_pass ki_X5_pass (by decide) 33 at_33 rfl rfl (Nat.le_of_ble_eq_true rfl) dX5_passAll_156 rfl (c_X5_pass hP.2.2.2.2.1 hP.2.2.2.1 (by omega) ?_)
    refine s_ast (q := 41) (n := 8) (at_ia (q := 41) rfl) (by omega) (by decide) dX5_passAll_159 ?_
    have hP := pv_8 (c := 6 + 6 * i + 4) hP (i := i) (j := 4) (q := 41) (by omega) (by decide) rfl rfl rfl
    generalize setA (psS' σp99 w (100 * n + (6 + 6 * i + 4)) (sA σp99 41 i)) 41 (upd (sA (psS' σp99 w (100 * n + (6 + 6 * i + 4)) (sA σp99 41 i)) 41) i (psV σp99 w (100 * n + (6 + 6 * i + 4)) (sA σp99 41 i))) = σp100 at hP ⊢
    refine g_aload_n dX5_passAll_160 rfl 1 rfl ?_
    refine s_getM kf_X5_34 (by decide) rfl dX5_passAll_161 ?_
    refine g_iload_n dX5_passAll_164 rfl 0 rfl ?_
    refine g_aload_n dX5_passAll_165 rfl 1 rfl ?_
    refine g_aload_n dX5_passAll_166 rfl 1 rfl ?_
    refine s_getM kf_X5_34 (by decide) rfl dX5_passAll_167 ?_
    refine g_iload_n dX5_passAll_170 rfl 0 rfl ?_
    refine s_ald (q := 42) (n := 8) (at_ia (q := 42) rfl) (by omega) (by decide) dX5_passAll_171 ?_
    refine g_callV (As := [.int (sA σp100 42 i)]) km_X5_367 ky_X5_pass ki_X5_pass (by decide) 33 at_33 rfl rfl (Nat.le_of_ble_eq_true rfl) dX5_passAll_172 rfl (c_X5_pass hP.2.2.2.2.1 hP.2.2.2.1 (by omega) ?_)
    refine s_ast (q := 42) (n := 8) (at_ia (q := 42) rfl) (by omega) (by decide) dX5_passAll_175 ?_
    have hP := pv_8 (c := 6 + 6 * i + 5) hP (i := i) (j := 5) (q := 42) (by omega) (by decide) rfl rfl rfl
    generalize setA (psS' σp100 w (100 * n + (6 + 6 * i + 5)) (sA σp100 42 i)) 42 (upd (sA (psS' σp100 w (100 * n + (6 + 6 * i + 5)) (sA σp100 42 i)) 42) i (psV σp100 w (100 * n + (6 + 6 * i + 5)) (sA σp100 42 i))) = σp101 at hP ⊢
    refine g_iinc (v := nI (i + 1)) (lv' := [(1, .int (nI (i + 1))), (0, .ref (L 33))]) dX5_passAll_176 0 rfl (inc_n _) (by decide) rfl ?_
    refine g_goto 74 dX5_passAll_179 (by decide) ?_
    refine g_pick [0, 1] (lv' := [(1, .int (nI (i + 1))), (0, .ref (L 33))]) rfl ?_
    exact ih (i + 1) (by omega) _ hP
set_option maxHeartbeats 4000000 in
set_option maxRecDepth 20000 in
theorem c_X5_passAll {l : Launch} {D : gE} {L : Nat → Nat} {σ : St} {Q : Option Value → va_W → Prop} {d : Nat} {n : Nat} {w : Bool} (hn : n ≤ 1) (h45 : sI σ 33 45 = nI (100 * n)) (h46 : sI σ 33 46 = nI (b2n w)) (h : ∀ σ', PV σ n w 84 σ' → Q none (wsOf D L σ')) : Ctr l D yX5_passAll cX5_passAll 2 none (rr (d + 1)) [.ref (L 33)] (wsOf D L σ) Q := by
  refine g_start ky_X5_passAll (Nat.le_of_ble_eq_true rfl) ?_
  refine g_pick [0] (lv' := [(0, .ref (L 33))]) rfl ?_
  have hP := pv_0 h45 h46
  refine g_aload_n dX5_passAll_0 rfl 0 rfl ?_
  refine g_aload_n dX5_passAll_1 rfl 0 rfl ?_
  refine g_aload_n dX5_passAll_2 rfl 0 rfl ?_
  refine s_getM kf_X5_103 (by decide) rfl dX5_passAll_3 ?_
  refine g_callV (As := [.int (sI σ 33 0)]) km_X5_367 ky_X5_pass ki_X5_pass (by decide) 33 at_33 rfl rfl (Nat.le_of_ble_eq_true rfl) dX5_passAll_6 rfl (c_X5_pass hP.2.2.2.2.1 hP.2.2.2.1 (by omega) ?_)
  refine s_putM kf_X5_103 (by decide) dX5_passAll_9 ?_
  have hP := pv_I (c := 0) hP (by decide) (k := 0) rfl rfl
  generalize setI (psS' σ w (100 * n + 0) (sI σ 33 0)) 33 0 (psV σ w (100 * n + 0) (sI σ 33 0)) = σp102 at hP ⊢
  refine g_aload_n dX5_passAll_12 rfl 0 rfl ?_
  refine g_aload_n dX5_passAll_13 rfl 0 rfl ?_
  refine g_aload_n dX5_passAll_14 rfl 0 rfl ?_
  refine s_getM kf_X5_106 (by decide) rfl dX5_passAll_15 ?_
  refine g_callV (As := [.int (sI σp102 33 1)]) km_X5_367 ky_X5_pass ki_X5_pass (by decide) 33 at_33 rfl rfl (Nat.le_of_ble_eq_true rfl) dX5_passAll_18 rfl (c_X5_pass hP.2.2.2.2.1 hP.2.2.2.1 (by omega) ?_)
  refine s_putM kf_X5_106 (by decide) dX5_passAll_21 ?_
  have hP := pv_I (c := 1) hP (by decide) (k := 1) rfl rfl
  generalize setI (psS' σp102 w (100 * n + 1) (sI σp102 33 1)) 33 1 (psV σp102 w (100 * n + 1) (sI σp102 33 1)) = σp103 at hP ⊢
  refine g_aload_n dX5_passAll_24 rfl 0 rfl ?_
  refine g_aload_n dX5_passAll_25 rfl 0 rfl ?_
  refine g_aload_n dX5_passAll_26 rfl 0 rfl ?_
  refine s_getM kf_X5_109 (by decide) rfl dX5_passAll_27 ?_
  refine g_callV (As := [.int (sI σp103 33 2)]) km_X5_367 ky_X5_pass ki_X5_pass (by decide) 33 at_33 rfl rfl (Nat.le_of_ble_eq_true rfl) dX5_passAll_30 rfl (c_X5_pass hP.2.2.2.2.1 hP.2.2.2.1 (by omega) ?_)
  refine s_putM kf_X5_109 (by decide) dX5_passAll_33 ?_
  have hP := pv_I (c := 2) hP (by decide) (k := 2) rfl rfl
  generalize setI (psS' σp103 w (100 * n + 2) (sI σp103 33 2)) 33 2 (psV σp103 w (100 * n + 2) (sI σp103 33 2)) = σp104 at hP ⊢
  refine g_aload_n dX5_passAll_36 rfl 0 rfl ?_
  refine g_aload_n dX5_passAll_37 rfl 0 rfl ?_
  refine g_aload_n dX5_passAll_38 rfl 0 rfl ?_
  refine s_getM kf_X5_112 (by decide) rfl dX5_passAll_39 ?_
  refine g_callV (As := [.int (sI σp104 33 3)]) km_X5_367 ky_X5_pass ki_X5_pass (by decide) 33 at_33 rfl rfl (Nat.le_of_ble_eq_true rfl) dX5_passAll_42 rfl (c_X5_pass hP.2.2.2.2.1 hP.2.2.2.1 (by omega) ?_)
  refine s_putM kf_X5_112 (by decide) dX5_passAll_45 ?_
  have hP := pv_I (c := 3) hP (by decide) (k := 3) rfl rfl
  generalize setI (psS' σp104 w (100 * n + 3) (sI σp104 33 3)) 33 3 (psV σp104 w (100 * n + 3) (sI σp104 33 3)) = σp105 at hP ⊢
  refine g_aload_n dX5_passAll_48 rfl 0 rfl ?_
  refine g_aload_n dX5_passAll_49 rfl 0 rfl ?_
  refine g_aload_n dX5_passAll_50 rfl 0 rfl ?_
  refine s_getM kf_X5_95 (by decide) rfl dX5_passAll_51 ?_
  refine g_callV (As := [.int (sI σp105 33 13)]) km_X5_367 ky_X5_pass ki_X5_pass (by decide) 33 at_33 rfl rfl (Nat.le_of_ble_eq_true rfl) dX5_passAll_54 rfl (c_X5_pass hP.2.2.2.2.1 hP.2.2.2.1 (by omega) ?_)
  refine s_putM kf_X5_95 (by decide) dX5_passAll_57 ?_
  have hP := pv_I (c := 4) hP (by decide) (k := 13) rfl rfl
  generalize setI (psS' σp105 w (100 * n + 4) (sI σp105 33 13)) 33 13 (psV σp105 w (100 * n + 4) (sI σp105 33 13)) = σp106 at hP ⊢
  refine g_aload_n dX5_passAll_60 rfl 0 rfl ?_
  refine g_aload_n dX5_passAll_61 rfl 0 rfl ?_
  refine g_aload_n dX5_passAll_62 rfl 0 rfl ?_
  refine s_getM kf_X5_115 (by decide) rfl dX5_passAll_63 ?_
  refine g_callV (As := [.int (sI σp106 33 16)]) km_X5_367 ky_X5_pass ki_X5_pass (by decide) 33 at_33 rfl rfl (Nat.le_of_ble_eq_true rfl) dX5_passAll_66 rfl (c_X5_pass hP.2.2.2.2.1 hP.2.2.2.1 (by omega) ?_)
  refine s_putM kf_X5_115 (by decide) dX5_passAll_69 ?_
  have hP := pv_I (c := 5) hP (by decide) (k := 16) rfl rfl
  generalize setI (psS' σp106 w (100 * n + 5) (sI σp106 33 16)) 33 16 (psV σp106 w (100 * n + 5) (sI σp106 33 16)) = σp107 at hP ⊢
  refine g_iconst dX5_passAll_72 ci_0 ?_
  refine g_istore_n (lv' := [(1, .int (nI 0)), (0, .ref (L 33))]) dX5_passAll_73 rfl (by decide) rfl ?_
  refine g_pick [0, 1] (lv' := [(1, .int (nI 0)), (0, .ref (L 33))]) rfl ?_
  exact l1_X5_passAll hn h 8 0 rfl _ hP
/-- the images of the reference: which are kept, and what -/
def imM (σ : St) (M : Nat → Option XT) : Prop := ∀ n, n < 2 → (∀ X, M n = some X → sA σ 61 n = nI 1 ∧ rpK (fun e => sA σ 60 (100 * n + e)) X) ∧ (M n = none → sA σ 61 n = nI 0)
def frI (σ σ' : St) : Prop := (∀ o, o ≠ 33 → sI σ' o = sI σ o) ∧ (∀ q, q < 34 → sA σ' q = sA σ q) ∧ (∀ q, 61 < q → sA σ' q = sA σ q) ∧ sA σ' 45 = sA σ 45 ∧ sI σ' 33 18 = sI σ 33 18 ∧ sK σ' = sK σ ∧ sM σ' = sM σ
def imageM (X : XT) (M : Nat → Option XT) (x : Int32) : Int32 × (Nat → Option XT) := if inN 0 1 x then (1, updF M (ix 2 x) (some X)) else (-2, M)
def restoreM (X : XT) (M : Nat → Option XT) (x : Int32) : RX := if inN 0 1 x then (match M (ix 2 x) with
  | some Y => (1, Y)
  | none => (-3, X)) else (-2, X)
theorem fr_im {σ σ' : St} {M : Nat → Option XT} (h : fr σ σ') (hm : imM σ M) : imM σ' M := fun n hn => by
  rw [h.2.1 61 (by omega), h.2.1 60 (by omega)]; exact hm n hn
theorem frI_rfl {σ : St} : frI σ σ := ⟨fun _ _ => rfl, fun _ _ => rfl, fun _ _ => rfl, rfl, rfl, rfl, rfl⟩
theorem qim {Q : Option Value → va_W → Prop} {D : gE} {L : Nat → Nat} {σ : St} {X : XT} {M : Nat → Option XT} {x : Int32} (h : ∀ σ', frI σ σ' → rpM σ' X → imM σ' (imageM X M x).2 → Q (some (.int (imageM X M x).1)) (wsOf D L σ')) {r : Int32} {M' : Nat → Option XT} (e : imageM X M x = (r, M')) {σ' : St} (hf : frI σ σ') (hX : rpM σ' X) (hm : imM σ' M') : Q (some (.int r)) (wsOf D L σ') := by
  rw [e] at h; exact h σ' hf hX hm
theorem qrs {Q : Option Value → va_W → Prop} {D : gE} {L : Nat → Nat} {σ : St} {X : XT} {M : Nat → Option XT} {x : Int32} (h : ∀ σ', frI σ σ' → rpM σ' (restoreM X M x).2 → imM σ' M → Q (some (.int (restoreM X M x).1)) (wsOf D L σ')) {r : Int32} {X' : XT} (e : restoreM X M x = (r, X')) {σ' : St} (hf : frI σ σ') (hX : rpM σ' X') (hm : imM σ' M) : Q (some (.int r)) (wsOf D L σ') := by
  rw [e] at h; exact h σ' hf hX hm
theorem im_put {σ0 σ : St} {n : Nat} {X : XT} {M : Nat → Option XT} (hn : n ≤ 1) (hm : imM σ0 M) (h : PV σ0 n true 84 σ) (hX : rpM σ0 X) : imM (setA σ 61 (upd (sA σ 61) n (nI 1))) (updF M n (some X)) := by
  intro m hm2
  have hk := pv_w h hX
  have g := h.2.2.2.2.2
  rw [sA_same, sA_ne _ _ _ (by decide)]
  by_cases e : m = n
  · subst e
    refine ⟨fun Y hY => ?_, fun hY => ?_⟩
    · have : Y = X := by
        have h9 : updF M m (some X) m = some X := if_pos rfl
        rw [h9] at hY; exact (Option.some.inj hY).symm
      rw [this]
      exact ⟨pk_us, hk.2⟩
    · have h9 : updF M m (some X) m = some X := if_pos rfl
      rw [h9] at hY; cases hY
  · have h9 : updF M n (some X) m = M m := if_neg e
    rw [h9, pk_un e, g.1 61 (by omega)]
    have h8 := hm m hm2
    refine ⟨fun Y hY => ⟨(h8.1 Y hY).1, rpK_cong (fun a ha => ?_) (h8.1 Y hY).2⟩, h8.2⟩
    exact h.2.2.1 _ (by omega)
theorem pv_frI {σ0 σ : St} (g : pvF σ0 σ) : frI σ0 σ := ⟨g.2.1, fun q hq => g.1 q (by omega), fun q hq => g.1 q (by omega), g.1 45 (by omega), g.2.2.1, g.2.2.2.1, g.2.2.2.2⟩
theorem frI_trans {a b c : St} (h : frI a b) (g : frI b c) : frI a c := ⟨fun o ho => (g.1 o ho).trans (h.1 o ho), fun q hq => (g.2.1 q hq).trans (h.2.1 q hq), fun q hq => (g.2.2.1 q hq).trans (h.2.2.1 q hq), g.2.2.2.1.trans h.2.2.2.1, g.2.2.2.2.1.trans h.2.2.2.2.1, g.2.2.2.2.2.1.trans h.2.2.2.2.2.1, g.2.2.2.2.2.2.trans h.2.2.2.2.2.2⟩
theorem frI_I {a : St} (k : Nat) (hk : k ≠ 18) (x : Int32) : frI a (setI a 33 k x) := ⟨fun o ho => if_neg ho, fun _ _ => rfl, fun _ _ => rfl, rfl, sI_ne _ 33 k 18 (Ne.symm hk) x, rfl, rfl⟩
theorem frI_61 {a : St} (f : Nat → Int32) : frI a (setA a 61 f) := ⟨fun _ _ => rfl, fun q hq => if_neg (by omega), fun q hq => if_neg (by omega), rfl, rfl, rfl, rfl⟩
set_option maxHeartbeats 4000000 in
set_option maxRecDepth 20000 in
theorem c_X5_image {l : Launch} {D : gE} {L : Nat → Nat} {σ : St} {Q : Option Value → va_W → Prop} {d : Nat} {X : XT} (hX : rpM σ X) (ho : okX X) {M : Nat → Option XT} (hm : imM σ M) {x : Int32} (h : ∀ σ', frI σ σ' → rpM σ' X → imM σ' (imageM X M x).2 → Q (some (.int ((imageM X M x).1))) (wsOf D L σ')) : Ctr l D yX5_image cX5_image 2 (some .int) (rr (d + 2)) [.ref (L 33), .int x] (wsOf D L σ) Q := by
  refine g_start ky_X5_image (Nat.le_of_ble_eq_true rfl) ?_
  refine g_pick [0, 1] (lv' := [(0, .ref (L 33)), (1, .int x)]) rfl ?_
  refine g_iload_n dX5_image_0 rfl 1 rfl ?_
  refine g_i2l dX5_image_1 ?_
  refine g_lconst dX5_image_2 lc_0 ?_
  refine g_lconst dX5_image_3 lc_1 ?_
  refine g_callS (As := [.long x.toInt64, .long ((nI 0).toInt64), .long ((nI 1).toInt64)]) km_X5_118 ky_X5_in ks_X5_in (by decide) rfl (Nat.le_of_ble_eq_true rfl) dX5_image_4 rfl (c_X5_inN (by omega) (by omega) (fun p4 ha4 hb4 he4 => ?_) (fun h4 => ?_))
  · subst he4
    refine t_ifne1 13 dX5_image_7 (by decide) ?_
    refine g_aload_n dX5_image_13 rfl 0 rfl ?_
    refine g_bipush dX5_image_14 bp_100 ?_
    refine g_iload_n dX5_image_16 rfl 1 rfl ?_
    refine g_imul dX5_image_17 ?_
    refine g_tope (z := nI (100 * p4)) (pk_mul _ _) ?_
    refine s_putM kf_X5_364 (by decide) dX5_image_18 ?_
    have hX2 := rpM_I hX 45 (by omega) (nI (100 * p4))
    have hf2 := frI_I (a := σ) 45 (by decide) (nI (100 * p4))
    have h45 : sI (setI σ 33 45 (nI (100 * p4))) 33 45 = _ := sI_same _ _ _ _
    have hm2 : imM (setI σ 33 45 (nI (100 * p4))) M := hm
    generalize setI σ 33 45 (nI (100 * p4)) = σ2 at hX2 hf2 h45 hm2 ⊢
    refine g_aload_n dX5_image_21 rfl 0 rfl ?_
    refine g_iconst dX5_image_22 ci_1 ?_
    refine s_putMz (Or.inr rfl) kf_X5_360 dX5_image_23 ?_
    have hX3 := rpM_I hX2 46 (by omega) (nI 1)
    have hf3 := frI_trans hf2 (frI_I (a := σ2) 46 (by decide) (nI 1))
    have h45 : sI (setI σ2 33 46 (nI 1)) 33 45 = _ := (sI_ne _ 33 46 45 (by decide) _).trans h45
    have h46 : sI (setI σ2 33 46 (nI 1)) 33 46 = _ := sI_same _ _ _ _
    have hm3 : imM (setI σ2 33 46 (nI 1)) M := hm2
    generalize setI σ2 33 46 (nI 1) = σ3 at hX3 hf3 h45 h46 hm3 ⊢
    refine g_aload_n dX5_image_26 rfl 0 rfl ?_
    refine g_callV (As := []) km_X5_370 ky_X5_passAll ki_X5_passAll (by decide) 33 at_33 rfl rfl (Nat.le_of_ble_eq_true rfl) dX5_image_27 rfl (c_X5_passAll (n := p4) (w := true) (by omega) h45 h46 (fun σ4 hP => ?_))
    refine g_aload_n dX5_image_30 rfl 0 rfl ?_
    refine s_getM kf_X5_91 (by decide) rfl dX5_image_31 ?_
    refine g_iload_n dX5_image_34 rfl 1 rfl ?_
    refine g_iconst dX5_image_35 ci_1 ?_
    refine g_bastore1 61 at_61 (vp_in_nI (by omega) (by decide)) dX5_image_36 (ws' := wsOf D L (setA σ4 61 (upd (sA σ4 61) p4 (nI 1)))) (by rw [nI_clamp (by omega)]; exact ws_setA at_61 _) ?_
    refine g_iconst dX5_image_37 ci_1 ?_
    exact g_ireturn dX5_image_38 (Nat.le_refl _) (Nat.le_refl _) (qim h (by unfold imageM; rw [inN_t (a := 0) (b := 1) (by omega) (by omega) (by omega), if_pos rfl, ix_nI (by omega) (by omega)]; rfl) (frI_trans (frI_trans hf3 (pv_frI hP.2.2.2.2.2)) (frI_61 _)) (rpM_A (pv_w hP hX3).1 61 (by omega) _) (im_put (by omega) hm3 hP hX3))
  · refine t_ifne0 (tgt := 13) dX5_image_7 (by decide) ?_
    refine g_bipush dX5_image_10 bp_m2 ?_
    exact g_ireturn dX5_image_12 (Nat.le_refl _) (Nat.le_refl _) (qim h (by unfold imageM; rw [inN_f (a := 0) (b := 1) (by omega) h4]; rfl) frI_rfl hX hm)
theorem im_read {σ0 σ : St} {n : Nat} {X : XT} {M : Nat → Option XT} (hm : imM σ0 M) (h : PV σ0 n false 84 σ) (hX : rpK (fun e => sA σ0 60 (100 * n + e)) X) : imM σ M := by
  intro m hm2
  have h8 := hm m hm2
  have hk := (pv_r h hX).2
  rw [h.2.2.2.2.2.1 61 (by omega)]
  exact ⟨fun Y hY => ⟨(h8.1 Y hY).1, rpK_cong (fun a ha => hk _) (h8.1 Y hY).2⟩, h8.2⟩
theorem rs_some {X Y : XT} {M : Nat → Option XT} {p : Nat} (hp : p ≤ 1) (e : M p = some Y) : restoreM X M (nI p) = (1, Y) := by
  unfold restoreM
  rw [inN_t (by omega) hp (by omega), if_pos rfl, ix_nI (by omega) (by omega), e]
theorem rs_none {X : XT} {M : Nat → Option XT} {p : Nat} (hp : p ≤ 1) (e : M p = none) : restoreM X M (nI p) = (-3, X) := by
  unfold restoreM
  rw [inN_t (by omega) hp (by omega), if_pos rfl, ix_nI (by omega) (by omega), e]
set_option maxHeartbeats 4000000 in
set_option maxRecDepth 20000 in
theorem c_X5_restore {l : Launch} {D : gE} {L : Nat → Nat} {σ : St} {Q : Option Value → va_W → Prop} {d : Nat} {X : XT} (hX : rpM σ X) (ho : okX X) {M : Nat → Option XT} (hm : imM σ M) {x : Int32} (h : ∀ σ', frI σ σ' → rpM σ' (restoreM X M x).2 → imM σ' M → Q (some (.int ((restoreM X M x).1))) (wsOf D L σ')) : Ctr l D yX5_restore cX5_restore 2 (some .int) (rr (d + 2)) [.ref (L 33), .int x] (wsOf D L σ) Q := by
  refine g_start ky_X5_restore (Nat.le_of_ble_eq_true rfl) ?_
  refine g_pick [0, 1] (lv' := [(0, .ref (L 33)), (1, .int x)]) rfl ?_
  refine g_iload_n dX5_restore_0 rfl 1 rfl ?_
  refine g_i2l dX5_restore_1 ?_
  refine g_lconst dX5_restore_2 lc_0 ?_
  refine g_lconst dX5_restore_3 lc_1 ?_
  refine g_callS (As := [.long x.toInt64, .long ((nI 0).toInt64), .long ((nI 1).toInt64)]) km_X5_118 ky_X5_in ks_X5_in (by decide) rfl (Nat.le_of_ble_eq_true rfl) dX5_restore_4 rfl (c_X5_inN (by omega) (by omega) (fun p4 ha4 hb4 he4 => ?_) (fun h4 => ?_))
  · subst he4
    refine t_ifne1 13 dX5_restore_7 (by decide) ?_
    refine g_aload_n dX5_restore_13 rfl 0 rfl ?_
    refine s_getM kf_X5_91 (by decide) rfl dX5_restore_14 ?_
    refine g_iload_n dX5_restore_17 rfl 1 rfl ?_
    refine g_baload 61 at_61 (vp_in_nI (by omega) (by decide)) dX5_restore_18 ?_
    rw [nI_clamp (by omega)]
    have hm9 := hm p4 (by omega)
    rcases eM : M p4 with _ | Y
    · rw [hm9.2 eM]
      refine t_ifne0 (tgt := 25) dX5_restore_19 (by decide) ?_
      refine g_bipush dX5_restore_22 bp_m3 ?_
      exact g_ireturn dX5_restore_24 (Nat.le_refl _) (Nat.le_refl _) (qrs h (rs_none (by omega) eM) frI_rfl hX hm)
    · rw [(hm9.1 Y eM).1]
      refine t_ifne1 25 dX5_restore_19 (by decide) ?_
      refine g_aload_n dX5_restore_25 rfl 0 rfl ?_
      refine g_bipush dX5_restore_26 bp_100 ?_
      refine g_iload_n dX5_restore_28 rfl 1 rfl ?_
      refine g_imul dX5_restore_29 ?_
      refine g_tope (z := nI (100 * p4)) (pk_mul _ _) ?_
      refine s_putM kf_X5_364 (by decide) dX5_restore_30 ?_
      have hX2 := rpM_I hX 45 (by omega) (nI (100 * p4))
      have hf2 := frI_I (a := σ) 45 (by decide) (nI (100 * p4))
      have h45 : sI (setI σ 33 45 (nI (100 * p4))) 33 45 = _ := sI_same _ _ _ _
      have hm2 : imM (setI σ 33 45 (nI (100 * p4))) M := hm
      generalize setI σ 33 45 (nI (100 * p4)) = σ2 at hX2 hf2 h45 hm2 ⊢
      refine g_aload_n dX5_restore_33 rfl 0 rfl ?_
      refine g_iconst dX5_restore_34 ci_0 ?_
      refine s_putMz (Or.inl rfl) kf_X5_360 dX5_restore_35 ?_
      have hX3 := rpM_I hX2 46 (by omega) (nI 0)
      have hf3 := frI_trans hf2 (frI_I (a := σ2) 46 (by decide) (nI 0))
      have h45 : sI (setI σ2 33 46 (nI 0)) 33 45 = _ := (sI_ne _ 33 46 45 (by decide) _).trans h45
      have h46 : sI (setI σ2 33 46 (nI 0)) 33 46 = _ := sI_same _ _ _ _
      have hm3 : imM (setI σ2 33 46 (nI 0)) M := hm2
      generalize setI σ2 33 46 (nI 0) = σ3 at hX3 hf3 h45 h46 hm3 ⊢
      refine g_aload_n dX5_restore_38 rfl 0 rfl ?_
      refine g_callV (As := []) km_X5_370 ky_X5_passAll ki_X5_passAll (by decide) 33 at_33 rfl rfl (Nat.le_of_ble_eq_true rfl) dX5_restore_39 rfl (c_X5_passAll (n := p4) (w := false) (by omega) h45 h46 (fun σ4 hP => ?_))
      refine g_iconst dX5_restore_42 ci_1 ?_
      exact g_ireturn dX5_restore_43 (Nat.le_refl _) (Nat.le_refl _) (qrs h (rs_some (by omega) eM) (frI_trans hf3 (pv_frI hP.2.2.2.2.2)) (pv_r hP ((hm3 p4 (by omega)).1 Y eM).2).1 (im_read hm3 hP ((hm3 p4 (by omega)).1 Y eM).2))
  · refine t_ifne0 (tgt := 13) dX5_restore_7 (by decide) ?_
    refine g_bipush dX5_restore_10 bp_m2 ?_
    exact g_ireturn dX5_restore_12 (Nat.le_refl _) (Nat.le_refl _) (qrs h (by unfold restoreM; rw [inN_f (a := 0) (b := 1) (by omega) h4]; rfl) frI_rfl hX hm)
