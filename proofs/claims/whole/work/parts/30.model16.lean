/-! FIT of the reference -/
theorem ftG_0 (X : XT) (g : Nat → Nat) (k d : Nat) : ftG X g k d 0 = cbX X (x_sv X k) d := by unfold ftG; simp [anyN]
theorem ftG_s (X : XT) (g : Nat → Nat) (k d i : Nat) : ftG X g k d (i + 1) = (ftG X g k d i && !(g i == d && x_sb X i == x_sb X k)) := by
  unfold ftG
  rw [anyN_s, Bool.not_or, Bool.and_assoc]
/-- all but one row is as it was -/
def fA (q0 : Nat) (σ σ' : St) : Prop := (∀ q, q ≠ q0 → sA σ' q = sA σ q) ∧ sI σ' = sI σ ∧ sK σ' = sK σ ∧ sM σ' = sM σ
theorem fA_rfl {q0 : Nat} {σ : St} : fA q0 σ σ := ⟨fun _ _ => rfl, rfl, rfl, rfl⟩
theorem fA_A {q0 : Nat} {a b : St} (h : fA q0 a b) (f : Nat → Int32) : fA q0 a (setA b q0 f) := ⟨fun q hq => (if_neg hq).trans (h.1 q hq), h.2⟩
theorem fA_trans {q0 : Nat} {a b c : St} (h : fA q0 a b) (g : fA q0 b c) : fA q0 a c := ⟨fun q hq => (g.1 q hq).trans (h.1 q hq), g.2.1.trans h.2.1, g.2.2.1.trans h.2.2.1, g.2.2.2.trans h.2.2.2⟩
theorem fA_fr {q0 : Nat} {a b : St} (h : fA q0 a b) (hq : 34 ≤ q0 ∧ q0 ≤ 59 ∧ q0 ≠ 45) : fr a b := ⟨fun o _ => by rw [h.2.1], fun q hq => h.1 q (by omega), by rw [h.2.1], h.2.2.1, h.2.2.2⟩
theorem gv_next {σ : St} {N k : Nat} (h : ∀ j, j < k → sA σ 58 j = nI (dg6 N j)) : ∀ j, j < k + 1 → sA (setA σ 58 (upd (sA σ 58) k (nI (dg6 N k)))) 58 j = nI (dg6 N j) := by
  intro j hj
  rw [sA_same]
  by_cases e : j = k
  · rw [e]; exact pk_us
  · rw [pk_un e]; exact h j (by omega)
set_option maxHeartbeats 4000000 in
set_option maxRecDepth 20000 in
theorem l1_X5_fits {l : Launch} {D : gE} {L : Nat → Nat} {σ : St} {Q : Option Value → va_W → Prop} {d : Nat} {X : XT} (hX : rpM σ X) (ho : okX X) {N k R : Nat} (hk : k < 6) (hR : R < 2 ^ 31) (hgv : ∀ j, j < k + 1 → sA σ 58 j = nI (dg6 N j)) (kk : G l D yX5_fits cX5_fits 6 (some .boolean) (rr d) Q 0 0 123 [(5, .int (nI k)), (3, .int (nI (b2n (ftB X (dg6 N) k && ftG X (dg6 N) k (dg6 N k) k)))), (4, .int (nI k)), (2, .int (nI R)), (0, .ref (L 33)), (1, .int (nI N))] [] (wsOf D L σ)) : ∀ n_ j, j + n_ = k → G l D yX5_fits cX5_fits 6 (some .boolean) (rr d) Q 0 0 66 [(5, .int (nI j)), (3, .int (nI (b2n (ftB X (dg6 N) k && ftG X (dg6 N) k (dg6 N k) j)))), (4, .int (nI k)), (2, .int (nI R)), (0, .ref (L 33)), (1, .int (nI N))] [] (wsOf D L σ) := by
  intro n_
  induction n_ with
  | zero =>
    intro j hct
    obtain rfl : j = k := by omega
    refine g_iload dX5_fits_66 0 rfl ?_
    refine g_iload dX5_fits_68 2 rfl ?_
    refine n_icmpge 123 dX5_fits_70 (by decide) (by omega) (by omega) (fun h70 => ?_) (fun h70 => absurd h70 (by omega))
    refine g_pick [0, 1, 2, 3, 4, 5] (lv' := [(5, .int (nI j)), (3, .int (nI (b2n (ftB X (dg6 N) j && ftG X (dg6 N) j (dg6 N j) j)))), (4, .int (nI j)), (2, .int (nI R)), (0, .ref (L 33)), (1, .int (nI N))]) rfl ?_
    exact kk
  | succ n_ ih =>
    intro j hct
    have hdj := dg6_lt N j
    have hdk := dg6_lt N k
    have hsbj := ok_sb ho (i := j) (by omega)
    have hsbk := ok_sb ho (i := k) (by omega)
    refine g_iload dX5_fits_66 0 rfl ?_
    refine g_iload dX5_fits_68 2 rfl ?_
    refine n_icmpge 123 dX5_fits_70 (by decide) (by omega) (by omega) (fun h70 => absurd h70 (by omega)) (fun h70 => ?_)
    refine g_iload_n dX5_fits_73 rfl 1 rfl ?_
    refine b_ifeq 115 dX5_fits_74 (by decide) (fun h74 => ?_) (fun h74 => ?_)
    · refine g_iconst dX5_fits_115 ci_0 ?_
      refine g_tope (z := nI (b2n (ftB X (dg6 N) k && ftG X (dg6 N) k (dg6 N k) (j + 1)))) (by rw [ftG_s, ← Bool.and_assoc, h74]; rfl) ?_
      refine g_istore_n (lv' := [(3, .int (nI (b2n (ftB X (dg6 N) k && ftG X (dg6 N) k (dg6 N k) (j + 1))))), (5, .int (nI j)), (4, .int (nI k)), (2, .int (nI R)), (0, .ref (L 33)), (1, .int (nI N))]) dX5_fits_116 rfl (by decide) rfl ?_
      refine g_iinc (v := nI (j + 1)) (lv' := [(5, .int (nI (j + 1))), (3, .int (nI (b2n (ftB X (dg6 N) k && ftG X (dg6 N) k (dg6 N k) (j + 1))))), (4, .int (nI k)), (2, .int (nI R)), (0, .ref (L 33)), (1, .int (nI N))]) dX5_fits_117 1 rfl (inc_n _) (by decide) rfl ?_
      refine g_goto 66 dX5_fits_120 (by decide) ?_
      refine g_pick [0, 1, 2, 3, 4, 5] (lv' := [(5, .int (nI (j + 1))), (3, .int (nI (b2n (ftB X (dg6 N) k && ftG X (dg6 N) k (dg6 N k) (j + 1))))), (4, .int (nI k)), (2, .int (nI R)), (0, .ref (L 33)), (1, .int (nI N))]) rfl ?_
      exact ih (j + 1) (by omega)
    · refine g_aload_n dX5_fits_77 rfl 4 rfl ?_
      refine s_getM kf_X5_82 (by decide) rfl dX5_fits_78 ?_
      refine g_iload dX5_fits_81 0 rfl ?_
      refine s_ald (q := 58) (n := 6) (at_ia (q := 58) rfl) (by omega) (by decide) dX5_fits_83 ?_
      refine g_tope (z := nI (dg6 N j)) (hgv _ (by omega)) ?_
      refine g_aload_n dX5_fits_84 rfl 4 rfl ?_
      refine s_getM kf_X5_82 (by decide) rfl dX5_fits_85 ?_
      refine g_iload dX5_fits_88 2 rfl ?_
      refine s_ald (q := 58) (n := 6) (at_ia (q := 58) rfl) (by omega) (by decide) dX5_fits_90 ?_
      refine g_tope (z := nI (dg6 N k)) (hgv _ (by omega)) ?_
      refine n_icmpne 111 dX5_fits_91 (by decide) (by omega) (by omega) (fun h91 => ?_) (fun h91 => ?_)
      · refine g_iconst dX5_fits_111 ci_1 ?_
        refine g_goto 116 dX5_fits_112 (by decide) ?_
        refine g_tope (z := nI (b2n (ftB X (dg6 N) k && ftG X (dg6 N) k (dg6 N k) (j + 1)))) (by rw [ftG_s, ← Bool.and_assoc, h74]; simp [h91, b2n]) ?_
        refine g_istore_n (lv' := [(3, .int (nI (b2n (ftB X (dg6 N) k && ftG X (dg6 N) k (dg6 N k) (j + 1))))), (5, .int (nI j)), (4, .int (nI k)), (2, .int (nI R)), (0, .ref (L 33)), (1, .int (nI N))]) dX5_fits_116 rfl (by decide) rfl ?_
        refine g_iinc (v := nI (j + 1)) (lv' := [(5, .int (nI (j + 1))), (3, .int (nI (b2n (ftB X (dg6 N) k && ftG X (dg6 N) k (dg6 N k) (j + 1))))), (4, .int (nI k)), (2, .int (nI R)), (0, .ref (L 33)), (1, .int (nI N))]) dX5_fits_117 1 rfl (inc_n _) (by decide) rfl ?_
        refine g_goto 66 dX5_fits_120 (by decide) ?_
        refine g_pick [0, 1, 2, 3, 4, 5] (lv' := [(5, .int (nI (j + 1))), (3, .int (nI (b2n (ftB X (dg6 N) k && ftG X (dg6 N) k (dg6 N k) (j + 1))))), (4, .int (nI k)), (2, .int (nI R)), (0, .ref (L 33)), (1, .int (nI N))]) rfl ?_
        exact ih (j + 1) (by omega)
      · refine g_aload_n dX5_fits_94 rfl 4 rfl ?_
        refine s_getM kf_X5_37 (by decide) rfl dX5_fits_95 ?_
        refine g_iload dX5_fits_98 0 rfl ?_
        refine s_ald (q := 43) (n := 6) (at_ia (q := 43) rfl) (by omega) (by decide) dX5_fits_100 ?_
        refine g_tope (z := nI (x_sb X j)) (rpM_sb hX (by omega)) ?_
        refine g_aload_n dX5_fits_101 rfl 4 rfl ?_
        refine s_getM kf_X5_37 (by decide) rfl dX5_fits_102 ?_
        refine g_iload dX5_fits_105 2 rfl ?_
        refine s_ald (q := 43) (n := 6) (at_ia (q := 43) rfl) (by omega) (by decide) dX5_fits_107 ?_
        refine g_tope (z := nI (x_sb X k)) (rpM_sb hX (by omega)) ?_
        refine n_icmpeq 115 dX5_fits_108 (by decide) (by omega) (by omega) (fun h108 => ?_) (fun h108 => ?_)
        · refine g_iconst dX5_fits_115 ci_0 ?_
          refine g_tope (z := nI (b2n (ftB X (dg6 N) k && ftG X (dg6 N) k (dg6 N k) (j + 1)))) (by rw [ftG_s, ← Bool.and_assoc, h74]; simp [h91, h108, b2n]) ?_
          refine g_istore_n (lv' := [(3, .int (nI (b2n (ftB X (dg6 N) k && ftG X (dg6 N) k (dg6 N k) (j + 1))))), (5, .int (nI j)), (4, .int (nI k)), (2, .int (nI R)), (0, .ref (L 33)), (1, .int (nI N))]) dX5_fits_116 rfl (by decide) rfl ?_
          refine g_iinc (v := nI (j + 1)) (lv' := [(5, .int (nI (j + 1))), (3, .int (nI (b2n (ftB X (dg6 N) k && ftG X (dg6 N) k (dg6 N k) (j + 1))))), (4, .int (nI k)), (2, .int (nI R)), (0, .ref (L 33)), (1, .int (nI N))]) dX5_fits_117 1 rfl (inc_n _) (by decide) rfl ?_
          refine g_goto 66 dX5_fits_120 (by decide) ?_
          refine g_pick [0, 1, 2, 3, 4, 5] (lv' := [(5, .int (nI (j + 1))), (3, .int (nI (b2n (ftB X (dg6 N) k && ftG X (dg6 N) k (dg6 N k) (j + 1))))), (4, .int (nI k)), (2, .int (nI R)), (0, .ref (L 33)), (1, .int (nI N))]) rfl ?_
          exact ih (j + 1) (by omega)
        · refine g_iconst dX5_fits_111 ci_1 ?_
          refine g_goto 116 dX5_fits_112 (by decide) ?_
          refine g_tope (z := nI (b2n (ftB X (dg6 N) k && ftG X (dg6 N) k (dg6 N k) (j + 1)))) (by rw [ftG_s, ← Bool.and_assoc, h74]; simp [h108, b2n]) ?_
          refine g_istore_n (lv' := [(3, .int (nI (b2n (ftB X (dg6 N) k && ftG X (dg6 N) k (dg6 N k) (j + 1))))), (5, .int (nI j)), (4, .int (nI k)), (2, .int (nI R)), (0, .ref (L 33)), (1, .int (nI N))]) dX5_fits_116 rfl (by decide) rfl ?_
          refine g_iinc (v := nI (j + 1)) (lv' := [(5, .int (nI (j + 1))), (3, .int (nI (b2n (ftB X (dg6 N) k && ftG X (dg6 N) k (dg6 N k) (j + 1))))), (4, .int (nI k)), (2, .int (nI R)), (0, .ref (L 33)), (1, .int (nI N))]) dX5_fits_117 1 rfl (inc_n _) (by decide) rfl ?_
          refine g_goto 66 dX5_fits_120 (by decide) ?_
          refine g_pick [0, 1, 2, 3, 4, 5] (lv' := [(5, .int (nI (j + 1))), (3, .int (nI (b2n (ftB X (dg6 N) k && ftG X (dg6 N) k (dg6 N k) (j + 1))))), (4, .int (nI k)), (2, .int (nI R)), (0, .ref (L 33)), (1, .int (nI N))]) rfl ?_
          exact ih (j + 1) (by omega)
set_option maxHeartbeats 4000000 in
set_option maxRecDepth 20000 in
theorem l2_X5_fits {l : Launch} {D : gE} {L : Nat → Nat} {σ : St} {Q : Option Value → va_W → Prop} {d : Nat} {X : XT} (ho : okX X) {N : Nat} (hN : N < 2 ^ 31) (ht : ftB X (dg6 N) (x_sg X) = true → ∀ σ', fA 58 σ σ' → rpM σ' X → Q (some (.int (nI 1))) (wsOf D L σ')) (hf : ftB X (dg6 N) (x_sg X) = false → ∀ σ', fA 58 σ σ' → rpM σ' X → Q (some (.int (nI 0))) (wsOf D L σ')) : ∀ n_ k, k + n_ = x_sg X → ∀ σ', fA 58 σ σ' → rpM σ' X → (∀ j, j < k → sA σ' 58 j = nI (dg6 N j)) → (∀ j, j < x_sg X → sA σ' 59 j = nI (bitsN (cbX X (x_sv X j)) 6)) → G l D yX5_fits cX5_fits 6 (some .boolean) (rr d) Q 0 0 7 [(4, .int (nI k)), (3, .int (nI (b2n (ftB X (dg6 N) k)))), (2, .int (nI (N / 6 ^ k))), (0, .ref (L 33)), (1, .int (nI N))] [] (wsOf D L σ') := by
  intro n_
  induction n_ with
  | zero =>
    intro k hct σ' hfa hX hgv hmb
    obtain rfl : k = x_sg X := by omega
    have hsg := ok_sg ho
    refine g_iload dX5_fits_7 0 rfl ?_
    refine g_aload_n dX5_fits_9 rfl 3 rfl ?_
    refine s_getM kf_X5_115 (by decide) rfl dX5_fits_10 ?_
    refine g_tope (z := nI (x_sg X)) (rpM_sg hX) ?_
    refine n_icmpge 129 dX5_fits_13 (by decide) (by omega) (by omega) (fun h13 => ?_) (fun h13 => absurd h13 (by omega))
    refine g_iload_n dX5_fits_129 rfl 1 rfl ?_
    cases e9 : ftB X (dg6 N) (x_sg X)
    · exact g_zreturn dX5_fits_130 (Nat.le_refl _) (Nat.le_refl _) (Or.inl rfl) (hf e9 _ hfa hX)
    · exact g_zreturn dX5_fits_130 (Nat.le_refl _) (Nat.le_refl _) (Or.inr rfl) (ht e9 _ hfa hX)
  | succ n_ ih =>
    intro k hct σ' hfa hX hgv hmb
    have hsg := ok_sg ho
    have hNk : N / 6 ^ k < 2 ^ 31 := by have := Nat.div_le_self N (6 ^ k); omega
    have hdk := dg6_lt N k
    refine g_iload dX5_fits_7 0 rfl ?_
    refine g_aload_n dX5_fits_9 rfl 3 rfl ?_
    refine s_getM kf_X5_115 (by decide) rfl dX5_fits_10 ?_
    refine g_tope (z := nI (x_sg X)) (rpM_sg hX) ?_
    refine n_icmpge 129 dX5_fits_13 (by decide) (by omega) (by omega) (fun h13 => absurd h13 (by omega)) (fun h13 => ?_)
    refine g_aload_n dX5_fits_16 rfl 3 rfl ?_
    refine s_getM kf_X5_82 (by decide) rfl dX5_fits_17 ?_
    refine g_iload dX5_fits_20 0 rfl ?_
    refine g_iload_n dX5_fits_22 rfl 2 rfl ?_
    refine g_bipush dX5_fits_23 bp_6 ?_
    refine g_irem dX5_fits_25 (by decide +kernel) ?_
    refine g_tope (z := nI (dg6 N k)) (pk_rem hNk (by omega) (by omega)) ?_
    refine s_ast (q := 58) (n := 6) (at_ia (q := 58) rfl) (by omega) (by decide) dX5_fits_26 ?_
    have hX := rpM_A hX 58 (by omega) (upd (sA σ' 58) k (nI (dg6 N k)))
    have hfa := fA_A hfa (upd (sA σ' 58) k (nI (dg6 N k)))
    have hgv := gv_next hgv
    have hmb : ∀ j, j < x_sg X → sA (setA σ' 58 (upd (sA σ' 58) k (nI (dg6 N k)))) 59 j = _ := hmb
    generalize setA σ' 58 (upd (sA σ' 58) k (nI (dg6 N k))) = σ2 at hX hfa hgv hmb ⊢
    refine g_iload_n dX5_fits_27 rfl 2 rfl ?_
    refine g_bipush dX5_fits_28 bp_6 ?_
    refine g_idiv dX5_fits_30 (by decide +kernel) ?_
    refine g_tope (z := nI (N / 6 ^ (k + 1))) ((pk_div hNk (by omega) (by omega)).trans (by rw [Nat.div_div_eq_div_mul, ← Nat.pow_succ])) ?_
    refine g_istore_n (lv' := [(2, .int (nI (N / 6 ^ (k + 1)))), (4, .int (nI k)), (3, .int (nI (b2n (ftB X (dg6 N) k)))), (0, .ref (L 33)), (1, .int (nI N))]) dX5_fits_31 rfl (by decide) rfl ?_
    refine g_iload_n dX5_fits_32 rfl 2 rfl ?_
    refine b_ifeq 61 dX5_fits_33 (by decide) (fun h33 => ?_) (fun h33 => ?_)
    · refine g_iconst dX5_fits_61 ci_0 ?_
      refine g_tope (z := nI (b2n (ftB X (dg6 N) k && ftG X (dg6 N) k (dg6 N k) 0))) (by rw [h33]; rfl) ?_
      refine g_istore_n (lv' := [(3, .int (nI (b2n (ftB X (dg6 N) k && ftG X (dg6 N) k (dg6 N k) 0)))), (2, .int (nI (N / 6 ^ (k + 1)))), (4, .int (nI k)), (0, .ref (L 33)), (1, .int (nI N))]) dX5_fits_62 rfl (by decide) rfl ?_
      refine g_iconst dX5_fits_63 ci_0 ?_
      refine g_istore (lv' := [(5, .int (nI 0)), (3, .int (nI (b2n (ftB X (dg6 N) k && ftG X (dg6 N) k (dg6 N k) 0)))), (2, .int (nI (N / 6 ^ (k + 1)))), (4, .int (nI k)), (0, .ref (L 33)), (1, .int (nI N))]) dX5_fits_64 (by decide) rfl ?_
      refine g_pick [0, 1, 3, 2, 4, 5] (lv' := [(5, .int (nI 0)), (3, .int (nI (b2n (ftB X (dg6 N) k && ftG X (dg6 N) k (dg6 N k) 0)))), (4, .int (nI k)), (2, .int (nI (N / 6 ^ (k + 1)))), (0, .ref (L 33)), (1, .int (nI N))]) rfl ?_
      refine l1_X5_fits hX ho (by omega) (by have := Nat.div_le_self N (6 ^ (k + 1)); omega) hgv ?_ k 0 (by omega)
      refine g_iinc (v := nI (k + 1)) (lv' := [(4, .int (nI (k + 1))), (5, .int (nI k)), (3, .int (nI (b2n (ftB X (dg6 N) k && ftG X (dg6 N) k (dg6 N k) k)))), (2, .int (nI (N / 6 ^ (k + 1)))), (0, .ref (L 33)), (1, .int (nI N))]) dX5_fits_123 2 rfl (inc_n _) (by decide) rfl ?_
      refine g_goto 7 dX5_fits_126 (by decide) ?_
      refine g_pick [0, 2, 3, 4, 5] (lv' := [(4, .int (nI (k + 1))), (3, .int (nI (b2n (ftB X (dg6 N) k && ftG X (dg6 N) k (dg6 N k) k)))), (2, .int (nI (N / 6 ^ (k + 1)))), (0, .ref (L 33)), (1, .int (nI N))]) rfl ?_
      exact ih (k + 1) (by omega) _ hfa hX hgv hmb
    · refine g_aload_n dX5_fits_36 rfl 3 rfl ?_
      refine s_getM kf_X5_85 (by decide) rfl dX5_fits_37 ?_
      refine g_iload dX5_fits_40 1 rfl ?_
      refine s_ald (q := 59) (n := 6) (at_ia (q := 59) rfl) (by omega) (by decide) dX5_fits_42 ?_
      refine g_tope (z := nI (bitsN (cbX X (x_sv X k)) 6)) (hmb _ (by omega)) ?_
      refine g_aload_n dX5_fits_43 rfl 3 rfl ?_
      refine s_getM kf_X5_82 (by decide) rfl dX5_fits_44 ?_
      refine g_iload dX5_fits_47 1 rfl ?_
      refine s_ald (q := 58) (n := 6) (at_ia (q := 58) rfl) (by omega) (by decide) dX5_fits_49 ?_
      refine g_tope (z := nI (dg6 N k)) (hgv _ (by omega)) ?_
      refine g_ishr dX5_fits_50 ?_
      refine g_iconst dX5_fits_51 ci_1 ?_
      refine g_iand dX5_fits_52 ?_
      refine g_tope (z := nI (b2n ((cbX X (x_sv X k)) (dg6 N k)))) (gbB _ (by decide) (by omega)) ?_
      refine g_iconst dX5_fits_53 ci_1 ?_
      refine b_icmpne 61 dX5_fits_54 (by decide) (fun h54 => ?_) (fun h54 => ?_)
      · refine g_iconst dX5_fits_61 ci_0 ?_
        refine g_tope (z := nI (b2n (ftB X (dg6 N) k && ftG X (dg6 N) k (dg6 N k) 0))) (by rw [h33, ftG_0, h54]; rfl) ?_
        refine g_istore_n (lv' := [(3, .int (nI (b2n (ftB X (dg6 N) k && ftG X (dg6 N) k (dg6 N k) 0)))), (2, .int (nI (N / 6 ^ (k + 1)))), (4, .int (nI k)), (0, .ref (L 33)), (1, .int (nI N))]) dX5_fits_62 rfl (by decide) rfl ?_
        refine g_iconst dX5_fits_63 ci_0 ?_
        refine g_istore (lv' := [(5, .int (nI 0)), (3, .int (nI (b2n (ftB X (dg6 N) k && ftG X (dg6 N) k (dg6 N k) 0)))), (2, .int (nI (N / 6 ^ (k + 1)))), (4, .int (nI k)), (0, .ref (L 33)), (1, .int (nI N))]) dX5_fits_64 (by decide) rfl ?_
        refine g_pick [0, 1, 3, 2, 4, 5] (lv' := [(5, .int (nI 0)), (3, .int (nI (b2n (ftB X (dg6 N) k && ftG X (dg6 N) k (dg6 N k) 0)))), (4, .int (nI k)), (2, .int (nI (N / 6 ^ (k + 1)))), (0, .ref (L 33)), (1, .int (nI N))]) rfl ?_
        refine l1_X5_fits hX ho (by omega) (by have := Nat.div_le_self N (6 ^ (k + 1)); omega) hgv ?_ k 0 (by omega)
        refine g_iinc (v := nI (k + 1)) (lv' := [(4, .int (nI (k + 1))), (5, .int (nI k)), (3, .int (nI (b2n (ftB X (dg6 N) k && ftG X (dg6 N) k (dg6 N k) k)))), (2, .int (nI (N / 6 ^ (k + 1)))), (0, .ref (L 33)), (1, .int (nI N))]) dX5_fits_123 2 rfl (inc_n _) (by decide) rfl ?_
        refine g_goto 7 dX5_fits_126 (by decide) ?_
        refine g_pick [0, 2, 3, 4, 5] (lv' := [(4, .int (nI (k + 1))), (3, .int (nI (b2n (ftB X (dg6 N) k && ftG X (dg6 N) k (dg6 N k) k)))), (2, .int (nI (N / 6 ^ (k + 1)))), (0, .ref (L 33)), (1, .int (nI N))]) rfl ?_
        exact ih (k + 1) (by omega) _ hfa hX hgv hmb
      · refine g_iconst dX5_fits_57 ci_1 ?_
        refine g_goto 62 dX5_fits_58 (by decide) ?_
        refine g_tope (z := nI (b2n (ftB X (dg6 N) k && ftG X (dg6 N) k (dg6 N k) 0))) (by rw [h33, ftG_0, h54]; rfl) ?_
        refine g_istore_n (lv' := [(3, .int (nI (b2n (ftB X (dg6 N) k && ftG X (dg6 N) k (dg6 N k) 0)))), (2, .int (nI (N / 6 ^ (k + 1)))), (4, .int (nI k)), (0, .ref (L 33)), (1, .int (nI N))]) dX5_fits_62 rfl (by decide) rfl ?_
        refine g_iconst dX5_fits_63 ci_0 ?_
        refine g_istore (lv' := [(5, .int (nI 0)), (3, .int (nI (b2n (ftB X (dg6 N) k && ftG X (dg6 N) k (dg6 N k) 0)))), (2, .int (nI (N / 6 ^ (k + 1)))), (4, .int (nI k)), (0, .ref (L 33)), (1, .int (nI N))]) dX5_fits_64 (by decide) rfl ?_
        refine g_pick [0, 1, 3, 2, 4, 5] (lv' := [(5, .int (nI 0)), (3, .int (nI (b2n (ftB X (dg6 N) k && ftG X (dg6 N) k (dg6 N k) 0)))), (4, .int (nI k)), (2, .int (nI (N / 6 ^ (k + 1)))), (0, .ref (L 33)), (1, .int (nI N))]) rfl ?_
        refine l1_X5_fits hX ho (by omega) (by have := Nat.div_le_self N (6 ^ (k + 1)); omega) hgv ?_ k 0 (by omega)
        refine g_iinc (v := nI (k + 1)) (lv' := [(4, .int (nI (k + 1))), (5, .int (nI k)), (3, .int (nI (b2n (ftB X (dg6 N) k && ftG X (dg6 N) k (dg6 N k) k)))), (2, .int (nI (N / 6 ^ (k + 1)))), (0, .ref (L 33)), (1, .int (nI N))]) dX5_fits_123 2 rfl (inc_n _) (by decide) rfl ?_
        refine g_goto 7 dX5_fits_126 (by decide) ?_
        refine g_pick [0, 2, 3, 4, 5] (lv' := [(4, .int (nI (k + 1))), (3, .int (nI (b2n (ftB X (dg6 N) k && ftG X (dg6 N) k (dg6 N k) k)))), (2, .int (nI (N / 6 ^ (k + 1)))), (0, .ref (L 33)), (1, .int (nI N))]) rfl ?_
        exact ih (k + 1) (by omega) _ hfa hX hgv hmb
set_option maxHeartbeats 4000000 in
set_option maxRecDepth 20000 in
theorem c_X5_fits {l : Launch} {D : gE} {L : Nat → Nat} {σ : St} {Q : Option Value → va_W → Prop} {d : Nat} {X : XT} (hX : rpM σ X) (ho : okX X) {N : Nat} (hN : N < 2 ^ 31) (hmb : ∀ j, j < x_sg X → sA σ 59 j = nI (bitsN (cbX X (x_sv X j)) 6)) (ht : ftB X (dg6 N) (x_sg X) = true → ∀ σ', fA 58 σ σ' → rpM σ' X → Q (some (.int (nI 1))) (wsOf D L σ')) (hf : ftB X (dg6 N) (x_sg X) = false → ∀ σ', fA 58 σ σ' → rpM σ' X → Q (some (.int (nI 0))) (wsOf D L σ')) : Ctr l D yX5_fits cX5_fits 6 (some .boolean) (rr d) [.ref (L 33), .int (nI N)] (wsOf D L σ) Q := by
  refine g_start ky_X5_fits (Nat.le_of_ble_eq_true rfl) ?_
  refine g_pick [0, 1] (lv' := [(0, .ref (L 33)), (1, .int (nI N))]) rfl ?_
  refine g_iload_n dX5_fits_0 rfl 1 rfl ?_
  refine g_tope (z := nI (N / 6 ^ 0)) (by rw [Nat.pow_zero, Nat.div_one]) ?_
  refine g_istore_n (lv' := [(2, .int (nI (N / 6 ^ 0))), (0, .ref (L 33)), (1, .int (nI N))]) dX5_fits_1 rfl (by decide) rfl ?_
  refine g_iconst dX5_fits_2 ci_1 ?_
  refine g_tope (z := nI (b2n (ftB X (dg6 N) 0))) (rfl) ?_
  refine g_istore_n (lv' := [(3, .int (nI (b2n (ftB X (dg6 N) 0)))), (2, .int (nI (N / 6 ^ 0))), (0, .ref (L 33)), (1, .int (nI N))]) dX5_fits_3 rfl (by decide) rfl ?_
  refine g_iconst dX5_fits_4 ci_0 ?_
  refine g_istore (lv' := [(4, .int (nI 0)), (3, .int (nI (b2n (ftB X (dg6 N) 0)))), (2, .int (nI (N / 6 ^ 0))), (0, .ref (L 33)), (1, .int (nI N))]) dX5_fits_5 (by decide) rfl ?_
  refine g_pick [0, 1, 2, 3, 4] (lv' := [(4, .int (nI 0)), (3, .int (nI (b2n (ftB X (dg6 N) 0)))), (2, .int (nI (N / 6 ^ 0))), (0, .ref (L 33)), (1, .int (nI N))]) rfl ?_
  exact l2_X5_fits ho hN ht hf (x_sg X) 0 (by omega) _ fA_rfl hX (fun j hj => absurd hj (Nat.not_lt_zero j)) hmb
def fitR (X : XT) : Int32 := nI (fpN X (x_sg X))
theorem mb_next {σ : St} {X : XT} {k : Nat} (h : ∀ j, j < k → sA σ 59 j = nI (bitsN (cbX X (x_sv X j)) 6)) : ∀ j, j < k + 1 → sA (setA σ 59 (upd (sA σ 59) k (nI (bitsN (cbX X (x_sv X k)) 6)))) 59 j = nI (bitsN (cbX X (x_sv X j)) 6) := by
  intro j hj
  rw [sA_same]
  by_cases e : j = k
  · rw [e]; exact pk_us
  · rw [pk_un e]; exact h j (by omega)
theorem six_le {k : Nat} (h : k ≤ 6) : 6 ^ k ≤ 46656 := Nat.le_trans (Nat.pow_le_pow_right (by decide) h) (by decide)
set_option maxHeartbeats 4000000 in
set_option maxRecDepth 20000 in
theorem l1_X5_fit {l : Launch} {D : gE} {L : Nat → Nat} {σ : St} {Q : Option Value → va_W → Prop} {d : Nat} {X : XT} (ho : okX X) (h : ∀ σ', fr σ σ' → rpM σ' X → Q (some (.int (fitR X))) (wsOf D L σ')) : ∀ n_ m, m + n_ = 6 ^ x_sg X → ∀ σ', fr σ σ' → rpM σ' X → (∀ j, j < x_sg X → sA σ' 59 j = nI (bitsN (cbX X (x_sv X j)) 6)) → G l D yX5_fit cX5_fit 4 (some .int) (rr (d + 6)) Q 0 0 38 [(3, .int (nI m)), (2, .int (nI (cntN (fun i => ftB X (dg6 i) (x_sg X)) m))), (0, .ref (L 33)), (1, .int (nI (6 ^ x_sg X)))] [] (wsOf D L σ') := by
  intro n_
  induction n_ with
  | zero =>
    intro m hct σ' hfr hX hmb
    obtain rfl : m = 6 ^ x_sg X := by omega
    have h6 := six_le (ok_sg ho)
    refine g_iload_n dX5_fit_38 rfl 0 rfl ?_
    refine g_iload_n dX5_fit_39 rfl 3 rfl ?_
    refine n_icmpge 65 dX5_fit_40 (by decide) (by omega) (by omega) (fun h40 => ?_) (fun h40 => absurd h40 (by omega))
    refine g_iload_n dX5_fit_65 rfl 1 rfl ?_
    exact g_ireturn dX5_fit_66 (Nat.le_refl _) (Nat.le_refl _) (qi (by unfold fitR; rw [fit_eq]) (h _ hfr hX))
  | succ n_ ih =>
    intro m hct σ' hfr hX hmb
    have h6 := six_le (ok_sg ho)
    have hcl := cntN_le (fun i => ftB X (dg6 i) (x_sg X)) m
    refine g_iload_n dX5_fit_38 rfl 0 rfl ?_
    refine g_iload_n dX5_fit_39 rfl 3 rfl ?_
    refine n_icmpge 65 dX5_fit_40 (by decide) (by omega) (by omega) (fun h40 => absurd h40 (by omega)) (fun h40 => ?_)
    refine g_iload_n dX5_fit_43 rfl 1 rfl ?_
    refine g_aload_n dX5_fit_44 rfl 2 rfl ?_
    refine g_iload_n dX5_fit_45 rfl 0 rfl ?_
    refine g_callV (As := [.int (nI m)]) km_X5_339 ky_X5_fits ki_X5_fits (by decide) 33 at_33 rfl rfl (Nat.le_of_ble_eq_true rfl) dX5_fit_46 rfl (c_X5_fits hX ho (by omega) hmb (fun h46 σ2 hf2 hX2 => ?_) (fun h46 σ2 hf2 hX2 => ?_))
    · refine t_ifeq1 (tgt := 56) dX5_fit_49 (by decide) ?_
      refine g_iconst dX5_fit_52 ci_1 ?_
      refine g_goto 57 dX5_fit_53 (by decide) ?_
      refine g_iadd dX5_fit_57 ?_
      refine g_tope (z := nI (cntN (fun i => ftB X (dg6 i) (x_sg X)) (m + 1))) ((nI_add _ _).trans (by rw [cntN_s, h46]; rfl)) ?_
      refine g_istore_n (lv' := [(2, .int (nI (cntN (fun i => ftB X (dg6 i) (x_sg X)) (m + 1)))), (3, .int (nI m)), (0, .ref (L 33)), (1, .int (nI (6 ^ x_sg X)))]) dX5_fit_58 rfl (by decide) rfl ?_
      refine g_iinc (v := nI (m + 1)) (lv' := [(3, .int (nI (m + 1))), (2, .int (nI (cntN (fun i => ftB X (dg6 i) (x_sg X)) (m + 1)))), (0, .ref (L 33)), (1, .int (nI (6 ^ x_sg X)))]) dX5_fit_59 1 rfl (inc_n _) (by decide) rfl ?_
      refine g_goto 38 dX5_fit_62 (by decide) ?_
      refine g_pick [0, 1, 2, 3] (lv' := [(3, .int (nI (m + 1))), (2, .int (nI (cntN (fun i => ftB X (dg6 i) (x_sg X)) (m + 1)))), (0, .ref (L 33)), (1, .int (nI (6 ^ x_sg X)))]) rfl ?_
      exact ih (m + 1) (by omega) _ (fr_trans hfr (fA_fr hf2 (by decide))) hX2 (fun j hj => by rw [hf2.1 59 (by decide)]; exact hmb j hj)
    · refine t_ifeq0 56 dX5_fit_49 (by decide) ?_
      refine g_iconst dX5_fit_56 ci_0 ?_
      refine g_iadd dX5_fit_57 ?_
      refine g_tope (z := nI (cntN (fun i => ftB X (dg6 i) (x_sg X)) (m + 1))) ((nI_add _ _).trans (by rw [cntN_s, h46]; rfl)) ?_
      refine g_istore_n (lv' := [(2, .int (nI (cntN (fun i => ftB X (dg6 i) (x_sg X)) (m + 1)))), (3, .int (nI m)), (0, .ref (L 33)), (1, .int (nI (6 ^ x_sg X)))]) dX5_fit_58 rfl (by decide) rfl ?_
      refine g_iinc (v := nI (m + 1)) (lv' := [(3, .int (nI (m + 1))), (2, .int (nI (cntN (fun i => ftB X (dg6 i) (x_sg X)) (m + 1)))), (0, .ref (L 33)), (1, .int (nI (6 ^ x_sg X)))]) dX5_fit_59 1 rfl (inc_n _) (by decide) rfl ?_
      refine g_goto 38 dX5_fit_62 (by decide) ?_
      refine g_pick [0, 1, 2, 3] (lv' := [(3, .int (nI (m + 1))), (2, .int (nI (cntN (fun i => ftB X (dg6 i) (x_sg X)) (m + 1)))), (0, .ref (L 33)), (1, .int (nI (6 ^ x_sg X)))]) rfl ?_
      exact ih (m + 1) (by omega) _ (fr_trans hfr (fA_fr hf2 (by decide))) hX2 (fun j hj => by rw [hf2.1 59 (by decide)]; exact hmb j hj)
set_option maxHeartbeats 4000000 in
set_option maxRecDepth 20000 in
theorem l2_X5_fit {l : Launch} {D : gE} {L : Nat → Nat} {σ : St} {Q : Option Value → va_W → Prop} {d : Nat} {X : XT} (ho : okX X) (h : ∀ σ', fr σ σ' → rpM σ' X → Q (some (.int (fitR X))) (wsOf D L σ')) : ∀ n_ k, k + n_ = x_sg X → ∀ σ', fr σ σ' → rpM σ' X → (∀ j, j < k → sA σ' 59 j = nI (bitsN (cbX X (x_sv X j)) 6)) → G l D yX5_fit cX5_fit 4 (some .int) (rr (d + 6)) Q 0 0 4 [(2, .int (nI k)), (1, .int (nI (6 ^ k))), (0, .ref (L 33))] [] (wsOf D L σ') := by
  intro n_
  induction n_ with
  | zero =>
    intro k hct σ' hfr hX hmb
    obtain rfl : k = x_sg X := by omega
    have hsg := ok_sg ho
    refine g_iload_n dX5_fit_4 rfl 0 rfl ?_
    refine g_aload_n dX5_fit_5 rfl 2 rfl ?_
    refine s_getM kf_X5_115 (by decide) rfl dX5_fit_6 ?_
    refine g_tope (z := nI (x_sg X)) (rpM_sg hX) ?_
    refine n_icmpge 34 dX5_fit_9 (by decide) (by omega) (by omega) (fun h9 => ?_) (fun h9 => absurd h9 (by omega))
    refine g_iconst dX5_fit_34 ci_0 ?_
    refine g_istore_n (lv' := [(2, .int (nI 0)), (1, .int (nI (6 ^ (x_sg X)))), (0, .ref (L 33))]) dX5_fit_35 rfl (by decide) rfl ?_
    refine g_iconst dX5_fit_36 ci_0 ?_
    refine g_istore_n (lv' := [(3, .int (nI 0)), (2, .int (nI 0)), (1, .int (nI (6 ^ (x_sg X)))), (0, .ref (L 33))]) dX5_fit_37 rfl (by decide) rfl ?_
    refine g_pick [0, 1, 3, 2] (lv' := [(3, .int (nI 0)), (2, .int (nI 0)), (0, .ref (L 33)), (1, .int (nI (6 ^ (x_sg X))))]) rfl ?_
    exact l1_X5_fit ho h (6 ^ x_sg X) 0 (by omega) _ hfr hX hmb
  | succ n_ ih =>
    intro k hct σ' hfr hX hmb
    have hsg := ok_sg ho
    refine g_iload_n dX5_fit_4 rfl 0 rfl ?_
    refine g_aload_n dX5_fit_5 rfl 2 rfl ?_
    refine s_getM kf_X5_115 (by decide) rfl dX5_fit_6 ?_
    refine g_tope (z := nI (x_sg X)) (rpM_sg hX) ?_
    refine n_icmpge 34 dX5_fit_9 (by decide) (by omega) (by omega) (fun h9 => absurd h9 (by omega)) (fun h9 => ?_)
    refine g_aload_n dX5_fit_12 rfl 2 rfl ?_
    refine s_getM kf_X5_85 (by decide) rfl dX5_fit_13 ?_
    refine g_iload_n dX5_fit_16 rfl 0 rfl ?_
    refine g_aload_n dX5_fit_17 rfl 2 rfl ?_
    refine g_iload_n dX5_fit_18 rfl 0 rfl ?_
    refine g_callV (As := [.int (nI k)]) km_X5_336 ky_X5_whoBent ki_X5_whoBent (by decide) 33 at_33 rfl rfl (Nat.le_of_ble_eq_true rfl) dX5_fit_19 rfl (c_X5_whoBent hX ho (by omega) ?_)
    refine s_ast (q := 59) (n := 6) (at_ia (q := 59) rfl) (by omega) (by decide) dX5_fit_22 ?_
    have hX := rpM_A hX 59 (by omega) (upd (sA σ' 59) k (nI (bitsN (cbX X (x_sv X k)) 6)))
    have hfr := fr_A hfr 59 (by omega) (upd (sA σ' 59) k (nI (bitsN (cbX X (x_sv X k)) 6)))
    have hmb := mb_next hmb
    generalize setA σ' 59 (upd (sA σ' 59) k (nI (bitsN (cbX X (x_sv X k)) 6))) = σ2 at hX hfr hmb ⊢
    refine g_iload_n dX5_fit_23 rfl 1 rfl ?_
    refine g_bipush dX5_fit_24 bp_6 ?_
    refine g_imul dX5_fit_26 ?_
    refine g_tope (z := nI (6 ^ (k + 1))) ((pk_mul _ _).trans (by rw [Nat.pow_succ])) ?_
    refine g_istore_n (lv' := [(1, .int (nI (6 ^ (k + 1)))), (2, .int (nI k)), (0, .ref (L 33))]) dX5_fit_27 rfl (by decide) rfl ?_
    refine g_iinc (v := nI (k + 1)) (lv' := [(2, .int (nI (k + 1))), (1, .int (nI (6 ^ (k + 1)))), (0, .ref (L 33))]) dX5_fit_28 1 rfl (inc_n _) (by decide) rfl ?_
    refine g_goto 4 dX5_fit_31 (by decide) ?_
    refine g_pick [0, 1, 2] (lv' := [(2, .int (nI (k + 1))), (1, .int (nI (6 ^ (k + 1)))), (0, .ref (L 33))]) rfl ?_
    exact ih (k + 1) (by omega) _ hfr hX hmb
set_option maxHeartbeats 4000000 in
set_option maxRecDepth 20000 in
theorem c_X5_fit {l : Launch} {D : gE} {L : Nat → Nat} {σ : St} {Q : Option Value → va_W → Prop} {d : Nat} {X : XT} (hX : rpM σ X) (ho : okX X) (h : ∀ σ', fr σ σ' → rpM σ' X → Q (some (.int (fitR X))) (wsOf D L σ')) : Ctr l D yX5_fit cX5_fit 4 (some .int) (rr (d + 6)) [.ref (L 33)] (wsOf D L σ) Q := by
  refine g_start ky_X5_fit (Nat.le_of_ble_eq_true rfl) ?_
  refine g_pick [0] (lv' := [(0, .ref (L 33))]) rfl ?_
  refine g_iconst dX5_fit_0 ci_1 ?_
  refine g_istore_n (lv' := [(1, .int (nI 1)), (0, .ref (L 33))]) dX5_fit_1 rfl (by decide) rfl ?_
  refine g_iconst dX5_fit_2 ci_0 ?_
  refine g_istore_n (lv' := [(2, .int (nI 0)), (1, .int (nI 1)), (0, .ref (L 33))]) dX5_fit_3 rfl (by decide) rfl ?_
  refine g_pick [0, 1, 2] (lv' := [(2, .int (nI 0)), (1, .int (nI 1)), (0, .ref (L 33))]) rfl ?_
  exact l2_X5_fit ho h (x_sg X) 0 (by omega) _ fr_rfl hX (fun j hj => absurd hj (Nat.not_lt_zero j))
