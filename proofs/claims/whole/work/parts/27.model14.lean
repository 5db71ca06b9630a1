theorem nI_subn {a b : Nat} (h : b ≤ a) : nI a - nI b = nI (a - b) := by
  have e := nI_add (a - b) b
  rw [show a - b + b = a by omega] at e
  rw [← e]
  exact Int32.add_sub_cancel _ _
theorem fd_st {a b' : St} {s : Nat → Nat} {j b : Nat} (h : fd a b') (g : stA a s j b) : stA b' s j b := by
  unfold stA at g ⊢
  rw [h.1 46 (by decide) (by decide) (by decide) (by decide), h.1 47 (by decide) (by decide) (by decide) (by decide), h.1 48 (by decide) (by decide) (by decide) (by decide), h.1 49 (by decide) (by decide) (by decide) (by decide)]
  exact g
set_option maxHeartbeats 4000000 in
set_option maxRecDepth 20000 in
theorem c_X5_happen {l : Launch} {D : gE} {L : Nat → Nat} {σ : St} {Q : Option Value → va_W → Prop} {d : Nat} {X : XT} (hX : rpM σ X) (ho : okX X) {s : Nat → Nat} {k b : Nat} (hk : k < 60) (hst : stA σ s k b) (hw : wfS s b) {t c n : Nat} (hc : ctr σ t c n) (hb9 : t < 1000000 ∧ c < 1000000 ∧ n < 1000000) (ht : ∀ {w : Nat}, stepE s X b = (w + 1, X) → ∀ σ', fd σ σ' → rpM σ' X → ctr σ' t c n → Q (some (.int (nI (w + 1)))) (wsOf D L σ')) (ht0 : ∀ {X' : XT}, stepE s X b = (0, X') → ∀ σ', fd σ σ' → rpM σ' X' → ctr σ' (t + b2n (kdS s b == 0)) (c + b2n (kdS s b == 1)) (n + b2n (kdS s b == 3)) → Q (some (.int (nI 0))) (wsOf D L σ')) : Ctr l D yX5_happen cX5_happen 2 (some .int) (rr (d + 6)) [.ref (L 33), .int (nI k)] (wsOf D L σ) Q := by
  refine g_start ky_X5_happen (Nat.le_of_ble_eq_true rfl) ?_
  refine g_pick [0, 1] (lv' := [(0, .ref (L 33)), (1, .int (nI k))]) rfl ?_
  have hkl := kd_le s b
  refine g_aload_n dX5_happen_0 rfl 0 rfl ?_
  refine s_getM kf_X5_46 (by decide) rfl dX5_happen_1 ?_
  refine g_iload_n dX5_happen_4 rfl 1 rfl ?_
  refine s_ald (q := 46) (n := 60) (at_ia (q := 46) rfl) (by omega) (by decide) dX5_happen_5 ?_
  refine g_tope (z := nI (kdS s b)) (hst.1) ?_
  refine n_ifne 32 dX5_happen_6 (by decide) (by omega) (fun h6 => ?_) (fun h6 => ?_)
  · refine g_aload_n dX5_happen_32 rfl 0 rfl ?_
    refine s_getM kf_X5_46 (by decide) rfl dX5_happen_33 ?_
    refine g_iload_n dX5_happen_36 rfl 1 rfl ?_
    refine s_ald (q := 46) (n := 60) (at_ia (q := 46) rfl) (by omega) (by decide) dX5_happen_37 ?_
    refine g_tope (z := nI (kdS s b)) (hst.1) ?_
    refine g_iconst dX5_happen_38 ci_1 ?_
    refine n_icmpne 59 dX5_happen_39 (by decide) (by omega) (by omega) (fun h39 => ?_) (fun h39 => ?_)
    · refine g_aload_n dX5_happen_59 rfl 0 rfl ?_
      refine s_getM kf_X5_46 (by decide) rfl dX5_happen_60 ?_
      refine g_iload_n dX5_happen_63 rfl 1 rfl ?_
      refine s_ald (q := 46) (n := 60) (at_ia (q := 46) rfl) (by omega) (by decide) dX5_happen_64 ?_
      refine g_tope (z := nI (kdS s b)) (hst.1) ?_
      refine g_iconst dX5_happen_65 ci_2 ?_
      refine n_icmpne 80 dX5_happen_66 (by decide) (by omega) (by omega) (fun h66 => ?_) (fun h66 => ?_)
      · have hk3 : kdS s b = 3 := by have := kd_le s b; omega
        refine g_aload_n dX5_happen_80 rfl 0 rfl ?_
        refine g_callV (As := []) km_X5_224 ky_X5_passNight ki_X5_passNight (by decide) 33 at_33 rfl rfl (Nat.le_of_ble_eq_true rfl) dX5_happen_81 rfl (c_X5_passNight hX ho hc (fun σ2 hf2 hX2 hc2 => ?_))
        obtain ⟨c27, c28, c29⟩ := hc2
        refine g_aload_n dX5_happen_84 rfl 0 rfl ?_
        refine g_dup dX5_happen_85 rfl ?_
        refine s_getM kf_X5_227 (by decide) rfl dX5_happen_86 ?_
        refine g_tope (z := nI n) (c29) ?_
        refine g_iconst dX5_happen_89 ci_1 ?_
        refine g_iadd dX5_happen_90 ?_
        refine g_tope (z := nI (n + 1)) (nI_add _ _) ?_
        refine s_putM kf_X5_227 (by decide) dX5_happen_91 ?_
        refine g_iconst dX5_happen_94 ci_0 ?_
        exact g_ireturn dX5_happen_95 (Nat.le_refl _) (Nat.le_refl _) (ht0 (step_3 X hk3) _ (fd_I hf2 29 (by omega) (nI (n + 1))) (rpM_I hX2 29 (by omega) _) ⟨(sI_ne _ 33 29 27 (by decide) _).trans (c27.trans (by rw [hk3]; rfl)), (sI_ne _ 33 29 28 (by decide) _).trans (c28.trans (by rw [hk3]; rfl)), (sI_same _ _ _ _).trans (by rw [hk3]; rfl)⟩)
      · have hkd := kd_2 hw h66
        refine g_aload_n dX5_happen_69 rfl 0 rfl ?_
        refine g_aload_n dX5_happen_70 rfl 0 rfl ?_
        refine s_getM kf_X5_55 (by decide) rfl dX5_happen_71 ?_
        refine g_iload_n dX5_happen_74 rfl 1 rfl ?_
        refine s_ald (q := 49) (n := 60) (at_ia (q := 49) rfl) (by omega) (by decide) dX5_happen_75 ?_
        refine g_tope (z := nI (s (b + 1) - 97)) ((hst.2.2.2.2 h66).trans (nI_subn (by omega))) ?_
        refine g_callV (As := [.int (nI (s (b + 1) - 97))]) km_X5_221 ky_X5_publish ki_X5_publish (by decide) 33 at_33 rfl rfl (Nat.le_of_ble_eq_true rfl) dX5_happen_76 rfl (c_X5_publish hX ho (by omega) hc hb9 (fun {w} e σ2 hf2 hX2 hc2 => ?_) (fun {X2} e σ2 hf2 hX2 hc2 => ?_))
        · exact g_ireturn dX5_happen_79 (Nat.le_refl _) (Nat.le_refl _) (ht ((step_2 X hw h66).trans e) _ hf2 hX2 hc2)
        · exact g_ireturn dX5_happen_79 (Nat.le_refl _) (Nat.le_refl _) (ht0 ((step_2 X hw h66).trans e) _ hf2 hX2 (by rw [h66]; exact hc2))
    · have hkd := kd_1 hw h39
      refine g_aload_n dX5_happen_42 rfl 0 rfl ?_
      refine g_aload_n dX5_happen_43 rfl 0 rfl ?_
      refine s_getM kf_X5_49 (by decide) rfl dX5_happen_44 ?_
      refine g_iload_n dX5_happen_47 rfl 1 rfl ?_
      refine s_ald (q := 47) (n := 60) (at_ia (q := 47) rfl) (by omega) (by decide) dX5_happen_48 ?_
      refine g_tope (z := nI (s b - 65)) ((hst.2.1 (Or.inr h39)).trans (nI_subn (by omega))) ?_
      refine g_aload_n dX5_happen_49 rfl 0 rfl ?_
      refine s_getM kf_X5_55 (by decide) rfl dX5_happen_50 ?_
      refine g_iload_n dX5_happen_53 rfl 1 rfl ?_
      refine s_ald (q := 49) (n := 60) (at_ia (q := 49) rfl) (by omega) (by decide) dX5_happen_54 ?_
      refine g_tope (z := nI (s (b + 1) - 48)) ((hst.2.2.2.1 h39).trans (nI_subn (by omega))) ?_
      refine g_callV (As := [.int (nI (s b - 65)), .int (nI (s (b + 1) - 48))]) km_X5_218 ky_X5_cross ki_X5_cross (by decide) 33 at_33 rfl rfl (Nat.le_of_ble_eq_true rfl) dX5_happen_55 rfl (c_X5_cross hX ho (by omega) (by omega) hc hb9 (fun {w} e σ2 hf2 hX2 hc2 => ?_) (fun {X2} e σ2 hf2 hX2 hc2 => ?_))
      · exact g_ireturn dX5_happen_58 (Nat.le_refl _) (Nat.le_refl _) (ht ((step_1 X hw h39).trans e) _ hf2 hX2 hc2)
      · exact g_ireturn dX5_happen_58 (Nat.le_refl _) (Nat.le_refl _) (ht0 ((step_1 X hw h39).trans e) _ hf2 hX2 (by rw [h39]; exact hc2))
  · have hkd := kd_0 hw h6
    refine g_aload_n dX5_happen_9 rfl 0 rfl ?_
    refine g_aload_n dX5_happen_10 rfl 0 rfl ?_
    refine s_getM kf_X5_49 (by decide) rfl dX5_happen_11 ?_
    refine g_iload_n dX5_happen_14 rfl 1 rfl ?_
    refine s_ald (q := 47) (n := 60) (at_ia (q := 47) rfl) (by omega) (by decide) dX5_happen_15 ?_
    refine g_tope (z := nI (s b - 65)) ((hst.2.1 (Or.inl h6)).trans (nI_subn (by omega))) ?_
    refine g_aload_n dX5_happen_16 rfl 0 rfl ?_
    refine s_getM kf_X5_52 (by decide) rfl dX5_happen_17 ?_
    refine g_iload_n dX5_happen_20 rfl 1 rfl ?_
    refine s_ald (q := 48) (n := 60) (at_ia (q := 48) rfl) (by omega) (by decide) dX5_happen_21 ?_
    refine g_tope (z := nI (s (b + 1) - 65)) ((hst.2.2.1 h6).1.trans (nI_subn (by omega))) ?_
    refine g_aload_n dX5_happen_22 rfl 0 rfl ?_
    refine s_getM kf_X5_55 (by decide) rfl dX5_happen_23 ?_
    refine g_iload_n dX5_happen_26 rfl 1 rfl ?_
    refine s_ald (q := 49) (n := 60) (at_ia (q := 49) rfl) (by omega) (by decide) dX5_happen_27 ?_
    refine g_tope (z := nI (s (b + 2) - 97)) ((hst.2.2.1 h6).2.trans (nI_subn (by omega))) ?_
    refine g_callV (As := [.int (nI (s b - 65)), .int (nI (s (b + 1) - 65)), .int (nI (s (b + 2) - 97))]) km_X5_215 ky_X5_tell ki_X5_tell (by decide) 33 at_33 rfl rfl (Nat.le_of_ble_eq_true rfl) dX5_happen_28 rfl (c_X5_tell hX ho (by omega) (by omega) (by omega) hc hb9 (fun {w} e σ2 hf2 hX2 hc2 => ?_) (fun {X2} e σ2 hf2 hX2 hc2 => ?_))
    · exact g_ireturn dX5_happen_31 (Nat.le_refl _) (Nat.le_refl _) (ht ((step_0 X hw h6).trans e) _ hf2 hX2 hc2)
    · exact g_ireturn dX5_happen_31 (Nat.le_refl _) (Nat.le_refl _) (ht0 ((step_0 X hw h6).trans e) _ hf2 hX2 (by rw [h6]; exact hc2))
