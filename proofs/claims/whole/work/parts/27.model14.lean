theorem nI_subn {a b : Nat} (h : b ≤ a) : nI a - nI b = nI (a - b) := by
  have e := nI_add (a - b) b
  rw [show a - b + b = a by omega] at e
  rw [← e]
  exact Int32.add_sub_cancel _ _
theorem fd_st {a b' : St} {s : Nat → Nat} {j b : Nat} (h : fd a b') (g : stA a s j b) : stA b' s j b := by
  unfold stA at g ⊢
  rw [h.1 46 (by decide) (by decide) (by decide) (by decide), h.1 47 (by decide) (by decide) (by decide) (by decide), h.1 48 (by decide) (by decide) (by decide) (by decide), h.1 49 (by decide) (by decide) (by decide) (by decide)]
  exact g
set_option maxHeartbeats 4000000 in
set_option maxRecDepth 20000 in
theorem c_X5_happen {l : Launch} {D : gE} {L : Nat → Nat} {σ : St} {Q : Option Value → va_W → Prop} {d : Nat} {X : XT} (hX : rpM σ X) (ho : okX X) {s : Nat → Nat} {k b : Nat} (hk : k < 60) (hst : stA σ s k b) (hw : wfS s b) {t c n : Nat} (hc : ctr σ t c n) (hb9 : t < 1000000 ∧ c < 1000000 ∧ n < 1000000) (ht : ∀ {w : Nat}, stepE s X b = (w + 1, X) → ∀ σ', fd σ σ' → rpM σ' X → ctr σ' t c n → Q (some (.int (nI (w + 1)))) (wsOf D L σ')) (ht0 : ∀ {X' : XT}, stepE s X b = (0, X') → ∀ σ', fd σ σ' → rpM σ' X' → ctr σ' (t + b2n (kdS s b == 0)) (c + b2n (kdS s b == 1)) (n + b2n (kdS s b == 3)) → Q (some (.int (nI 0))) (wsOf D L σ')) : Ctr l D yX5_happen cX5_happen 2 (some .int) (rr (d + 6)) [.ref (L 33), .int (nI k)] (wsOf D L σ) Q := by
  refine g_start ky_X5_happen (Nat.le_of_ble_eq_true rfl) ?_
  refine g_pick [0, 1] (lv' := [(0, .ref (L 33)), (1, .int (nI k))]) rfl ?_
  have hkl := kd_le s b
  refine g_aload_n dX5_happen_0 rfl 0 rfl ?_
  refine s_getM kf_X5_46 (by decide) rfl dX5_happen_1 ?_
  refine g_iload_n dX5_happen_4 rfl 1 rfl ?_
  refine s_ald (q := 46) (n := 60) (at_ia (q := 46) rfl) (by omega) (by decide) dX5_happen_5 ?_
  refine g_tope (z := nI (kdS s b)) (hst.1) ?_
  refine n_ifne 32 dX5_happen_6 (by decide) (by omega) (fun h6 => ?_) (fun h6 => ?_)
  · refine g_aload_n dX5_happen_32 rfl 0 rfl ?_
    refine s_getM kf_X5_46 (by decide) rfl dX5_happen_33 ?_
    refine g_iload_n dX5_happen_36 rfl 1 rfl ?_
    refine s_ald (q := 46) (n := 60) (at_ia (q := 46) rfl) (by omega) (by decide) dX5_happen_37 ?_
    refine g_tope (z := nI (kdS s b)) (hst.1) ?_
    refine g_iconst dX5_happen_38 ci_1 ?_
    refine n_icmpne 59 dX5_happen_39 (by decide) (by omega) (by omega) (fun h39 => ?_) (fun h39 => ?_)
    · refine g_aload_n dX5_happen_59 rfl 0 rfl ?_
      refine s_getM kf_X5_46 (by decide) rfl dX5_happen_60 ?_
      refine g_iload_n dX5_happen_63 rfl 1 rfl ?_
      refine s_ald (q := 46) (n := 60) (at_ia (q := 46) rfl) (by omega) (by decide) dX5_happen_64 ?_
      refine g_tope (z := nI (kdS s b)) (hst.1) ?_
      refine g_iconst dX5_happen_65 ci_2 ?_
      refine n_icmpne 80 dX5_happen_66 (by decide) (by omega) (by omega) (fun h66 => ?_) (fun h66 => ?_)
      · have hk3 : kdS s b = 3 := by have := kd_le s b; omega
        refine g_aload_n dX5_happen_80 rfl 0 rfl ?_
        refine g_callV (As := []) km_X5_224 ky_X5_passNight ki_X5_passNight (by decide) 33 at_33 rfl rfl (Nat.le_of_ble_eq_true rfl) dX5_happen_81 rfl (c_X5_passNight hX ho hc (fun σ2 hf2 hX2 hc2 => ?_))
        obtain ⟨c27, c28, c29⟩ := hc2
        refine g_aload_n dX5_happen_84 rfl 0 rfl ?_
        refine g_dup dX5_happen_85 rfl ?_
        refine s_getM kf_X5_227 (by decide) rfl dX5_happen_86 ?_
        refine g_tope (z := nI n) (c29) ?_
        refine g_iconst dX5_happen_89 ci_1 ?_
        refine g_iadd dX5_happen_90 ?_
        refine g_tope (z := nI (n + 1)) (nI_add _ _) ?_
        refine s_putM kf_X5_227 (by decide) dX5_happen_91 ?_
        refine g_iconst dX5_happen_94 ci_0 ?_
        exact g_ireturn dX5_happen_95 (Nat.le_refl _) (Nat.le_refl _) (ht0 (step_3 X hk3) _ (fd_I hf2 29 (by omega) (nI (n + 1))) (rpM_I hX2 29 (by omega) _) ⟨(sI_ne _ 33 29 27 (by decide) _).trans (c27.trans (by rw [hk3]; rfl)), (sI_ne _ 33 29 28 (by decide) _).trans (c28.trans (by rw [hk3]; rfl)), (sI_same _ _ _ _).trans (by rw [hk3]; rfl)⟩)
      · have hkd := kd_2 hw h66
        refine g_aload_n dX5_happen_69 rfl 0 rfl ?_
        refine g_aload_n dX5_happen_70 rfl 0 rfl ?_
        refine s_getM kf_X5_55 (by decide) rfl dX5_happen_71 ?_
        refine g_iload_n dX5_happen_74 rfl 1 rfl ?_
        refine s_ald (q := 49) (n := 60) (at_ia (q := 49) rfl) (by omega) (by decide) dX5_happen_75 ?_
        refine g_tope (z := nI (s (b + 1) - 97)) ((hst.2.2.2.2 h66).trans (nI_subn (by omega))) ?_
        refine g_callV (As := [.int (nI (s (b + 1) - 97))]) km_X5_221 ky_X5_publish ki_X5_publish (by decide) 33 at_33 rfl rfl (Nat.le_of_ble_eq_true rfl) dX5_happen_76 rfl (c_X5_publish hX ho (by omega) hc hb9 (fun {w} e σ2 hf2 hX2 hc2 => ?_) (fun {X2} e σ2 hf2 hX2 hc2 => ?_))
        · exact g_ireturn dX5_happen_79 (Nat.le_refl _) (Nat.le_refl _) (ht ((step_2 X hw h66).trans e) _ hf2 hX2 hc2)
        · exact g_ireturn dX5_happen_79 (Nat.le_refl _) (Nat.le_refl _) (ht0 ((step_2 X hw h66).trans e) _ hf2 hX2 (by rw [h66]; exact hc2))
    · have hkd := kd_1 hw h39
      refine g_aload_n dX5_happen_42 rfl 0 rfl ?_
      refine g_aload_n dX5_happen_43 rfl 0 rfl ?_
      refine s_getM kf_X5_49 (by decide) rfl dX5_happen_44 ?_
      refine g_iload_n dX5_happen_47 rfl 1 rfl ?_
      refine s_ald (q := 47) (n := 60) (at_ia (q := 47) rfl) (by omega) (by decide) dX5_happen_48 ?_
      refine g_tope (z := nI (s b - 65)) ((hst.2.1 (Or.inr h39)).trans (nI_subn (by omega))) ?_
      refine g_aload_n dX5_happen_49 rfl 0 rfl ?_
      refine s_getM kf_X5_55 (by decide) rfl dX5_happen_50 ?_
      refine g_iload_n dX5_happen_53 rfl 1 rfl ?_
      refine s_ald (q := 49) (n := 60) (at_ia (q := 49) rfl) (by omega) (by decide) dX5_happen_54 ?_
      refine g_tope (z := nI (s (b + 1) - 48)) ((hst.2.2.2.1 h39).trans (nI_subn (by omega))) ?_
      refine g_callV (As := [.int (nI (s b - 65)), .int (nI (s (b + 1) - 48))]) km_X5_218 ky_X5_cross ki_X5_cross (by decide) 33 at_33 rfl rfl (Nat.le_of_ble_eq_true rfl) dX5_happen_55 rfl (c_X5_cross hX ho (by omega) (by omega) hc hb9 (fun {w} e σ2 hf2 hX2 hc2 => ?_) (fun {X2} e σ2 hf2 hX2 hc2 => ?_))
      · exact g_ireturn dX5_happen_58 (Nat.le_refl _) (Nat.le_refl _) (ht ((step_1 X hw h39).trans e) _ hf2 hX2 hc2)
      · exact g_ireturn dX5_happen_58 (Nat.le_refl _) (Nat.le_refl _) (ht0 ((step_1 X hw h39).trans e) _ hf2 hX2 (by rw [h39]; exact hc2))
  · have hkd := kd_0 hw h6
    refine g_aload_n dX5_happen_9 rfl 0 rfl ?_
    refine g_aload_n dX5_happen_10 rfl 0 rfl ?_
    refine s_getM kf_X5_49 (by decide) rfl dX5_happen_11 ?_
    refine g_iload_n dX5_happen_14 rfl 1 rfl ?_
    refine s_ald (q := 47) (n := 60) (at_ia (q := 47) rfl) (by omega) (by decide) dX5_happen_15 ?_
    refine g_tope (z := nI (s b - 65)) ((hst.2.1 (Or.inl h6)).trans (nI_subn (by omega))) ?_
    refine g_aload_n dX5_happen_16 rfl 0 rfl ?_
    refine s_getM kf_X5_52 (by decide) rfl dX5_happen_17 ?_
    refine g_iload_n dX5_happen_20 rfl 1 rfl ?_
    refine s_ald (q := 48) (n := 60) (at_ia (q := 48) rfl) (by omega) (by decide) dX5_happen_21 ?_
    refine g_tope (z := nI (s (b + 1) - 65)) ((hst.2.2.1 h6).1.trans (nI_subn (by omega))) ?_
    refine g_aload_n dX5_happen_22 rfl 0 rfl ?_
    refine s_getM kf_X5_55 (by decide) rfl dX5_happen_23 ?_
    refine g_iload_n dX5_happen_26 rfl 1 rfl ?_
    refine s_ald (q := 49) (n := 60) (at_ia (q := 49) rfl) (by omega) (by decide) dX5_happen_27 ?_
    refine g_tope (z := nI (s (b + 2) - 97)) ((hst.2.2.1 h6).2.trans (nI_subn (by omega))) ?_
    refine g_callV (As := [.int (nI (s b - 65)), .int (nI (s (b + 1) - 65)), .int (nI (s (b + 2) - 97))]) km_X5_215 ky_X5_tell ki_X5_tell (by decide) 33 at_33 rfl rfl (Nat.le_of_ble_eq_true rfl) dX5_happen_28 rfl (c_X5_tell hX ho (by omega) (by omega) (by omega) hc hb9 (fun {w} e σ2 hf2 hX2 hc2 => ?_) (fun {X2} e σ2 hf2 hX2 hc2 => ?_))
    · exact g_ireturn dX5_happen_31 (Nat.le_refl _) (Nat.le_refl _) (ht ((step_0 X hw h6).trans e) _ hf2 hX2 hc2)
    · exact g_ireturn dX5_happen_31 (Nat.le_refl _) (Nat.le_refl _) (ht0 ((step_0 X hw h6).trans e) _ hf2 hX2 (by rw [h6]; exact hc2))
theorem step_le {s : Nat → Nat} {X : XT} {b : Nat} : (stepE s X b).1 ≤ 8 := by
  unfold stepE
  split
  · exact Nat.zero_le _
  split
  · unfold pubE; split <;> exact Nat.le_of_ble_eq_true rfl
  split
  · unfold tellE; repeat' (first | exact Nat.le_of_ble_eq_true rfl | split)
  · unfold crossE; repeat' (first | exact Nat.le_of_ble_eq_true rfl | split)
def fg (σ σ' : St) : Prop := (∀ q, q ≠ 37 → q ≠ 38 → q ≠ 40 → q ≠ 41 → sA σ' q = sA σ q) ∧ (∀ o, o ≠ 33 → sI σ' o = sI σ o) ∧ (∀ k, k ≠ 3 → k < 25 ∨ 29 < k → sI σ' 33 k = sI σ 33 k) ∧ sK σ' = sK σ ∧ sM σ' = sM σ
theorem fg_rfl {σ : St} : fg σ σ := ⟨fun _ _ _ _ _ => rfl, fun _ _ => rfl, fun _ _ _ => rfl, rfl, rfl⟩
theorem fg_trans {a b c : St} (h : fg a b) (g : fg b c) : fg a c := ⟨fun q h1 h2 h3 h4 => (g.1 q h1 h2 h3 h4).trans (h.1 q h1 h2 h3 h4), fun o ho => (g.2.1 o ho).trans (h.2.1 o ho), fun k h1 h2 => (g.2.2.1 k h1 h2).trans (h.2.2.1 k h1 h2), g.2.2.2.1.trans h.2.2.2.1, g.2.2.2.2.trans h.2.2.2.2⟩
theorem fd_fg {a b : St} (h : fd a b) : fg a b := ⟨h.1, h.2.1, fun k h1 h2 => h.2.2.1 k h1 (by omega) (by omega) (by omega), h.2.2.2.1, h.2.2.2.2⟩
theorem fg_I {a b : St} (h : fg a b) (k : Nat) (hk : 25 ≤ k ∧ k ≤ 29) (x : Int32) : fg a (setI b 33 k x) := fg_trans h ⟨fun _ _ _ _ _ => rfl, fun o ho => if_neg ho, fun j h1 h2 => sI_ne b 33 k j (by omega) x, rfl, rfl⟩
theorem fg_fr {a b : St} (h : fg a b) : fr a b := ⟨h.2.1, fun q hq => h.1 q (by omega) (by omega) (by omega) (by omega), h.2.2.1 18 (by omega) (by omega), h.2.2.2.1, h.2.2.2.2⟩
theorem fg_kpt {σ0 a b : St} (h : fg a b) (hk : kpt σ0 a) : kpt σ0 b := by
  refine ⟨fun p hp => ?_, fun k hq => ?_, ?_⟩
  · rw [h.1 50 (by omega) (by omega) (by omega) (by omega), h.1 51 (by omega) (by omega) (by omega) (by omega)]; exact hk.1 p hp
  · rw [h.1 52 (by omega) (by omega) (by omega) (by omega), h.1 53 (by omega) (by omega) (by omega) (by omega)]; exact hk.2.1 k hq
  · rw [h.2.2.1 34 (by omega) (by omega)]; exact hk.2.2
theorem fg_st {a b' : St} {s : Nat → Nat} {j b : Nat} (h : fg a b') (g : stA a s j b) : stA b' s j b := by
  unfold stA at g ⊢
  rw [h.1 46 (by decide) (by decide) (by decide) (by decide), h.1 47 (by decide) (by decide) (by decide) (by decide), h.1 48 (by decide) (by decide) (by decide) (by decide), h.1 49 (by decide) (by decide) (by decide) (by decide)]
  exact g
theorem gd_none {s : Nat → Nat} {X : XT} {m : Nat} (h : ∀ j, j < m → wyS s X j = 0) : gdS s X m = m := firstN_none (fun j hj => by simp [h j hj])
theorem gd_bad {s : Nat → Nat} {X : XT} {m k : Nat} (hk : k < m) (h1 : wyS s X k ≠ 0) (h : ∀ j, j < k → wyS s X j = 0) : gdS s X m = k := firstN_is hk (by simp [h1]) (fun j hj => by simp [h j hj])
/-- what stands behind a DAY of m STEPS -/
def dyR (σ' : St) (s : Nat → Nat) (X : XT) (m : Nat) : Prop := rpM σ' (dyS s X (gdS s X m)) ∧ ctr σ' (kcS s 0 (gdS s X m)) (kcS s 1 (gdS s X m)) (kcS s 3 (gdS s X m)) ∧ sI σ' 33 25 = (if gdS s X m < m then nI (gdS s X m) else -6) ∧ sI σ' 33 26 = (if gdS s X m < m then nI (wyS s X (gdS s X m)) else -6)
theorem dyR_none {σ' : St} {s : Nat → Nat} {X : XT} {m : Nat} (h : ∀ j, j < m → wyS s X j = 0) (hX : rpM σ' (dyS s X m)) (hc : ctr σ' (kcS s 0 m) (kcS s 1 m) (kcS s 3 m)) (h25 : sI σ' 33 25 = -6) (h26 : sI σ' 33 26 = -6) : dyR σ' s X m := by
  unfold dyR
  rw [gd_none h, if_neg (Nat.lt_irrefl _), if_neg (Nat.lt_irrefl _)]
  exact ⟨hX, hc, h25, h26⟩
theorem dyR_bad {σ' : St} {s : Nat → Nat} {X : XT} {m k : Nat} (hk : k < m) (h1 : wyS s X k ≠ 0) (h : ∀ j, j < k → wyS s X j = 0) (hX : rpM σ' (dyS s X k)) (hc : ctr σ' (kcS s 0 k) (kcS s 1 k) (kcS s 3 k)) (h25 : sI σ' 33 25 = nI k) (h26 : sI σ' 33 26 = nI (wyS s X k)) : dyR σ' s X m := by
  unfold dyR
  rw [gd_bad hk h1 h, if_pos hk, if_pos hk]
  exact ⟨hX, hc, h25, h26⟩
set_option maxHeartbeats 4000000 in
set_option maxRecDepth 20000 in
theorem bd_X5_goDay {l : Launch} {D : gE} {L : Nat → Nat} {σ : St} {Q : Option Value → va_W → Prop} {d : Nat} {k m : Nat} (h23 : sI σ 33 23 = nI m) (hm : m ≤ 60) (hk : k < m) (h25 : sI σ 33 25 = nI k) (h : Q none (wsOf D L σ)) : G l D yX5_goDay cX5_goDay 3 none (rr (d + 7)) Q 0 0 29 [(1, .int (nI (k + 1))), (0, .ref (L 33))] [] (wsOf D L σ) := by
  refine g_iload_n dX5_goDay_29 rfl 0 rfl ?_
  refine g_aload_n dX5_goDay_30 rfl 1 rfl ?_
  refine s_getM kf_X5_170 (by decide) rfl dX5_goDay_31 ?_
  refine g_tope (z := nI m) (h23) ?_
  refine n_icmpge 84 dX5_goDay_34 (by decide) (by omega) (by omega) (fun h34 => ?_) (fun h34 => ?_)
  · exact g_return dX5_goDay_84 (Nat.le_refl _) (Nat.le_refl _) (h)
  · refine g_aload_n dX5_goDay_37 rfl 1 rfl ?_
    refine s_getM kf_X5_233 (by decide) rfl dX5_goDay_38 ?_
    refine g_tope (z := nI k) (h25) ?_
    refine n_ifge 84 dX5_goDay_41 (by decide) (by omega) ?_
    exact g_return dX5_goDay_84 (Nat.le_refl _) (Nat.le_refl _) (h)
set_option maxHeartbeats 4000000 in
set_option maxRecDepth 20000 in
theorem lp_X5_goDay {l : Launch} {D : gE} {L : Nat → Nat} {σ : St} {Q : Option Value → va_W → Prop} {d : Nat} {X : XT} (ho : okX X) {s : Nat → Nat} {m : Nat} (h23 : sI σ 33 23 = nI m) (hm : m ≤ 60) (hst : ∀ j, j < m → stA σ s j (psS s j)) (hwf : ∀ j, j < m → wfS s (psS s j)) (h : ∀ σ', fg σ σ' → dyR σ' s X m → Q none (wsOf D L σ')) : ∀ n k, k + n = m → ∀ σ', fg σ σ' → rpM σ' (dyS s X k) → ctr σ' (kcS s 0 k) (kcS s 1 k) (kcS s 3 k) → sI σ' 33 25 = -6 → sI σ' 33 26 = -6 → (∀ j, j < k → wyS s X j = 0) → G l D yX5_goDay cX5_goDay 3 none (rr (d + 7)) Q 0 0 29 [(1, .int (nI k)), (0, .ref (L 33))] [] (wsOf D L σ') := by
  intro n
  induction n with
  | zero =>
    intro k hct σ' hfg hX hc b25 b26 hno
    obtain rfl : k = m := by omega
    obtain ⟨c27, c28, c29⟩ := hc
    refine g_iload_n dX5_goDay_29 rfl 0 rfl ?_
    refine g_aload_n dX5_goDay_30 rfl 1 rfl ?_
    refine s_getM kf_X5_170 (by decide) rfl dX5_goDay_31 ?_
    refine g_tope (z := nI k) ((hfg.2.2.1 23 (by decide) (by decide)).trans h23) ?_
    refine n_icmpge 84 dX5_goDay_34 (by decide) (by omega) (by omega) (fun h34 => ?_) (fun h34 => absurd h34 (by omega))
    exact g_return dX5_goDay_84 (Nat.le_refl _) (Nat.le_refl _) (h _ hfg (dyR_none hno hX ⟨c27, c28, c29⟩ b25 b26))
  | succ n ih =>
    intro k hct σ' hfg hX hc b25 b26 hno
    obtain ⟨c27, c28, c29⟩ := hc
    refine g_iload_n dX5_goDay_29 rfl 0 rfl ?_
    refine g_aload_n dX5_goDay_30 rfl 1 rfl ?_
    refine s_getM kf_X5_170 (by decide) rfl dX5_goDay_31 ?_
    refine g_tope (z := nI m) ((hfg.2.2.1 23 (by decide) (by decide)).trans h23) ?_
    refine n_icmpge 84 dX5_goDay_34 (by decide) (by omega) (by omega) (fun h34 => absurd h34 (by omega)) (fun h34 => ?_)
    refine g_aload_n dX5_goDay_37 rfl 1 rfl ?_
    refine s_getM kf_X5_233 (by decide) rfl dX5_goDay_38 ?_
    refine g_tope (z := (-6)) (b25) ?_
    refine g_ifge 84 dX5_goDay_41 (by decide) (fun h41 => absurd h41 (by decide +kernel)) (fun h41 => ?_)
    refine g_aload_n dX5_goDay_44 rfl 1 rfl ?_
    refine g_iload_n dX5_goDay_45 rfl 0 rfl ?_
    refine g_callV (As := [.int (nI k)]) km_X5_239 ky_X5_happen ki_X5_happen (by decide) 33 at_33 rfl rfl (Nat.le_of_ble_eq_true rfl) dX5_goDay_46 rfl (c_X5_happen hX (dy_ok hwf ho k (by omega)) (by omega) (fg_st hfg (hst k (by omega))) (hwf k (by omega)) ⟨c27, c28, c29⟩ (by have := kcS_le s 0 k; have := kcS_le s 1 k; have := kcS_le s 3 k; omega) (fun {w} e σ2 hf2 hX2 hc2 => ?_) (fun {X2} e σ2 hf2 hX2 hc2 => ?_))
    · have hw8 : w + 1 ≤ 8 := by have h8 := step_le (s := s) (X := dyS s X k) (b := psS s k); rw [e] at h8; exact h8
      have hwk : wyS s X k = w + 1 := by unfold wyS; rw [e]
      have hfg := fg_trans hfg (fd_fg hf2)
      have b25 := (hf2.2.2.1 25 (by decide) (by decide) (by decide) (by decide)).trans b25
      have b26 := (hf2.2.2.1 26 (by decide) (by decide) (by decide) (by decide)).trans b26
      obtain ⟨c27, c28, c29⟩ := hc2
      have hX := hX2
      refine g_istore_n (lv' := [(2, .int (nI (w + 1))), (1, .int (nI k)), (0, .ref (L 33))]) dX5_goDay_49 rfl (by decide) rfl ?_
      refine g_aload_n dX5_goDay_50 rfl 2 rfl ?_
      refine g_iload_n dX5_goDay_51 rfl 0 rfl ?_
      refine n_ifle 59 dX5_goDay_52 (by decide) (by omega) (fun h52 => absurd h52 (by omega)) (fun h52 => ?_)
      refine g_iload_n dX5_goDay_55 rfl 1 rfl ?_
      refine g_goto 61 dX5_goDay_56 (by decide) ?_
      refine s_putM kf_X5_233 (by decide) dX5_goDay_61 ?_
      have hX := rpM_I hX 25 (by omega) (nI k)
      have hfg := fg_I hfg 25 (by omega) (nI k)
      have b25 : sI (setI σ2 33 25 (nI k)) 33 25 = nI k := sI_same _ _ _ _
      have b26 := (sI_ne σ2 33 25 26 (by decide) (nI k)).trans b26
      have c27 := (sI_ne σ2 33 25 27 (by decide) (nI k)).trans c27
      have c28 := (sI_ne σ2 33 25 28 (by decide) (nI k)).trans c28
      have c29 := (sI_ne σ2 33 25 29 (by decide) (nI k)).trans c29
      generalize setI σ2 33 25 (nI k) = σw80 at hX hfg b25 b26 c27 c28 c29 ⊢
      refine g_aload_n dX5_goDay_64 rfl 2 rfl ?_
      refine g_iload_n dX5_goDay_65 rfl 0 rfl ?_
      refine n_ifle 73 dX5_goDay_66 (by decide) (by omega) (fun h66 => absurd h66 (by omega)) (fun h66 => ?_)
      refine g_iload_n dX5_goDay_69 rfl 0 rfl ?_
      refine g_goto 75 dX5_goDay_70 (by decide) ?_
      refine s_putM kf_X5_236 (by decide) dX5_goDay_75 ?_
      have hX := rpM_I hX 26 (by omega) (nI (w + 1))
      have hfg := fg_I hfg 26 (by omega) (nI (w + 1))
      have b25 := (sI_ne σw80 33 26 25 (by decide) (nI (w + 1))).trans b25
      have b26 : sI (setI σw80 33 26 (nI (w + 1))) 33 26 = nI (w + 1) := sI_same _ _ _ _
      have c27 := (sI_ne σw80 33 26 27 (by decide) (nI (w + 1))).trans c27
      have c28 := (sI_ne σw80 33 26 28 (by decide) (nI (w + 1))).trans c28
      have c29 := (sI_ne σw80 33 26 29 (by decide) (nI (w + 1))).trans c29
      generalize setI σw80 33 26 (nI (w + 1)) = σw81 at hX hfg b25 b26 c27 c28 c29 ⊢
      refine g_iinc (v := nI (k + 1)) (lv' := [(1, .int (nI (k + 1))), (2, .int (nI (w + 1))), (0, .ref (L 33))]) dX5_goDay_78 1 rfl (inc_n _) (by decide) rfl ?_
      refine g_goto 29 dX5_goDay_81 (by decide) ?_
      refine g_pick [0, 2] (lv' := [(1, .int (nI (k + 1))), (0, .ref (L 33))]) rfl ?_
      exact bd_X5_goDay ((hfg.2.2.1 23 (by decide) (by decide)).trans h23) hm (by omega) b25 (h _ hfg (dyR_bad (by omega) (by omega) hno hX ⟨c27, c28, c29⟩ b25 (b26.trans (by rw [hwk]))))
    · have hwk : wyS s X k = 0 := by unfold wyS; rw [e]
      have e2 : X2 = dyS s X (k + 1) := by show _ = (stepE s (dyS s X k) (psS s k)).2; rw [e]
      subst e2
      have hfg := fg_trans hfg (fd_fg hf2)
      have b25 := (hf2.2.2.1 25 (by decide) (by decide) (by decide) (by decide)).trans b25
      have b26 := (hf2.2.2.1 26 (by decide) (by decide) (by decide) (by decide)).trans b26
      obtain ⟨c27, c28, c29⟩ := hc2
      have hX := hX2
      refine g_istore_n (lv' := [(2, .int (nI 0)), (1, .int (nI k)), (0, .ref (L 33))]) dX5_goDay_49 rfl (by decide) rfl ?_
      refine g_aload_n dX5_goDay_50 rfl 2 rfl ?_
      refine g_iload_n dX5_goDay_51 rfl 0 rfl ?_
      refine n_ifle 59 dX5_goDay_52 (by decide) (by omega) (fun h52 => ?_) (fun h52 => absurd h52 (by omega))
      refine g_bipush dX5_goDay_59 bp_m6 ?_
      refine s_putM kf_X5_233 (by decide) dX5_goDay_61 ?_
      have hX := rpM_I hX 25 (by omega) (-6)
      have hfg := fg_I hfg 25 (by omega) (-6)
      have b25 : sI (setI σ2 33 25 (-6)) 33 25 = (-6) := sI_same _ _ _ _
      have b26 := (sI_ne σ2 33 25 26 (by decide) (-6)).trans b26
      have c27 := (sI_ne σ2 33 25 27 (by decide) (-6)).trans c27
      have c28 := (sI_ne σ2 33 25 28 (by decide) (-6)).trans c28
      have c29 := (sI_ne σ2 33 25 29 (by decide) (-6)).trans c29
      generalize setI σ2 33 25 (-6) = σw82 at hX hfg b25 b26 c27 c28 c29 ⊢
      refine g_aload_n dX5_goDay_64 rfl 2 rfl ?_
      refine g_iload_n dX5_goDay_65 rfl 0 rfl ?_
      refine n_ifle 73 dX5_goDay_66 (by decide) (by omega) (fun h66 => ?_) (fun h66 => absurd h66 (by omega))
      refine g_bipush dX5_goDay_73 bp_m6 ?_
      refine s_putM kf_X5_236 (by decide) dX5_goDay_75 ?_
      have hX := rpM_I hX 26 (by omega) (-6)
      have hfg := fg_I hfg 26 (by omega) (-6)
      have b25 := (sI_ne σw82 33 26 25 (by decide) (-6)).trans b25
      have b26 : sI (setI σw82 33 26 (-6)) 33 26 = (-6) := sI_same _ _ _ _
      have c27 := (sI_ne σw82 33 26 27 (by decide) (-6)).trans c27
      have c28 := (sI_ne σw82 33 26 28 (by decide) (-6)).trans c28
      have c29 := (sI_ne σw82 33 26 29 (by decide) (-6)).trans c29
      generalize setI σw82 33 26 (-6) = σw83 at hX hfg b25 b26 c27 c28 c29 ⊢
      refine g_iinc (v := nI (k + 1)) (lv' := [(1, .int (nI (k + 1))), (2, .int (nI 0)), (0, .ref (L 33))]) dX5_goDay_78 1 rfl (inc_n _) (by decide) rfl ?_
      refine g_goto 29 dX5_goDay_81 (by decide) ?_
      refine g_pick [0, 2] (lv' := [(1, .int (nI (k + 1))), (0, .ref (L 33))]) rfl ?_
      exact ih (k + 1) (by omega) _ hfg hX ⟨c27, c28, c29⟩ b25 b26 (fun j hj => by by_cases e3 : j = k; rw [e3]; exact hwk; exact hno j (by omega))
set_option maxHeartbeats 4000000 in
set_option maxRecDepth 20000 in
theorem c_X5_goDay {l : Launch} {D : gE} {L : Nat → Nat} {σ : St} {Q : Option Value → va_W → Prop} {d : Nat} {X : XT} (hX : rpM σ X) (ho : okX X) {s : Nat → Nat} {m : Nat} (h23 : sI σ 33 23 = nI m) (hm : m ≤ 60) (hst : ∀ j, j < m → stA σ s j (psS s j)) (hwf : ∀ j, j < m → wfS s (psS s j)) (h : ∀ σ', fg σ σ' → dyR σ' s X m → Q none (wsOf D L σ')) : Ctr l D yX5_goDay cX5_goDay 3 none (rr (d + 7)) [.ref (L 33)] (wsOf D L σ) Q := by
  refine g_start ky_X5_goDay (Nat.le_of_ble_eq_true rfl) ?_
  refine g_pick [0] (lv' := [(0, .ref (L 33))]) rfl ?_
  have hfg : fg σ σ := fg_rfl
  have b25 : sI σ 33 25 = sI σ 33 25 := rfl
  have b26 : sI σ 33 26 = sI σ 33 26 := rfl
  have c27 : sI σ 33 27 = sI σ 33 27 := rfl
  have c28 : sI σ 33 28 = sI σ 33 28 := rfl
  have c29 : sI σ 33 29 = sI σ 33 29 := rfl
  refine g_aload_n dX5_goDay_0 rfl 0 rfl ?_
  refine g_bipush dX5_goDay_1 bp_m6 ?_
  refine s_putM kf_X5_233 (by decide) dX5_goDay_3 ?_
  have hX := rpM_I hX 25 (by omega) (-6)
  have hfg := fg_I hfg 25 (by omega) (-6)
  have b25 : sI (setI σ 33 25 (-6)) 33 25 = (-6) := sI_same _ _ _ _
  have b26 := (sI_ne σ 33 25 26 (by decide) (-6)).trans b26
  have c27 := (sI_ne σ 33 25 27 (by decide) (-6)).trans c27
  have c28 := (sI_ne σ 33 25 28 (by decide) (-6)).trans c28
  have c29 := (sI_ne σ 33 25 29 (by decide) (-6)).trans c29
  generalize setI σ 33 25 (-6) = σw84 at hX hfg b25 b26 c27 c28 c29 ⊢
  refine g_aload_n dX5_goDay_6 rfl 0 rfl ?_
  refine g_bipush dX5_goDay_7 bp_m6 ?_
  refine s_putM kf_X5_236 (by decide) dX5_goDay_9 ?_
  have hX := rpM_I hX 26 (by omega) (-6)
  have hfg := fg_I hfg 26 (by omega) (-6)
  have b25 := (sI_ne σw84 33 26 25 (by decide) (-6)).trans b25
  have b26 : sI (setI σw84 33 26 (-6)) 33 26 = (-6) := sI_same _ _ _ _
  have c27 := (sI_ne σw84 33 26 27 (by decide) (-6)).trans c27
  have c28 := (sI_ne σw84 33 26 28 (by decide) (-6)).trans c28
  have c29 := (sI_ne σw84 33 26 29 (by decide) (-6)).trans c29
  generalize setI σw84 33 26 (-6) = σw85 at hX hfg b25 b26 c27 c28 c29 ⊢
  refine g_aload_n dX5_goDay_12 rfl 0 rfl ?_
  refine g_iconst dX5_goDay_13 ci_0 ?_
  refine s_putM kf_X5_209 (by decide) dX5_goDay_14 ?_
  have hX := rpM_I hX 27 (by omega) (nI 0)
  have hfg := fg_I hfg 27 (by omega) (nI 0)
  have b25 := (sI_ne σw85 33 27 25 (by decide) (nI 0)).trans b25
  have b26 := (sI_ne σw85 33 27 26 (by decide) (nI 0)).trans b26
  have c27 : sI (setI σw85 33 27 (nI 0)) 33 27 = nI 0 := sI_same _ _ _ _
  have c28 := (sI_ne σw85 33 27 28 (by decide) (nI 0)).trans c28
  have c29 := (sI_ne σw85 33 27 29 (by decide) (nI 0)).trans c29
  generalize setI σw85 33 27 (nI 0) = σw86 at hX hfg b25 b26 c27 c28 c29 ⊢
  refine g_aload_n dX5_goDay_17 rfl 0 rfl ?_
  refine g_iconst dX5_goDay_18 ci_0 ?_
  refine s_putM kf_X5_212 (by decide) dX5_goDay_19 ?_
  have hX := rpM_I hX 28 (by omega) (nI 0)
  have hfg := fg_I hfg 28 (by omega) (nI 0)
  have b25 := (sI_ne σw86 33 28 25 (by decide) (nI 0)).trans b25
  have b26 := (sI_ne σw86 33 28 26 (by decide) (nI 0)).trans b26
  have c27 := (sI_ne σw86 33 28 27 (by decide) (nI 0)).trans c27
  have c28 : sI (setI σw86 33 28 (nI 0)) 33 28 = nI 0 := sI_same _ _ _ _
  have c29 := (sI_ne σw86 33 28 29 (by decide) (nI 0)).trans c29
  generalize setI σw86 33 28 (nI 0) = σw87 at hX hfg b25 b26 c27 c28 c29 ⊢
  refine g_aload_n dX5_goDay_22 rfl 0 rfl ?_
  refine g_iconst dX5_goDay_23 ci_0 ?_
  refine s_putM kf_X5_227 (by decide) dX5_goDay_24 ?_
  have hX := rpM_I hX 29 (by omega) (nI 0)
  have hfg := fg_I hfg 29 (by omega) (nI 0)
  have b25 := (sI_ne σw87 33 29 25 (by decide) (nI 0)).trans b25
  have b26 := (sI_ne σw87 33 29 26 (by decide) (nI 0)).trans b26
  have c27 := (sI_ne σw87 33 29 27 (by decide) (nI 0)).trans c27
  have c28 := (sI_ne σw87 33 29 28 (by decide) (nI 0)).trans c28
  have c29 : sI (setI σw87 33 29 (nI 0)) 33 29 = nI 0 := sI_same _ _ _ _
  generalize setI σw87 33 29 (nI 0) = σw88 at hX hfg b25 b26 c27 c28 c29 ⊢
  refine g_iconst dX5_goDay_27 ci_0 ?_
  refine g_istore_n (lv' := [(1, .int (nI 0)), (0, .ref (L 33))]) dX5_goDay_28 rfl (by decide) rfl ?_
  refine g_pick [0, 1] (lv' := [(1, .int (nI 0)), (0, .ref (L 33))]) rfl ?_
  exact lp_X5_goDay ho h23 hm hst hwf h m 0 (by omega) _ hfg hX ⟨c27, c28, c29⟩ b25 b26 (fun j hj => absurd hj (by omega))
