/-! the PAD and the DAY of the class -/
def padC (σ : St) (s : Nat → Nat) (n : Nat) : Prop := sI σ 26 1 = nI n ∧ n ≤ 60 ∧ (∀ i, i < n → sA σ 27 i = nI (s i)) ∧ ∀ i, i < n → s i < 127
set_option maxHeartbeats 4000000 in
set_option maxRecDepth 20000 in
theorem c_X2_signAt {l : Launch} {D : gE} {L : Nat → Nat} {σ : St} {Q : Option Value → va_W → Prop} {d : Nat} {s : Nat → Nat} {n : Nat} (hp : padC σ s n) {p : Nat} (hq : p < 2 ^ 31) (ht : p < n → Q (some (.int (nI (s p)))) (wsOf D L σ)) (hf : ¬ p < n → Q (some (.int (nI 0))) (wsOf D L σ)) : Ctr l D yX2_signAt cX2_signAt 2 (some .int) (rr (d + 1)) [.ref (L 26), .int (nI p)] (wsOf D L σ) Q := by
  refine g_start ky_X2_signAt (Nat.le_of_ble_eq_true rfl) ?_
  refine g_pick [0, 1] (lv' := [(0, .ref (L 26)), (1, .int (nI p))]) rfl ?_
  have hn60 := hp.2.1
  refine g_iload_n dX2_signAt_0 rfl 1 rfl ?_
  refine g_iconst dX2_signAt_1 ci_0 ?_
  refine g_aload_n dX2_signAt_2 rfl 0 rfl ?_
  refine g_get kf_X2_15 kC_X2 (by decide) 26 at_26 rfl dX2_signAt_3 ?_
  refine g_tope (z := nI n) (hp.1) ?_
  refine g_iconst dX2_signAt_6 ci_1 ?_
  refine g_isub dX2_signAt_7 ?_
  refine g_tope (z := nI n - nI 1) (rfl) ?_
  refine g_callN2 (C := RX2) (As := [.int (nI p), .int (nI 0), .int (nI n - nI 1)]) rfl kn_X2_19 ky_X4_within ks_X4_within (by decide) rfl (Nat.le_of_ble_eq_true rfl) dX2_signAt_8 rfl (c_X4_withinS (by omega) (fun p8 hp8 he8 => ?_) (fun h8 => ?_))
  · have he8 := (nI_eq (by omega) (by omega)).mp he8
    refine t_ifeq1 (tgt := 23) dX2_signAt_11 (by decide) ?_
    refine g_aload_n dX2_signAt_14 rfl 0 rfl ?_
    refine g_get kf_X2_9 kC_X2 (by decide) 26 at_26 rfl dX2_signAt_15 ?_
    refine g_iload_n dX2_signAt_18 rfl 1 rfl ?_
    refine s_ald (q := 27) (n := 60) (at_ia (q := 27) rfl) (by omega) (by decide) dX2_signAt_19 ?_
    refine g_tope (z := nI (s p)) (hp.2.2.1 _ (by omega)) ?_
    refine g_goto 24 dX2_signAt_20 (by decide) ?_
    exact g_ireturn dX2_signAt_24 (Nat.le_refl _) (Nat.le_refl _) (ht (by omega))
  · refine t_ifeq0 23 dX2_signAt_11 (by decide) ?_
    refine g_iconst dX2_signAt_23 ci_0 ?_
    exact g_ireturn dX2_signAt_24 (Nat.le_refl _) (Nat.le_refl _) (hf (fun q => h8 p q rfl))
set_option maxHeartbeats 4000000 in
set_option maxRecDepth 20000 in
theorem c_X2_isPersonSign {l : Launch} {D : gE} {L : Nat → Nat} {σ : St} {Q : Option Value → va_W → Prop} {d : Nat} {c : Nat} (hc : c < 2 ^ 31) (ht : 65 ≤ c ∧ c ≤ 70 → Q (some (.int (nI 1))) (wsOf D L σ)) (hf : ¬ (65 ≤ c ∧ c ≤ 70) → Q (some (.int (nI 0))) (wsOf D L σ)) : Ctr l D yX2_isPersonSign cX2_isPersonSign 1 (some .boolean) (rr (d + 1)) [.int (nI c)] (wsOf D L σ) Q := by
  refine g_start ky_X2_isPersonSign (Nat.le_of_ble_eq_true rfl) ?_
  refine g_pick [0] (lv' := [(0, .int (nI c))]) rfl ?_
  refine g_iload_n dX2_isPersonSign_0 rfl 0 rfl ?_
  refine g_bipush dX2_isPersonSign_1 bp_65 ?_
  refine g_bipush dX2_isPersonSign_3 bp_70 ?_
  refine g_callN2 (C := RX2) (As := [.int (nI c), .int (nI 65), .int (nI 70)]) rfl kn_X2_19 ky_X4_within ks_X4_within (by decide) rfl (Nat.le_of_ble_eq_true rfl) dX2_isPersonSign_5 rfl (c_X4_withinN (by omega) (by omega) (fun p5 ha5 hb5 he5 => ?_) (fun h5 => ?_))
  · have he5 := (nI_eq (by omega) (by omega)).mp he5
    exact g_zreturn dX2_isPersonSign_8 (Nat.le_refl _) (Nat.le_refl _) (Or.inr rfl) (ht (by omega))
  · exact g_zreturn dX2_isPersonSign_8 (Nat.le_refl _) (Nat.le_refl _) (Or.inl rfl) (hf (fun q => h5 c q.1 q.2 rfl))
set_option maxHeartbeats 4000000 in
set_option maxRecDepth 20000 in
theorem c_X2_readOn {l : Launch} {D : gE} {L : Nat → Nat} {σ : St} {Q : Option Value → va_W → Prop} {d : Nat} {r c : Nat} (hr : r < 4) (hc : c < 2 ^ 31) (h : Q (some (.int (nI (nxS r c)))) (wsOf D L σ)) : Ctr l D yX2_readOn cX2_readOn 2 (some .int) (rr (d + 2)) [.int (nI r), .int (nI c)] (wsOf D L σ) Q := by
  refine g_start ky_X2_readOn (Nat.le_of_ble_eq_true rfl) ?_
  refine g_pick [0, 1] (lv' := [(0, .int (nI r)), (1, .int (nI c))]) rfl ?_
  refine g_iload_n dX2_readOn_0 rfl 0 rfl ?_
  rcases (show r = 0 ∨ r = 1 ∨ r = 2 ∨ r = 3 by omega) with rfl | rfl | rfl | rfl
  · refine g_lookup (off := 27) 28 dX2_readOn_1 (by decide) (by decide +kernel) (by decide) ?_
    refine g_iload_n dX2_readOn_28 rfl 1 rfl ?_
    refine g_callS (As := [.int (nI c)]) km_X2_31 ky_X2_isPersonSign ks_X2_isPersonSign (by decide) rfl (Nat.le_of_ble_eq_true rfl) dX2_readOn_29 rfl (c_X2_isPersonSign (by omega) (fun h29 => ?_) (fun h29 => ?_))
    · refine t_ifeq1 (tgt := 37) dX2_readOn_32 (by decide) ?_
      refine g_iconst dX2_readOn_35 ci_1 ?_
      exact g_ireturn dX2_readOn_36 (Nat.le_refl _) (Nat.le_refl _) (qi (by unfold nxS; rw [if_pos rfl, if_pos h29]) h)
    · refine t_ifeq0 37 dX2_readOn_32 (by decide) ?_
      refine g_iload_n dX2_readOn_37 rfl 1 rfl ?_
      refine g_bipush dX2_readOn_38 bp_33 ?_
      refine n_icmpne 47 dX2_readOn_40 (by decide) (by omega) (by omega) (fun h40 => ?_) (fun h40 => ?_)
      · refine g_iload_n dX2_readOn_47 rfl 1 rfl ?_
        refine g_bipush dX2_readOn_48 bp_46 ?_
        refine n_icmpne 57 dX2_readOn_50 (by decide) (by omega) (by omega) (fun h50 => ?_) (fun h50 => ?_)
        · refine g_iconst dX2_readOn_57 ci_4 ?_
          exact g_ireturn dX2_readOn_58 (Nat.le_refl _) (Nat.le_refl _) (qi (by unfold nxS; rw [if_pos rfl, if_neg h29, if_neg h40, if_neg h50]) h)
        · refine g_iconst dX2_readOn_53 ci_0 ?_
          refine g_goto 58 dX2_readOn_54 (by decide) ?_
          exact g_ireturn dX2_readOn_58 (Nat.le_refl _) (Nat.le_refl _) (qi (by unfold nxS; rw [if_pos rfl, if_neg h29, if_neg h40, if_pos h50]) h)
      · refine g_iconst dX2_readOn_43 ci_3 ?_
        refine g_goto 58 dX2_readOn_44 (by decide) ?_
        exact g_ireturn dX2_readOn_58 (Nat.le_refl _) (Nat.le_refl _) (qi (by unfold nxS; rw [if_pos rfl, if_neg h29, if_pos h40]) h)
  · refine g_lookup (off := 58) 59 dX2_readOn_1 (by decide) (by decide +kernel) (by decide) ?_
    refine g_iload_n dX2_readOn_59 rfl 1 rfl ?_
    refine g_callS (As := [.int (nI c)]) km_X2_31 ky_X2_isPersonSign ks_X2_isPersonSign (by decide) rfl (Nat.le_of_ble_eq_true rfl) dX2_readOn_60 rfl (c_X2_isPersonSign (by omega) (fun h60 => ?_) (fun h60 => ?_))
    · refine t_ifeq1 (tgt := 68) dX2_readOn_63 (by decide) ?_
      refine g_iconst dX2_readOn_66 ci_2 ?_
      exact g_ireturn dX2_readOn_67 (Nat.le_refl _) (Nat.le_refl _) (qi (by unfold nxS; rw [if_neg (by decide), if_pos rfl, if_pos h60]) h)
    · refine t_ifeq0 68 dX2_readOn_63 (by decide) ?_
      refine g_iload_n dX2_readOn_68 rfl 1 rfl ?_
      refine g_bipush dX2_readOn_69 bp_48 ?_
      refine g_bipush dX2_readOn_71 bp_55 ?_
      refine g_callN2 (C := RX2) (As := [.int (nI c), .int (nI 48), .int (nI 55)]) rfl kn_X2_19 ky_X4_within ks_X4_within (by decide) rfl (Nat.le_of_ble_eq_true rfl) dX2_readOn_73 rfl (c_X4_withinN (by omega) (by omega) (fun p73 ha73 hb73 he73 => ?_) (fun h73 => ?_))
      · have he73 := (nI_eq (by omega) (by omega)).mp he73
        refine t_ifeq1 (tgt := 83) dX2_readOn_76 (by decide) ?_
        refine g_iconst dX2_readOn_79 ci_0 ?_
        refine g_goto 84 dX2_readOn_80 (by decide) ?_
        exact g_ireturn dX2_readOn_84 (Nat.le_refl _) (Nat.le_refl _) (qi (by unfold nxS; rw [if_neg (by decide), if_pos rfl, if_neg h60, if_pos (by omega)]) h)
      · refine t_ifeq0 83 dX2_readOn_76 (by decide) ?_
        refine g_iconst dX2_readOn_83 ci_4 ?_
        exact g_ireturn dX2_readOn_84 (Nat.le_refl _) (Nat.le_refl _) (qi (by unfold nxS; rw [if_neg (by decide), if_pos rfl, if_neg h60, if_neg (fun q => h73 c q.1 q.2 rfl)]) h)
  · refine g_lookup (off := 84) 85 dX2_readOn_1 (by decide) (by decide +kernel) (by decide) ?_
    refine g_iload_n dX2_readOn_85 rfl 1 rfl ?_
    refine g_bipush dX2_readOn_86 bp_97 ?_
    refine g_bipush dX2_readOn_88 bp_104 ?_
    refine g_callN2 (C := RX2) (As := [.int (nI c), .int (nI 97), .int (nI 104)]) rfl kn_X2_19 ky_X4_within ks_X4_within (by decide) rfl (Nat.le_of_ble_eq_true rfl) dX2_readOn_90 rfl (c_X4_withinN (by omega) (by omega) (fun p90 ha90 hb90 he90 => ?_) (fun h90 => ?_))
    · have he90 := (nI_eq (by omega) (by omega)).mp he90
      refine t_ifeq1 (tgt := 100) dX2_readOn_93 (by decide) ?_
      refine g_iconst dX2_readOn_96 ci_0 ?_
      refine g_goto 101 dX2_readOn_97 (by decide) ?_
      exact g_ireturn dX2_readOn_101 (Nat.le_refl _) (Nat.le_refl _) (qi (by unfold nxS; rw [if_neg (by decide), if_neg (by decide), if_neg (by decide), if_pos (by omega)]) h)
    · refine t_ifeq0 100 dX2_readOn_93 (by decide) ?_
      refine g_iconst dX2_readOn_100 ci_4 ?_
      exact g_ireturn dX2_readOn_101 (Nat.le_refl _) (Nat.le_refl _) (qi (by unfold nxS; rw [if_neg (by decide), if_neg (by decide), if_neg (by decide), if_neg (fun q => h90 c q.1 q.2 rfl)]) h)
  · refine g_lookup (off := 84) 85 dX2_readOn_1 (by decide) (by decide +kernel) (by decide) ?_
    refine g_iload_n dX2_readOn_85 rfl 1 rfl ?_
    refine g_bipush dX2_readOn_86 bp_97 ?_
    refine g_bipush dX2_readOn_88 bp_104 ?_
    refine g_callN2 (C := RX2) (As := [.int (nI c), .int (nI 97), .int (nI 104)]) rfl kn_X2_19 ky_X4_within ks_X4_within (by decide) rfl (Nat.le_of_ble_eq_true rfl) dX2_readOn_90 rfl (c_X4_withinN (by omega) (by omega) (fun p90 ha90 hb90 he90 => ?_) (fun h90 => ?_))
    · have he90 := (nI_eq (by omega) (by omega)).mp he90
      refine t_ifeq1 (tgt := 100) dX2_readOn_93 (by decide) ?_
      refine g_iconst dX2_readOn_96 ci_0 ?_
      refine g_goto 101 dX2_readOn_97 (by decide) ?_
      exact g_ireturn dX2_readOn_101 (Nat.le_refl _) (Nat.le_refl _) (qi (by unfold nxS; rw [if_neg (by decide), if_neg (by decide), if_neg (by decide), if_pos (by omega)]) h)
    · refine t_ifeq0 100 dX2_readOn_93 (by decide) ?_
      refine g_iconst dX2_readOn_100 ci_4 ?_
      exact g_ireturn dX2_readOn_101 (Nat.le_refl _) (Nat.le_refl _) (qi (by unfold nxS; rw [if_neg (by decide), if_neg (by decide), if_neg (by decide), if_neg (fun q => h90 c q.1 q.2 rfl)]) h)
set_option maxHeartbeats 4000000 in
set_option maxRecDepth 20000 in
theorem lp_X2_faultPlace {l : Launch} {D : gE} {L : Nat → Nat} {σ : St} {Q : Option Value → va_W → Prop} {d : Nat} {s : Nat → Nat} {n : Nat} (hp : padC σ s n) (h : Q (some (.int (fltR s n))) (wsOf D L σ)) : ∀ n_ i, i + n_ = n → (∀ j, j ≤ i → pdS s j ≠ 4) → G l D yX2_faultPlace cX2_faultPlace 3 (some .int) (rr (d + 3)) Q 0 0 4 [(2, .int (nI i)), (1, .int (nI (pdS s i))), (0, .ref (L 26))] [] (wsOf D L σ) := by
  intro n_
  induction n_ with
  | zero =>
    intro i hct hno
    obtain rfl : i = n := by omega
    have hn60 := hp.2.1
    have hpd := pd_le s i
    refine g_iload_n dX2_faultPlace_4 rfl 0 rfl ?_
    refine g_aload_n dX2_faultPlace_5 rfl 2 rfl ?_
    refine g_get kf_X2_15 kC_X2 (by decide) 26 at_26 rfl dX2_faultPlace_6 ?_
    refine g_tope (z := nI i) (hp.1) ?_
    refine n_icmpge 35 dX2_faultPlace_9 (by decide) (by omega) (by omega) (fun h9 => ?_) (fun h9 => absurd h9 (by omega))
    refine g_iload_n dX2_faultPlace_35 rfl 1 rfl ?_
    refine n_ifne 44 dX2_faultPlace_36 (by decide) (by omega) (fun h36 => ?_) (fun h36 => ?_)
    · refine g_aload_n dX2_faultPlace_44 rfl 2 rfl ?_
      refine g_get kf_X2_15 kC_X2 (by decide) 26 at_26 rfl dX2_faultPlace_45 ?_
      refine g_tope (z := nI i) (hp.1) ?_
      exact g_ireturn dX2_faultPlace_48 (Nat.le_refl _) (Nat.le_refl _) (qi (by rw [flt_no hno, if_neg h36]) h)
    · refine g_bipush dX2_faultPlace_39 bp_m6 ?_
      refine g_goto 48 dX2_faultPlace_41 (by decide) ?_
      exact g_ireturn dX2_faultPlace_48 (Nat.le_refl _) (Nat.le_refl _) (qi (by rw [flt_no hno, if_pos h36]) h)
  | succ n_ ih =>
    intro i hct hno
    have hn60 := hp.2.1
    have hpd := pd_le s i
    refine g_iload_n dX2_faultPlace_4 rfl 0 rfl ?_
    refine g_aload_n dX2_faultPlace_5 rfl 2 rfl ?_
    refine g_get kf_X2_15 kC_X2 (by decide) 26 at_26 rfl dX2_faultPlace_6 ?_
    refine g_tope (z := nI n) (hp.1) ?_
    refine n_icmpge 35 dX2_faultPlace_9 (by decide) (by omega) (by omega) (fun h9 => absurd h9 (by omega)) (fun h9 => ?_)
    refine g_iload_n dX2_faultPlace_12 rfl 1 rfl ?_
    refine g_aload_n dX2_faultPlace_13 rfl 2 rfl ?_
    refine g_iload_n dX2_faultPlace_14 rfl 0 rfl ?_
    refine g_callV (As := [.int (nI i)]) km_X2_23 ky_X2_signAt ki_X2_signAt (by decide) 26 at_26 rfl rfl (Nat.le_of_ble_eq_true rfl) dX2_faultPlace_15 rfl (c_X2_signAt hp (by omega) (fun _ => ?_) (fun q => absurd h9 q))
    refine g_callS (As := [.int (nI (pdS s i)), .int (nI (s i))]) km_X2_27 ky_X2_readOn ks_X2_readOn (by decide) rfl (Nat.le_of_ble_eq_true rfl) dX2_faultPlace_18 rfl (c_X2_readOn (by have := hno i (Nat.le_refl i); omega) (by have := hp.2.2.2 i h9; omega) ?_)
    refine g_istore_n (lv' := [(1, .int (nI (nxS (pdS s i) (s i)))), (2, .int (nI i)), (0, .ref (L 26))]) dX2_faultPlace_21 rfl (by decide) rfl ?_
    refine g_iload_n dX2_faultPlace_22 rfl 0 rfl ?_
    refine g_iconst dX2_faultPlace_23 ci_4 ?_
    refine n_icmpne 29 dX2_faultPlace_24 (by decide) (by have := pd_le s (i + 1); simp only [pdS] at this; omega) (by omega) (fun h24 => ?_) (fun h24 => ?_)
    · refine g_iinc (v := nI (i + 1)) (lv' := [(2, .int (nI (i + 1))), (1, .int (nI (nxS (pdS s i) (s i)))), (0, .ref (L 26))]) dX2_faultPlace_29 1 rfl (inc_n _) (by decide) rfl ?_
      refine g_goto 4 dX2_faultPlace_32 (by decide) ?_
      refine g_pick [0, 1, 2] (lv' := [(2, .int (nI (i + 1))), (1, .int (nI (nxS (pdS s i) (s i)))), (0, .ref (L 26))]) rfl ?_
      exact ih (i + 1) (by omega) (fun j hj => by by_cases e : j = i + 1; rw [e]; exact h24; exact hno j (by omega))
    · refine g_iload_n dX2_faultPlace_27 rfl 1 rfl ?_
      exact g_ireturn dX2_faultPlace_28 (Nat.le_refl _) (Nat.le_refl _) (qi (flt_at (by omega) hno h24).symm h)
set_option maxHeartbeats 4000000 in
set_option maxRecDepth 20000 in
theorem c_X2_faultPlace {l : Launch} {D : gE} {L : Nat → Nat} {σ : St} {Q : Option Value → va_W → Prop} {d : Nat} {s : Nat → Nat} {n : Nat} (hp : padC σ s n) (h : Q (some (.int (fltR s n))) (wsOf D L σ)) : Ctr l D yX2_faultPlace cX2_faultPlace 3 (some .int) (rr (d + 3)) [.ref (L 26)] (wsOf D L σ) Q := by
  refine g_start ky_X2_faultPlace (Nat.le_of_ble_eq_true rfl) ?_
  refine g_pick [0] (lv' := [(0, .ref (L 26))]) rfl ?_
  refine g_iconst dX2_faultPlace_0 ci_0 ?_
  refine g_istore_n (lv' := [(1, .int (nI 0)), (0, .ref (L 26))]) dX2_faultPlace_1 rfl (by decide) rfl ?_
  refine g_iconst dX2_faultPlace_2 ci_0 ?_
  refine g_istore_n (lv' := [(2, .int (nI 0)), (1, .int (nI 0)), (0, .ref (L 26))]) dX2_faultPlace_3 rfl (by decide) rfl ?_
  refine g_pick [0, 1, 2] (lv' := [(2, .int (nI 0)), (1, .int (nI 0)), (0, .ref (L 26))]) rfl ?_
  exact lp_X2_faultPlace hp h n 0 (by omega) (fun j hj => by rw [show j = 0 by omega]; simp [pdS])
theorem ln_pos (s : Nat → Nat) (b : Nat) : 1 ≤ lnS s b ∧ lnS s b ≤ 3 := by
  unfold lnS; repeat' (first | omega | split)
theorem ps_mono (s : Nat → Nat) {i j : Nat} (h : i ≤ j) : psS s i ≤ psS s j := by
  obtain ⟨c, rfl⟩ := Nat.exists_eq_add_of_le h
  clear h
  induction c with
  | zero => exact Nat.le_refl _
  | succ c ih => show psS s i ≤ psS s (i + c) + lnS s (psS s (i + c)); omega
theorem ps_end {s : Nat → Nat} {n : Nat} (h0 : pdS s n = 0) : psS s (pjS s n) = n := by
  obtain ⟨h1, h2⟩ := pinv s n (by omega)
  rw [h1]; omega
theorem ps_in {s : Nat → Nat} {n j : Nat} (h0 : pdS s n = 0) (hj : j < pjS s n) : psS s j + lnS s (psS s j) ≤ n := by
  have h1 := ps_mono s (show j + 1 ≤ pjS s n by omega)
  rw [ps_end h0] at h1
  exact h1
/-- what a DAY changes: the trial and what is JUDGED -/
def fD (σ σ' : St) : Prop := (∀ q, q < 12 ∨ 23 < q → sA σ' q = sA σ q) ∧ (∀ o, o ≠ 12 → o ≠ 28 → sI σ' o = sI σ o) ∧ sK σ' = sK σ ∧ sM σ' = sM σ
theorem fD_rfl {σ : St} : fD σ σ := ⟨fun _ _ => rfl, fun _ _ _ => rfl, rfl, rfl⟩
theorem fD_trans {a b c : St} (h : fD a b) (g : fD b c) : fD a c := ⟨fun q hq => (g.1 q hq).trans (h.1 q hq), fun o h1 h2 => (g.2.1 o h1 h2).trans (h.2.1 o h1 h2), g.2.2.1.trans h.2.2.1, g.2.2.2.trans h.2.2.2⟩
theorem ft_fD {a b : St} (h : ft 12 a b) : fD a b := ⟨fun q hq => h.1 q (by omega), fun o h1 _ => h.2.1 o h1, h.2.2.1, h.2.2.2⟩
theorem fD_I {a : St} (k : Nat) (x : Int32) : fD a (setI a 28 k x) := ⟨fun _ _ => rfl, fun o _ h2 => if_neg h2, rfl, rfl⟩
theorem fD_pad {a b : St} {s : Nat → Nat} {n : Nat} (h : fD a b) (hp : padC a s n) : padC b s n := ⟨by rw [h.2.1 26 (by decide) (by decide)]; exact hp.1, hp.2.1, by rw [h.1 27 (by omega)]; exact hp.2.2.1, hp.2.2.2⟩
theorem rz_gen {b : Nat} {x y : St} {X : XT} (hA : ∀ j, 1 ≤ j → j ≤ 11 → sA y (b + j) = sA x (b + j)) (hI : sI y b = sI x b) (hX : rzT x b X) : rzT y b X := by
  obtain ⟨⟨h0, h1, h2, h3, h4, h5, a1, a2, a3, a4, a5, a6, a7, a8, a9, a10, a11⟩, k⟩ := hX
  refine ⟨⟨?_, ?_, ?_, ?_, ?_, ?_, ?_, ?_, ?_, ?_, ?_, ?_, ?_, ?_, ?_, ?_, ?_⟩, ?_⟩
  all_goals first | (rw [hI]; assumption) | skip
  · exact fun i hi => by show sA y (b + 1) i = _; rw [hA 1 (by decide) (by decide)]; exact a1 i hi
  · exact fun i hi => by show sA y (b + 2) i = _; rw [hA 2 (by decide) (by decide)]; exact a2 i hi
  · exact fun i hi => by show sA y (b + 3) i = _; rw [hA 3 (by decide) (by decide)]; exact a3 i hi
  · exact fun i hi => by show sA y (b + 4) i = _; rw [hA 4 (by decide) (by decide)]; exact a4 i hi
  · exact fun i hi => by show sA y (b + 5) i = _; rw [hA 5 (by decide) (by decide)]; exact a5 i hi
  · exact fun i hi => by show sA y (b + 6) i = _; rw [hA 6 (by decide) (by decide)]; exact a6 i hi
  · exact fun i hi ht => by show sA y (b + 7) i = _; rw [hA 7 (by decide) (by decide)]; exact a7 i hi ht
  · exact fun i hi => by show sA y (b + 8) i = _; rw [hA 8 (by decide) (by decide)]; exact a8 i hi
  · exact fun i hi => by show sA y (b + 9) i = _; rw [hA 9 (by decide) (by decide)]; exact a9 i hi
  · exact fun i hi => by show sA y (b + 10) i = _; rw [hA 10 (by decide) (by decide)]; exact a10 i hi
  · exact fun i hi => by show sA y (b + 11) i = _; rw [hA 11 (by decide) (by decide)]; exact a11 i hi
  · exact fun i hi => by rw [hA 7 (by decide) (by decide)]; exact k i hi
theorem fD_0 {a b : St} {X : XT} (h : fD a b) (hX : rzT a 0 X) : rzT b 0 X := rz_gen (fun j h1 h2 => h.1 (0 + j) (by omega)) (h.2.1 0 (by decide) (by decide)) hX
theorem I_12 {a : St} {X : XT} (k : Nat) (x : Int32) (hX : rzT a 12 X) : rzT (setI a 28 k x) 12 X := rz_gen (fun _ _ _ => rfl) rfl hX
def ctD (σ : St) (t c n : Nat) : Prop := sI σ 28 3 = nI t ∧ sI σ 28 4 = nI c ∧ sI σ 28 5 = nI n
set_option maxHeartbeats 4000000 in
set_option maxRecDepth 20000 in
theorem k3_X0_takeStep {l : Launch} {D : gE} {L : Nat → Nat} {σ : St} {Q : Option Value → va_W → Prop} {d : Nat} {s : Nat → Nat} {n : Nat} (hp : padC σ s n) {Y : XT} (hT : rzT σ 12 Y) (hoY : okX Y) {b : Nat} (hw : wfS s b) (hin : b + lnS s b ≤ n) {E0 R1 E2 : Int32} {t c m : Nat} (e0 : sI σ 28 0 = E0) (r1 : sI σ 28 1 = R1) (e2 : sI σ 28 2 = E2) (c3 : sI σ 28 3 = nI t) (c4 : sI σ 28 4 = nI c) (c5 : sI σ 28 5 = nI m) (hR : R1 = nI 0) (hb9 : t < 1000000 ∧ c < 1000000 ∧ m < 1000000) (ht : ∀ {w : Nat}, stepE s Y b = (w + 1, Y) → ∀ σ', fD σ σ' → sI σ' 28 0 = E0 → sI σ' 28 1 = nI (w + 1) → sI σ' 28 2 = E2 → Q (some (.int (nI (b + lnS s b)))) (wsOf D L σ')) (ht0 : ∀ {X' : XT}, stepE s Y b = (0, X') → ∀ σ', fD σ σ' → rzT σ' 12 X' → sI σ' 28 0 = E0 → sI σ' 28 1 = nI 0 → sI σ' 28 2 = E2 → ctD σ' (t + b2n (kdS s b == 0)) (c + b2n (kdS s b == 1)) (m + b2n (kdS s b == 3)) → Q (some (.int (nI (b + lnS s b)))) (wsOf D L σ')) (hk : kdS s b = 3) : Ctr l D yX0_takeStep cX0_takeStep 6 (some .int) (rr (d + 4)) [.ref (L 28), .ref (L 26), .int (nI b), .ref (L 12)] (wsOf D L σ) Q := by
  refine g_start ky_X0_takeStep (Nat.le_of_ble_eq_true rfl) ?_
  refine g_pick [0, 1, 2, 3] (lv' := [(0, .ref (L 28)), (1, .ref (L 26)), (2, .int (nI b)), (3, .ref (L 12))]) rfl ?_
  have hkd := kd_3 hk
  have hln : lnS s b = 1 := by unfold lnS; rw [if_pos (by omega)]
  have hn60 := hp.2.1
  have hfD : fD σ σ := fD_rfl
  refine g_aload_n dX0_takeStep_0 rfl 1 rfl ?_
  refine g_iload_n dX0_takeStep_1 rfl 2 rfl ?_
  refine g_callV (As := [.int (nI b)]) km_X0_49 ky_X2_signAt ki_X2_signAt (by decide) 26 at_26 rfl rfl (Nat.le_of_ble_eq_true rfl) dX0_takeStep_2 rfl (c_X2_signAt hp (by omega) (fun _ => ?_) (fun q => absurd (show b < n by omega) q))
  refine g_istore (lv' := [(4, .int (nI (s b))), (0, .ref (L 28)), (1, .ref (L 26)), (2, .int (nI b)), (3, .ref (L 12))]) dX0_takeStep_5 (by decide) rfl ?_
  refine g_aload_n dX0_takeStep_7 rfl 2 rfl ?_
  refine g_iload_n dX0_takeStep_8 rfl 3 rfl ?_
  refine g_iconst dX0_takeStep_9 ci_1 ?_
  refine g_iadd dX0_takeStep_10 ?_
  refine g_tope (z := nI (b + 1)) (nI_add _ _) ?_
  refine g_callV (As := [.int (nI (b + 1))]) km_X0_49 ky_X2_signAt ki_X2_signAt (by decide) 26 at_26 rfl rfl (Nat.le_of_ble_eq_true rfl) dX0_takeStep_11 rfl (c_X2_signAt hp (by omega) (fun _ => ?_) (fun _ => ?_))
  · refine g_istore (lv' := [(5, .int (nI (s (b + 1)))), (4, .int (nI (s b))), (0, .ref (L 28)), (1, .ref (L 26)), (2, .int (nI b)), (3, .ref (L 12))]) dX0_takeStep_14 (by decide) rfl ?_
    refine g_iload dX0_takeStep_16 1 rfl ?_
    refine g_bipush dX0_takeStep_18 bp_46 ?_
    refine n_icmpne 41 dX0_takeStep_20 (by decide) (by omega) (by omega) (fun h20 => absurd h20 (by omega)) (fun h20 => ?_)
    refine g_aload_n dX0_takeStep_23 rfl 5 rfl ?_
    refine g_callV (As := []) km_X0_53 ky_X3_passNight ki_X3_passNight (by decide) 12 (at_tn (Or.inr (Or.inl rfl))) rfl rfl (Nat.le_of_ble_eq_true rfl) dX0_takeStep_24 rfl (c_X3_passNight (Or.inr (Or.inl rfl)) hT hoY (fun σ2 hf2 hT => ?_))
    have hfD := fD_trans hfD (ft_fD hf2)
    have e0 : sI σ2 28 0 = _ := (congrFun (hf2.2.1 28 (by decide)) 0).trans e0
    have r1 : sI σ2 28 1 = _ := (congrFun (hf2.2.1 28 (by decide)) 1).trans r1
    have e2 : sI σ2 28 2 = _ := (congrFun (hf2.2.1 28 (by decide)) 2).trans e2
    have c3 : sI σ2 28 3 = _ := (congrFun (hf2.2.1 28 (by decide)) 3).trans c3
    have c4 : sI σ2 28 4 = _ := (congrFun (hf2.2.1 28 (by decide)) 4).trans c4
    have c5 : sI σ2 28 5 = _ := (congrFun (hf2.2.1 28 (by decide)) 5).trans c5
    refine g_aload_n dX0_takeStep_27 rfl 2 rfl ?_
    refine g_dup dX0_takeStep_28 rfl ?_
    refine g_get kf_X0_24 kC_X0 (by decide) 28 at_28 rfl dX0_takeStep_29 ?_
    refine g_tope (z := nI m) (c5) ?_
    refine g_iconst dX0_takeStep_32 ci_1 ?_
    refine g_iadd dX0_takeStep_33 ?_
    refine g_tope (z := nI (m + 1)) (nI_add _ _) ?_
    refine s_putD (by decide) kf_X0_24 dX0_takeStep_34 ?_
    have hT := I_12 5 (nI (m + 1)) hT
    have hfD := fD_trans hfD (fD_I (a := σ2) 5 (nI (m + 1)))
    have e0 : sI (setI σ2 28 5 (nI (m + 1))) 28 0 = _ := (sI_ne _ 28 5 0 (by decide) _).trans e0
    have r1 : sI (setI σ2 28 5 (nI (m + 1))) 28 1 = _ := (sI_ne _ 28 5 1 (by decide) _).trans r1
    have e2 : sI (setI σ2 28 5 (nI (m + 1))) 28 2 = _ := (sI_ne _ 28 5 2 (by decide) _).trans e2
    have c3 : sI (setI σ2 28 5 (nI (m + 1))) 28 3 = _ := (sI_ne _ 28 5 3 (by decide) _).trans c3
    have c4 : sI (setI σ2 28 5 (nI (m + 1))) 28 4 = _ := (sI_ne _ 28 5 4 (by decide) _).trans c4
    have c5 : sI (setI σ2 28 5 (nI (m + 1))) 28 5 = nI (m + 1) := sI_same _ _ _ _
    generalize setI σ2 28 5 (nI (m + 1)) = σd138 at hT hfD e0 r1 e2 c3 c4 c5 ⊢
    refine g_iload_n dX0_takeStep_37 rfl 4 rfl ?_
    refine g_iconst dX0_takeStep_38 ci_1 ?_
    refine g_iadd dX0_takeStep_39 ?_
    refine g_tope (z := nI (b + lnS s b)) ((nI_add _ _).trans (by rw [hln])) ?_
    exact g_ireturn dX0_takeStep_40 (Nat.le_refl _) (Nat.le_refl _) (ht0 (step_3 Y hk) _ hfD hT e0 (r1.trans hR) e2 ⟨c3.trans (by rw [hk]; rfl), c4.trans (by rw [hk]; rfl), c5.trans (by rw [hk]; rfl)⟩)
  · refine g_istore (lv' := [(5, .int (nI 0)), (4, .int (nI (s b))), (0, .ref (L 28)), (1, .ref (L 26)), (2, .int (nI b)), (3, .ref (L 12))]) dX0_takeStep_14 (by decide) rfl ?_
    refine g_iload dX0_takeStep_16 1 rfl ?_
    refine g_bipush dX0_takeStep_18 bp_46 ?_
    refine n_icmpne 41 dX0_takeStep_20 (by decide) (by omega) (by omega) (fun h20 => absurd h20 (by omega)) (fun h20 => ?_)
    refine g_aload_n dX0_takeStep_23 rfl 5 rfl ?_
    refine g_callV (As := []) km_X0_53 ky_X3_passNight ki_X3_passNight (by decide) 12 (at_tn (Or.inr (Or.inl rfl))) rfl rfl (Nat.le_of_ble_eq_true rfl) dX0_takeStep_24 rfl (c_X3_passNight (Or.inr (Or.inl rfl)) hT hoY (fun σ2 hf2 hT => ?_))
    have hfD := fD_trans hfD (ft_fD hf2)
    have e0 : sI σ2 28 0 = _ := (congrFun (hf2.2.1 28 (by decide)) 0).trans e0
    have r1 : sI σ2 28 1 = _ := (congrFun (hf2.2.1 28 (by decide)) 1).trans r1
    have e2 : sI σ2 28 2 = _ := (congrFun (hf2.2.1 28 (by decide)) 2).trans e2
    have c3 : sI σ2 28 3 = _ := (congrFun (hf2.2.1 28 (by decide)) 3).trans c3
    have c4 : sI σ2 28 4 = _ := (congrFun (hf2.2.1 28 (by decide)) 4).trans c4
    have c5 : sI σ2 28 5 = _ := (congrFun (hf2.2.1 28 (by decide)) 5).trans c5
    refine g_aload_n dX0_takeStep_27 rfl 2 rfl ?_
    refine g_dup dX0_takeStep_28 rfl ?_
    refine g_get kf_X0_24 kC_X0 (by decide) 28 at_28 rfl dX0_takeStep_29 ?_
    refine g_tope (z := nI m) (c5) ?_
    refine g_iconst dX0_takeStep_32 ci_1 ?_
    refine g_iadd dX0_takeStep_33 ?_
    refine g_tope (z := nI (m + 1)) (nI_add _ _) ?_
    refine s_putD (by decide) kf_X0_24 dX0_takeStep_34 ?_
    have hT := I_12 5 (nI (m + 1)) hT
    have hfD := fD_trans hfD (fD_I (a := σ2) 5 (nI (m + 1)))
    have e0 : sI (setI σ2 28 5 (nI (m + 1))) 28 0 = _ := (sI_ne _ 28 5 0 (by decide) _).trans e0
    have r1 : sI (setI σ2 28 5 (nI (m + 1))) 28 1 = _ := (sI_ne _ 28 5 1 (by decide) _).trans r1
    have e2 : sI (setI σ2 28 5 (nI (m + 1))) 28 2 = _ := (sI_ne _ 28 5 2 (by decide) _).trans e2
    have c3 : sI (setI σ2 28 5 (nI (m + 1))) 28 3 = _ := (sI_ne _ 28 5 3 (by decide) _).trans c3
    have c4 : sI (setI σ2 28 5 (nI (m + 1))) 28 4 = _ := (sI_ne _ 28 5 4 (by decide) _).trans c4
    have c5 : sI (setI σ2 28 5 (nI (m + 1))) 28 5 = nI (m + 1) := sI_same _ _ _ _
    generalize setI σ2 28 5 (nI (m + 1)) = σd139 at hT hfD e0 r1 e2 c3 c4 c5 ⊢
    refine g_iload_n dX0_takeStep_37 rfl 4 rfl ?_
    refine g_iconst dX0_takeStep_38 ci_1 ?_
    refine g_iadd dX0_takeStep_39 ?_
    refine g_tope (z := nI (b + lnS s b)) ((nI_add _ _).trans (by rw [hln])) ?_
    exact g_ireturn dX0_takeStep_40 (Nat.le_refl _) (Nat.le_refl _) (ht0 (step_3 Y hk) _ hfD hT e0 (r1.trans hR) e2 ⟨c3.trans (by rw [hk]; rfl), c4.trans (by rw [hk]; rfl), c5.trans (by rw [hk]; rfl)⟩)
set_option maxHeartbeats 4000000 in
set_option maxRecDepth 20000 in
theorem k2_X0_takeStep {l : Launch} {D : gE} {L : Nat → Nat} {σ : St} {Q : Option Value → va_W → Prop} {d : Nat} {s : Nat → Nat} {n : Nat} (hp : padC σ s n) {Y : XT} (hT : rzT σ 12 Y) (hoY : okX Y) {b : Nat} (hw : wfS s b) (hin : b + lnS s b ≤ n) {E0 R1 E2 : Int32} {t c m : Nat} (e0 : sI σ 28 0 = E0) (r1 : sI σ 28 1 = R1) (e2 : sI σ 28 2 = E2) (c3 : sI σ 28 3 = nI t) (c4 : sI σ 28 4 = nI c) (c5 : sI σ 28 5 = nI m) (hR : R1 = nI 0) (hb9 : t < 1000000 ∧ c < 1000000 ∧ m < 1000000) (ht : ∀ {w : Nat}, stepE s Y b = (w + 1, Y) → ∀ σ', fD σ σ' → sI σ' 28 0 = E0 → sI σ' 28 1 = nI (w + 1) → sI σ' 28 2 = E2 → Q (some (.int (nI (b + lnS s b)))) (wsOf D L σ')) (ht0 : ∀ {X' : XT}, stepE s Y b = (0, X') → ∀ σ', fD σ σ' → rzT σ' 12 X' → sI σ' 28 0 = E0 → sI σ' 28 1 = nI 0 → sI σ' 28 2 = E2 → ctD σ' (t + b2n (kdS s b == 0)) (c + b2n (kdS s b == 1)) (m + b2n (kdS s b == 3)) → Q (some (.int (nI (b + lnS s b)))) (wsOf D L σ')) (hk : kdS s b = 2) : Ctr l D yX0_takeStep cX0_takeStep 6 (some .int) (rr (d + 4)) [.ref (L 28), .ref (L 26), .int (nI b), .ref (L 12)] (wsOf D L σ) Q := by
  refine g_start ky_X0_takeStep (Nat.le_of_ble_eq_true rfl) ?_
  refine g_pick [0, 1, 2, 3] (lv' := [(0, .ref (L 28)), (1, .ref (L 26)), (2, .int (nI b)), (3, .ref (L 12))]) rfl ?_
  have hkd := kd_2 hw hk
  have hln : lnS s b = 2 := by unfold lnS; rw [if_neg (by omega), if_pos (by omega)]
  have hn60 := hp.2.1
  have hfD : fD σ σ := fD_rfl
  refine g_aload_n dX0_takeStep_0 rfl 1 rfl ?_
  refine g_iload_n dX0_takeStep_1 rfl 2 rfl ?_
  refine g_callV (As := [.int (nI b)]) km_X0_49 ky_X2_signAt ki_X2_signAt (by decide) 26 at_26 rfl rfl (Nat.le_of_ble_eq_true rfl) dX0_takeStep_2 rfl (c_X2_signAt hp (by omega) (fun _ => ?_) (fun q => absurd (show b < n by omega) q))
  refine g_istore (lv' := [(4, .int (nI (s b))), (0, .ref (L 28)), (1, .ref (L 26)), (2, .int (nI b)), (3, .ref (L 12))]) dX0_takeStep_5 (by decide) rfl ?_
  refine g_aload_n dX0_takeStep_7 rfl 2 rfl ?_
  refine g_iload_n dX0_takeStep_8 rfl 3 rfl ?_
  refine g_iconst dX0_takeStep_9 ci_1 ?_
  refine g_iadd dX0_takeStep_10 ?_
  refine g_tope (z := nI (b + 1)) (nI_add _ _) ?_
  refine g_callV (As := [.int (nI (b + 1))]) km_X0_49 ky_X2_signAt ki_X2_signAt (by decide) 26 at_26 rfl rfl (Nat.le_of_ble_eq_true rfl) dX0_takeStep_11 rfl (c_X2_signAt hp (by omega) (fun _ => ?_) (fun q => absurd (show b + 1 < n by omega) q))
  refine g_istore (lv' := [(5, .int (nI (s (b + 1)))), (4, .int (nI (s b))), (0, .ref (L 28)), (1, .ref (L 26)), (2, .int (nI b)), (3, .ref (L 12))]) dX0_takeStep_14 (by decide) rfl ?_
  refine g_iload dX0_takeStep_16 1 rfl ?_
  refine g_bipush dX0_takeStep_18 bp_46 ?_
  refine n_icmpne 41 dX0_takeStep_20 (by decide) (by omega) (by omega) (fun h20 => ?_) (fun h20 => absurd h20 (by omega))
  refine g_iload dX0_takeStep_41 1 rfl ?_
  refine g_bipush dX0_takeStep_43 bp_33 ?_
  refine n_icmpne 65 dX0_takeStep_45 (by decide) (by omega) (by omega) (fun h45 => absurd h45 (by omega)) (fun h45 => ?_)
  refine g_aload_n dX0_takeStep_48 rfl 2 rfl ?_
  refine g_aload_n dX0_takeStep_49 rfl 5 rfl ?_
  refine g_iload dX0_takeStep_50 0 rfl ?_
  refine g_bipush dX0_takeStep_52 bp_97 ?_
  refine g_isub dX0_takeStep_54 ?_
  refine g_tope (z := nI ((s (b + 1)) - 97)) (nI_subn (by omega)) ?_
  refine g_callV (As := [.int (nI ((s (b + 1)) - 97))]) km_X0_56 ky_X3_publishIfItCanBe ki_X3_publishIfItCanBe (by decide) 12 (at_tn (Or.inr (Or.inl rfl))) rfl rfl (Nat.le_of_ble_eq_true rfl) dX0_takeStep_55 rfl (c_X3_publish (Or.inr (Or.inl rfl)) hT hoY (by omega) (fun {w} e => ?_) (fun {X2} e σ2 hf2 hT => ?_))
  · refine s_putD (by decide) kf_X0_9 dX0_takeStep_58 ?_
    have hT := I_12 1 (nI (w + 1)) hT
    have hfD := fD_trans hfD (fD_I (a := σ) 1 (nI (w + 1)))
    have e0 : sI (setI σ 28 1 (nI (w + 1))) 28 0 = _ := (sI_ne _ 28 1 0 (by decide) _).trans e0
    have r1 : sI (setI σ 28 1 (nI (w + 1))) 28 1 = nI (w + 1) := sI_same _ _ _ _
    have e2 : sI (setI σ 28 1 (nI (w + 1))) 28 2 = _ := (sI_ne _ 28 1 2 (by decide) _).trans e2
    have c3 : sI (setI σ 28 1 (nI (w + 1))) 28 3 = _ := (sI_ne _ 28 1 3 (by decide) _).trans c3
    have c4 : sI (setI σ 28 1 (nI (w + 1))) 28 4 = _ := (sI_ne _ 28 1 4 (by decide) _).trans c4
    have c5 : sI (setI σ 28 1 (nI (w + 1))) 28 5 = _ := (sI_ne _ 28 1 5 (by decide) _).trans c5
    generalize setI σ 28 1 (nI (w + 1)) = σd140 at hT hfD e0 r1 e2 c3 c4 c5 ⊢
    refine g_iload_n dX0_takeStep_61 rfl 4 rfl ?_
    refine g_iconst dX0_takeStep_62 ci_2 ?_
    refine g_iadd dX0_takeStep_63 ?_
    refine g_tope (z := nI (b + lnS s b)) ((nI_add _ _).trans (by rw [hln])) ?_
    exact g_ireturn dX0_takeStep_64 (Nat.le_refl _) (Nat.le_refl _) (ht ((step_2 Y hw hk).trans e) _ hfD e0 r1 e2)
  · have hfD := fD_trans hfD (ft_fD hf2)
    have e0 : sI σ2 28 0 = _ := (congrFun (hf2.2.1 28 (by decide)) 0).trans e0
    have r1 : sI σ2 28 1 = _ := (congrFun (hf2.2.1 28 (by decide)) 1).trans r1
    have e2 : sI σ2 28 2 = _ := (congrFun (hf2.2.1 28 (by decide)) 2).trans e2
    have c3 : sI σ2 28 3 = _ := (congrFun (hf2.2.1 28 (by decide)) 3).trans c3
    have c4 : sI σ2 28 4 = _ := (congrFun (hf2.2.1 28 (by decide)) 4).trans c4
    have c5 : sI σ2 28 5 = _ := (congrFun (hf2.2.1 28 (by decide)) 5).trans c5
    refine s_putD (by decide) kf_X0_9 dX0_takeStep_58 ?_
    have hT := I_12 1 (nI 0) hT
    have hfD := fD_trans hfD (fD_I (a := σ2) 1 (nI 0))
    have e0 : sI (setI σ2 28 1 (nI 0)) 28 0 = _ := (sI_ne _ 28 1 0 (by decide) _).trans e0
    have r1 : sI (setI σ2 28 1 (nI 0)) 28 1 = nI 0 := sI_same _ _ _ _
    have e2 : sI (setI σ2 28 1 (nI 0)) 28 2 = _ := (sI_ne _ 28 1 2 (by decide) _).trans e2
    have c3 : sI (setI σ2 28 1 (nI 0)) 28 3 = _ := (sI_ne _ 28 1 3 (by decide) _).trans c3
    have c4 : sI (setI σ2 28 1 (nI 0)) 28 4 = _ := (sI_ne _ 28 1 4 (by decide) _).trans c4
    have c5 : sI (setI σ2 28 1 (nI 0)) 28 5 = _ := (sI_ne _ 28 1 5 (by decide) _).trans c5
    generalize setI σ2 28 1 (nI 0) = σd141 at hT hfD e0 r1 e2 c3 c4 c5 ⊢
    refine g_iload_n dX0_takeStep_61 rfl 4 rfl ?_
    refine g_iconst dX0_takeStep_62 ci_2 ?_
    refine g_iadd dX0_takeStep_63 ?_
    refine g_tope (z := nI (b + lnS s b)) ((nI_add _ _).trans (by rw [hln])) ?_
    exact g_ireturn dX0_takeStep_64 (Nat.le_refl _) (Nat.le_refl _) (ht0 ((step_2 Y hw hk).trans e) _ hfD hT e0 r1 e2 ⟨c3.trans (by rw [hk]; rfl), c4.trans (by rw [hk]; rfl), c5.trans (by rw [hk]; rfl)⟩)
set_option maxHeartbeats 4000000 in
set_option maxRecDepth 20000 in
theorem k0_X0_takeStep {l : Launch} {D : gE} {L : Nat → Nat} {σ : St} {Q : Option Value → va_W → Prop} {d : Nat} {s : Nat → Nat} {n : Nat} (hp : padC σ s n) {Y : XT} (hT : rzT σ 12 Y) (hoY : okX Y) {b : Nat} (hw : wfS s b) (hin : b + lnS s b ≤ n) {E0 R1 E2 : Int32} {t c m : Nat} (e0 : sI σ 28 0 = E0) (r1 : sI σ 28 1 = R1) (e2 : sI σ 28 2 = E2) (c3 : sI σ 28 3 = nI t) (c4 : sI σ 28 4 = nI c) (c5 : sI σ 28 5 = nI m) (hR : R1 = nI 0) (hb9 : t < 1000000 ∧ c < 1000000 ∧ m < 1000000) (ht : ∀ {w : Nat}, stepE s Y b = (w + 1, Y) → ∀ σ', fD σ σ' → sI σ' 28 0 = E0 → sI σ' 28 1 = nI (w + 1) → sI σ' 28 2 = E2 → Q (some (.int (nI (b + lnS s b)))) (wsOf D L σ')) (ht0 : ∀ {X' : XT}, stepE s Y b = (0, X') → ∀ σ', fD σ σ' → rzT σ' 12 X' → sI σ' 28 0 = E0 → sI σ' 28 1 = nI 0 → sI σ' 28 2 = E2 → ctD σ' (t + b2n (kdS s b == 0)) (c + b2n (kdS s b == 1)) (m + b2n (kdS s b == 3)) → Q (some (.int (nI (b + lnS s b)))) (wsOf D L σ')) (hk : kdS s b = 0) : Ctr l D yX0_takeStep cX0_takeStep 6 (some .int) (rr (d + 4)) [.ref (L 28), .ref (L 26), .int (nI b), .ref (L 12)] (wsOf D L σ) Q := by
  refine g_start ky_X0_takeStep (Nat.le_of_ble_eq_true rfl) ?_
  refine g_pick [0, 1, 2, 3] (lv' := [(0, .ref (L 28)), (1, .ref (L 26)), (2, .int (nI b)), (3, .ref (L 12))]) rfl ?_
  have hkd := kd_0 hw hk
  have hln : lnS s b = 3 := by unfold lnS; rw [if_neg (by omega), if_neg (by omega), if_pos (by omega)]
  have hn60 := hp.2.1
  have hfD : fD σ σ := fD_rfl
  refine g_aload_n dX0_takeStep_0 rfl 1 rfl ?_
  refine g_iload_n dX0_takeStep_1 rfl 2 rfl ?_
  refine g_callV (As := [.int (nI b)]) km_X0_49 ky_X2_signAt ki_X2_signAt (by decide) 26 at_26 rfl rfl (Nat.le_of_ble_eq_true rfl) dX0_takeStep_2 rfl (c_X2_signAt hp (by omega) (fun _ => ?_) (fun q => absurd (show b < n by omega) q))
  refine g_istore (lv' := [(4, .int (nI (s b))), (0, .ref (L 28)), (1, .ref (L 26)), (2, .int (nI b)), (3, .ref (L 12))]) dX0_takeStep_5 (by decide) rfl ?_
  refine g_aload_n dX0_takeStep_7 rfl 2 rfl ?_
  refine g_iload_n dX0_takeStep_8 rfl 3 rfl ?_
  refine g_iconst dX0_takeStep_9 ci_1 ?_
  refine g_iadd dX0_takeStep_10 ?_
  refine g_tope (z := nI (b + 1)) (nI_add _ _) ?_
  refine g_callV (As := [.int (nI (b + 1))]) km_X0_49 ky_X2_signAt ki_X2_signAt (by decide) 26 at_26 rfl rfl (Nat.le_of_ble_eq_true rfl) dX0_takeStep_11 rfl (c_X2_signAt hp (by omega) (fun _ => ?_) (fun q => absurd (show b + 1 < n by omega) q))
  refine g_istore (lv' := [(5, .int (nI (s (b + 1)))), (4, .int (nI (s b))), (0, .ref (L 28)), (1, .ref (L 26)), (2, .int (nI b)), (3, .ref (L 12))]) dX0_takeStep_14 (by decide) rfl ?_
  refine g_iload dX0_takeStep_16 1 rfl ?_
  refine g_bipush dX0_takeStep_18 bp_46 ?_
  refine n_icmpne 41 dX0_takeStep_20 (by decide) (by omega) (by omega) (fun h20 => ?_) (fun h20 => absurd h20 (by omega))
  refine g_iload dX0_takeStep_41 1 rfl ?_
  refine g_bipush dX0_takeStep_43 bp_33 ?_
  refine n_icmpne 65 dX0_takeStep_45 (by decide) (by omega) (by omega) (fun h45 => ?_) (fun h45 => absurd h45 (by omega))
  refine g_iload dX0_takeStep_65 0 rfl ?_
  refine g_callS (As := [.int (nI (s (b + 1)))]) km_X0_59 ky_X2_isPersonSign ks_X2_isPersonSign (by decide) rfl (Nat.le_of_ble_eq_true rfl) dX0_takeStep_67 rfl (c_X2_isPersonSign (by omega) (fun _ => ?_) (fun q => absurd (show 65 ≤ s (b + 1) ∧ s (b + 1) ≤ 70 by omega) q))
  refine t_ifeq1 (tgt := 115) dX0_takeStep_70 (by decide) ?_
  refine g_aload_n dX0_takeStep_73 rfl 2 rfl ?_
  refine g_aload_n dX0_takeStep_74 rfl 5 rfl ?_
  refine g_iload dX0_takeStep_75 1 rfl ?_
  refine g_bipush dX0_takeStep_77 bp_65 ?_
  refine g_isub dX0_takeStep_79 ?_
  refine g_tope (z := nI ((s b) - 65)) (nI_subn (by omega)) ?_
  refine g_iload dX0_takeStep_80 0 rfl ?_
  refine g_bipush dX0_takeStep_82 bp_65 ?_
  refine g_isub dX0_takeStep_84 ?_
  refine g_tope (z := nI ((s (b + 1)) - 65)) (nI_subn (by omega)) ?_
  refine g_aload_n dX0_takeStep_85 rfl 3 rfl ?_
  refine g_iload_n dX0_takeStep_86 rfl 4 rfl ?_
  refine g_iconst dX0_takeStep_87 ci_2 ?_
  refine g_iadd dX0_takeStep_88 ?_
  refine g_tope (z := nI (b + 2)) (nI_add _ _) ?_
  refine g_callV (As := [.int (nI (b + 2))]) km_X0_49 ky_X2_signAt ki_X2_signAt (by decide) 26 at_26 rfl rfl (Nat.le_of_ble_eq_true rfl) dX0_takeStep_89 rfl (c_X2_signAt hp (by omega) (fun _ => ?_) (fun q => absurd (show b + 2 < n by omega) q))
  refine g_bipush dX0_takeStep_92 bp_97 ?_
  refine g_isub dX0_takeStep_94 ?_
  refine g_tope (z := nI ((s (b + 2)) - 97)) (nI_subn (by omega)) ?_
  refine g_callV (As := [.int (nI ((s b) - 65)), .int (nI ((s (b + 1)) - 65)), .int (nI ((s (b + 2)) - 97))]) km_X0_63 ky_X3_tellIfItCanBe ki_X3_tellIfItCanBe (by decide) 12 (at_tn (Or.inr (Or.inl rfl))) rfl rfl (Nat.le_of_ble_eq_true rfl) dX0_takeStep_95 rfl (c_X3_tell (Or.inr (Or.inl rfl)) hT hoY (by omega) (by omega) (by omega) (fun {w} e => ?_) (fun {X2} e σ2 hf2 hT => ?_))
  · refine s_putD (by decide) kf_X0_9 dX0_takeStep_98 ?_
    have hT := I_12 1 (nI (w + 1)) hT
    have hfD := fD_trans hfD (fD_I (a := σ) 1 (nI (w + 1)))
    have e0 : sI (setI σ 28 1 (nI (w + 1))) 28 0 = _ := (sI_ne _ 28 1 0 (by decide) _).trans e0
    have r1 : sI (setI σ 28 1 (nI (w + 1))) 28 1 = nI (w + 1) := sI_same _ _ _ _
    have e2 : sI (setI σ 28 1 (nI (w + 1))) 28 2 = _ := (sI_ne _ 28 1 2 (by decide) _).trans e2
    have c3 : sI (setI σ 28 1 (nI (w + 1))) 28 3 = _ := (sI_ne _ 28 1 3 (by decide) _).trans c3
    have c4 : sI (setI σ 28 1 (nI (w + 1))) 28 4 = _ := (sI_ne _ 28 1 4 (by decide) _).trans c4
    have c5 : sI (setI σ 28 1 (nI (w + 1))) 28 5 = _ := (sI_ne _ 28 1 5 (by decide) _).trans c5
    generalize setI σ 28 1 (nI (w + 1)) = σd142 at hT hfD e0 r1 e2 c3 c4 c5 ⊢
    refine g_aload_n dX0_takeStep_101 rfl 2 rfl ?_
    refine g_dup dX0_takeStep_102 rfl ?_
    refine g_get kf_X0_18 kC_X0 (by decide) 28 at_28 rfl dX0_takeStep_103 ?_
    refine g_tope (z := nI t) (c3) ?_
    refine g_iconst dX0_takeStep_106 ci_1 ?_
    refine g_iadd dX0_takeStep_107 ?_
    refine g_tope (z := nI (t + 1)) (nI_add _ _) ?_
    refine s_putD (by decide) kf_X0_18 dX0_takeStep_108 ?_
    have hT := I_12 3 (nI (t + 1)) hT
    have hfD := fD_trans hfD (fD_I (a := σd142) 3 (nI (t + 1)))
    have e0 : sI (setI σd142 28 3 (nI (t + 1))) 28 0 = _ := (sI_ne _ 28 3 0 (by decide) _).trans e0
    have r1 : sI (setI σd142 28 3 (nI (t + 1))) 28 1 = _ := (sI_ne _ 28 3 1 (by decide) _).trans r1
    have e2 : sI (setI σd142 28 3 (nI (t + 1))) 28 2 = _ := (sI_ne _ 28 3 2 (by decide) _).trans e2
    have c3 : sI (setI σd142 28 3 (nI (t + 1))) 28 3 = nI (t + 1) := sI_same _ _ _ _
    have c4 : sI (setI σd142 28 3 (nI (t + 1))) 28 4 = _ := (sI_ne _ 28 3 4 (by decide) _).trans c4
    have c5 : sI (setI σd142 28 3 (nI (t + 1))) 28 5 = _ := (sI_ne _ 28 3 5 (by decide) _).trans c5
    generalize setI σd142 28 3 (nI (t + 1)) = σd143 at hT hfD e0 r1 e2 c3 c4 c5 ⊢
    refine g_iload_n dX0_takeStep_111 rfl 4 rfl ?_
    refine g_iconst dX0_takeStep_112 ci_3 ?_
    refine g_iadd dX0_takeStep_113 ?_
    refine g_tope (z := nI (b + lnS s b)) ((nI_add _ _).trans (by rw [hln])) ?_
    exact g_ireturn dX0_takeStep_114 (Nat.le_refl _) (Nat.le_refl _) (ht ((step_0 Y hw hk).trans e) _ hfD e0 r1 e2)
  · have hfD := fD_trans hfD (ft_fD hf2)
    have e0 : sI σ2 28 0 = _ := (congrFun (hf2.2.1 28 (by decide)) 0).trans e0
    have r1 : sI σ2 28 1 = _ := (congrFun (hf2.2.1 28 (by decide)) 1).trans r1
    have e2 : sI σ2 28 2 = _ := (congrFun (hf2.2.1 28 (by decide)) 2).trans e2
    have c3 : sI σ2 28 3 = _ := (congrFun (hf2.2.1 28 (by decide)) 3).trans c3
    have c4 : sI σ2 28 4 = _ := (congrFun (hf2.2.1 28 (by decide)) 4).trans c4
    have c5 : sI σ2 28 5 = _ := (congrFun (hf2.2.1 28 (by decide)) 5).trans c5
    refine s_putD (by decide) kf_X0_9 dX0_takeStep_98 ?_
    have hT := I_12 1 (nI 0) hT
    have hfD := fD_trans hfD (fD_I (a := σ2) 1 (nI 0))
    have e0 : sI (setI σ2 28 1 (nI 0)) 28 0 = _ := (sI_ne _ 28 1 0 (by decide) _).trans e0
    have r1 : sI (setI σ2 28 1 (nI 0)) 28 1 = nI 0 := sI_same _ _ _ _
    have e2 : sI (setI σ2 28 1 (nI 0)) 28 2 = _ := (sI_ne _ 28 1 2 (by decide) _).trans e2
    have c3 : sI (setI σ2 28 1 (nI 0)) 28 3 = _ := (sI_ne _ 28 1 3 (by decide) _).trans c3
    have c4 : sI (setI σ2 28 1 (nI 0)) 28 4 = _ := (sI_ne _ 28 1 4 (by decide) _).trans c4
    have c5 : sI (setI σ2 28 1 (nI 0)) 28 5 = _ := (sI_ne _ 28 1 5 (by decide) _).trans c5
    generalize setI σ2 28 1 (nI 0) = σd144 at hT hfD e0 r1 e2 c3 c4 c5 ⊢
    refine g_aload_n dX0_takeStep_101 rfl 2 rfl ?_
    refine g_dup dX0_takeStep_102 rfl ?_
    refine g_get kf_X0_18 kC_X0 (by decide) 28 at_28 rfl dX0_takeStep_103 ?_
    refine g_tope (z := nI t) (c3) ?_
    refine g_iconst dX0_takeStep_106 ci_1 ?_
    refine g_iadd dX0_takeStep_107 ?_
    refine g_tope (z := nI (t + 1)) (nI_add _ _) ?_
    refine s_putD (by decide) kf_X0_18 dX0_takeStep_108 ?_
    have hT := I_12 3 (nI (t + 1)) hT
    have hfD := fD_trans hfD (fD_I (a := σd144) 3 (nI (t + 1)))
    have e0 : sI (setI σd144 28 3 (nI (t + 1))) 28 0 = _ := (sI_ne _ 28 3 0 (by decide) _).trans e0
    have r1 : sI (setI σd144 28 3 (nI (t + 1))) 28 1 = _ := (sI_ne _ 28 3 1 (by decide) _).trans r1
    have e2 : sI (setI σd144 28 3 (nI (t + 1))) 28 2 = _ := (sI_ne _ 28 3 2 (by decide) _).trans e2
    have c3 : sI (setI σd144 28 3 (nI (t + 1))) 28 3 = nI (t + 1) := sI_same _ _ _ _
    have c4 : sI (setI σd144 28 3 (nI (t + 1))) 28 4 = _ := (sI_ne _ 28 3 4 (by decide) _).trans c4
    have c5 : sI (setI σd144 28 3 (nI (t + 1))) 28 5 = _ := (sI_ne _ 28 3 5 (by decide) _).trans c5
    generalize setI σd144 28 3 (nI (t + 1)) = σd145 at hT hfD e0 r1 e2 c3 c4 c5 ⊢
    refine g_iload_n dX0_takeStep_111 rfl 4 rfl ?_
    refine g_iconst dX0_takeStep_112 ci_3 ?_
    refine g_iadd dX0_takeStep_113 ?_
    refine g_tope (z := nI (b + lnS s b)) ((nI_add _ _).trans (by rw [hln])) ?_
    exact g_ireturn dX0_takeStep_114 (Nat.le_refl _) (Nat.le_refl _) (ht0 ((step_0 Y hw hk).trans e) _ hfD hT e0 r1 e2 ⟨c3.trans (by rw [hk]; rfl), c4.trans (by rw [hk]; rfl), c5.trans (by rw [hk]; rfl)⟩)
set_option maxHeartbeats 4000000 in
set_option maxRecDepth 20000 in
theorem k1_X0_takeStep {l : Launch} {D : gE} {L : Nat → Nat} {σ : St} {Q : Option Value → va_W → Prop} {d : Nat} {s : Nat → Nat} {n : Nat} (hp : padC σ s n) {Y : XT} (hT : rzT σ 12 Y) (hoY : okX Y) {b : Nat} (hw : wfS s b) (hin : b + lnS s b ≤ n) {E0 R1 E2 : Int32} {t c m : Nat} (e0 : sI σ 28 0 = E0) (r1 : sI σ 28 1 = R1) (e2 : sI σ 28 2 = E2) (c3 : sI σ 28 3 = nI t) (c4 : sI σ 28 4 = nI c) (c5 : sI σ 28 5 = nI m) (hR : R1 = nI 0) (hb9 : t < 1000000 ∧ c < 1000000 ∧ m < 1000000) (ht : ∀ {w : Nat}, stepE s Y b = (w + 1, Y) → ∀ σ', fD σ σ' → sI σ' 28 0 = E0 → sI σ' 28 1 = nI (w + 1) → sI σ' 28 2 = E2 → Q (some (.int (nI (b + lnS s b)))) (wsOf D L σ')) (ht0 : ∀ {X' : XT}, stepE s Y b = (0, X') → ∀ σ', fD σ σ' → rzT σ' 12 X' → sI σ' 28 0 = E0 → sI σ' 28 1 = nI 0 → sI σ' 28 2 = E2 → ctD σ' (t + b2n (kdS s b == 0)) (c + b2n (kdS s b == 1)) (m + b2n (kdS s b == 3)) → Q (some (.int (nI (b + lnS s b)))) (wsOf D L σ')) (hk : kdS s b = 1) : Ctr l D yX0_takeStep cX0_takeStep 6 (some .int) (rr (d + 4)) [.ref (L 28), .ref (L 26), .int (nI b), .ref (L 12)] (wsOf D L σ) Q := by
  refine g_start ky_X0_takeStep (Nat.le_of_ble_eq_true rfl) ?_
  refine g_pick [0, 1, 2, 3] (lv' := [(0, .ref (L 28)), (1, .ref (L 26)), (2, .int (nI b)), (3, .ref (L 12))]) rfl ?_
  have hkd := kd_1 hw hk
  have hln : lnS s b = 2 := by unfold lnS; rw [if_neg (by omega), if_neg (by omega), if_neg (by omega)]
  have hn60 := hp.2.1
  have hfD : fD σ σ := fD_rfl
  refine g_aload_n dX0_takeStep_0 rfl 1 rfl ?_
  refine g_iload_n dX0_takeStep_1 rfl 2 rfl ?_
  refine g_callV (As := [.int (nI b)]) km_X0_49 ky_X2_signAt ki_X2_signAt (by decide) 26 at_26 rfl rfl (Nat.le_of_ble_eq_true rfl) dX0_takeStep_2 rfl (c_X2_signAt hp (by omega) (fun _ => ?_) (fun q => absurd (show b < n by omega) q))
  refine g_istore (lv' := [(4, .int (nI (s b))), (0, .ref (L 28)), (1, .ref (L 26)), (2, .int (nI b)), (3, .ref (L 12))]) dX0_takeStep_5 (by decide) rfl ?_
  refine g_aload_n dX0_takeStep_7 rfl 2 rfl ?_
  refine g_iload_n dX0_takeStep_8 rfl 3 rfl ?_
  refine g_iconst dX0_takeStep_9 ci_1 ?_
  refine g_iadd dX0_takeStep_10 ?_
  refine g_tope (z := nI (b + 1)) (nI_add _ _) ?_
  refine g_callV (As := [.int (nI (b + 1))]) km_X0_49 ky_X2_signAt ki_X2_signAt (by decide) 26 at_26 rfl rfl (Nat.le_of_ble_eq_true rfl) dX0_takeStep_11 rfl (c_X2_signAt hp (by omega) (fun _ => ?_) (fun q => absurd (show b + 1 < n by omega) q))
  refine g_istore (lv' := [(5, .int (nI (s (b + 1)))), (4, .int (nI (s b))), (0, .ref (L 28)), (1, .ref (L 26)), (2, .int (nI b)), (3, .ref (L 12))]) dX0_takeStep_14 (by decide) rfl ?_
  refine g_iload dX0_takeStep_16 1 rfl ?_
  refine g_bipush dX0_takeStep_18 bp_46 ?_
  refine n_icmpne 41 dX0_takeStep_20 (by decide) (by omega) (by omega) (fun h20 => ?_) (fun h20 => absurd h20 (by omega))
  refine g_iload dX0_takeStep_41 1 rfl ?_
  refine g_bipush dX0_takeStep_43 bp_33 ?_
  refine n_icmpne 65 dX0_takeStep_45 (by decide) (by omega) (by omega) (fun h45 => ?_) (fun h45 => absurd h45 (by omega))
  refine g_iload dX0_takeStep_65 0 rfl ?_
  refine g_callS (As := [.int (nI (s (b + 1)))]) km_X0_59 ky_X2_isPersonSign ks_X2_isPersonSign (by decide) rfl (Nat.le_of_ble_eq_true rfl) dX0_takeStep_67 rfl (c_X2_isPersonSign (by omega) (fun q => absurd q (by omega)) (fun _ => ?_))
  refine t_ifeq0 115 dX0_takeStep_70 (by decide) ?_
  refine g_aload_n dX0_takeStep_115 rfl 2 rfl ?_
  refine g_aload_n dX0_takeStep_116 rfl 5 rfl ?_
  refine g_iload dX0_takeStep_117 1 rfl ?_
  refine g_bipush dX0_takeStep_119 bp_65 ?_
  refine g_isub dX0_takeStep_121 ?_
  refine g_tope (z := nI ((s b) - 65)) (nI_subn (by omega)) ?_
  refine g_iload dX0_takeStep_122 0 rfl ?_
  refine g_bipush dX0_takeStep_124 bp_48 ?_
  refine g_isub dX0_takeStep_126 ?_
  refine g_tope (z := nI ((s (b + 1)) - 48)) (nI_subn (by omega)) ?_
  refine g_callV (As := [.int (nI ((s b) - 65)), .int (nI ((s (b + 1)) - 48))]) km_X0_67 ky_X3_crossIfItCanBe ki_X3_crossIfItCanBe (by decide) 12 (at_tn (Or.inr (Or.inl rfl))) rfl rfl (Nat.le_of_ble_eq_true rfl) dX0_takeStep_127 rfl (c_X3_cross (Or.inr (Or.inl rfl)) hT hoY (by omega) (by omega) (fun {w} e => ?_) (fun {X2} e σ2 hf2 hT => ?_))
  · refine s_putD (by decide) kf_X0_9 dX0_takeStep_130 ?_
    have hT := I_12 1 (nI (w + 1)) hT
    have hfD := fD_trans hfD (fD_I (a := σ) 1 (nI (w + 1)))
    have e0 : sI (setI σ 28 1 (nI (w + 1))) 28 0 = _ := (sI_ne _ 28 1 0 (by decide) _).trans e0
    have r1 : sI (setI σ 28 1 (nI (w + 1))) 28 1 = nI (w + 1) := sI_same _ _ _ _
    have e2 : sI (setI σ 28 1 (nI (w + 1))) 28 2 = _ := (sI_ne _ 28 1 2 (by decide) _).trans e2
    have c3 : sI (setI σ 28 1 (nI (w + 1))) 28 3 = _ := (sI_ne _ 28 1 3 (by decide) _).trans c3
    have c4 : sI (setI σ 28 1 (nI (w + 1))) 28 4 = _ := (sI_ne _ 28 1 4 (by decide) _).trans c4
    have c5 : sI (setI σ 28 1 (nI (w + 1))) 28 5 = _ := (sI_ne _ 28 1 5 (by decide) _).trans c5
    generalize setI σ 28 1 (nI (w + 1)) = σd146 at hT hfD e0 r1 e2 c3 c4 c5 ⊢
    refine g_aload_n dX0_takeStep_133 rfl 2 rfl ?_
    refine g_dup dX0_takeStep_134 rfl ?_
    refine g_get kf_X0_21 kC_X0 (by decide) 28 at_28 rfl dX0_takeStep_135 ?_
    refine g_tope (z := nI c) (c4) ?_
    refine g_iconst dX0_takeStep_138 ci_1 ?_
    refine g_iadd dX0_takeStep_139 ?_
    refine g_tope (z := nI (c + 1)) (nI_add _ _) ?_
    refine s_putD (by decide) kf_X0_21 dX0_takeStep_140 ?_
    have hT := I_12 4 (nI (c + 1)) hT
    have hfD := fD_trans hfD (fD_I (a := σd146) 4 (nI (c + 1)))
    have e0 : sI (setI σd146 28 4 (nI (c + 1))) 28 0 = _ := (sI_ne _ 28 4 0 (by decide) _).trans e0
    have r1 : sI (setI σd146 28 4 (nI (c + 1))) 28 1 = _ := (sI_ne _ 28 4 1 (by decide) _).trans r1
    have e2 : sI (setI σd146 28 4 (nI (c + 1))) 28 2 = _ := (sI_ne _ 28 4 2 (by decide) _).trans e2
    have c3 : sI (setI σd146 28 4 (nI (c + 1))) 28 3 = _ := (sI_ne _ 28 4 3 (by decide) _).trans c3
    have c4 : sI (setI σd146 28 4 (nI (c + 1))) 28 4 = nI (c + 1) := sI_same _ _ _ _
    have c5 : sI (setI σd146 28 4 (nI (c + 1))) 28 5 = _ := (sI_ne _ 28 4 5 (by decide) _).trans c5
    generalize setI σd146 28 4 (nI (c + 1)) = σd147 at hT hfD e0 r1 e2 c3 c4 c5 ⊢
    refine g_iload_n dX0_takeStep_143 rfl 4 rfl ?_
    refine g_iconst dX0_takeStep_144 ci_2 ?_
    refine g_iadd dX0_takeStep_145 ?_
    refine g_tope (z := nI (b + lnS s b)) ((nI_add _ _).trans (by rw [hln])) ?_
    exact g_ireturn dX0_takeStep_146 (Nat.le_refl _) (Nat.le_refl _) (ht ((step_1 Y hw hk).trans e) _ hfD e0 r1 e2)
  · have hfD := fD_trans hfD (ft_fD hf2)
    have e0 : sI σ2 28 0 = _ := (congrFun (hf2.2.1 28 (by decide)) 0).trans e0
    have r1 : sI σ2 28 1 = _ := (congrFun (hf2.2.1 28 (by decide)) 1).trans r1
    have e2 : sI σ2 28 2 = _ := (congrFun (hf2.2.1 28 (by decide)) 2).trans e2
    have c3 : sI σ2 28 3 = _ := (congrFun (hf2.2.1 28 (by decide)) 3).trans c3
    have c4 : sI σ2 28 4 = _ := (congrFun (hf2.2.1 28 (by decide)) 4).trans c4
    have c5 : sI σ2 28 5 = _ := (congrFun (hf2.2.1 28 (by decide)) 5).trans c5
    refine s_putD (by decide) kf_X0_9 dX0_takeStep_130 ?_
    have hT := I_12 1 (nI 0) hT
    have hfD := fD_trans hfD (fD_I (a := σ2) 1 (nI 0))
    have e0 : sI (setI σ2 28 1 (nI 0)) 28 0 = _ := (sI_ne _ 28 1 0 (by decide) _).trans e0
    have r1 : sI (setI σ2 28 1 (nI 0)) 28 1 = nI 0 := sI_same _ _ _ _
    have e2 : sI (setI σ2 28 1 (nI 0)) 28 2 = _ := (sI_ne _ 28 1 2 (by decide) _).trans e2
    have c3 : sI (setI σ2 28 1 (nI 0)) 28 3 = _ := (sI_ne _ 28 1 3 (by decide) _).trans c3
    have c4 : sI (setI σ2 28 1 (nI 0)) 28 4 = _ := (sI_ne _ 28 1 4 (by decide) _).trans c4
    have c5 : sI (setI σ2 28 1 (nI 0)) 28 5 = _ := (sI_ne _ 28 1 5 (by decide) _).trans c5
    generalize setI σ2 28 1 (nI 0) = σd148 at hT hfD e0 r1 e2 c3 c4 c5 ⊢
    refine g_aload_n dX0_takeStep_133 rfl 2 rfl ?_
    refine g_dup dX0_takeStep_134 rfl ?_
    refine g_get kf_X0_21 kC_X0 (by decide) 28 at_28 rfl dX0_takeStep_135 ?_
    refine g_tope (z := nI c) (c4) ?_
    refine g_iconst dX0_takeStep_138 ci_1 ?_
    refine g_iadd dX0_takeStep_139 ?_
    refine g_tope (z := nI (c + 1)) (nI_add _ _) ?_
    refine s_putD (by decide) kf_X0_21 dX0_takeStep_140 ?_
    have hT := I_12 4 (nI (c + 1)) hT
    have hfD := fD_trans hfD (fD_I (a := σd148) 4 (nI (c + 1)))
    have e0 : sI (setI σd148 28 4 (nI (c + 1))) 28 0 = _ := (sI_ne _ 28 4 0 (by decide) _).trans e0
    have r1 : sI (setI σd148 28 4 (nI (c + 1))) 28 1 = _ := (sI_ne _ 28 4 1 (by decide) _).trans r1
    have e2 : sI (setI σd148 28 4 (nI (c + 1))) 28 2 = _ := (sI_ne _ 28 4 2 (by decide) _).trans e2
    have c3 : sI (setI σd148 28 4 (nI (c + 1))) 28 3 = _ := (sI_ne _ 28 4 3 (by decide) _).trans c3
    have c4 : sI (setI σd148 28 4 (nI (c + 1))) 28 4 = nI (c + 1) := sI_same _ _ _ _
    have c5 : sI (setI σd148 28 4 (nI (c + 1))) 28 5 = _ := (sI_ne _ 28 4 5 (by decide) _).trans c5
    generalize setI σd148 28 4 (nI (c + 1)) = σd149 at hT hfD e0 r1 e2 c3 c4 c5 ⊢
    refine g_iload_n dX0_takeStep_143 rfl 4 rfl ?_
    refine g_iconst dX0_takeStep_144 ci_2 ?_
    refine g_iadd dX0_takeStep_145 ?_
    refine g_tope (z := nI (b + lnS s b)) ((nI_add _ _).trans (by rw [hln])) ?_
    exact g_ireturn dX0_takeStep_146 (Nat.le_refl _) (Nat.le_refl _) (ht0 ((step_1 Y hw hk).trans e) _ hfD hT e0 r1 e2 ⟨c3.trans (by rw [hk]; rfl), c4.trans (by rw [hk]; rfl), c5.trans (by rw [hk]; rfl)⟩)
theorem c_X0_takeStep {l : Launch} {D : gE} {L : Nat → Nat} {σ : St} {Q : Option Value → va_W → Prop} {d : Nat} {s : Nat → Nat} {n : Nat} (hp : padC σ s n) {Y : XT} (hT : rzT σ 12 Y) (hoY : okX Y) {b : Nat} (hw : wfS s b) (hin : b + lnS s b ≤ n) {E0 R1 E2 : Int32} {t c m : Nat} (e0 : sI σ 28 0 = E0) (r1 : sI σ 28 1 = R1) (e2 : sI σ 28 2 = E2) (c3 : sI σ 28 3 = nI t) (c4 : sI σ 28 4 = nI c) (c5 : sI σ 28 5 = nI m) (hR : R1 = nI 0) (hb9 : t < 1000000 ∧ c < 1000000 ∧ m < 1000000) (ht : ∀ {w : Nat}, stepE s Y b = (w + 1, Y) → ∀ σ', fD σ σ' → sI σ' 28 0 = E0 → sI σ' 28 1 = nI (w + 1) → sI σ' 28 2 = E2 → Q (some (.int (nI (b + lnS s b)))) (wsOf D L σ')) (ht0 : ∀ {X' : XT}, stepE s Y b = (0, X') → ∀ σ', fD σ σ' → rzT σ' 12 X' → sI σ' 28 0 = E0 → sI σ' 28 1 = nI 0 → sI σ' 28 2 = E2 → ctD σ' (t + b2n (kdS s b == 0)) (c + b2n (kdS s b == 1)) (m + b2n (kdS s b == 3)) → Q (some (.int (nI (b + lnS s b)))) (wsOf D L σ')) : Ctr l D yX0_takeStep cX0_takeStep 6 (some .int) (rr (d + 4)) [.ref (L 28), .ref (L 26), .int (nI b), .ref (L 12)] (wsOf D L σ) Q := by
  have h3 := kd_le s b
  rcases (show kdS s b = 0 ∨ kdS s b = 1 ∨ kdS s b = 2 ∨ kdS s b = 3 by omega) with hk | hk | hk | hk
  · exact k0_X0_takeStep hp hT hoY hw hin e0 r1 e2 c3 c4 c5 hR hb9 ht ht0 hk
  · exact k1_X0_takeStep hp hT hoY hw hin e0 r1 e2 c3 c4 c5 hR hb9 ht ht0 hk
  · exact k2_X0_takeStep hp hT hoY hw hin e0 r1 e2 c3 c4 c5 hR hb9 ht ht0 hk
  · exact k3_X0_takeStep hp hT hoY hw hin e0 r1 e2 c3 c4 c5 hR hb9 ht ht0 hk
