theorem c_X2_faultC {l : Launch} {D : gE} {L : Nat → Nat} {σ : St} {Q : Option Value → va_W → Prop} {d : Nat} {s : Nat → Nat} {n : Nat} (hp : padC σ s n) (hg : fltR s n = -6 → pdS s n = 0 → (∀ j, j ≤ n → pdS s j ≠ 4) → Q (some (.int (-6))) (wsOf D L σ)) (hb : ∀ v, v ≤ 60 → fltR s n = nI v → Q (some (.int (nI v))) (wsOf D L σ)) : Ctr l D yX2_faultPlace cX2_faultPlace 3 (some .int) (rr (d + 3)) [.ref (L 26)] (wsOf D L σ) Q :=
  c_X2_faultPlace hp (by
    rcases flt_cases (s := s) hp.2.1 with ⟨e, h0, h4⟩ | ⟨v, hv, e⟩
    · rw [e]; exact hg e h0 h4
    · rw [e]; exact hb v hv e)
set_option maxHeartbeats 4000000 in
theorem bd_X0_live {l : Launch} {D : gE} {L : Nat → Nat} {σ : St} {Q : Option Value → va_W → Prop} {d : Nat} {s : Nat → Nat} {n : Nat} (hp : padC σ s n) {k p : Nat} (hk : k < 2 ^ 31) (hpl : p < 2 ^ 31) (e0 : sI σ 28 0 = -3) (h : Q none (wsOf D L σ)) : G l D yX0_live cX0_live 6 none (rr (d + 5)) Q 0 0 55 [(5, .int (nI k)), (4, .int (nI p)), (0, .ref (L 28)), (1, .ref (L 26)), (2, .ref (L 0)), (3, .ref (L 12))] [] (wsOf D L σ) := by
  have hn60 := hp.2.1
  refine g_iload dX0_live_55 0 rfl ?_
  refine g_bipush dX0_live_57 bp_60 ?_
  refine n_icmpge 120 dX0_live_59 (by decide) (by omega) (by omega) (fun h59 => ?_) (fun h59 => ?_)
  · exact g_return dX0_live_120 (Nat.le_refl _) (Nat.le_refl _) (h)
  · refine g_iload dX0_live_62 1 rfl ?_
    refine g_aload_n dX0_live_64 rfl 3 rfl ?_
    refine g_get kf_X0_42 kC_X2 (by decide) 26 at_26 rfl dX0_live_65 ?_
    refine g_tope (z := nI n) (hp.1) ?_
    refine n_icmpge 120 dX0_live_68 (by decide) (by omega) (by omega) (fun h68 => ?_) (fun h68 => ?_)
    · exact g_return dX0_live_120 (Nat.le_refl _) (Nat.le_refl _) (h)
    · refine g_aload_n dX0_live_71 rfl 2 rfl ?_
      refine g_get kf_X0_33 kC_X0 (by decide) 28 at_28 rfl dX0_live_72 ?_
      refine g_tope (z := (-3)) (e0) ?_
      refine g_ifne 120 dX0_live_75 (by decide) (fun h75 => ?_) (fun h75 => absurd h75 (by decide +kernel))
      exact g_return dX0_live_120 (Nat.le_refl _) (Nat.le_refl _) (h)
set_option maxHeartbeats 4000000 in
set_option maxRecDepth 20000 in
theorem lp_X0_live {l : Launch} {D : gE} {L : Nat → Nat} {σ : St} {Q : Option Value → va_W → Prop} {d : Nat} {X : XT} (ho : okX X) {s : Nat → Nat} {n : Nat} (hf : fltR s n = -6) (h0 : pdS s n = 0) (hn60 : n ≤ 60) (hwf9 : ∀ j, j < pjS s n → wfS s (psS s j)) (hA : ∀ v, v ≤ 60 → fltR s n = nI v → ∀ σ', fD σ σ' → sI σ' 28 0 = -5 → Q none (wsOf D L σ')) (hB : fltR s n = -6 → gdS s X (pjS s n) < pjS s n → ∀ σ', fD σ σ' → sI σ' 28 0 = -3 → sI σ' 28 1 = nI (wyS s X (gdS s X (pjS s n))) → sI σ' 28 2 = nI (gdS s X (pjS s n)) → Q none (wsOf D L σ')) (hC : fltR s n = -6 → gdS s X (pjS s n) = pjS s n → ∀ σ', fD σ σ' → sI σ' 28 0 = nI 0 → sI σ' 28 2 = nI (pjS s n) → ctD σ' (kcS s 0 (pjS s n)) (kcS s 1 (pjS s n)) (kcS s 3 (pjS s n)) → rzT σ' 12 (dyS s X (pjS s n)) → Q none (wsOf D L σ')) : ∀ n_ k, k + n_ = pjS s n → ∀ σ', fD σ σ' → padC σ' s n → rzT σ' 12 (dyS s X k) → sI σ' 28 0 = nI 0 → sI σ' 28 1 = nI 0 → sI σ' 28 2 = nI k → ctD σ' (kcS s 0 k) (kcS s 1 k) (kcS s 3 k) → (∀ j, j < k → wyS s X j = 0) → G l D yX0_live cX0_live 6 none (rr (d + 5)) Q 0 0 55 [(5, .int (nI k)), (4, .int (nI (psS s k))), (0, .ref (L 28)), (1, .ref (L 26)), (2, .ref (L 0)), (3, .ref (L 12))] [] (wsOf D L σ') := by
  intro n_
  induction n_ with
  | zero =>
    intro k hct σ' hfD hp hT e0 r1 e2 hct0 hno
    obtain rfl : k = pjS s n := by omega
    have hpe := ps_end h0
    have hmn := pj_le s n
    refine g_iload dX0_live_55 0 rfl ?_
    refine g_bipush dX0_live_57 bp_60 ?_
    refine n_icmpge 120 dX0_live_59 (by decide) (by omega) (by omega) (fun h59 => ?_) (fun h59 => ?_)
    · exact g_return dX0_live_120 (Nat.le_refl _) (Nat.le_refl _) (hC hf (gd_none hno) _ hfD e0 e2 hct0 hT)
    · refine g_iload dX0_live_62 1 rfl ?_
      refine g_aload_n dX0_live_64 rfl 3 rfl ?_
      refine g_get kf_X0_42 kC_X2 (by decide) 26 at_26 rfl dX0_live_65 ?_
      refine g_tope (z := nI n) (hp.1) ?_
      refine n_icmpge 120 dX0_live_68 (by decide) (by omega) (by omega) (fun h68 => ?_) (fun h68 => absurd h68 (by omega))
      exact g_return dX0_live_120 (Nat.le_refl _) (Nat.le_refl _) (hC hf (gd_none hno) _ hfD e0 e2 hct0 hT)
  | succ n_ ih =>
    intro k hct σ' hfD hp hT e0 r1 e2 hct0 hno
    have hpn := ps_in h0 (show k < pjS s n by omega)
    have hlp := ln_pos s (psS s k)
    have hmn := pj_le s n
    have hwf := hwf9 k (by omega)
    have hok := dy_ok hwf9 ho k (by omega)
    obtain ⟨c3, c4, c5⟩ := hct0
    refine g_iload dX0_live_55 0 rfl ?_
    refine g_bipush dX0_live_57 bp_60 ?_
    refine n_icmpge 120 dX0_live_59 (by decide) (by omega) (by omega) (fun h59 => absurd h59 (by omega)) (fun h59 => ?_)
    refine g_iload dX0_live_62 1 rfl ?_
    refine g_aload_n dX0_live_64 rfl 3 rfl ?_
    refine g_get kf_X0_42 kC_X2 (by decide) 26 at_26 rfl dX0_live_65 ?_
    refine g_tope (z := nI n) (hp.1) ?_
    refine n_icmpge 120 dX0_live_68 (by decide) (by omega) (by omega) (fun h68 => absurd h68 (by omega)) (fun h68 => ?_)
    refine g_aload_n dX0_live_71 rfl 2 rfl ?_
    refine g_get kf_X0_33 kC_X0 (by decide) 28 at_28 rfl dX0_live_72 ?_
    refine g_tope (z := nI 0) (e0) ?_
    refine t_ifne0 (tgt := 120) dX0_live_75 (by decide) ?_
    refine g_aload_n dX0_live_78 rfl 2 rfl ?_
    refine g_aload_n dX0_live_79 rfl 3 rfl ?_
    refine g_iload dX0_live_80 1 rfl ?_
    refine g_aload_n dX0_live_82 rfl 5 rfl ?_
    refine g_callV (As := [.ref (L 26), .int (nI (psS s k)), .ref (L 12)]) km_X0_45 ky_X0_takeStep ki_X0_takeStep (by decide) 28 at_28 rfl rfl (Nat.le_of_ble_eq_true rfl) dX0_live_83 rfl (c_X0_takeStep hp hT hok hwf (ps_in h0 (by omega)) e0 r1 e2 c3 c4 c5 rfl (by have := kcS_le s 0 k; have := kcS_le s 1 k; have := kcS_le s 3 k; omega) (fun {w} e σ2 hf2 e0 r1 e2 => ?_) (fun {X2} e σ2 hf2 hT2 e0 r1 e2 hct2 => ?_))
    · have hwk : wyS s X k = w + 1 := by unfold wyS; rw [e]
      have hw8 : w + 1 ≤ 8 := by have h8 := wy_le s X k; omega
      have hp := fD_pad hf2 hp
      have hfD := fD_trans hfD hf2
      refine g_istore (lv' := [(4, .int (nI (psS s k + lnS s (psS s k)))), (5, .int (nI k)), (0, .ref (L 28)), (1, .ref (L 26)), (2, .ref (L 0)), (3, .ref (L 12))]) dX0_live_86 (by decide) rfl ?_
      refine g_aload_n dX0_live_88 rfl 2 rfl ?_
      refine g_get kf_X0_9 kC_X0 (by decide) 28 at_28 rfl dX0_live_89 ?_
      refine g_tope (z := nI (w + 1)) (r1) ?_
      refine n_ifne 108 dX0_live_92 (by decide) (by omega) (fun h92 => ?_) (fun h92 => absurd h92 (by omega))
      refine g_aload_n dX0_live_108 rfl 2 rfl ?_
      refine g_bipush dX0_live_109 bp_m3 ?_
      refine s_putD (by decide) kf_X0_33 dX0_live_111 ?_
      have r1 : sI (setI σ2 28 0 (-3)) 28 1 = _ := (sI_ne _ 28 0 1 (by decide) _).trans r1
      have e2 : sI (setI σ2 28 0 (-3)) 28 2 = _ := (sI_ne _ 28 0 2 (by decide) _).trans e2
      have e0 : sI (setI σ2 28 0 (-3)) 28 0 = -3 := sI_same _ _ _ _
      have hfD := fD_trans hfD (fD_I (a := σ2) 0 (-3))
      have hp := fD_pad (fD_I (a := σ2) 0 (-3)) hp
      generalize setI σ2 28 0 (-3) = σ3 at r1 e2 e0 hfD hp ⊢
      refine g_iinc (v := nI (k + 1)) (lv' := [(5, .int (nI (k + 1))), (4, .int (nI (psS s k + lnS s (psS s k)))), (0, .ref (L 28)), (1, .ref (L 26)), (2, .ref (L 0)), (3, .ref (L 12))]) dX0_live_114 1 rfl (inc_n _) (by decide) rfl ?_
      refine g_goto 55 dX0_live_117 (by decide) ?_
      refine g_pick [0, 1, 2, 3, 4, 5] (lv' := [(5, .int (nI (k + 1))), (4, .int (nI (psS s k + lnS s (psS s k)))), (0, .ref (L 28)), (1, .ref (L 26)), (2, .ref (L 0)), (3, .ref (L 12))]) rfl ?_
      have hgk : gdS s X (pjS s n) = k := gd_bad (by omega) (by omega) hno
      exact bd_X0_live hp (by omega) (by have := ps_in h0 (show k < pjS s n by omega); have := hp.2.1; omega) e0 (hB hf (by omega) _ hfD e0 (by rw [hgk, hwk]; exact r1) (by rw [hgk]; exact e2))
    · have hwk : wyS s X k = 0 := by unfold wyS; rw [e]
      have e9 : X2 = dyS s X (k + 1) := by show _ = (stepE s (dyS s X k) (psS s k)).2; rw [e]
      subst e9
      have hT := hT2
      have hp := fD_pad hf2 hp
      have hfD := fD_trans hfD hf2
      obtain ⟨c3, c4, c5⟩ := hct2
      refine g_istore (lv' := [(4, .int (nI (psS s k + lnS s (psS s k)))), (5, .int (nI k)), (0, .ref (L 28)), (1, .ref (L 26)), (2, .ref (L 0)), (3, .ref (L 12))]) dX0_live_86 (by decide) rfl ?_
      refine g_aload_n dX0_live_88 rfl 2 rfl ?_
      refine g_get kf_X0_9 kC_X0 (by decide) 28 at_28 rfl dX0_live_89 ?_
      refine g_tope (z := nI 0) (r1) ?_
      refine t_ifne0 (tgt := 108) dX0_live_92 (by decide) ?_
      refine g_aload_n dX0_live_95 rfl 2 rfl ?_
      refine g_dup dX0_live_96 rfl ?_
      refine g_get kf_X0_15 kC_X0 (by decide) 28 at_28 rfl dX0_live_97 ?_
      refine g_tope (z := nI k) (e2) ?_
      refine g_iconst dX0_live_100 ci_1 ?_
      refine g_iadd dX0_live_101 ?_
      refine g_tope (z := nI (k + 1)) (nI_add _ _) ?_
      refine s_putD (by decide) kf_X0_15 dX0_live_102 ?_
      have hT := I_12 2 (nI (k + 1)) hT
      have e0 : sI (setI σ2 28 2 (nI (k + 1))) 28 0 = _ := (sI_ne _ 28 2 0 (by decide) _).trans e0
      have r1 : sI (setI σ2 28 2 (nI (k + 1))) 28 1 = _ := (sI_ne _ 28 2 1 (by decide) _).trans r1
      have c3 : sI (setI σ2 28 2 (nI (k + 1))) 28 3 = _ := (sI_ne _ 28 2 3 (by decide) _).trans c3
      have c4 : sI (setI σ2 28 2 (nI (k + 1))) 28 4 = _ := (sI_ne _ 28 2 4 (by decide) _).trans c4
      have c5 : sI (setI σ2 28 2 (nI (k + 1))) 28 5 = _ := (sI_ne _ 28 2 5 (by decide) _).trans c5
      have e2 : sI (setI σ2 28 2 (nI (k + 1))) 28 2 = nI (k + 1) := sI_same _ _ _ _
      have hfD := fD_trans hfD (fD_I (a := σ2) 2 (nI (k + 1)))
      have hp := fD_pad (fD_I (a := σ2) 2 (nI (k + 1))) hp
      generalize setI σ2 28 2 (nI (k + 1)) = σ3 at hT r1 e2 e0 c3 c4 c5 hfD hp ⊢
      refine g_goto 114 dX0_live_105 (by decide) ?_
      refine g_iinc (v := nI (k + 1)) (lv' := [(5, .int (nI (k + 1))), (4, .int (nI (psS s k + lnS s (psS s k)))), (0, .ref (L 28)), (1, .ref (L 26)), (2, .ref (L 0)), (3, .ref (L 12))]) dX0_live_114 1 rfl (inc_n _) (by decide) rfl ?_
      refine g_goto 55 dX0_live_117 (by decide) ?_
      refine g_pick [0, 1, 2, 3, 4, 5] (lv' := [(5, .int (nI (k + 1))), (4, .int (nI (psS s k + lnS s (psS s k)))), (0, .ref (L 28)), (1, .ref (L 26)), (2, .ref (L 0)), (3, .ref (L 12))]) rfl ?_
      exact ih (k + 1) (by omega) _ hfD hp hT e0 r1 e2 ⟨c3, c4, c5⟩ (fun j hj => by by_cases c : j = k; rw [c]; exact hwk; exact hno j (by omega))
set_option maxHeartbeats 4000000 in
set_option maxRecDepth 20000 in
theorem c_X0_live {l : Launch} {D : gE} {L : Nat → Nat} {σ : St} {Q : Option Value → va_W → Prop} {d : Nat} {s : Nat → Nat} {n : Nat} (hp : padC σ s n) {X : XT} (hX : rzT σ 0 X) (ho : okX X) (hA : ∀ v, v ≤ 60 → fltR s n = nI v → ∀ σ', fD σ σ' → sI σ' 28 0 = -5 → Q none (wsOf D L σ')) (hB : fltR s n = -6 → gdS s X (pjS s n) < pjS s n → ∀ σ', fD σ σ' → sI σ' 28 0 = -3 → sI σ' 28 1 = nI (wyS s X (gdS s X (pjS s n))) → sI σ' 28 2 = nI (gdS s X (pjS s n)) → Q none (wsOf D L σ')) (hC : fltR s n = -6 → gdS s X (pjS s n) = pjS s n → ∀ σ', fD σ σ' → sI σ' 28 0 = nI 0 → sI σ' 28 2 = nI (pjS s n) → ctD σ' (kcS s 0 (pjS s n)) (kcS s 1 (pjS s n)) (kcS s 3 (pjS s n)) → rzT σ' 12 (dyS s X (pjS s n)) → Q none (wsOf D L σ')) : Ctr l D yX0_live cX0_live 6 none (rr (d + 5)) [.ref (L 28), .ref (L 26), .ref (L 0), .ref (L 12)] (wsOf D L σ) Q := by
  refine g_start ky_X0_live (Nat.le_of_ble_eq_true rfl) ?_
  refine g_pick [0, 1, 2, 3] (lv' := [(0, .ref (L 28)), (1, .ref (L 26)), (2, .ref (L 0)), (3, .ref (L 12))]) rfl ?_
  have hn60 := hp.2.1
  have hfD : fD σ σ := fD_rfl
  have e0 : sI σ 28 0 = sI σ 28 0 := rfl
  have r1 : sI σ 28 1 = sI σ 28 1 := rfl
  have e2 : sI σ 28 2 = sI σ 28 2 := rfl
  have c3 : sI σ 28 3 = sI σ 28 3 := rfl
  have c4 : sI σ 28 4 = sI σ 28 4 := rfl
  have c5 : sI σ 28 5 = sI σ 28 5 := rfl
  refine g_aload_n dX0_live_0 rfl 0 rfl ?_
  refine g_iconst dX0_live_1 ci_0 ?_
  refine s_putD (by decide) kf_X0_9 dX0_live_2 ?_
  have hfD := fD_trans hfD (fD_I (a := σ) 1 (nI 0))
  have hp := fD_pad (fD_I (a := σ) 1 (nI 0)) hp
  have e0 : sI (setI σ 28 1 (nI 0)) 28 0 = _ := (sI_ne _ 28 1 0 (by decide) _).trans e0
  have r1 : sI (setI σ 28 1 (nI 0)) 28 1 = nI 0 := sI_same _ _ _ _
  have e2 : sI (setI σ 28 1 (nI 0)) 28 2 = _ := (sI_ne _ 28 1 2 (by decide) _).trans e2
  have c3 : sI (setI σ 28 1 (nI 0)) 28 3 = _ := (sI_ne _ 28 1 3 (by decide) _).trans c3
  have c4 : sI (setI σ 28 1 (nI 0)) 28 4 = _ := (sI_ne _ 28 1 4 (by decide) _).trans c4
  have c5 : sI (setI σ 28 1 (nI 0)) 28 5 = _ := (sI_ne _ 28 1 5 (by decide) _).trans c5
  generalize setI σ 28 1 (nI 0) = σd150 at hp hfD e0 r1 e2 c3 c4 c5 ⊢
  refine g_aload_n dX0_live_5 rfl 0 rfl ?_
  refine g_iconst dX0_live_6 ci_0 ?_
  refine s_putD (by decide) kf_X0_15 dX0_live_7 ?_
  have hfD := fD_trans hfD (fD_I (a := σd150) 2 (nI 0))
  have hp := fD_pad (fD_I (a := σd150) 2 (nI 0)) hp
  have e0 : sI (setI σd150 28 2 (nI 0)) 28 0 = _ := (sI_ne _ 28 2 0 (by decide) _).trans e0
  have r1 : sI (setI σd150 28 2 (nI 0)) 28 1 = _ := (sI_ne _ 28 2 1 (by decide) _).trans r1
  have e2 : sI (setI σd150 28 2 (nI 0)) 28 2 = nI 0 := sI_same _ _ _ _
  have c3 : sI (setI σd150 28 2 (nI 0)) 28 3 = _ := (sI_ne _ 28 2 3 (by decide) _).trans c3
  have c4 : sI (setI σd150 28 2 (nI 0)) 28 4 = _ := (sI_ne _ 28 2 4 (by decide) _).trans c4
  have c5 : sI (setI σd150 28 2 (nI 0)) 28 5 = _ := (sI_ne _ 28 2 5 (by decide) _).trans c5
  generalize setI σd150 28 2 (nI 0) = σd151 at hp hfD e0 r1 e2 c3 c4 c5 ⊢
  refine g_aload_n dX0_live_10 rfl 0 rfl ?_
  refine g_iconst dX0_live_11 ci_0 ?_
  refine s_putD (by decide) kf_X0_18 dX0_live_12 ?_
  have hfD := fD_trans hfD (fD_I (a := σd151) 3 (nI 0))
  have hp := fD_pad (fD_I (a := σd151) 3 (nI 0)) hp
  have e0 : sI (setI σd151 28 3 (nI 0)) 28 0 = _ := (sI_ne _ 28 3 0 (by decide) _).trans e0
  have r1 : sI (setI σd151 28 3 (nI 0)) 28 1 = _ := (sI_ne _ 28 3 1 (by decide) _).trans r1
  have e2 : sI (setI σd151 28 3 (nI 0)) 28 2 = _ := (sI_ne _ 28 3 2 (by decide) _).trans e2
  have c3 : sI (setI σd151 28 3 (nI 0)) 28 3 = nI 0 := sI_same _ _ _ _
  have c4 : sI (setI σd151 28 3 (nI 0)) 28 4 = _ := (sI_ne _ 28 3 4 (by decide) _).trans c4
  have c5 : sI (setI σd151 28 3 (nI 0)) 28 5 = _ := (sI_ne _ 28 3 5 (by decide) _).trans c5
  generalize setI σd151 28 3 (nI 0) = σd152 at hp hfD e0 r1 e2 c3 c4 c5 ⊢
  refine g_aload_n dX0_live_15 rfl 0 rfl ?_
  refine g_iconst dX0_live_16 ci_0 ?_
  refine s_putD (by decide) kf_X0_21 dX0_live_17 ?_
  have hfD := fD_trans hfD (fD_I (a := σd152) 4 (nI 0))
  have hp := fD_pad (fD_I (a := σd152) 4 (nI 0)) hp
  have e0 : sI (setI σd152 28 4 (nI 0)) 28 0 = _ := (sI_ne _ 28 4 0 (by decide) _).trans e0
  have r1 : sI (setI σd152 28 4 (nI 0)) 28 1 = _ := (sI_ne _ 28 4 1 (by decide) _).trans r1
  have e2 : sI (setI σd152 28 4 (nI 0)) 28 2 = _ := (sI_ne _ 28 4 2 (by decide) _).trans e2
  have c3 : sI (setI σd152 28 4 (nI 0)) 28 3 = _ := (sI_ne _ 28 4 3 (by decide) _).trans c3
  have c4 : sI (setI σd152 28 4 (nI 0)) 28 4 = nI 0 := sI_same _ _ _ _
  have c5 : sI (setI σd152 28 4 (nI 0)) 28 5 = _ := (sI_ne _ 28 4 5 (by decide) _).trans c5
  generalize setI σd152 28 4 (nI 0) = σd153 at hp hfD e0 r1 e2 c3 c4 c5 ⊢
  refine g_aload_n dX0_live_20 rfl 0 rfl ?_
  refine g_iconst dX0_live_21 ci_0 ?_
  refine s_putD (by decide) kf_X0_24 dX0_live_22 ?_
  have hfD := fD_trans hfD (fD_I (a := σd153) 5 (nI 0))
  have hp := fD_pad (fD_I (a := σd153) 5 (nI 0)) hp
  have e0 : sI (setI σd153 28 5 (nI 0)) 28 0 = _ := (sI_ne _ 28 5 0 (by decide) _).trans e0
  have r1 : sI (setI σd153 28 5 (nI 0)) 28 1 = _ := (sI_ne _ 28 5 1 (by decide) _).trans r1
  have e2 : sI (setI σd153 28 5 (nI 0)) 28 2 = _ := (sI_ne _ 28 5 2 (by decide) _).trans e2
  have c3 : sI (setI σd153 28 5 (nI 0)) 28 3 = _ := (sI_ne _ 28 5 3 (by decide) _).trans c3
  have c4 : sI (setI σd153 28 5 (nI 0)) 28 4 = _ := (sI_ne _ 28 5 4 (by decide) _).trans c4
  have c5 : sI (setI σd153 28 5 (nI 0)) 28 5 = nI 0 := sI_same _ _ _ _
  generalize setI σd153 28 5 (nI 0) = σd154 at hp hfD e0 r1 e2 c3 c4 c5 ⊢
  refine g_aload_n dX0_live_25 rfl 0 rfl ?_
  refine g_aload_n dX0_live_26 rfl 1 rfl ?_
  refine g_callV (As := []) km_X0_27 ky_X2_faultPlace ki_X2_faultPlace (by decide) 26 at_26 rfl rfl (Nat.le_of_ble_eq_true rfl) dX0_live_27 rfl (c_X2_faultC hp (fun hf h0 h4 => ?_) (fun v hv hf => ?_))
  · refine g_bipush dX0_live_30 bp_m6 ?_
    refine g_icmpne 39 dX0_live_32 (by decide) (fun h32 => absurd h32 (by decide +kernel)) (fun h32 => ?_)
    refine g_iconst dX0_live_35 ci_0 ?_
    refine g_goto 41 dX0_live_36 (by decide) ?_
    refine s_putD (by decide) kf_X0_33 dX0_live_41 ?_
    have hfD := fD_trans hfD (fD_I (a := σd154) 0 (nI 0))
    have hp := fD_pad (fD_I (a := σd154) 0 (nI 0)) hp
    have e0 : sI (setI σd154 28 0 (nI 0)) 28 0 = nI 0 := sI_same _ _ _ _
    have r1 : sI (setI σd154 28 0 (nI 0)) 28 1 = _ := (sI_ne _ 28 0 1 (by decide) _).trans r1
    have e2 : sI (setI σd154 28 0 (nI 0)) 28 2 = _ := (sI_ne _ 28 0 2 (by decide) _).trans e2
    have c3 : sI (setI σd154 28 0 (nI 0)) 28 3 = _ := (sI_ne _ 28 0 3 (by decide) _).trans c3
    have c4 : sI (setI σd154 28 0 (nI 0)) 28 4 = _ := (sI_ne _ 28 0 4 (by decide) _).trans c4
    have c5 : sI (setI σd154 28 0 (nI 0)) 28 5 = _ := (sI_ne _ 28 0 5 (by decide) _).trans c5
    generalize setI σd154 28 0 (nI 0) = σd155 at hp hfD e0 r1 e2 c3 c4 c5 ⊢
    refine g_aload_n dX0_live_44 rfl 3 rfl ?_
    refine g_aload_n dX0_live_45 rfl 2 rfl ?_
    refine g_callV (As := [.ref (L 0)]) km_X0_36 ky_X3_copy ki_X3_copy (by decide) 12 (at_tn (Or.inr (Or.inl rfl))) rfl rfl (Nat.le_of_ble_eq_true rfl) dX0_live_46 rfl (c_X3_copy (Or.inr (Or.inl rfl)) (Or.inl rfl) (by omega) (fD_0 hfD hX) (fun σ2 hf2 hT => ?_))
    have hp := fD_pad (ft_fD hf2) hp
    have hfD := fD_trans hfD (ft_fD hf2)
    have e0 : sI σ2 28 0 = _ := (congrFun (hf2.2.1 28 (by decide)) 0).trans e0
    have r1 : sI σ2 28 1 = _ := (congrFun (hf2.2.1 28 (by decide)) 1).trans r1
    have e2 : sI σ2 28 2 = _ := (congrFun (hf2.2.1 28 (by decide)) 2).trans e2
    have c3 : sI σ2 28 3 = _ := (congrFun (hf2.2.1 28 (by decide)) 3).trans c3
    have c4 : sI σ2 28 4 = _ := (congrFun (hf2.2.1 28 (by decide)) 4).trans c4
    have c5 : sI σ2 28 5 = _ := (congrFun (hf2.2.1 28 (by decide)) 5).trans c5
    refine g_iconst dX0_live_49 ci_0 ?_
    refine g_istore (lv' := [(4, .int (nI 0)), (0, .ref (L 28)), (1, .ref (L 26)), (2, .ref (L 0)), (3, .ref (L 12))]) dX0_live_50 (by decide) rfl ?_
    refine g_iconst dX0_live_52 ci_0 ?_
    refine g_istore (lv' := [(5, .int (nI 0)), (4, .int (nI 0)), (0, .ref (L 28)), (1, .ref (L 26)), (2, .ref (L 0)), (3, .ref (L 12))]) dX0_live_53 (by decide) rfl ?_
    refine g_pick [0, 1, 2, 3, 4, 5] (lv' := [(5, .int (nI 0)), (4, .int (nI 0)), (0, .ref (L 28)), (1, .ref (L 26)), (2, .ref (L 0)), (3, .ref (L 12))]) rfl ?_
    exact lp_X0_live ho hf h0 hp.2.1 (wf_all s n (h4 n (Nat.le_refl n))) hA hB hC (pjS s n) 0 (by omega) _ hfD hp hT e0 r1 e2 ⟨c3, c4, c5⟩ (fun j hj => absurd hj (Nat.not_lt_zero j))
  · refine g_bipush dX0_live_30 bp_m6 ?_
    refine g_icmpne 39 dX0_live_32 (by decide) (fun h32 => ?_) (fun h32 => absurd h32 (nI_n6 (by omega)))
    refine g_bipush dX0_live_39 bp_m5 ?_
    refine s_putD (by decide) kf_X0_33 dX0_live_41 ?_
    have hfD := fD_trans hfD (fD_I (a := σd154) 0 (-5))
    have hp := fD_pad (fD_I (a := σd154) 0 (-5)) hp
    have e0 : sI (setI σd154 28 0 (-5)) 28 0 = (-5) := sI_same _ _ _ _
    have r1 : sI (setI σd154 28 0 (-5)) 28 1 = _ := (sI_ne _ 28 0 1 (by decide) _).trans r1
    have e2 : sI (setI σd154 28 0 (-5)) 28 2 = _ := (sI_ne _ 28 0 2 (by decide) _).trans e2
    have c3 : sI (setI σd154 28 0 (-5)) 28 3 = _ := (sI_ne _ 28 0 3 (by decide) _).trans c3
    have c4 : sI (setI σd154 28 0 (-5)) 28 4 = _ := (sI_ne _ 28 0 4 (by decide) _).trans c4
    have c5 : sI (setI σd154 28 0 (-5)) 28 5 = _ := (sI_ne _ 28 0 5 (by decide) _).trans c5
    generalize setI σd154 28 0 (-5) = σd156 at hp hfD e0 r1 e2 c3 c4 c5 ⊢
    refine g_aload_n dX0_live_44 rfl 3 rfl ?_
    refine g_aload_n dX0_live_45 rfl 2 rfl ?_
    refine g_callV (As := [.ref (L 0)]) km_X0_36 ky_X3_copy ki_X3_copy (by decide) 12 (at_tn (Or.inr (Or.inl rfl))) rfl rfl (Nat.le_of_ble_eq_true rfl) dX0_live_46 rfl (c_X3_copy (Or.inr (Or.inl rfl)) (Or.inl rfl) (by omega) (fD_0 hfD hX) (fun σ2 hf2 hT => ?_))
    have hp := fD_pad (ft_fD hf2) hp
    have hfD := fD_trans hfD (ft_fD hf2)
    have e0 : sI σ2 28 0 = _ := (congrFun (hf2.2.1 28 (by decide)) 0).trans e0
    have r1 : sI σ2 28 1 = _ := (congrFun (hf2.2.1 28 (by decide)) 1).trans r1
    have e2 : sI σ2 28 2 = _ := (congrFun (hf2.2.1 28 (by decide)) 2).trans e2
    have c3 : sI σ2 28 3 = _ := (congrFun (hf2.2.1 28 (by decide)) 3).trans c3
    have c4 : sI σ2 28 4 = _ := (congrFun (hf2.2.1 28 (by decide)) 4).trans c4
    have c5 : sI σ2 28 5 = _ := (congrFun (hf2.2.1 28 (by decide)) 5).trans c5
    refine g_iconst dX0_live_49 ci_0 ?_
    refine g_istore (lv' := [(4, .int (nI 0)), (0, .ref (L 28)), (1, .ref (L 26)), (2, .ref (L 0)), (3, .ref (L 12))]) dX0_live_50 (by decide) rfl ?_
    refine g_iconst dX0_live_52 ci_0 ?_
    refine g_istore (lv' := [(5, .int (nI 0)), (4, .int (nI 0)), (0, .ref (L 28)), (1, .ref (L 26)), (2, .ref (L 0)), (3, .ref (L 12))]) dX0_live_53 (by decide) rfl ?_
    refine g_iload dX0_live_55 0 rfl ?_
    refine g_bipush dX0_live_57 bp_60 ?_
    refine n_icmpge 120 dX0_live_59 (by decide) (by omega) (by omega) (fun h59 => absurd h59 (by omega)) (fun h59 => ?_)
    refine g_iload dX0_live_62 1 rfl ?_
    refine g_aload_n dX0_live_64 rfl 3 rfl ?_
    refine g_get kf_X0_42 kC_X2 (by decide) 26 at_26 rfl dX0_live_65 ?_
    refine g_tope (z := nI n) (hp.1) ?_
    refine n_icmpge 120 dX0_live_68 (by decide) (by omega) (by omega) (fun h68 => ?_) (fun h68 => ?_)
    · exact g_return dX0_live_120 (Nat.le_refl _) (Nat.le_refl _) (hA v hv hf _ hfD e0)
    · refine g_aload_n dX0_live_71 rfl 2 rfl ?_
      refine g_get kf_X0_33 kC_X0 (by decide) 28 at_28 rfl dX0_live_72 ?_
      refine g_tope (z := (-5)) (e0) ?_
      refine g_ifne 120 dX0_live_75 (by decide) (fun h75 => ?_) (fun h75 => absurd h75 (by decide +kernel))
      exact g_return dX0_live_120 (Nat.le_refl _) (Nat.le_refl _) (hA v hv hf _ hfD e0)
