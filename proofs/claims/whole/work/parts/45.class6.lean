/-! settle, copy -/
theorem rz_f {σ : St} {b : Nat} {X : XT} (h : rzT σ b X) : rzT (setA σ (b + 7) (flF (sA σ (b + 7)) (nI 0) 6)) b (xs_kn X (fun _ _ => false)) := by
  obtain ⟨⟨h0, h1, h2, h3, h4, h5, a1, a2, a3, a4, a5, a6, a7, a8, a9, a10, a11⟩, kk⟩ := h
  have ef : ∀ i, i < 6 → sA (setA σ (b + 7) (flF (sA σ (b + 7)) (nI 0) 6)) (b + 7) i = nI 0 := fun i hi => by rw [sA_same]; exact if_pos hi
  exact ⟨⟨h0, h1, h2, h3, h4, h5, (fun i hi => (congrFun (sA_ne _ (b + 7) (b + 1) (by omega) _) i).trans (a1 i hi)), (fun i hi => (congrFun (sA_ne _ (b + 7) (b + 2) (by omega) _) i).trans (a2 i hi)), (fun i hi => (congrFun (sA_ne _ (b + 7) (b + 3) (by omega) _) i).trans (a3 i hi)), (fun i hi => (congrFun (sA_ne _ (b + 7) (b + 4) (by omega) _) i).trans (a4 i hi)), (fun i hi => (congrFun (sA_ne _ (b + 7) (b + 5) (by omega) _) i).trans (a5 i hi)), (fun i hi => (congrFun (sA_ne _ (b + 7) (b + 6) (by omega) _) i).trans (a6 i hi)), fun i hi _ => ef i hi, (fun i hi => (congrFun (sA_ne _ (b + 7) (b + 8) (by omega) _) i).trans (a8 i hi)), (fun i hi => (congrFun (sA_ne _ (b + 7) (b + 9) (by omega) _) i).trans (a9 i hi)), (fun i hi => (congrFun (sA_ne _ (b + 7) (b + 10) (by omega) _) i).trans (a10 i hi)), (fun i hi => (congrFun (sA_ne _ (b + 7) (b + 11) (by omega) _) i).trans (a11 i hi))⟩, fun i hi => ef i hi⟩
theorem rz_fw {σ : St} {b : Nat} {X : XT} (h : rzT σ b X) : rzT (setA σ (b + 8) (flF (sA σ (b + 8)) (nI 0) 8)) b (xs_wt X (fun _ => 0)) := by
  obtain ⟨⟨h0, h1, h2, h3, h4, h5, a1, a2, a3, a4, a5, a6, a7, a8, a9, a10, a11⟩, kk⟩ := h
  have ef : ∀ i, i < 8 → sA (setA σ (b + 8) (flF (sA σ (b + 8)) (nI 0) 8)) (b + 8) i = zI 0 := fun i hi => by rw [sA_same]; exact if_pos hi
  exact ⟨⟨h0, h1, h2, h3, h4, h5, (fun i hi => (congrFun (sA_ne _ (b + 8) (b + 1) (by omega) _) i).trans (a1 i hi)), (fun i hi => (congrFun (sA_ne _ (b + 8) (b + 2) (by omega) _) i).trans (a2 i hi)), (fun i hi => (congrFun (sA_ne _ (b + 8) (b + 3) (by omega) _) i).trans (a3 i hi)), (fun i hi => (congrFun (sA_ne _ (b + 8) (b + 4) (by omega) _) i).trans (a4 i hi)), (fun i hi => (congrFun (sA_ne _ (b + 8) (b + 5) (by omega) _) i).trans (a5 i hi)), (fun i hi => (congrFun (sA_ne _ (b + 8) (b + 6) (by omega) _) i).trans (a6 i hi)), (fun i hi ht => (congrFun (sA_ne _ (b + 8) (b + 7) (by omega) _) i).trans (a7 i hi ht)), fun i hi => ef i hi, (fun i hi => (congrFun (sA_ne _ (b + 8) (b + 9) (by omega) _) i).trans (a9 i hi)), (fun i hi => (congrFun (sA_ne _ (b + 8) (b + 10) (by omega) _) i).trans (a10 i hi)), (fun i hi => (congrFun (sA_ne _ (b + 8) (b + 11) (by omega) _) i).trans (a11 i hi))⟩, (fun i hi => (congrFun (sA_ne _ (b + 8) (b + 7) (by omega) _) i).trans (kk i hi))⟩
theorem rz_fa {σ : St} {b : Nat} {X : XT} (h : rzT σ b X) : rzT (setA σ (b + 9) (flF (sA σ (b + 9)) (nI 3) 8)) b (xs_ab X (fun _ => 3)) := by
  obtain ⟨⟨h0, h1, h2, h3, h4, h5, a1, a2, a3, a4, a5, a6, a7, a8, a9, a10, a11⟩, kk⟩ := h
  have ef : ∀ i, i < 8 → sA (setA σ (b + 9) (flF (sA σ (b + 9)) (nI 3) 8)) (b + 9) i = nI 3 := fun i hi => by rw [sA_same]; exact if_pos hi
  exact ⟨⟨h0, h1, h2, h3, h4, h5, (fun i hi => (congrFun (sA_ne _ (b + 9) (b + 1) (by omega) _) i).trans (a1 i hi)), (fun i hi => (congrFun (sA_ne _ (b + 9) (b + 2) (by omega) _) i).trans (a2 i hi)), (fun i hi => (congrFun (sA_ne _ (b + 9) (b + 3) (by omega) _) i).trans (a3 i hi)), (fun i hi => (congrFun (sA_ne _ (b + 9) (b + 4) (by omega) _) i).trans (a4 i hi)), (fun i hi => (congrFun (sA_ne _ (b + 9) (b + 5) (by omega) _) i).trans (a5 i hi)), (fun i hi => (congrFun (sA_ne _ (b + 9) (b + 6) (by omega) _) i).trans (a6 i hi)), (fun i hi ht => (congrFun (sA_ne _ (b + 9) (b + 7) (by omega) _) i).trans (a7 i hi ht)), (fun i hi => (congrFun (sA_ne _ (b + 9) (b + 8) (by omega) _) i).trans (a8 i hi)), fun i hi => ef i hi, (fun i hi => (congrFun (sA_ne _ (b + 9) (b + 10) (by omega) _) i).trans (a10 i hi)), (fun i hi => (congrFun (sA_ne _ (b + 9) (b + 11) (by omega) _) i).trans (a11 i hi))⟩, (fun i hi => (congrFun (sA_ne _ (b + 9) (b + 7) (by omega) _) i).trans (kk i hi))⟩
theorem beg_is (X : XT) (n : Nat) : xs_ab (xs_wt (xs_kn (xs_pu (xs_sg (xs_th (xs_br (xs_sz X n) (fun _ => false)) (fun _ => false)) 0) (fun _ => false)) (fun _ _ => false)) (fun _ => 0)) (fun _ => 3) = tX_beg X n := x_ext (by simp only [tX_beg, x_sz_sz, x_sz_br, x_sz_th, x_sz_sg, x_sz_pu, x_sz_kn, x_sz_wt, x_sz_ab]) (by simp only [tX_beg, x_br_sz, x_br_br, x_br_th, x_br_sg, x_br_pu, x_br_kn, x_br_wt, x_br_ab]) (by simp only [tX_beg, x_lo_sz, x_lo_br, x_lo_th, x_lo_sg, x_lo_pu, x_lo_kn, x_lo_wt, x_lo_ab]) (by simp only [tX_beg, x_hi_sz, x_hi_br, x_hi_th, x_hi_sg, x_hi_pu, x_hi_kn, x_hi_wt, x_hi_ab]) (by simp only [tX_beg, x_ld_sz, x_ld_br, x_ld_th, x_ld_sg, x_ld_pu, x_ld_kn, x_ld_wt, x_ld_ab]) (by simp only [tX_beg, x_bn_sz, x_bn_br, x_bn_th, x_bn_sg, x_bn_pu, x_bn_kn, x_bn_wt, x_bn_ab]) (by simp only [tX_beg, x_th_sz, x_th_br, x_th_th, x_th_sg, x_th_pu, x_th_kn, x_th_wt, x_th_ab]) (by simp only [tX_beg, x_pl_sz, x_pl_br, x_pl_th, x_pl_sg, x_pl_pu, x_pl_kn, x_pl_wt, x_pl_ab]) (by simp only [tX_beg, x_ki_sz, x_ki_br, x_ki_th, x_ki_sg, x_ki_pu, x_ki_kn, x_ki_wt, x_ki_ab]) (by simp only [tX_beg, x_kn_sz, x_kn_br, x_kn_th, x_kn_sg, x_kn_pu, x_kn_kn, x_kn_wt, x_kn_ab]) (by simp only [tX_beg, x_wt_sz, x_wt_br, x_wt_th, x_wt_sg, x_wt_pu, x_wt_kn, x_wt_wt, x_wt_ab]) (by simp only [tX_beg, x_ab_sz, x_ab_br, x_ab_th, x_ab_sg, x_ab_pu, x_ab_kn, x_ab_wt, x_ab_ab]) (by simp only [tX_beg, x_pu_sz, x_pu_br, x_pu_th, x_pu_sg, x_pu_pu, x_pu_kn, x_pu_wt, x_pu_ab]) (by simp only [tX_beg, x_fa_sz, x_fa_br, x_fa_th, x_fa_sg, x_fa_pu, x_fa_kn, x_fa_wt, x_fa_ab]) (by simp only [tX_beg, x_sg_sz, x_sg_br, x_sg_th, x_sg_sg, x_sg_pu, x_sg_kn, x_sg_wt, x_sg_ab]) (by simp only [tX_beg, x_sb_sz, x_sb_br, x_sb_th, x_sb_sg, x_sb_pu, x_sb_kn, x_sb_wt, x_sb_ab]) (by simp only [tX_beg, x_sv_sz, x_sv_br, x_sv_th, x_sv_sg, x_sv_pu, x_sv_kn, x_sv_wt, x_sv_ab])
set_option maxHeartbeats 4000000 in
set_option maxRecDepth 20000 in
theorem c_X3_settle {l : Launch} {D : gE} {L : Nat → Nat} {σ : St} {Q : Option Value → va_W → Prop} {d : Nat} {b : Nat} (hb : tn σ b) {X : XT} (hX : rzT σ b X) {n : Nat} (h : ∀ σ', ft b σ σ' → rzT σ' b (tX_beg X n) → Q none (wsOf D L σ')) : Ctr l D yX3_settle cX3_settle 2 none (rr (d + 1)) [.ref (L b), .int (nI n)] (wsOf D L σ) Q := by
  refine g_start ky_X3_settle (Nat.le_of_ble_eq_true rfl) ?_
  refine g_pick [0, 1] (lv' := [(0, .ref (L b)), (1, .int (nI n))]) rfl ?_
  have hb0 := hb
  have hft : ft b σ σ := ft_rfl
  refine g_aload_n dX3_settle_0 rfl 0 rfl ?_
  refine g_iload_n dX3_settle_1 rfl 1 rfl ?_
  refine s_putT (b := b) hb kf_X3_53 (by decide) dX3_settle_2 ?_
  have hX : rzT (setI σ b 0 (nI n)) b (xs_sz X n) := rz_ssz hX n
  have hft : ft b σ (setI σ b 0 (nI n)) := ft_I hft 0 _
  generalize setI σ b 0 (nI n) = σw113 at hX hft ⊢
  have hb := ft_tn hft hb0
  refine g_aload_n dX3_settle_5 rfl 0 rfl ?_
  refine g_iconst dX3_settle_6 ci_0 ?_
  refine s_putT (b := b) hb kf_X3_56 (by decide) dX3_settle_7 ?_
  have hX : rzT (setI σw113 b 1 (nI 0)) b (xs_br (xs_sz X n) (fun _ => false)) := rz_sbr hX (fun _ => false)
  have hft : ft b σ (setI σw113 b 1 (nI 0)) := ft_I hft 1 _
  generalize setI σw113 b 1 (nI 0) = σw114 at hX hft ⊢
  have hb := ft_tn hft hb0
  refine g_aload_n dX3_settle_10 rfl 0 rfl ?_
  refine g_iconst dX3_settle_11 ci_0 ?_
  refine s_putT (b := b) hb kf_X3_59 (by decide) dX3_settle_12 ?_
  have hX : rzT (setI σw114 b 6 (nI 0)) b (xs_th (xs_br (xs_sz X n) (fun _ => false)) (fun _ => false)) := rz_sth hX (fun _ => false)
  have hft : ft b σ (setI σw114 b 6 (nI 0)) := ft_I hft 6 _
  generalize setI σw114 b 6 (nI 0) = σw115 at hX hft ⊢
  have hb := ft_tn hft hb0
  refine g_aload_n dX3_settle_15 rfl 0 rfl ?_
  refine g_iconst dX3_settle_16 ci_0 ?_
  refine s_putT (b := b) hb kf_X3_62 (by decide) dX3_settle_17 ?_
  have hX : rzT (setI σw115 b 14 (nI 0)) b (xs_sg (xs_th (xs_br (xs_sz X n) (fun _ => false)) (fun _ => false)) 0) := rz_ssg hX 0
  have hft : ft b σ (setI σw115 b 14 (nI 0)) := ft_I hft 14 _
  generalize setI σw115 b 14 (nI 0) = σw116 at hX hft ⊢
  have hb := ft_tn hft hb0
  refine g_aload_n dX3_settle_20 rfl 0 rfl ?_
  refine g_iconst dX3_settle_21 ci_0 ?_
  refine s_putT (b := b) hb kf_X3_65 (by decide) dX3_settle_22 ?_
  have hX : rzT (setI σw116 b 12 (nI 0)) b (xs_pu (xs_sg (xs_th (xs_br (xs_sz X n) (fun _ => false)) (fun _ => false)) 0) (fun _ => false)) := rz_spu hX (fun _ => false)
  have hft : ft b σ (setI σw116 b 12 (nI 0)) := ft_I hft 12 _
  generalize setI σw116 b 12 (nI 0) = σw117 at hX hft ⊢
  have hb := ft_tn hft hb0
  refine g_aload_n dX3_settle_25 rfl 0 rfl ?_
  refine s_getT (b := b) hb kf_X3_30 (by decide) rfl dX3_settle_26 ?_
  refine g_iconst dX3_settle_29 ci_0 ?_
  refine g_callS (As := [.ref (L (b + 7)), .int (nI 0)]) km_X3_68 ky_J7_fill_53178 ks_J7_fill_53178 (by decide) rfl (Nat.le_of_ble_eq_true rfl) dX3_settle_30 rfl (c_fill (q := b + 7) (n := 6) (by decide) (fun f => (at_ta (show tn (setA σw117 (b + 7) f) b from hb) 7 (by decide) (by decide)).trans (by rw [sA_same]; rfl)) ?_)
  have hX := rz_f hX
  have hft : ft b σ (setA σw117 (b + 7) (flF (sA σw117 (b + 7)) (nI 0) 6)) := ft_A hft 7 (by decide) _
  generalize setA σw117 (b + 7) (flF (sA σw117 (b + 7)) (nI 0) 6) = σf118 at hX hft ⊢
  have hb := ft_tn hft hb0
  refine g_aload_n dX3_settle_33 rfl 0 rfl ?_
  refine s_getT (b := b) hb kf_X3_33 (by decide) rfl dX3_settle_34 ?_
  refine g_iconst dX3_settle_37 ci_0 ?_
  refine g_callS (As := [.ref (L (b + 8)), .int (nI 0)]) km_X3_68 ky_J7_fill_53178 ks_J7_fill_53178 (by decide) rfl (Nat.le_of_ble_eq_true rfl) dX3_settle_38 rfl (c_fill (q := b + 8) (n := 8) (by decide) (fun f => (at_ta (show tn (setA σf118 (b + 8) f) b from hb) 8 (by decide) (by decide)).trans (by rw [sA_same]; rfl)) ?_)
  have hX := rz_fw hX
  have hft : ft b σ (setA σf118 (b + 8) (flF (sA σf118 (b + 8)) (nI 0) 8)) := ft_A hft 8 (by decide) _
  generalize setA σf118 (b + 8) (flF (sA σf118 (b + 8)) (nI 0) 8) = σf119 at hX hft ⊢
  have hb := ft_tn hft hb0
  refine g_aload_n dX3_settle_41 rfl 0 rfl ?_
  refine s_getT (b := b) hb kf_X3_36 (by decide) rfl dX3_settle_42 ?_
  refine g_iconst dX3_settle_45 ci_3 ?_
  refine g_callS (As := [.ref (L (b + 9)), .int (nI 3)]) km_X3_68 ky_J7_fill_53178 ks_J7_fill_53178 (by decide) rfl (Nat.le_of_ble_eq_true rfl) dX3_settle_46 rfl (c_fill (q := b + 9) (n := 8) (by decide) (fun f => (at_ta (show tn (setA σf119 (b + 9) f) b from hb) 9 (by decide) (by decide)).trans (by rw [sA_same]; rfl)) ?_)
  have hX := rz_fa hX
  have hft : ft b σ (setA σf119 (b + 9) (flF (sA σf119 (b + 9)) (nI 3) 8)) := ft_A hft 9 (by decide) _
  generalize setA σf119 (b + 9) (flF (sA σf119 (b + 9)) (nI 3) 8) = σf120 at hX hft ⊢
  have hb := ft_tn hft hb0
  exact g_return dX3_settle_49 (Nat.le_refl _) (Nat.le_refl _) (h _ hft (by rw [← beg_is]; exact hX))
def cpS (e : Nat) : Nat := if e < 2 then e else if e = 2 then 6 else e + 9
/-- the first m cells of Town c stand in Town b -/
def CP (σ0 σ : St) (b c m : Nat) : Prop := (∀ e, e < 6 → e < m → sI σ b (cpS e) = sI σ0 c (cpS e)) ∧ (∀ j, 1 ≤ j → j ≤ 11 → j + 5 < m → ∀ i, i < alen j → sA σ (b + j) i = sA σ0 (c + j) i) ∧ ft b σ0 σ
theorem cp_0 {σ : St} {b c : Nat} : CP σ σ b c 0 := ⟨fun _ _ h => absurd h (Nat.not_lt_zero _), fun _ _ _ h => absurd h (Nat.not_lt_zero _), ft_rfl⟩
theorem cp_I {σ0 σ : St} {b c e k : Nat} (hbc : c + 11 < b ∨ b + 11 < c) (h : CP σ0 σ b c e) (he : e < 6) (hk : k = cpS e) : CP σ0 (setI σ b k (sI σ c k)) b c (e + 1) := by
  refine ⟨fun a ha hl => ?_, fun j h1 h2 h3 => absurd h3 (by omega), ft_I h.2.2 _ _⟩
  by_cases q : a = e
  · rw [q, hk]
    rw [show sI (setI σ b (cpS e) (sI σ c (cpS e))) b (cpS e) = _ from sI_same _ _ _ _, h.2.2.2.1 c (by omega)]
  · rw [hk]
    rw [show sI (setI σ b (cpS e) (sI σ c (cpS e))) b (cpS a) = _ from sI_ne _ _ _ _ (by unfold cpS; split <;> split <;> (try split) <;> (try split) <;> omega) _]
    exact h.1 a ha (by omega)
theorem cp_A {σ0 σ : St} {b c j n : Nat} (hbc : c + 11 < b ∨ b + 11 < c) (h1 : 1 ≤ j) (h2 : j ≤ 11) (hn : n = alen j) (h : CP σ0 σ b c (j + 5)) : CP σ0 (setA σ (b + j) (va_cpy (sA σ (c + j)) (sA σ (b + j)) 0 0 n)) b c (j + 6) := by
  refine ⟨fun a ha hl => h.1 a ha (by omega), fun k h3 h4 h5 i hi => ?_, ft_A h.2.2 _ h2 _⟩
  by_cases q : k = j
  · subst q
    rw [sA_same, pk_cpy_in (Nat.zero_le i) (by omega), Nat.zero_add, Nat.sub_zero, h.2.2.1 (c + k) (by omega)]
  · rw [sA_ne _ _ _ (by omega)]
    exact h.2.1 k h3 h4 (by omega) i hi
theorem cp_rz {σ0 σ : St} {b c : Nat} {X : XT} (h : CP σ0 σ b c 17) (hX : rzT σ0 c X) : rzT σ b X := by
  obtain ⟨⟨h0, h1, h2, h3, h4, h5, a1, a2, a3, a4, a5, a6, a7, a8, a9, a10, a11⟩, kk⟩ := hX
  obtain ⟨hI, hA, -⟩ := h
  refine ⟨⟨(hI 0 (by decide) (by decide)).trans h0, (hI 1 (by decide) (by decide)).trans h1, (hI 2 (by decide) (by decide)).trans h2, (hI 3 (by decide) (by decide)).trans h3, (hI 4 (by decide) (by decide)).trans h4, (hI 5 (by decide) (by decide)).trans h5, ?_, ?_, ?_, ?_, ?_, ?_, ?_, ?_, ?_, ?_, ?_⟩, ?_⟩
  · exact fun i hi => (hA 1 (by decide) (by decide) (by decide) i hi).trans (a1 i hi)
  · exact fun i hi => (hA 2 (by decide) (by decide) (by decide) i hi).trans (a2 i hi)
  · exact fun i hi => (hA 3 (by decide) (by decide) (by decide) i hi).trans (a3 i hi)
  · exact fun i hi => (hA 4 (by decide) (by decide) (by decide) i hi).trans (a4 i hi)
  · exact fun i hi => (hA 5 (by decide) (by decide) (by decide) i hi).trans (a5 i hi)
  · exact fun i hi => (hA 6 (by decide) (by decide) (by decide) i hi).trans (a6 i hi)
  · exact fun i hi ht => (hA 7 (by decide) (by decide) (by decide) i hi).trans (a7 i hi ht)
  · exact fun i hi => (hA 8 (by decide) (by decide) (by decide) i hi).trans (a8 i hi)
  · exact fun i hi => (hA 9 (by decide) (by decide) (by decide) i hi).trans (a9 i hi)
  · exact fun i hi => (hA 10 (by decide) (by decide) (by decide) i hi).trans (a10 i hi)
  · exact fun i hi => (hA 11 (by decide) (by decide) (by decide) i hi).trans (a11 i hi)
  · exact fun i hi => (hA 7 (by decide) (by decide) (by decide) i hi).trans (kk i hi)
theorem nfw : nativeFrameWords "java/lang/System" "arraycopy" 5 ≤ 20 := by decide +kernel
set_option maxHeartbeats 4000000 in
set_option maxRecDepth 20000 in
theorem c_X3_copy {l : Launch} {D : gE} {L : Nat → Nat} {σ : St} {Q : Option Value → va_W → Prop} {d : Nat} {b c : Nat} (hb : tn σ b) (hc : tn σ c) (hbc : c + 11 < b ∨ b + 11 < c) {X : XT} (hX : rzT σ c X) (h : ∀ σ', ft b σ σ' → rzT σ' b X → Q none (wsOf D L σ')) : Ctr l D yX3_copy cX3_copy 2 none (rr (d + 1)) [.ref (L b), .ref (L c)] (wsOf D L σ) Q := by
  refine g_start ky_X3_copy (Nat.le_of_ble_eq_true rfl) ?_
  refine g_pick [0, 1] (lv' := [(0, .ref (L b)), (1, .ref (L c))]) rfl ?_
  have hb0 := hb
  have hc0 := hc
  have hP : CP σ σ b c 0 := cp_0
  refine g_aload_n dX3_copy_0 rfl 0 rfl ?_
  refine g_aload_n dX3_copy_1 rfl 1 rfl ?_
  refine s_getT (b := c) hc kf_X3_53 (by decide) rfl dX3_copy_2 ?_
  refine s_putT (b := b) hb kf_X3_53 (by decide) dX3_copy_5 ?_
  have hP := cp_I (k := 0) hbc hP (by decide) (by rfl)
  generalize setI σ b 0 (sI σ c 0) = σc121 at hP ⊢
  have hb := ft_tn hP.2.2 hb0
  have hc := ft_tn hP.2.2 hc0
  refine g_aload_n dX3_copy_8 rfl 0 rfl ?_
  refine g_aload_n dX3_copy_9 rfl 1 rfl ?_
  refine s_getT (b := c) hc kf_X3_56 (by decide) rfl dX3_copy_10 ?_
  refine s_putT (b := b) hb kf_X3_56 (by decide) dX3_copy_13 ?_
  have hP := cp_I (k := 1) hbc hP (by decide) (by rfl)
  generalize setI σc121 b 1 (sI σc121 c 1) = σc122 at hP ⊢
  have hb := ft_tn hP.2.2 hb0
  have hc := ft_tn hP.2.2 hc0
  refine g_aload_n dX3_copy_16 rfl 0 rfl ?_
  refine g_aload_n dX3_copy_17 rfl 1 rfl ?_
  refine s_getT (b := c) hc kf_X3_59 (by decide) rfl dX3_copy_18 ?_
  refine s_putT (b := b) hb kf_X3_59 (by decide) dX3_copy_21 ?_
  have hP := cp_I (k := 6) hbc hP (by decide) (by rfl)
  generalize setI σc122 b 6 (sI σc122 c 6) = σc123 at hP ⊢
  have hb := ft_tn hP.2.2 hb0
  have hc := ft_tn hP.2.2 hc0
  refine g_aload_n dX3_copy_24 rfl 0 rfl ?_
  refine g_aload_n dX3_copy_25 rfl 1 rfl ?_
  refine s_getT (b := c) hc kf_X3_65 (by decide) rfl dX3_copy_26 ?_
  refine s_putT (b := b) hb kf_X3_65 (by decide) dX3_copy_29 ?_
  have hP := cp_I (k := 12) hbc hP (by decide) (by rfl)
  generalize setI σc123 b 12 (sI σc123 c 12) = σc124 at hP ⊢
  have hb := ft_tn hP.2.2 hb0
  have hc := ft_tn hP.2.2 hc0
  refine g_aload_n dX3_copy_32 rfl 0 rfl ?_
  refine g_aload_n dX3_copy_33 rfl 1 rfl ?_
  refine s_getT (b := c) hc kf_X3_45 (by decide) rfl dX3_copy_34 ?_
  refine s_putT (b := b) hb kf_X3_45 (by decide) dX3_copy_37 ?_
  have hP := cp_I (k := 13) hbc hP (by decide) (by rfl)
  generalize setI σc124 b 13 (sI σc124 c 13) = σc125 at hP ⊢
  have hb := ft_tn hP.2.2 hb0
  have hc := ft_tn hP.2.2 hc0
  refine g_aload_n dX3_copy_40 rfl 0 rfl ?_
  refine g_aload_n dX3_copy_41 rfl 1 rfl ?_
  refine s_getT (b := c) hc kf_X3_62 (by decide) rfl dX3_copy_42 ?_
  refine s_putT (b := b) hb kf_X3_62 (by decide) dX3_copy_45 ?_
  have hP := cp_I (k := 14) hbc hP (by decide) (by rfl)
  generalize setI σc125 b 14 (sI σc125 c 14) = σc126 at hP ⊢
  have hb := ft_tn hP.2.2 hb0
  have hc := ft_tn hP.2.2 hc0
  refine g_aload_n dX3_copy_48 rfl 1 rfl ?_
  refine s_getT (b := c) hc kf_X3_9 (by decide) rfl dX3_copy_49 ?_
  refine g_iconst dX3_copy_52 ci_0 ?_
  refine g_aload_n dX3_copy_53 rfl 0 rfl ?_
  refine s_getT (b := b) hb kf_X3_9 (by decide) rfl dX3_copy_54 ?_
  refine g_iconst dX3_copy_57 ci_0 ?_
  refine g_bipush dX3_copy_58 bp_8 ?_
  refine g_arraycopy kmac_X3_74 (c + 1) (b + 1) (at_ta hc 1 (by decide) (by decide)) (at_ta hb 1 (by decide) (by decide)) (by decide +kernel) (by decide +kernel) (by decide +kernel) (by decide +kernel) (by decide +kernel) (by show 1 ≤ d + 1; omega) (by have := nfw; show 0 + (nativeFrameWords "java/lang/System" "arraycopy" 5 + 11) ≤ 48 * (d + 1); omega) dX3_copy_60 (ws' := wsOf D L (setA σc126 (b + 1) (va_cpy (sA σc126 (c + 1)) (sA σc126 (b + 1)) 0 0 8))) (ws_setA (at_ta hb 1 (by decide) (by decide)) _) ?_
  have hP := cp_A (j := 1) (n := 8) hbc (by decide) (by decide) rfl hP
  generalize setA σc126 (b + 1) (va_cpy (sA σc126 (c + 1)) (sA σc126 (b + 1)) 0 0 8) = σc127 at hP ⊢
  have hb := ft_tn hP.2.2 hb0
  have hc := ft_tn hP.2.2 hc0
  refine g_aload_n dX3_copy_63 rfl 1 rfl ?_
  refine s_getT (b := c) hc kf_X3_15 (by decide) rfl dX3_copy_64 ?_
  refine g_iconst dX3_copy_67 ci_0 ?_
  refine g_aload_n dX3_copy_68 rfl 0 rfl ?_
  refine s_getT (b := b) hb kf_X3_15 (by decide) rfl dX3_copy_69 ?_
  refine g_iconst dX3_copy_72 ci_0 ?_
  refine g_bipush dX3_copy_73 bp_8 ?_
  refine g_arraycopy kmac_X3_74 (c + 2) (b + 2) (at_ta hc 2 (by decide) (by decide)) (at_ta hb 2 (by decide) (by decide)) (by decide +kernel) (by decide +kernel) (by decide +kernel) (by decide +kernel) (by decide +kernel) (by show 1 ≤ d + 1; omega) (by have := nfw; show 0 + (nativeFrameWords "java/lang/System" "arraycopy" 5 + 11) ≤ 48 * (d + 1); omega) dX3_copy_75 (ws' := wsOf D L (setA σc127 (b + 2) (va_cpy (sA σc127 (c + 2)) (sA σc127 (b + 2)) 0 0 8))) (ws_setA (at_ta hb 2 (by decide) (by decide)) _) ?_
  have hP := cp_A (j := 2) (n := 8) hbc (by decide) (by decide) rfl hP
  generalize setA σc127 (b + 2) (va_cpy (sA σc127 (c + 2)) (sA σc127 (b + 2)) 0 0 8) = σc128 at hP ⊢
  have hb := ft_tn hP.2.2 hb0
  have hc := ft_tn hP.2.2 hc0
  refine g_aload_n dX3_copy_78 rfl 1 rfl ?_
  refine s_getT (b := c) hc kf_X3_18 (by decide) rfl dX3_copy_79 ?_
  refine g_iconst dX3_copy_82 ci_0 ?_
  refine g_aload_n dX3_copy_83 rfl 0 rfl ?_
  refine s_getT (b := b) hb kf_X3_18 (by decide) rfl dX3_copy_84 ?_
  refine g_iconst dX3_copy_87 ci_0 ?_
  refine g_bipush dX3_copy_88 bp_8 ?_
  refine g_arraycopy kmac_X3_74 (c + 3) (b + 3) (at_ta hc 3 (by decide) (by decide)) (at_ta hb 3 (by decide) (by decide)) (by decide +kernel) (by decide +kernel) (by decide +kernel) (by decide +kernel) (by decide +kernel) (by show 1 ≤ d + 1; omega) (by have := nfw; show 0 + (nativeFrameWords "java/lang/System" "arraycopy" 5 + 11) ≤ 48 * (d + 1); omega) dX3_copy_90 (ws' := wsOf D L (setA σc128 (b + 3) (va_cpy (sA σc128 (c + 3)) (sA σc128 (b + 3)) 0 0 8))) (ws_setA (at_ta hb 3 (by decide) (by decide)) _) ?_
  have hP := cp_A (j := 3) (n := 8) hbc (by decide) (by decide) rfl hP
  generalize setA σc128 (b + 3) (va_cpy (sA σc128 (c + 3)) (sA σc128 (b + 3)) 0 0 8) = σc129 at hP ⊢
  have hb := ft_tn hP.2.2 hb0
  have hc := ft_tn hP.2.2 hc0
  refine g_aload_n dX3_copy_93 rfl 1 rfl ?_
  refine s_getT (b := c) hc kf_X3_21 (by decide) rfl dX3_copy_94 ?_
  refine g_iconst dX3_copy_97 ci_0 ?_
  refine g_aload_n dX3_copy_98 rfl 0 rfl ?_
  refine s_getT (b := b) hb kf_X3_21 (by decide) rfl dX3_copy_99 ?_
  refine g_iconst dX3_copy_102 ci_0 ?_
  refine g_bipush dX3_copy_103 bp_8 ?_
  refine g_arraycopy kmac_X3_74 (c + 4) (b + 4) (at_ta hc 4 (by decide) (by decide)) (at_ta hb 4 (by decide) (by decide)) (by decide +kernel) (by decide +kernel) (by decide +kernel) (by decide +kernel) (by decide +kernel) (by show 1 ≤ d + 1; omega) (by have := nfw; show 0 + (nativeFrameWords "java/lang/System" "arraycopy" 5 + 11) ≤ 48 * (d + 1); omega) dX3_copy_105 (ws' := wsOf D L (setA σc129 (b + 4) (va_cpy (sA σc129 (c + 4)) (sA σc129 (b + 4)) 0 0 8))) (ws_setA (at_ta hb 4 (by decide) (by decide)) _) ?_
  have hP := cp_A (j := 4) (n := 8) hbc (by decide) (by decide) rfl hP
  generalize setA σc129 (b + 4) (va_cpy (sA σc129 (c + 4)) (sA σc129 (b + 4)) 0 0 8) = σc130 at hP ⊢
  have hb := ft_tn hP.2.2 hb0
  have hc := ft_tn hP.2.2 hc0
  refine g_aload_n dX3_copy_108 rfl 1 rfl ?_
  refine s_getT (b := c) hc kf_X3_24 (by decide) rfl dX3_copy_109 ?_
  refine g_iconst dX3_copy_112 ci_0 ?_
  refine g_aload_n dX3_copy_113 rfl 0 rfl ?_
  refine s_getT (b := b) hb kf_X3_24 (by decide) rfl dX3_copy_114 ?_
  refine g_iconst dX3_copy_117 ci_0 ?_
  refine g_bipush dX3_copy_118 bp_6 ?_
  refine g_arraycopy kmac_X3_74 (c + 5) (b + 5) (at_ta hc 5 (by decide) (by decide)) (at_ta hb 5 (by decide) (by decide)) (by decide +kernel) (by decide +kernel) (by decide +kernel) (by decide +kernel) (by decide +kernel) (by show 1 ≤ d + 1; omega) (by have := nfw; show 0 + (nativeFrameWords "java/lang/System" "arraycopy" 5 + 11) ≤ 48 * (d + 1); omega) dX3_copy_120 (ws' := wsOf D L (setA σc130 (b + 5) (va_cpy (sA σc130 (c + 5)) (sA σc130 (b + 5)) 0 0 6))) (ws_setA (at_ta hb 5 (by decide) (by decide)) _) ?_
  have hP := cp_A (j := 5) (n := 6) hbc (by decide) (by decide) rfl hP
  generalize setA σc130 (b + 5) (va_cpy (sA σc130 (c + 5)) (sA σc130 (b + 5)) 0 0 6) = σc131 at hP ⊢
  have hb := ft_tn hP.2.2 hb0
  have hc := ft_tn hP.2.2 hc0
  refine g_aload_n dX3_copy_123 rfl 1 rfl ?_
  refine s_getT (b := c) hc kf_X3_27 (by decide) rfl dX3_copy_124 ?_
  refine g_iconst dX3_copy_127 ci_0 ?_
  refine g_aload_n dX3_copy_128 rfl 0 rfl ?_
  refine s_getT (b := b) hb kf_X3_27 (by decide) rfl dX3_copy_129 ?_
  refine g_iconst dX3_copy_132 ci_0 ?_
  refine g_bipush dX3_copy_133 bp_6 ?_
  refine g_arraycopy kmac_X3_74 (c + 6) (b + 6) (at_ta hc 6 (by decide) (by decide)) (at_ta hb 6 (by decide) (by decide)) (by decide +kernel) (by decide +kernel) (by decide +kernel) (by decide +kernel) (by decide +kernel) (by show 1 ≤ d + 1; omega) (by have := nfw; show 0 + (nativeFrameWords "java/lang/System" "arraycopy" 5 + 11) ≤ 48 * (d + 1); omega) dX3_copy_135 (ws' := wsOf D L (setA σc131 (b + 6) (va_cpy (sA σc131 (c + 6)) (sA σc131 (b + 6)) 0 0 6))) (ws_setA (at_ta hb 6 (by decide) (by decide)) _) ?_
  have hP := cp_A (j := 6) (n := 6) hbc (by decide) (by decide) rfl hP
  generalize setA σc131 (b + 6) (va_cpy (sA σc131 (c + 6)) (sA σc131 (b + 6)) 0 0 6) = σc132 at hP ⊢
  have hb := ft_tn hP.2.2 hb0
  have hc := ft_tn hP.2.2 hc0
  refine g_aload_n dX3_copy_138 rfl 1 rfl ?_
  refine s_getT (b := c) hc kf_X3_30 (by decide) rfl dX3_copy_139 ?_
  refine g_iconst dX3_copy_142 ci_0 ?_
  refine g_aload_n dX3_copy_143 rfl 0 rfl ?_
  refine s_getT (b := b) hb kf_X3_30 (by decide) rfl dX3_copy_144 ?_
  refine g_iconst dX3_copy_147 ci_0 ?_
  refine g_bipush dX3_copy_148 bp_6 ?_
  refine g_arraycopy kmac_X3_74 (c + 7) (b + 7) (at_ta hc 7 (by decide) (by decide)) (at_ta hb 7 (by decide) (by decide)) (by decide +kernel) (by decide +kernel) (by decide +kernel) (by decide +kernel) (by decide +kernel) (by show 1 ≤ d + 1; omega) (by have := nfw; show 0 + (nativeFrameWords "java/lang/System" "arraycopy" 5 + 11) ≤ 48 * (d + 1); omega) dX3_copy_150 (ws' := wsOf D L (setA σc132 (b + 7) (va_cpy (sA σc132 (c + 7)) (sA σc132 (b + 7)) 0 0 6))) (ws_setA (at_ta hb 7 (by decide) (by decide)) _) ?_
  have hP := cp_A (j := 7) (n := 6) hbc (by decide) (by decide) rfl hP
  generalize setA σc132 (b + 7) (va_cpy (sA σc132 (c + 7)) (sA σc132 (b + 7)) 0 0 6) = σc133 at hP ⊢
  have hb := ft_tn hP.2.2 hb0
  have hc := ft_tn hP.2.2 hc0
  refine g_aload_n dX3_copy_153 rfl 1 rfl ?_
  refine s_getT (b := c) hc kf_X3_33 (by decide) rfl dX3_copy_154 ?_
  refine g_iconst dX3_copy_157 ci_0 ?_
  refine g_aload_n dX3_copy_158 rfl 0 rfl ?_
  refine s_getT (b := b) hb kf_X3_33 (by decide) rfl dX3_copy_159 ?_
  refine g_iconst dX3_copy_162 ci_0 ?_
  refine g_bipush dX3_copy_163 bp_8 ?_
  refine g_arraycopy kmac_X3_74 (c + 8) (b + 8) (at_ta hc 8 (by decide) (by decide)) (at_ta hb 8 (by decide) (by decide)) (by decide +kernel) (by decide +kernel) (by decide +kernel) (by decide +kernel) (by decide +kernel) (by show 1 ≤ d + 1; omega) (by have := nfw; show 0 + (nativeFrameWords "java/lang/System" "arraycopy" 5 + 11) ≤ 48 * (d + 1); omega) dX3_copy_165 (ws' := wsOf D L (setA σc133 (b + 8) (va_cpy (sA σc133 (c + 8)) (sA σc133 (b + 8)) 0 0 8))) (ws_setA (at_ta hb 8 (by decide) (by decide)) _) ?_
  have hP := cp_A (j := 8) (n := 8) hbc (by decide) (by decide) rfl hP
  generalize setA σc133 (b + 8) (va_cpy (sA σc133 (c + 8)) (sA σc133 (b + 8)) 0 0 8) = σc134 at hP ⊢
  have hb := ft_tn hP.2.2 hb0
  have hc := ft_tn hP.2.2 hc0
  refine g_aload_n dX3_copy_168 rfl 1 rfl ?_
  refine s_getT (b := c) hc kf_X3_36 (by decide) rfl dX3_copy_169 ?_
  refine g_iconst dX3_copy_172 ci_0 ?_
  refine g_aload_n dX3_copy_173 rfl 0 rfl ?_
  refine s_getT (b := b) hb kf_X3_36 (by decide) rfl dX3_copy_174 ?_
  refine g_iconst dX3_copy_177 ci_0 ?_
  refine g_bipush dX3_copy_178 bp_8 ?_
  refine g_arraycopy kmac_X3_74 (c + 9) (b + 9) (at_ta hc 9 (by decide) (by decide)) (at_ta hb 9 (by decide) (by decide)) (by decide +kernel) (by decide +kernel) (by decide +kernel) (by decide +kernel) (by decide +kernel) (by show 1 ≤ d + 1; omega) (by have := nfw; show 0 + (nativeFrameWords "java/lang/System" "arraycopy" 5 + 11) ≤ 48 * (d + 1); omega) dX3_copy_180 (ws' := wsOf D L (setA σc134 (b + 9) (va_cpy (sA σc134 (c + 9)) (sA σc134 (b + 9)) 0 0 8))) (ws_setA (at_ta hb 9 (by decide) (by decide)) _) ?_
  have hP := cp_A (j := 9) (n := 8) hbc (by decide) (by decide) rfl hP
  generalize setA σc134 (b + 9) (va_cpy (sA σc134 (c + 9)) (sA σc134 (b + 9)) 0 0 8) = σc135 at hP ⊢
  have hb := ft_tn hP.2.2 hb0
  have hc := ft_tn hP.2.2 hc0
  refine g_aload_n dX3_copy_183 rfl 1 rfl ?_
  refine s_getT (b := c) hc kf_X3_39 (by decide) rfl dX3_copy_184 ?_
  refine g_iconst dX3_copy_187 ci_0 ?_
  refine g_aload_n dX3_copy_188 rfl 0 rfl ?_
  refine s_getT (b := b) hb kf_X3_39 (by decide) rfl dX3_copy_189 ?_
  refine g_iconst dX3_copy_192 ci_0 ?_
  refine g_bipush dX3_copy_193 bp_6 ?_
  refine g_arraycopy kmac_X3_74 (c + 10) (b + 10) (at_ta hc 10 (by decide) (by decide)) (at_ta hb 10 (by decide) (by decide)) (by decide +kernel) (by decide +kernel) (by decide +kernel) (by decide +kernel) (by decide +kernel) (by show 1 ≤ d + 1; omega) (by have := nfw; show 0 + (nativeFrameWords "java/lang/System" "arraycopy" 5 + 11) ≤ 48 * (d + 1); omega) dX3_copy_195 (ws' := wsOf D L (setA σc135 (b + 10) (va_cpy (sA σc135 (c + 10)) (sA σc135 (b + 10)) 0 0 6))) (ws_setA (at_ta hb 10 (by decide) (by decide)) _) ?_
  have hP := cp_A (j := 10) (n := 6) hbc (by decide) (by decide) rfl hP
  generalize setA σc135 (b + 10) (va_cpy (sA σc135 (c + 10)) (sA σc135 (b + 10)) 0 0 6) = σc136 at hP ⊢
  have hb := ft_tn hP.2.2 hb0
  have hc := ft_tn hP.2.2 hc0
  refine g_aload_n dX3_copy_198 rfl 1 rfl ?_
  refine s_getT (b := c) hc kf_X3_42 (by decide) rfl dX3_copy_199 ?_
  refine g_iconst dX3_copy_202 ci_0 ?_
  refine g_aload_n dX3_copy_203 rfl 0 rfl ?_
  refine s_getT (b := b) hb kf_X3_42 (by decide) rfl dX3_copy_204 ?_
  refine g_iconst dX3_copy_207 ci_0 ?_
  refine g_bipush dX3_copy_208 bp_6 ?_
  refine g_arraycopy kmac_X3_74 (c + 11) (b + 11) (at_ta hc 11 (by decide) (by decide)) (at_ta hb 11 (by decide) (by decide)) (by decide +kernel) (by decide +kernel) (by decide +kernel) (by decide +kernel) (by decide +kernel) (by show 1 ≤ d + 1; omega) (by have := nfw; show 0 + (nativeFrameWords "java/lang/System" "arraycopy" 5 + 11) ≤ 48 * (d + 1); omega) dX3_copy_210 (ws' := wsOf D L (setA σc136 (b + 11) (va_cpy (sA σc136 (c + 11)) (sA σc136 (b + 11)) 0 0 6))) (ws_setA (at_ta hb 11 (by decide) (by decide)) _) ?_
  have hP := cp_A (j := 11) (n := 6) hbc (by decide) (by decide) rfl hP
  generalize setA σc136 (b + 11) (va_cpy (sA σc136 (c + 11)) (sA σc136 (b + 11)) 0 0 6) = σc137 at hP ⊢
  have hb := ft_tn hP.2.2 hb0
  have hc := ft_tn hP.2.2 hc0
  exact g_return dX3_copy_213 (Nat.le_refl _) (Nat.le_refl _) (h _ hP.2.2 (cp_rz hP hX))
