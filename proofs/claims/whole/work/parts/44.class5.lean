theorem rz_swtn {σ : St} {b : Nat} {X : XT} (h : rzT σ b X) (p n : Nat) : rzT (setA σ (b + 8) (upd (sA σ (b + 8)) p (nI n))) b (xs_wt X (updF (x_wt X) p ((n : Nat) : Int))) := by rw [nI_zI]; exact rz_swt h p n
theorem sh8 : ∀ k, k < 8 → nI 1 <<< (nI k &&& 31) = nI (bitsN (fun i => i == k) 8) := by decide +kernel
theorem ok_bnu {X : XT} (ho : okX X) {c v : Nat} (hv : v < 2000) : okX (xs_bn X (updN (x_bn X) c v)) := by
  obtain ⟨h0, h1, h2, h3, h4, h5, h6, h7, h8, h9⟩ := ho
  refine ⟨h0, fun i hi => ?_, h2, h3, h4, h5, h6, h7, h8, h9⟩
  refine ⟨(h1 i hi).1, (h1 i hi).2.1, (h1 i hi).2.2.1, ?_⟩
  show (if i = c then v else x_bn X i) < 2000
  split
  · exact hv
  · exact (h1 i hi).2.2.2
theorem ok_plu {X : XT} (ho : okX X) {p g : Nat} (hg : g < x_sz X) : okX (xs_pl X (updN (x_pl X) p g)) := by
  have hs := ok_sz ho
  obtain ⟨h0, h1, h2, h3, h4, h5, h6, h7, h8, h9⟩ := ho
  refine ⟨h0, h1, h2, fun q hq => ?_, fun q hq ht => ?_, h5, h6, h7, h8, h9⟩
  · refine ⟨?_, (h3 q hq).2⟩
    show (if q = p then g else x_pl X q) < 6
    split
    · omega
    · exact (h3 q hq).1
  · show (if q = p then g else x_pl X q) < x_sz X
    split
    · exact hg
    · exact h4 q hq ht
set_option maxHeartbeats 4000000 in
set_option maxRecDepth 20000 in
theorem c_X3_tell {l : Launch} {D : gE} {L : Nat → Nat} {σ : St} {Q : Option Value → va_W → Prop} {d : Nat} {b : Nat} (hb : tn σ b) {X : XT} (hX : rzT σ b X) (ho : okX X) {a c k : Nat} (ha : a < 6) (hc : c < 6) (hk : k < 8) (ht : ∀ {w : Nat}, tellE X a c k = (w + 1, X) → Q (some (.int (nI (w + 1)))) (wsOf D L σ)) (ht0 : ∀ {X' : XT}, tellE X a c k = (0, X') → ∀ σ', ft b σ σ' → rzT σ' b X' → Q (some (.int (nI 0))) (wsOf D L σ')) : Ctr l D yX3_tellIfItCanBe cX3_tellIfItCanBe 4 (some .int) (rr (d + 2)) [.ref (L b), .int (nI a), .int (nI c), .int (nI k)] (wsOf D L σ) Q := by
  refine g_start ky_X3_tellIfItCanBe (Nat.le_of_ble_eq_true rfl) ?_
  refine g_pick [0, 1, 2, 3] (lv' := [(0, .ref (L b)), (1, .int (nI a)), (2, .int (nI c)), (3, .int (nI k))]) rfl ?_
  have hb0 := hb
  have hft : ft b σ σ := ft_rfl
  have hpa := ok_p ho ha
  have hpc := ok_p ho hc
  refine g_aload_n dX3_tellIfItCanBe_0 rfl 0 rfl ?_
  refine g_iload_n dX3_tellIfItCanBe_1 rfl 1 rfl ?_
  refine g_callV (As := [.int (nI a)]) km_X3_131 ky_X3_hasPerson ki_X3_hasPerson (by decide) b (at_tn hb) rfl rfl (Nat.le_of_ble_eq_true rfl) dX3_tellIfItCanBe_2 rfl (c_X3_hasPersonN hb hX ho (by omega) (fun h2 => ?_) (fun h2 => ?_))
  · refine t_ifeq1 (tgt := 16) dX3_tellIfItCanBe_5 (by decide) ?_
    refine g_aload_n dX3_tellIfItCanBe_8 rfl 0 rfl ?_
    refine g_iload_n dX3_tellIfItCanBe_9 rfl 2 rfl ?_
    refine g_callV (As := [.int (nI c)]) km_X3_131 ky_X3_hasPerson ki_X3_hasPerson (by decide) b (at_tn hb) rfl rfl (Nat.le_of_ble_eq_true rfl) dX3_tellIfItCanBe_10 rfl (c_X3_hasPersonN hb hX ho (by omega) (fun h10 => ?_) (fun h10 => ?_))
    · refine t_ifne1 18 dX3_tellIfItCanBe_13 (by decide) ?_
      refine g_iload_n dX3_tellIfItCanBe_18 rfl 1 rfl ?_
      refine g_iload_n dX3_tellIfItCanBe_19 rfl 2 rfl ?_
      refine n_icmpeq 38 dX3_tellIfItCanBe_20 (by decide) (by omega) (by omega) (fun h20 => ?_) (fun h20 => ?_)
      · refine g_iconst dX3_tellIfItCanBe_38 ci_2 ?_
        exact g_ireturn dX3_tellIfItCanBe_39 (Nat.le_refl _) (Nat.le_refl _) (ht (by unfold tellE; rw [if_neg (fun q => q ⟨h2, h10⟩), if_pos (Or.inl h20)]))
      · refine g_aload_n dX3_tellIfItCanBe_23 rfl 0 rfl ?_
        refine s_getT (b := b) hb kf_X3_24 (by decide) rfl dX3_tellIfItCanBe_24 ?_
        refine g_iload_n dX3_tellIfItCanBe_27 rfl 1 rfl ?_
        refine s_ald (q := (b + 5)) (n := 6) (at_ta hb 5 (by decide) (by decide)) (by omega) (by decide) dX3_tellIfItCanBe_28 ?_
        refine g_tope (z := nI (x_pl X a)) (rpT_pl hX.1 (by omega)) ?_
        refine g_aload_n dX3_tellIfItCanBe_29 rfl 0 rfl ?_
        refine s_getT (b := b) hb kf_X3_24 (by decide) rfl dX3_tellIfItCanBe_30 ?_
        refine g_iload_n dX3_tellIfItCanBe_33 rfl 2 rfl ?_
        refine s_ald (q := (b + 5)) (n := 6) (at_ta hb 5 (by decide) (by decide)) (by omega) (by decide) dX3_tellIfItCanBe_34 ?_
        refine g_tope (z := nI (x_pl X c)) (rpT_pl hX.1 (by omega)) ?_
        refine n_icmpeq 40 dX3_tellIfItCanBe_35 (by decide) (by omega) (by omega) (fun h35 => ?_) (fun h35 => ?_)
        · refine g_aload_n dX3_tellIfItCanBe_40 rfl 0 rfl ?_
          refine s_getT (b := b) hb kf_X3_30 (by decide) rfl dX3_tellIfItCanBe_41 ?_
          refine g_iload_n dX3_tellIfItCanBe_44 rfl 1 rfl ?_
          refine s_ald (q := (b + 7)) (n := 6) (at_ta hb 7 (by decide) (by decide)) (by omega) (by decide) dX3_tellIfItCanBe_45 ?_
          refine g_tope (z := nI (bitsN (x_kn X a) 8)) (rzT_kn hX (by omega)) ?_
          refine g_iload_n dX3_tellIfItCanBe_46 rfl 3 rfl ?_
          refine g_callN2 (C := RX3) (As := [.int (nI (bitsN (x_kn X a) 8)), .int (nI k)]) rfl kn_X3_84 ky_X4_has ks_X4_has (by decide) rfl (Nat.le_of_ble_eq_true rfl) dX3_tellIfItCanBe_47 rfl (c_X4_has (n := 8) (by decide) (by omega) (fun h47 => ?_) (fun h47 => ?_))
          · refine t_ifne1 55 dX3_tellIfItCanBe_50 (by decide) ?_
            refine g_aload_n dX3_tellIfItCanBe_55 rfl 0 rfl ?_
            refine s_getT (b := b) hb kf_X3_30 (by decide) rfl dX3_tellIfItCanBe_56 ?_
            refine g_iload_n dX3_tellIfItCanBe_59 rfl 2 rfl ?_
            refine s_ald (q := (b + 7)) (n := 6) (at_ta hb 7 (by decide) (by decide)) (by omega) (by decide) dX3_tellIfItCanBe_60 ?_
            refine g_tope (z := nI (bitsN (x_kn X c) 8)) (rzT_kn hX (by omega)) ?_
            refine g_iload_n dX3_tellIfItCanBe_61 rfl 3 rfl ?_
            refine g_callN2 (C := RX3) (As := [.int (nI (bitsN (x_kn X c) 8)), .int (nI k)]) rfl kn_X3_84 ky_X4_has ks_X4_has (by decide) rfl (Nat.le_of_ble_eq_true rfl) dX3_tellIfItCanBe_62 rfl (c_X4_has (n := 8) (by decide) (by omega) (fun h62 => ?_) (fun h62 => ?_))
            · refine t_ifeq1 (tgt := 70) dX3_tellIfItCanBe_65 (by decide) ?_
              refine g_iconst dX3_tellIfItCanBe_68 ci_4 ?_
              exact g_ireturn dX3_tellIfItCanBe_69 (Nat.le_refl _) (Nat.le_refl _) (ht (by unfold tellE; rw [if_neg (fun q => q ⟨h2, h10⟩), if_neg (by rintro (q | q); exact h20 q; exact q h35), if_neg (by rw [h47]; decide), if_pos h62]))
            · refine t_ifeq0 70 dX3_tellIfItCanBe_65 (by decide) ?_
              refine g_aload_n dX3_tellIfItCanBe_70 rfl 0 rfl ?_
              refine s_getT (b := b) hb kf_X3_30 (by decide) rfl dX3_tellIfItCanBe_71 ?_
              refine g_iload_n dX3_tellIfItCanBe_74 rfl 2 rfl ?_
              refine g_dup2 dX3_tellIfItCanBe_75 rfl rfl ?_
              refine s_ald (q := (b + 7)) (n := 6) (at_ta hb 7 (by decide) (by decide)) (by omega) (by decide) dX3_tellIfItCanBe_76 ?_
              refine g_tope (z := nI (bitsN (x_kn X c) 8)) (rzT_kn hX (by omega)) ?_
              refine g_iconst dX3_tellIfItCanBe_77 ci_1 ?_
              refine g_iload_n dX3_tellIfItCanBe_78 rfl 3 rfl ?_
              refine g_ishl dX3_tellIfItCanBe_79 ?_
              refine g_ior dX3_tellIfItCanBe_80 ?_
              refine g_tope (z := nI (bitsN (fun i => (x_kn X c) i || i == k) 8)) (obB _ (by decide) (by omega)) ?_
              refine s_ast (q := (b + 7)) (n := 6) (at_ta hb 7 (by decide) (by decide)) (by omega) (by decide) dX3_tellIfItCanBe_81 ?_
              have hX : rzT (setA σ (b + 7) (upd (sA σ (b + 7)) c (nI (bitsN (fun i => (x_kn X c) i || i == k) 8)))) b (xs_kn X (updF (x_kn X) c (fun i => (x_kn X c) i || i == k))) := rz_skn hX c (fun i => (x_kn X c) i || i == k)
              have hft : ft b σ (setA σ (b + 7) (upd (sA σ (b + 7)) c (nI (bitsN (fun i => (x_kn X c) i || i == k) 8)))) := ft_A hft 7 (by decide) _
              generalize setA σ (b + 7) (upd (sA σ (b + 7)) c (nI (bitsN (fun i => (x_kn X c) i || i == k) 8))) = σw108 at hX hft ⊢
              have hb := ft_tn hft hb0
              refine g_iconst dX3_tellIfItCanBe_82 ci_0 ?_
              exact g_ireturn dX3_tellIfItCanBe_83 (Nat.le_refl _) (Nat.le_refl _) (ht0 (by unfold tellE; rw [if_neg (fun q => q ⟨h2, h10⟩), if_neg (by rintro (q | q); exact h20 q; exact q h35), if_neg (by rw [h47]; decide), if_neg (by rw [h62]; decide)]) _ hft hX)
          · refine t_ifne0 (tgt := 55) dX3_tellIfItCanBe_50 (by decide) ?_
            refine g_iconst dX3_tellIfItCanBe_53 ci_3 ?_
            exact g_ireturn dX3_tellIfItCanBe_54 (Nat.le_refl _) (Nat.le_refl _) (ht (by unfold tellE; rw [if_neg (fun q => q ⟨h2, h10⟩), if_neg (by rintro (q | q); exact h20 q; exact q h35), if_pos h47]))
        · refine g_iconst dX3_tellIfItCanBe_38 ci_2 ?_
          exact g_ireturn dX3_tellIfItCanBe_39 (Nat.le_refl _) (Nat.le_refl _) (ht (by unfold tellE; rw [if_neg (fun q => q ⟨h2, h10⟩), if_pos (Or.inr h35)]))
    · refine t_ifne0 (tgt := 18) dX3_tellIfItCanBe_13 (by decide) ?_
      refine g_iconst dX3_tellIfItCanBe_16 ci_1 ?_
      exact g_ireturn dX3_tellIfItCanBe_17 (Nat.le_refl _) (Nat.le_refl _) (ht (by unfold tellE; rw [if_pos (by rw [h10]; simp)]))
  · refine t_ifeq0 16 dX3_tellIfItCanBe_5 (by decide) ?_
    refine g_iconst dX3_tellIfItCanBe_16 ci_1 ?_
    exact g_ireturn dX3_tellIfItCanBe_17 (Nat.le_refl _) (Nat.le_refl _) (ht (by unfold tellE; rw [if_pos (by rw [h2]; simp)]))
set_option maxHeartbeats 4000000 in
set_option maxRecDepth 20000 in
theorem c_X3_cross {l : Launch} {D : gE} {L : Nat → Nat} {σ : St} {Q : Option Value → va_W → Prop} {d : Nat} {b : Nat} (hb : tn σ b) {X : XT} (hX : rzT σ b X) (ho : okX X) {p c : Nat} (hp : p < 6) (hc : c < 8) (ht : ∀ {w : Nat}, crossE X p c = (w + 1, X) → Q (some (.int (nI (w + 1)))) (wsOf D L σ)) (ht0 : ∀ {X' : XT}, crossE X p c = (0, X') → ∀ σ', ft b σ σ' → rzT σ' b X' → Q (some (.int (nI 0))) (wsOf D L σ')) : Ctr l D yX3_crossIfItCanBe cX3_crossIfItCanBe 4 (some .int) (rr (d + 3)) [.ref (L b), .int (nI p), .int (nI c)] (wsOf D L σ) Q := by
  refine g_start ky_X3_crossIfItCanBe (Nat.le_of_ble_eq_true rfl) ?_
  refine g_pick [0, 1, 2] (lv' := [(0, .ref (L b)), (1, .int (nI p)), (2, .int (nI c))]) rfl ?_
  have hb0 := hb
  have hft : ft b σ σ := ft_rfl
  have hpp := ok_p ho hp
  have hbb := ok_b ho hc
  have hbu := bu_bd ho p
  refine g_aload_n dX3_crossIfItCanBe_0 rfl 0 rfl ?_
  refine g_iload_n dX3_crossIfItCanBe_1 rfl 1 rfl ?_
  refine g_callV (As := [.int (nI p)]) km_X3_131 ky_X3_hasPerson ki_X3_hasPerson (by decide) b (at_tn hb) rfl rfl (Nat.le_of_ble_eq_true rfl) dX3_crossIfItCanBe_2 rfl (c_X3_hasPersonN hb hX ho (by omega) (fun h2 => ?_) (fun h2 => ?_))
  · refine t_ifne1 10 dX3_crossIfItCanBe_5 (by decide) ?_
    refine g_aload_n dX3_crossIfItCanBe_10 rfl 0 rfl ?_
    refine g_iload_n dX3_crossIfItCanBe_11 rfl 2 rfl ?_
    refine g_callV (As := [.int (nI c)]) km_X3_135 ky_X3_hasBridge ki_X3_hasBridge (by decide) b (at_tn hb) rfl rfl (Nat.le_of_ble_eq_true rfl) dX3_crossIfItCanBe_12 rfl (c_X3_hasBridgeN hb hX ho (by omega) (fun h12 => ?_) (fun h12 => ?_))
    · refine t_ifne1 20 dX3_crossIfItCanBe_15 (by decide) ?_
      refine g_aload_n dX3_crossIfItCanBe_20 rfl 0 rfl ?_
      refine g_iload_n dX3_crossIfItCanBe_21 rfl 2 rfl ?_
      refine g_aload_n dX3_crossIfItCanBe_22 rfl 0 rfl ?_
      refine s_getT (b := b) hb kf_X3_24 (by decide) rfl dX3_crossIfItCanBe_23 ?_
      refine g_iload_n dX3_crossIfItCanBe_26 rfl 1 rfl ?_
      refine s_ald (q := (b + 5)) (n := 6) (at_ta hb 5 (by decide) (by decide)) (by omega) (by decide) dX3_crossIfItCanBe_27 ?_
      refine g_tope (z := nI (x_pl X p)) (rpT_pl hX.1 (by omega)) ?_
      refine g_callV (As := [.int (nI c), .int (nI (x_pl X p))]) km_X3_128 ky_X3_isAtEnd ki_X3_isAtEnd (by decide) b (at_tn hb) rfl rfl (Nat.le_of_ble_eq_true rfl) dX3_crossIfItCanBe_28 rfl (c_X3_isAtEnd hb hX ho (by omega) (by omega) (fun h28 => ?_) (fun h28 => ?_))
      · refine t_ifne1 37 dX3_crossIfItCanBe_31 (by decide) ?_
        refine g_aload_n dX3_crossIfItCanBe_37 rfl 0 rfl ?_
        refine g_iload_n dX3_crossIfItCanBe_38 rfl 1 rfl ?_
        refine g_callV (As := [.int (nI p)]) km_X3_100 ky_X3_burden ki_X3_burden (by decide) b (at_tn hb) rfl rfl (Nat.le_of_ble_eq_true rfl) dX3_crossIfItCanBe_39 rfl (c_X3_burden hb hX ho (by omega) ?_)
        refine g_istore_n (lv' := [(3, .int (nI (buX X p))), (0, .ref (L b)), (1, .int (nI p)), (2, .int (nI c))]) dX3_crossIfItCanBe_42 rfl (by decide) rfl ?_
        refine g_iload_n dX3_crossIfItCanBe_43 rfl 0 rfl ?_
        refine g_aload_n dX3_crossIfItCanBe_44 rfl 1 rfl ?_
        refine s_getT (b := b) hb kf_X3_18 (by decide) rfl dX3_crossIfItCanBe_45 ?_
        refine g_iload_n dX3_crossIfItCanBe_48 rfl 3 rfl ?_
        refine s_ald (q := (b + 3)) (n := 8) (at_ta hb 3 (by decide) (by decide)) (by omega) (by decide) dX3_crossIfItCanBe_49 ?_
        refine g_tope (z := nI (x_ld X c)) (rpT_ld hX.1 (by omega)) ?_
        refine n_icmple 56 dX3_crossIfItCanBe_50 (by decide) (by omega) (by omega) (fun h50 => ?_) (fun h50 => ?_)
        · refine g_aload_n dX3_crossIfItCanBe_56 rfl 1 rfl ?_
          refine s_getT (b := b) hb kf_X3_21 (by decide) rfl dX3_crossIfItCanBe_57 ?_
          refine g_iload_n dX3_crossIfItCanBe_60 rfl 3 rfl ?_
          refine g_aload_n dX3_crossIfItCanBe_61 rfl 1 rfl ?_
          refine s_getT (b := b) hb kf_X3_21 (by decide) rfl dX3_crossIfItCanBe_62 ?_
          refine g_iload_n dX3_crossIfItCanBe_65 rfl 3 rfl ?_
          refine s_ald (q := (b + 4)) (n := 8) (at_ta hb 4 (by decide) (by decide)) (by omega) (by decide) dX3_crossIfItCanBe_66 ?_
          refine g_tope (z := nI (x_bn X c)) (rpT_bn hX.1 (by omega)) ?_
          refine g_iload_n dX3_crossIfItCanBe_67 rfl 0 rfl ?_
          refine g_callS (As := [.int (nI (x_bn X c)), .int (nI (buX X p))]) km_X3_95 ky_J9_max_7cf53 ks_J9_max_7cf53 (by decide) rfl (Nat.le_of_ble_eq_true rfl) dX3_crossIfItCanBe_68 rfl (c_maxN (by omega) (by omega) ?_)
          refine s_ast (q := (b + 4)) (n := 8) (at_ta hb 4 (by decide) (by decide)) (by omega) (by decide) dX3_crossIfItCanBe_71 ?_
          have hX : rzT (setA σ (b + 4) (upd (sA σ (b + 4)) c (nI (if x_bn X c < buX X p then buX X p else x_bn X c)))) b (xs_bn X (updN (x_bn X) c (if x_bn X c < buX X p then buX X p else x_bn X c))) := rz_sbn hX c (if x_bn X c < buX X p then buX X p else x_bn X c)
          have hft : ft b σ (setA σ (b + 4) (upd (sA σ (b + 4)) c (nI (if x_bn X c < buX X p then buX X p else x_bn X c)))) := ft_A hft 4 (by decide) _
          generalize setA σ (b + 4) (upd (sA σ (b + 4)) c (nI (if x_bn X c < buX X p then buX X p else x_bn X c))) = σw109 at hX hft ⊢
          have hb := ft_tn hft hb0
          refine g_aload_n dX3_crossIfItCanBe_72 rfl 1 rfl ?_
          refine s_getT (b := b) hb kf_X3_24 (by decide) rfl dX3_crossIfItCanBe_73 ?_
          refine g_iload_n dX3_crossIfItCanBe_76 rfl 2 rfl ?_
          refine g_aload_n dX3_crossIfItCanBe_77 rfl 1 rfl ?_
          refine g_iload_n dX3_crossIfItCanBe_78 rfl 3 rfl ?_
          refine g_aload_n dX3_crossIfItCanBe_79 rfl 1 rfl ?_
          refine s_getT (b := b) hb kf_X3_24 (by decide) rfl dX3_crossIfItCanBe_80 ?_
          refine g_iload_n dX3_crossIfItCanBe_83 rfl 2 rfl ?_
          refine s_ald (q := (b + 5)) (n := 6) (at_ta hb 5 (by decide) (by decide)) (by omega) (by decide) dX3_crossIfItCanBe_84 ?_
          refine g_tope (z := nI ((x_pl X) p)) ((rpT_pl hX.1 (by omega)).trans (by simp only [x_pl_bn])) ?_
          refine g_callV (As := [.int (nI c), .int (nI ((x_pl X) p))]) km_X3_125 ky_X3_otherEnd ki_X3_otherEnd (by decide) b (at_tn hb) rfl rfl (Nat.le_of_ble_eq_true rfl) dX3_crossIfItCanBe_85 rfl (c_X3_otherEnd hb hX (ok_bnu ho (by split <;> omega)) (by omega) (by omega) ?_)
          refine g_tope (z := nI (x_lo X c + x_hi X c - x_pl X p)) (by unfold oeX; simp only [x_lo_bn, x_hi_bn]; exact congrArg nI (oe_is h28)) ?_
          refine s_ast (q := (b + 5)) (n := 6) (at_ta hb 5 (by decide) (by decide)) (by omega) (by decide) dX3_crossIfItCanBe_88 ?_
          have hX : rzT (setA σw109 (b + 5) (upd (sA σw109 (b + 5)) p (nI (x_lo X c + x_hi X c - x_pl X p)))) b (xs_pl (xs_bn X (updN (x_bn X) c (if x_bn X c < buX X p then buX X p else x_bn X c))) (updN (x_pl (xs_bn X (updN (x_bn X) c (if x_bn X c < buX X p then buX X p else x_bn X c)))) p (x_lo X c + x_hi X c - x_pl X p))) := rz_spl hX p (x_lo X c + x_hi X c - x_pl X p)
          simp only [x_pl_bn] at hX
          have hft : ft b σ (setA σw109 (b + 5) (upd (sA σw109 (b + 5)) p (nI (x_lo X c + x_hi X c - x_pl X p)))) := ft_A hft 5 (by decide) _
          generalize setA σw109 (b + 5) (upd (sA σw109 (b + 5)) p (nI (x_lo X c + x_hi X c - x_pl X p))) = σw110 at hX hft ⊢
          have hb := ft_tn hft hb0
          refine g_iconst dX3_crossIfItCanBe_89 ci_0 ?_
          exact g_ireturn dX3_crossIfItCanBe_90 (Nat.le_refl _) (Nat.le_refl _) (ht0 (by unfold crossE; rw [if_neg (by rw [h2]; decide), if_neg (by rw [h12]; decide), if_neg (fun q => h28.elim (fun r => q.1 r.symm) (fun r => q.2 r.symm)), if_neg (show ¬ x_ld X c < buX X p by omega)]) _ hft hX)
        · refine g_bipush dX3_crossIfItCanBe_53 bp_7 ?_
          exact g_ireturn dX3_crossIfItCanBe_55 (Nat.le_refl _) (Nat.le_refl _) (ht (by unfold crossE; rw [if_neg (by rw [h2]; decide), if_neg (by rw [h12]; decide), if_neg (fun q => h28.elim (fun r => q.1 r.symm) (fun r => q.2 r.symm)), if_pos h50]))
      · refine t_ifne0 (tgt := 37) dX3_crossIfItCanBe_31 (by decide) ?_
        refine g_bipush dX3_crossIfItCanBe_34 bp_6 ?_
        exact g_ireturn dX3_crossIfItCanBe_36 (Nat.le_refl _) (Nat.le_refl _) (ht (by unfold crossE; rw [if_neg (by rw [h2]; decide), if_neg (by rw [h12]; decide), if_pos ⟨fun q => h28 (Or.inl q.symm), fun q => h28 (Or.inr q.symm)⟩]))
    · refine t_ifne0 (tgt := 20) dX3_crossIfItCanBe_15 (by decide) ?_
      refine g_iconst dX3_crossIfItCanBe_18 ci_5 ?_
      exact g_ireturn dX3_crossIfItCanBe_19 (Nat.le_refl _) (Nat.le_refl _) (ht (by unfold crossE; rw [if_neg (by rw [h2]; decide), if_pos h12]))
  · refine t_ifne0 (tgt := 10) dX3_crossIfItCanBe_5 (by decide) ?_
    refine g_iconst dX3_crossIfItCanBe_8 ci_1 ?_
    exact g_ireturn dX3_crossIfItCanBe_9 (Nat.le_refl _) (Nat.le_refl _) (ht (by unfold crossE; rw [if_pos h2]))
set_option maxHeartbeats 4000000 in
set_option maxRecDepth 20000 in
theorem c_X3_publish {l : Launch} {D : gE} {L : Nat → Nat} {σ : St} {Q : Option Value → va_W → Prop} {d : Nat} {b : Nat} (hb : tn σ b) {X : XT} (hX : rzT σ b X) (ho : okX X) {k : Nat} (hk : k < 8) (ht : ∀ {w : Nat}, pubE X k = (w + 1, X) → Q (some (.int (nI (w + 1)))) (wsOf D L σ)) (ht0 : ∀ {X' : XT}, pubE X k = (0, X') → ∀ σ', ft b σ σ' → rzT σ' b X' → Q (some (.int (nI 0))) (wsOf D L σ')) : Ctr l D yX3_publishIfItCanBe cX3_publishIfItCanBe 2 (some .int) (rr (d + 1)) [.ref (L b), .int (nI k)] (wsOf D L σ) Q := by
  refine g_start ky_X3_publishIfItCanBe (Nat.le_of_ble_eq_true rfl) ?_
  refine g_pick [0, 1] (lv' := [(0, .ref (L b)), (1, .int (nI k))]) rfl ?_
  have hb0 := hb
  have hft : ft b σ σ := ft_rfl
  refine g_aload_n dX3_publishIfItCanBe_0 rfl 0 rfl ?_
  refine s_getT (b := b) hb kf_X3_65 (by decide) rfl dX3_publishIfItCanBe_1 ?_
  refine g_tope (z := nI (bitsN (x_pu X) 8)) (rpT_pu hX.1) ?_
  refine g_iload_n dX3_publishIfItCanBe_4 rfl 1 rfl ?_
  refine g_callN2 (C := RX3) (As := [.int (nI (bitsN (x_pu X) 8)), .int (nI k)]) rfl kn_X3_84 ky_X4_has ks_X4_has (by decide) rfl (Nat.le_of_ble_eq_true rfl) dX3_publishIfItCanBe_5 rfl (c_X4_has (n := 8) (by decide) (by omega) (fun h5 => ?_) (fun h5 => ?_))
  · refine t_ifeq1 (tgt := 14) dX3_publishIfItCanBe_8 (by decide) ?_
    refine g_bipush dX3_publishIfItCanBe_11 bp_8 ?_
    exact g_ireturn dX3_publishIfItCanBe_13 (Nat.le_refl _) (Nat.le_refl _) (ht (by unfold pubE; rw [if_pos h5]))
  · refine t_ifeq0 14 dX3_publishIfItCanBe_8 (by decide) ?_
    refine g_aload_n dX3_publishIfItCanBe_14 rfl 0 rfl ?_
    refine g_dup dX3_publishIfItCanBe_15 rfl ?_
    refine s_getT (b := b) hb kf_X3_65 (by decide) rfl dX3_publishIfItCanBe_16 ?_
    refine g_tope (z := nI (bitsN (x_pu X) 8)) (rpT_pu hX.1) ?_
    refine g_iconst dX3_publishIfItCanBe_19 ci_1 ?_
    refine g_iload_n dX3_publishIfItCanBe_20 rfl 1 rfl ?_
    refine g_ishl dX3_publishIfItCanBe_21 ?_
    refine g_ior dX3_publishIfItCanBe_22 ?_
    refine g_tope (z := nI (bitsN (fun i => (x_pu X) i || i == k) 8)) (obB _ (by decide) (by omega)) ?_
    refine s_putT (b := b) hb kf_X3_65 (by decide) dX3_publishIfItCanBe_23 ?_
    have hX : rzT (setI σ b 12 (nI (bitsN (fun i => (x_pu X) i || i == k) 8))) b (xs_pu X (fun i => (x_pu X) i || i == k)) := rz_spu hX (fun i => (x_pu X) i || i == k)
    have hft : ft b σ (setI σ b 12 (nI (bitsN (fun i => (x_pu X) i || i == k) 8))) := ft_I hft 12 _
    generalize setI σ b 12 (nI (bitsN (fun i => (x_pu X) i || i == k) 8)) = σw111 at hX hft ⊢
    have hb := ft_tn hft hb0
    refine g_iconst dX3_publishIfItCanBe_26 ci_0 ?_
    exact g_ireturn dX3_publishIfItCanBe_27 (Nat.le_refl _) (Nat.le_refl _) (ht0 (by unfold pubE; rw [if_neg (by rw [h5]; decide)]) _ hft hX)
theorem ntP_id {X : XT} {n : Nat} (h : x_wt X n = ngt (x_wt X n) (x_fa X)) : ntP X n = ntP X (n + 1) := by
  rw [← ntP_s X n (x_wt X n) h]
  refine x_ext (by simp only [x_sz_wt]) (by simp only [x_br_wt]) (by simp only [x_lo_wt]) (by simp only [x_hi_wt]) (by simp only [x_ld_wt]) (by simp only [x_bn_wt]) (by simp only [x_th_wt]) (by simp only [x_pl_wt]) (by simp only [x_ki_wt]) (by simp only [x_kn_wt]) ?_ (by simp only [x_ab_wt]) (by simp only [x_pu_wt]) (by simp only [x_fa_wt]) (by simp only [x_sg_wt]) (by simp only [x_sb_wt]) (by simp only [x_sv_wt])
  rw [x_wt_wt]
  funext i
  simp only [updF]
  by_cases c : i = n
  · rw [if_pos c, c, ntP_at]
  · rw [if_neg c]
set_option maxHeartbeats 4000000 in
set_option maxRecDepth 20000 in
theorem lp_X3_passNight {l : Launch} {D : gE} {L : Nat → Nat} {σ : St} {Q : Option Value → va_W → Prop} {d : Nat} {b : Nat} (hb0 : tn σ b) {X : XT} (ho : okX X) (h : ∀ σ', ft b σ σ' → rzT σ' b (nightE X) → Q none (wsOf D L σ')) : ∀ n_ k, k + n_ = 8 → ∀ σ', ft b σ σ' → rzT σ' b (ntP X k) → G l D yX3_passNight cX3_passNight 2 none (rr (d + 1)) Q 0 0 2 [(1, .int (nI k)), (0, .ref (L b))] [] (wsOf D L σ') := by
  intro n_
  induction n_ with
  | zero =>
    intro k hct σ' hft hX
    obtain rfl : k = 8 := by omega
    refine g_iload_n dX3_passNight_2 rfl 0 rfl ?_
    refine g_bipush dX3_passNight_3 bp_8 ?_
    refine n_icmpge 44 dX3_passNight_5 (by decide) (by omega) (by omega) (fun h5 => ?_) (fun h5 => absurd h5 (by omega))
    exact g_return dX3_passNight_44 (Nat.le_refl _) (Nat.le_refl _) (h _ hft hX)
  | succ n_ ih =>
    intro k hct σ' hft hX
    have hb := ft_tn hft hb0
    have hwt := ok_wt ho (k := k) (by omega)
    have hfa := ok_fa ho
    refine g_iload_n dX3_passNight_2 rfl 0 rfl ?_
    refine g_bipush dX3_passNight_3 bp_8 ?_
    refine n_icmpge 44 dX3_passNight_5 (by decide) (by omega) (by omega) (fun h5 => absurd h5 (by omega)) (fun h5 => ?_)
    refine g_aload_n dX3_passNight_8 rfl 1 rfl ?_
    refine s_getT (b := b) hb kf_X3_33 (by decide) rfl dX3_passNight_9 ?_
    refine g_iload_n dX3_passNight_12 rfl 0 rfl ?_
    refine s_ald (q := (b + 8)) (n := 8) (at_ta hb 8 (by decide) (by decide)) (by omega) (by decide) dX3_passNight_13 ?_
    refine g_tope (z := zI (x_wt X k)) ((rpT_wt hX.1 (by omega)).trans (by rw [ntP_at])) ?_
    refine z_ifle 38 dX3_passNight_14 (by decide) (by omega) (fun h14 => ?_) (fun h14 => ?_)
    · refine g_iinc (v := nI (k + 1)) (lv' := [(1, .int (nI (k + 1))), (0, .ref (L b))]) dX3_passNight_38 0 rfl (inc_n _) (by decide) rfl ?_
      refine g_goto 2 dX3_passNight_41 (by decide) ?_
      refine g_pick [0, 1] (lv' := [(1, .int (nI (k + 1))), (0, .ref (L b))]) rfl ?_
      exact ih (k + 1) (by omega) _ hft (by rw [← ntP_id (by unfold ngt; rw [if_pos (show x_wt X k ≤ 0 by omega)])]; exact hX)
    · refine g_aload_n dX3_passNight_17 rfl 1 rfl ?_
      refine s_getT (b := b) hb kf_X3_33 (by decide) rfl dX3_passNight_18 ?_
      refine g_iload_n dX3_passNight_21 rfl 0 rfl ?_
      refine g_iconst dX3_passNight_22 ci_0 ?_
      refine g_aload_n dX3_passNight_23 rfl 1 rfl ?_
      refine s_getT (b := b) hb kf_X3_33 (by decide) rfl dX3_passNight_24 ?_
      refine g_iload_n dX3_passNight_27 rfl 0 rfl ?_
      refine s_ald (q := (b + 8)) (n := 8) (at_ta hb 8 (by decide) (by decide)) (by omega) (by decide) dX3_passNight_28 ?_
      refine g_tope (z := zI (x_wt X k)) ((rpT_wt hX.1 (by omega)).trans (by rw [ntP_at])) ?_
      refine g_aload_n dX3_passNight_29 rfl 1 rfl ?_
      refine s_getT (b := b) hb kf_X3_45 (by decide) rfl dX3_passNight_30 ?_
      refine g_tope (z := nI (x_fa X)) ((rpT_fa hX.1).trans (by rw [ntP_fa])) ?_
      refine g_isub dX3_passNight_33 ?_
      refine g_tope (z := zI (x_wt X k - (x_fa X : Int))) (by rw [nI_zI]; exact zI_sub _ _) ?_
      refine g_callS (As := [.int (nI 0), .int (zI (x_wt X k - (x_fa X : Int)))]) km_X3_95 ky_J9_max_7cf53 ks_J9_max_7cf53 (by decide) rfl (Nat.le_of_ble_eq_true rfl) dX3_passNight_34 rfl (c_max0 (by omega) ?_)
      refine s_ast (q := (b + 8)) (n := 8) (at_ta hb 8 (by decide) (by decide)) (by omega) (by decide) dX3_passNight_37 ?_
      have hX : rzT (setA σ' (b + 8) (upd (sA σ' (b + 8)) k (nI ((x_wt X k - (x_fa X : Int)).toNat)))) b _ := rz_swtn hX k (x_wt X k - (x_fa X : Int)).toNat
      rw [ntP_s X k _ (by unfold ngt; rw [if_neg (show ¬ x_wt X k ≤ 0 by omega)]; split <;> omega)] at hX
      have hft : ft b σ (setA σ' (b + 8) (upd (sA σ' (b + 8)) k (nI ((x_wt X k - (x_fa X : Int)).toNat)))) := ft_A hft 8 (by decide) _
      generalize setA σ' (b + 8) (upd (sA σ' (b + 8)) k (nI ((x_wt X k - (x_fa X : Int)).toNat))) = σq at hX hft ⊢
      refine g_iinc (v := nI (k + 1)) (lv' := [(1, .int (nI (k + 1))), (0, .ref (L b))]) dX3_passNight_38 0 rfl (inc_n _) (by decide) rfl ?_
      refine g_goto 2 dX3_passNight_41 (by decide) ?_
      refine g_pick [0, 1] (lv' := [(1, .int (nI (k + 1))), (0, .ref (L b))]) rfl ?_
      exact ih (k + 1) (by omega) _ hft hX
set_option maxHeartbeats 4000000 in
set_option maxRecDepth 20000 in
theorem c_X3_passNight {l : Launch} {D : gE} {L : Nat → Nat} {σ : St} {Q : Option Value → va_W → Prop} {d : Nat} {b : Nat} (hb : tn σ b) {X : XT} (hX : rzT σ b X) (ho : okX X) (h : ∀ σ', ft b σ σ' → rzT σ' b (nightE X) → Q none (wsOf D L σ')) : Ctr l D yX3_passNight cX3_passNight 2 none (rr (d + 1)) [.ref (L b)] (wsOf D L σ) Q := by
  refine g_start ky_X3_passNight (Nat.le_of_ble_eq_true rfl) ?_
  refine g_pick [0] (lv' := [(0, .ref (L b))]) rfl ?_
  refine g_iconst dX3_passNight_0 ci_0 ?_
  refine g_istore_n (lv' := [(1, .int (nI 0)), (0, .ref (L b))]) dX3_passNight_1 rfl (by decide) rfl ?_
  refine g_pick [0, 1] (lv' := [(1, .int (nI 0)), (0, .ref (L b))]) rfl ?_
  exact lp_X3_passNight hb ho h 8 0 rfl _ ft_rfl (by rw [ntP_0]; exact hX)
def taX (X : XT) (f g : Nat → Bool) (n : Nat) : XT := xs_kn X (fun q k => if q < n ∧ f q = true then x_kn X q k || g k else x_kn X q k)
theorem ta_0 (X : XT) (f g : Nat → Bool) : taX X f g 0 = X := by
  refine x_ext (by simp only [taX, x_sz_kn]) (by simp only [taX, x_br_kn]) (by simp only [taX, x_lo_kn]) (by simp only [taX, x_hi_kn]) (by simp only [taX, x_ld_kn]) (by simp only [taX, x_bn_kn]) (by simp only [taX, x_th_kn]) (by simp only [taX, x_pl_kn]) (by simp only [taX, x_ki_kn]) ?_ (by simp only [taX, x_wt_kn]) (by simp only [taX, x_ab_kn]) (by simp only [taX, x_pu_kn]) (by simp only [taX, x_fa_kn]) (by simp only [taX, x_sg_kn]) (by simp only [taX, x_sb_kn]) (by simp only [taX, x_sv_kn])
  rw [show x_kn (taX X f g 0) = _ from x_kn_kn _ _]
  funext q k
  rw [if_neg (fun c => Nat.not_lt_zero _ c.1)]
theorem ta_at (X : XT) (f g : Nat → Bool) (n : Nat) : x_kn (taX X f g n) n = x_kn X n := by
  unfold taX; rw [x_kn_kn]; funext k; rw [if_neg (fun c => Nat.lt_irrefl _ c.1)]
theorem ta_t {X : XT} {f g : Nat → Bool} {n : Nat} (h : f n = true) : xs_kn (taX X f g n) (updF (x_kn (taX X f g n)) n (fun i => x_kn X n i || g i)) = taX X f g (n + 1) := by
  refine x_ext (by simp only [taX, x_sz_kn]) (by simp only [taX, x_br_kn]) (by simp only [taX, x_lo_kn]) (by simp only [taX, x_hi_kn]) (by simp only [taX, x_ld_kn]) (by simp only [taX, x_bn_kn]) (by simp only [taX, x_th_kn]) (by simp only [taX, x_pl_kn]) (by simp only [taX, x_ki_kn]) ?_ (by simp only [taX, x_wt_kn]) (by simp only [taX, x_ab_kn]) (by simp only [taX, x_pu_kn]) (by simp only [taX, x_fa_kn]) (by simp only [taX, x_sg_kn]) (by simp only [taX, x_sb_kn]) (by simp only [taX, x_sv_kn])
  rw [x_kn_kn, show x_kn (taX X f g (n + 1)) = _ from x_kn_kn _ _, show x_kn (taX X f g n) = _ from x_kn_kn _ _]
  funext q k
  simp only [updF]
  by_cases c : q = n
  · subst c; simp [h]
  · by_cases d : q < n
    · simp [c, d, Nat.lt_succ_of_lt d]
    · simp [c, d, show ¬ q < n + 1 by omega]
theorem ta_f {X : XT} {f g : Nat → Bool} {n : Nat} (h : f n = false) : taX X f g n = taX X f g (n + 1) := by
  refine x_ext (by simp only [taX, x_sz_kn]) (by simp only [taX, x_br_kn]) (by simp only [taX, x_lo_kn]) (by simp only [taX, x_hi_kn]) (by simp only [taX, x_ld_kn]) (by simp only [taX, x_bn_kn]) (by simp only [taX, x_th_kn]) (by simp only [taX, x_pl_kn]) (by simp only [taX, x_ki_kn]) ?_ (by simp only [taX, x_wt_kn]) (by simp only [taX, x_ab_kn]) (by simp only [taX, x_pu_kn]) (by simp only [taX, x_fa_kn]) (by simp only [taX, x_sg_kn]) (by simp only [taX, x_sb_kn]) (by simp only [taX, x_sv_kn])
  rw [show x_kn (taX X f g (n + 1)) = _ from x_kn_kn _ _, show x_kn (taX X f g n) = _ from x_kn_kn _ _]
  funext q k
  by_cases c : q = n
  · subst c; simp [h]
  · by_cases d : q < n
    · simp [d, Nat.lt_succ_of_lt d]
    · simp [d, show ¬ q < n + 1 by omega]
set_option maxHeartbeats 4000000 in
set_option maxRecDepth 20000 in
theorem lp_X3_tellAll {l : Launch} {D : gE} {L : Nat → Nat} {σ : St} {Q : Option Value → va_W → Prop} {d : Nat} {b : Nat} (hb0 : tn σ b) {X : XT} {f g : Nat → Bool} (h : ∀ σ', ft b σ σ' → rzT σ' b (taX X f g 6) → Q none (wsOf D L σ')) : ∀ n_ p, p + n_ = 6 → ∀ σ', ft b σ σ' → rzT σ' b (taX X f g p) → G l D yX3_tellAll cX3_tellAll 4 none (rr (d + 1)) Q 0 0 2 [(3, .int (nI p)), (0, .ref (L b)), (1, .int (nI (bitsN f 6))), (2, .int (nI (bitsN g 8)))] [] (wsOf D L σ') := by
  intro n_
  induction n_ with
  | zero =>
    intro p hct σ' hft hX
    obtain rfl : p = 6 := by omega
    refine g_iload_n dX3_tellAll_2 rfl 0 rfl ?_
    refine g_bipush dX3_tellAll_3 bp_6 ?_
    refine n_icmpge 32 dX3_tellAll_5 (by decide) (by omega) (by omega) (fun h5 => ?_) (fun h5 => absurd h5 (by omega))
    exact g_return dX3_tellAll_32 (Nat.le_refl _) (Nat.le_refl _) (h _ hft hX)
  | succ n_ ih =>
    intro p hct σ' hft hX
    have hb := ft_tn hft hb0
    refine g_iload_n dX3_tellAll_2 rfl 0 rfl ?_
    refine g_bipush dX3_tellAll_3 bp_6 ?_
    refine n_icmpge 32 dX3_tellAll_5 (by decide) (by omega) (by omega) (fun h5 => absurd h5 (by omega)) (fun h5 => ?_)
    refine g_iload_n dX3_tellAll_8 rfl 2 rfl ?_
    refine g_iload_n dX3_tellAll_9 rfl 0 rfl ?_
    refine g_callN2 (C := RX3) (As := [.int (nI (bitsN f 6)), .int (nI p)]) rfl kn_X3_84 ky_X4_has ks_X4_has (by decide) rfl (Nat.le_of_ble_eq_true rfl) dX3_tellAll_10 rfl (c_X4_has (n := 6) (by decide) (by omega) (fun h10 => ?_) (fun h10 => ?_))
    · refine t_ifeq1 (tgt := 26) dX3_tellAll_13 (by decide) ?_
      refine g_aload_n dX3_tellAll_16 rfl 1 rfl ?_
      refine s_getT (b := b) hb kf_X3_30 (by decide) rfl dX3_tellAll_17 ?_
      refine g_iload_n dX3_tellAll_20 rfl 0 rfl ?_
      refine g_dup2 dX3_tellAll_21 rfl rfl ?_
      refine s_ald (q := (b + 7)) (n := 6) (at_ta hb 7 (by decide) (by decide)) (by omega) (by decide) dX3_tellAll_22 ?_
      refine g_tope (z := nI (bitsN (x_kn X p) 8)) ((rzT_kn hX (by omega)).trans (by rw [ta_at])) ?_
      refine g_iload_n dX3_tellAll_23 rfl 3 rfl ?_
      refine g_ior dX3_tellAll_24 ?_
      refine g_tope (z := nI (bitsN (fun i => x_kn X p i || g i) 8)) (or_bitsN) ?_
      refine s_ast (q := (b + 7)) (n := 6) (at_ta hb 7 (by decide) (by decide)) (by omega) (by decide) dX3_tellAll_25 ?_
      have hX : rzT (setA σ' (b + 7) (upd (sA σ' (b + 7)) p (nI (bitsN (fun i => x_kn X p i || g i) 8)))) b _ := rz_skn hX p (fun i => x_kn X p i || g i)
      rw [ta_t h10] at hX
      have hft : ft b σ (setA σ' (b + 7) (upd (sA σ' (b + 7)) p (nI (bitsN (fun i => x_kn X p i || g i) 8)))) := ft_A hft 7 (by decide) _
      generalize setA σ' (b + 7) (upd (sA σ' (b + 7)) p (nI (bitsN (fun i => x_kn X p i || g i) 8))) = σq at hX hft ⊢
      refine g_iinc (v := nI (p + 1)) (lv' := [(3, .int (nI (p + 1))), (0, .ref (L b)), (1, .int (nI (bitsN f 6))), (2, .int (nI (bitsN g 8)))]) dX3_tellAll_26 0 rfl (inc_n _) (by decide) rfl ?_
      refine g_goto 2 dX3_tellAll_29 (by decide) ?_
      refine g_pick [0, 1, 2, 3] (lv' := [(3, .int (nI (p + 1))), (0, .ref (L b)), (1, .int (nI (bitsN f 6))), (2, .int (nI (bitsN g 8)))]) rfl ?_
      exact ih (p + 1) (by omega) _ hft hX
    · refine t_ifeq0 26 dX3_tellAll_13 (by decide) ?_
      refine g_iinc (v := nI (p + 1)) (lv' := [(3, .int (nI (p + 1))), (0, .ref (L b)), (1, .int (nI (bitsN f 6))), (2, .int (nI (bitsN g 8)))]) dX3_tellAll_26 0 rfl (inc_n _) (by decide) rfl ?_
      refine g_goto 2 dX3_tellAll_29 (by decide) ?_
      refine g_pick [0, 1, 2, 3] (lv' := [(3, .int (nI (p + 1))), (0, .ref (L b)), (1, .int (nI (bitsN f 6))), (2, .int (nI (bitsN g 8)))]) rfl ?_
      exact ih (p + 1) (by omega) _ hft (by rw [← ta_f h10]; exact hX)
set_option maxHeartbeats 4000000 in
set_option maxRecDepth 20000 in
theorem c_X3_tellAll {l : Launch} {D : gE} {L : Nat → Nat} {σ : St} {Q : Option Value → va_W → Prop} {d : Nat} {b : Nat} (hb : tn σ b) {X : XT} (hX : rzT σ b X) {f g : Nat → Bool} (h : ∀ σ', ft b σ σ' → rzT σ' b (taX X f g 6) → Q none (wsOf D L σ')) : Ctr l D yX3_tellAll cX3_tellAll 4 none (rr (d + 1)) [.ref (L b), .int (nI (bitsN f 6)), .int (nI (bitsN g 8))] (wsOf D L σ) Q := by
  refine g_start ky_X3_tellAll (Nat.le_of_ble_eq_true rfl) ?_
  refine g_pick [0, 1, 2] (lv' := [(0, .ref (L b)), (1, .int (nI (bitsN f 6))), (2, .int (nI (bitsN g 8)))]) rfl ?_
  refine g_iconst dX3_tellAll_0 ci_0 ?_
  refine g_istore_n (lv' := [(3, .int (nI 0)), (0, .ref (L b)), (1, .int (nI (bitsN f 6))), (2, .int (nI (bitsN g 8)))]) dX3_tellAll_1 rfl (by decide) rfl ?_
  refine g_pick [0, 1, 2, 3] (lv' := [(3, .int (nI 0)), (0, .ref (L b)), (1, .int (nI (bitsN f 6))), (2, .int (nI (bitsN g 8)))]) rfl ?_
  exact lp_X3_tellAll hb h 6 0 rfl _ ft_rfl (by rw [ta_0]; exact hX)
theorem rzT_cong {σ : St} {b : Nat} {X Y : XT} (h : rzT σ b X) (e0 : x_sz Y = x_sz X) (e1 : x_br Y = x_br X) (e2 : x_th Y = x_th X) (e3 : x_pu Y = x_pu X) (e4 : x_fa Y = x_fa X) (e5 : x_sg Y = x_sg X) (e6 : ∀ i, i < 8 → x_lo Y i = x_lo X i ∧ x_hi Y i = x_hi X i ∧ x_ld Y i = x_ld X i ∧ x_bn Y i = x_bn X i ∧ x_wt Y i = x_wt X i ∧ x_ab Y i = x_ab X i) (e7 : ∀ i, i < 6 → x_pl Y i = x_pl X i ∧ x_ki Y i = x_ki X i ∧ x_sb Y i = x_sb X i ∧ x_sv Y i = x_sv X i) (e8 : ∀ i, i < 6 → ∀ k, k < 8 → x_kn Y i k = x_kn X i k) : rzT σ b Y := by
  obtain ⟨⟨h0, h1, h2, h3, h4, h5, a1, a2, a3, a4, a5, a6, a7, a8, a9, a10, a11⟩, kk⟩ := h
  have ek : ∀ i, i < 6 → nI (bitsN (x_kn Y i) 8) = nI (bitsN (x_kn X i) 8) := fun i hi => by rw [bitsN_cong (e8 i hi)]
  refine ⟨⟨by rw [e0]; exact h0, by rw [e1]; exact h1, by rw [e2]; exact h2, by rw [e3]; exact h3, by rw [e4]; exact h4, by rw [e5]; exact h5, ?_, ?_, ?_, ?_, ?_, ?_, ?_, ?_, ?_, ?_, ?_⟩, ?_⟩
  · intro i hi; rw [(e6 i hi).1]; exact a1 i hi
  · intro i hi; rw [(e6 i hi).2.1]; exact a2 i hi
  · intro i hi; rw [(e6 i hi).2.2.1]; exact a3 i hi
  · intro i hi; rw [(e6 i hi).2.2.2.1]; exact a4 i hi
  · intro i hi; rw [(e7 i hi).1]; exact a5 i hi
  · intro i hi; rw [(e7 i hi).2.1]; exact a6 i hi
  · intro i hi _; rw [ek i hi]; exact kk i hi
  · intro i hi; rw [(e6 i hi).2.2.2.2.1]; exact a8 i hi
  · intro i hi; rw [(e6 i hi).2.2.2.2.2]; exact a9 i hi
  · intro i hi; rw [(e7 i hi).2.2.1]; exact a10 i hi
  · intro i hi; rw [(e7 i hi).2.2.2]; exact a11 i hi
  · intro i hi; rw [ek i hi]; exact kk i hi
theorem ar_is {X : XT} {p g : Nat} {σ : St} {b : Nat} (h : rzT σ b (taX (xs_pl X (updN (x_pl X) p g)) (fun q => x_th X q && decide (updN (x_pl X) p g q = g)) (x_kn X p) 6)) : rzT σ b (arX X p g) := by
  refine rzT_cong h (by simp only [taX, arX, x_sz_kn, x_sz_pl]) (by simp only [taX, arX, x_br_kn, x_br_pl]) (by simp only [taX, arX, x_th_kn, x_th_pl]) (by simp only [taX, arX, x_pu_kn, x_pu_pl]) (by simp only [taX, arX, x_fa_kn, x_fa_pl]) (by simp only [taX, arX, x_sg_kn, x_sg_pl]) (fun i hi => by simp only [taX, arX, x_lo_kn, x_lo_pl, x_hi_kn, x_hi_pl, x_ld_kn, x_ld_pl, x_bn_kn, x_bn_pl, x_wt_kn, x_wt_pl, x_ab_kn, x_ab_pl, and_self]) (fun i hi => by simp only [taX, arX, x_pl_kn, x_pl_pl, x_ki_kn, x_ki_pl, x_sb_kn, x_sb_pl, x_sv_kn, x_sv_pl, and_self]) (fun i hi k hk => ?_)
  simp only [taX, arX, x_kn_kn, x_kn_pl]
  by_cases c : (x_th X i && decide (updN (x_pl X) p g i = g)) = true
  · rw [if_pos ⟨hi, c⟩, c, Bool.true_and]
  · rw [if_neg (fun q => c q.2), (Bool.not_eq_true _).mp c, Bool.false_and, Bool.or_false]
set_option maxHeartbeats 4000000 in
set_option maxRecDepth 20000 in
theorem c_X3_arrive {l : Launch} {D : gE} {L : Nat → Nat} {σ : St} {Q : Option Value → va_W → Prop} {d : Nat} {b : Nat} (hb : tn σ b) {X : XT} (hX : rzT σ b X) (ho : okX X) {p g : Nat} (hp : p < 6) (hg : g < x_sz X) (h : ∀ σ', ft b σ σ' → rzT σ' b (arX X p g) → Q none (wsOf D L σ')) : Ctr l D yX3_arrive cX3_arrive 3 none (rr (d + 4)) [.ref (L b), .int (nI p), .int (nI g)] (wsOf D L σ) Q := by
  refine g_start ky_X3_arrive (Nat.le_of_ble_eq_true rfl) ?_
  refine g_pick [0, 1, 2] (lv' := [(0, .ref (L b)), (1, .int (nI p)), (2, .int (nI g))]) rfl ?_
  have hb0 := hb
  have hft : ft b σ σ := ft_rfl
  have hsz := ok_sz ho
  refine g_aload_n dX3_arrive_0 rfl 0 rfl ?_
  refine s_getT (b := b) hb kf_X3_24 (by decide) rfl dX3_arrive_1 ?_
  refine g_iload_n dX3_arrive_4 rfl 1 rfl ?_
  refine g_iload_n dX3_arrive_5 rfl 2 rfl ?_
  refine s_ast (q := (b + 5)) (n := 6) (at_ta hb 5 (by decide) (by decide)) (by omega) (by decide) dX3_arrive_6 ?_
  have hX : rzT (setA σ (b + 5) (upd (sA σ (b + 5)) p (nI g))) b (xs_pl X (updN (x_pl X) p g)) := rz_spl hX p g
  have hft : ft b σ (setA σ (b + 5) (upd (sA σ (b + 5)) p (nI g))) := ft_A hft 5 (by decide) _
  generalize setA σ (b + 5) (upd (sA σ (b + 5)) p (nI g)) = σw112 at hX hft ⊢
  have hb := ft_tn hft hb0
  refine g_aload_n dX3_arrive_7 rfl 0 rfl ?_
  refine g_aload_n dX3_arrive_8 rfl 0 rfl ?_
  refine g_iload_n dX3_arrive_9 rfl 2 rfl ?_
  refine g_iconst dX3_arrive_10 ci_0 ?_
  refine g_callV (As := [.int (nI g), .int (nI 0)]) km_X3_138 ky_X3_neighbours ki_X3_neighbours (by decide) b (at_tn hb) rfl rfl (Nat.le_of_ble_eq_true rfl) dX3_arrive_11 rfl (c_X3_neighbours0 hb hX (ok_plu ho hg) (by omega) ?_)
  refine g_tope (z := nI (bitsN (fun q => x_th X q && decide (updN (x_pl X) p g q = g)) 6)) (bcg (fun q _ => by simp only [x_th_pl, x_pl_pl])) ?_
  refine g_aload_n dX3_arrive_14 rfl 0 rfl ?_
  refine s_getT (b := b) hb kf_X3_30 (by decide) rfl dX3_arrive_15 ?_
  refine g_iload_n dX3_arrive_18 rfl 1 rfl ?_
  refine s_ald (q := (b + 7)) (n := 6) (at_ta hb 7 (by decide) (by decide)) (by omega) (by decide) dX3_arrive_19 ?_
  refine g_tope (z := nI (bitsN ((x_kn X) p) 8)) ((rzT_kn hX (by omega)).trans (by simp only [x_kn_pl])) ?_
  refine g_callV (As := [.int (nI (bitsN (fun q => x_th X q && decide (updN (x_pl X) p g q = g)) 6)), .int (nI (bitsN ((x_kn X) p) 8))]) km_X3_141 ky_X3_tellAll ki_X3_tellAll (by decide) b (at_tn hb) rfl rfl (Nat.le_of_ble_eq_true rfl) dX3_arrive_20 rfl (c_X3_tellAll hb hX (fun σ2 hf2 hX2 => ?_))
  exact g_return dX3_arrive_23 (Nat.le_refl _) (Nat.le_refl _) (h _ (ft_trans hft hf2) (ar_is hX2))
