/-! THE CALLS of the class. What they change: Towns 0 and 12, the Day, the Orders' rows -/
def fc (σ σ' : St) : Prop := (∀ q, 24 ≤ q → q < 30 ∨ 32 < q → sA σ' q = sA σ q) ∧ (∀ o, 24 ≤ o → o ≠ 28 → sI σ' o = sI σ o) ∧ sK σ' = sK σ ∧ sM σ' = sM σ
theorem fc_rfl {σ : St} : fc σ σ := ⟨fun _ _ _ => rfl, fun _ _ _ => rfl, rfl, rfl⟩
theorem fc_trans {a b c : St} (h : fc a b) (g : fc b c) : fc a c := ⟨fun q h1 h2 => (g.1 q h1 h2).trans (h.1 q h1 h2), fun o h1 h2 => (g.2.1 o h1 h2).trans (h.2.1 o h1 h2), g.2.2.1.trans h.2.2.1, g.2.2.2.trans h.2.2.2⟩
theorem fc_ft {b : Nat} {σ σ' : St} (h : ft b σ σ') (hb : b ≤ 12) : fc σ σ' := ⟨fun q h1 h2 => h.1 q (by omega), fun o h1 h2 => h.2.1 o (by omega), h.2.2.1, h.2.2.2⟩
theorem fc_fD {σ σ' : St} (h : fD σ σ') : fc σ σ' := ⟨fun q h1 h2 => h.1 q (by omega), fun o h1 h2 => h.2.1 o (by omega) h2, h.2.2.1, h.2.2.2⟩
theorem qoC {O : RX} {r : Int32} {X' : XT} {Q : Option Value → va_W → Prop} {D : gE} {L : Nat → Nat} {σ σ' : St} (e : O = (r, X')) (h : ∀ σ', fc σ σ' → rzT σ' 0 O.2 → Q (some (.int O.1)) (wsOf D L σ')) (hp : fc σ σ') (hX : rzT σ' 0 X') : Q (some (.int r)) (wsOf D L σ') := by
  subst e; exact h σ' hp hX
set_option maxHeartbeats 4000000 in
set_option maxRecDepth 20000 in
theorem c_X4_terraces {l : Launch} {D : gE} {L : Nat → Nat} {σ : St} {Q : Option Value → va_W → Prop} {d : Nat} {X : XT} (hX : rzT σ 0 X) (ho : okX X) {x : Int32} (h : ∀ σ', fc σ σ' → rzT σ' 0 (terracesO X x).2 → Q (some (.int (terracesO X x).1)) (wsOf D L σ')) : Ctr l D yX4_terraces cX4_terraces 3 (some .int) (rr (d + 2)) [.ref (L 24), .int x] (wsOf D L σ) Q := by
  refine g_start ky_X4_terraces (Nat.le_of_ble_eq_true rfl) ?_
  refine g_pick [0, 1] (lv' := [(0, .ref (L 24)), (1, .int x)]) rfl ?_
  have hft : ft 0 σ σ := ft_rfl
  refine g_iload_n dX4_terraces_0 rfl 1 rfl ?_
  refine g_iconst dX4_terraces_1 ci_2 ?_
  refine g_bipush dX4_terraces_2 bp_6 ?_
  refine g_callS (As := [.int x, .int (nI 2), .int (nI 6)]) km_X4_44 ky_X4_within ks_X4_within (by decide) rfl (Nat.le_of_ble_eq_true rfl) dX4_terraces_4 rfl (c_X4_withinN (by omega) (by omega) (fun p4 ha4 hb4 he4 => ?_) (fun h4 => ?_))
  · subst he4
    refine t_ifne1 13 dX4_terraces_7 (by decide) ?_
    refine g_aload_n dX4_terraces_13 rfl 0 rfl ?_
    refine g_get kf_X4_10 kC_X4 (by decide) 24 at_24 rfl dX4_terraces_14 ?_
    refine s_getT (b := 0) (Or.inl rfl) kf_X4_48 (by decide) rfl dX4_terraces_17 ?_
    refine g_tope (z := nI (x_sz X)) (rpT_sz hX.1) ?_
    refine g_istore_n (lv' := [(2, .int (nI (x_sz X))), (0, .ref (L 24)), (1, .int (nI p4))]) dX4_terraces_20 rfl (by decide) rfl ?_
    refine g_aload_n dX4_terraces_21 rfl 1 rfl ?_
    refine g_get kf_X4_10 kC_X4 (by decide) 24 at_24 rfl dX4_terraces_22 ?_
    refine g_iload_n dX4_terraces_25 rfl 2 rfl ?_
    refine g_callV (As := [.int (nI p4)]) km_X4_52 ky_X3_settle ki_X3_settle (by decide) 0 (at_tn (Or.inl rfl)) rfl rfl (Nat.le_of_ble_eq_true rfl) dX4_terraces_26 rfl (c_X3_settle (Or.inl rfl) hX (fun σ2 hf2 hX2 => ?_))
    refine g_iload_n dX4_terraces_29 rfl 0 rfl ?_
    exact g_ireturn dX4_terraces_30 (Nat.le_refl _) (Nat.le_refl _) (qoC (by unfold terracesO; rw [inN_t (a := 2) (b := 6) (by omega) (by omega) (by omega), ix_nI (by omega) (by decide)]; rfl) h (fc_ft hf2 (by decide)) hX2)
  · refine t_ifne0 (tgt := 13) dX4_terraces_7 (by decide) ?_
    refine g_bipush dX4_terraces_10 bp_m2 ?_
    exact g_ireturn dX4_terraces_12 (Nat.le_refl _) (Nat.le_refl _) (qoC (by unfold terracesO; rw [inN_f (a := 2) (b := 6) (by omega) h4]; rfl) h fc_rfl hX)
set_option maxHeartbeats 4000000 in
set_option maxRecDepth 20000 in
theorem c_X4_bridge {l : Launch} {D : gE} {L : Nat → Nat} {σ : St} {Q : Option Value → va_W → Prop} {d : Nat} {X : XT} (hX : rzT σ 0 X) (ho : okX X) {w x y v : Int32} (h : ∀ σ', fc σ σ' → rzT σ' 0 (bridgeO X w x y v).2 → Q (some (.int (bridgeO X w x y v).1)) (wsOf D L σ')) : Ctr l D yX4_bridge cX4_bridge 5 (some .int) (rr (d + 2)) [.ref (L 24), .int w, .int x, .int y, .int v] (wsOf D L σ) Q := by
  refine g_start ky_X4_bridge (Nat.le_of_ble_eq_true rfl) ?_
  refine g_pick [0, 1, 2, 3, 4] (lv' := [(0, .ref (L 24)), (1, .int w), (2, .int x), (3, .int y), (4, .int v)]) rfl ?_
  have hft : ft 0 σ σ := ft_rfl
  have hsz := ok_sz ho
  refine g_iload_n dX4_bridge_0 rfl 1 rfl ?_
  refine g_iconst dX4_bridge_1 ci_0 ?_
  refine g_bipush dX4_bridge_2 bp_7 ?_
  refine g_callS (As := [.int w, .int (nI 0), .int (nI 7)]) km_X4_44 ky_X4_within ks_X4_within (by decide) rfl (Nat.le_of_ble_eq_true rfl) dX4_bridge_4 rfl (c_X4_withinN (by omega) (by omega) (fun p4 ha4 hb4 he4 => ?_) (fun h4 => ?_))
  · subst he4
    refine t_ifeq1 (tgt := 37) dX4_bridge_7 (by decide) ?_
    refine g_aload_n dX4_bridge_10 rfl 0 rfl ?_
    refine g_get kf_X4_10 kC_X4 (by decide) 24 at_24 rfl dX4_bridge_11 ?_
    refine g_iload_n dX4_bridge_14 rfl 2 rfl ?_
    refine g_callV (As := [.int x]) km_X4_56 ky_X3_hasTerrace ki_X3_hasTerrace (by decide) 0 (at_tn (Or.inl rfl)) rfl rfl (Nat.le_of_ble_eq_true rfl) dX4_bridge_15 rfl (c_X3_hasTerrace (Or.inl rfl) hX ho (fun t15 ht15 he15 => ?_) (fun h15 => ?_))
    · subst he15
      refine t_ifeq1 (tgt := 37) dX4_bridge_18 (by decide) ?_
      refine g_aload_n dX4_bridge_21 rfl 0 rfl ?_
      refine g_get kf_X4_10 kC_X4 (by decide) 24 at_24 rfl dX4_bridge_22 ?_
      refine g_iload_n dX4_bridge_25 rfl 3 rfl ?_
      refine g_callV (As := [.int y]) km_X4_56 ky_X3_hasTerrace ki_X3_hasTerrace (by decide) 0 (at_tn (Or.inl rfl)) rfl rfl (Nat.le_of_ble_eq_true rfl) dX4_bridge_26 rfl (c_X3_hasTerrace (Or.inl rfl) hX ho (fun t26 ht26 he26 => ?_) (fun h26 => ?_))
      · subst he26
        refine t_ifeq1 (tgt := 37) dX4_bridge_29 (by decide) ?_
        refine g_iload_n dX4_bridge_32 rfl 2 rfl ?_
        refine g_iload_n dX4_bridge_33 rfl 3 rfl ?_
        refine n_icmpne 39 dX4_bridge_34 (by decide) (by omega) (by omega) (fun h34 => ?_) (fun h34 => ?_)
        · refine g_iload dX4_bridge_39 4 rfl ?_
          refine g_iconst dX4_bridge_41 ci_0 ?_
          refine g_bipush dX4_bridge_42 bp_99 ?_
          refine g_callS (As := [.int v, .int (nI 0), .int (nI 99)]) km_X4_44 ky_X4_within ks_X4_within (by decide) rfl (Nat.le_of_ble_eq_true rfl) dX4_bridge_44 rfl (c_X4_withinN (by omega) (by omega) (fun p44 ha44 hb44 he44 => ?_) (fun h44 => ?_))
          · subst he44
            refine t_ifne1 53 dX4_bridge_47 (by decide) ?_
            refine g_aload_n dX4_bridge_53 rfl 0 rfl ?_
            refine g_get kf_X4_10 kC_X4 (by decide) 24 at_24 rfl dX4_bridge_54 ?_
            refine g_dup dX4_bridge_57 rfl ?_
            refine s_getT (b := 0) (Or.inl rfl) kf_X4_60 (by decide) rfl dX4_bridge_58 ?_
            refine g_tope (z := nI (bitsN (x_br X) 8)) (rpT_br hX.1) ?_
            refine g_iconst dX4_bridge_61 ci_1 ?_
            refine g_iload_n dX4_bridge_62 rfl 1 rfl ?_
            refine g_ishl dX4_bridge_63 ?_
            refine g_ior dX4_bridge_64 ?_
            refine g_tope (z := nI (bitsN (fun i => (x_br X) i || i == p4) 8)) (obB _ (by decide) (by omega)) ?_
            refine s_putT (b := 0) (Or.inl rfl) kf_X4_60 (by decide) dX4_bridge_65 ?_
            have hX : rzT (setI σ 0 1 (nI (bitsN (fun i => (x_br X) i || i == p4) 8))) 0 (xs_br X (fun i => (x_br X) i || i == p4)) := rz_sbr hX (fun i => (x_br X) i || i == p4)
            have hft : ft 0 σ (setI σ 0 1 (nI (bitsN (fun i => (x_br X) i || i == p4) 8))) := ft_I hft 1 _
            generalize setI σ 0 1 (nI (bitsN (fun i => (x_br X) i || i == p4) 8)) = σw157 at hX hft ⊢
            refine g_aload_n dX4_bridge_68 rfl 0 rfl ?_
            refine g_get kf_X4_10 kC_X4 (by decide) 24 at_24 rfl dX4_bridge_69 ?_
            refine s_getT (b := 0) (Or.inl rfl) kf_X4_63 (by decide) rfl dX4_bridge_72 ?_
            refine g_iload_n dX4_bridge_75 rfl 1 rfl ?_
            refine g_iload_n dX4_bridge_76 rfl 2 rfl ?_
            refine g_iload_n dX4_bridge_77 rfl 3 rfl ?_
            refine g_callS (As := [.int (nI t15), .int (nI t26)]) km_X4_67 ky_J9_min_7cf53 ks_J9_min_7cf53 (by decide) rfl (Nat.le_of_ble_eq_true rfl) dX4_bridge_78 rfl (c_minN (by omega) (by omega) ?_)
            refine g_tope (z := nI (if t15 < t26 then t15 else t26)) (by congr 1; split <;> split <;> omega) ?_
            refine s_ast (q := 1) (n := 8) (at_ia (q := 1) rfl) (by omega) (by decide) dX4_bridge_81 ?_
            have hX : rzT (setA σw157 1 (upd (sA σw157 1) p4 (nI (if t15 < t26 then t15 else t26)))) 0 (xs_lo (xs_br X (fun i => (x_br X) i || i == p4)) (updN (x_lo (xs_br X (fun i => (x_br X) i || i == p4))) p4 (if t15 < t26 then t15 else t26))) := rz_slo hX p4 (if t15 < t26 then t15 else t26)
            simp only [x_lo_br] at hX
            have hft : ft 0 σ (setA σw157 1 (upd (sA σw157 1) p4 (nI (if t15 < t26 then t15 else t26)))) := ft_A hft 1 (by decide) _
            generalize setA σw157 1 (upd (sA σw157 1) p4 (nI (if t15 < t26 then t15 else t26))) = σw158 at hX hft ⊢
            refine g_aload_n dX4_bridge_82 rfl 0 rfl ?_
            refine g_get kf_X4_10 kC_X4 (by decide) 24 at_24 rfl dX4_bridge_83 ?_
            refine s_getT (b := 0) (Or.inl rfl) kf_X4_73 (by decide) rfl dX4_bridge_86 ?_
            refine g_iload_n dX4_bridge_89 rfl 1 rfl ?_
            refine g_iload_n dX4_bridge_90 rfl 2 rfl ?_
            refine g_iload_n dX4_bridge_91 rfl 3 rfl ?_
            refine g_callS (As := [.int (nI t15), .int (nI t26)]) km_X4_76 ky_J9_max_7cf53 ks_J9_max_7cf53 (by decide) rfl (Nat.le_of_ble_eq_true rfl) dX4_bridge_92 rfl (c_maxN (by omega) (by omega) ?_)
            refine s_ast (q := 2) (n := 8) (at_ia (q := 2) rfl) (by omega) (by decide) dX4_bridge_95 ?_
            have hX : rzT (setA σw158 2 (upd (sA σw158 2) p4 (nI (if t15 < t26 then t26 else t15)))) 0 (xs_hi (xs_lo (xs_br X (fun i => (x_br X) i || i == p4)) (updN (x_lo X) p4 (if t15 < t26 then t15 else t26))) (updN (x_hi (xs_lo (xs_br X (fun i => (x_br X) i || i == p4)) (updN (x_lo X) p4 (if t15 < t26 then t15 else t26)))) p4 (if t15 < t26 then t26 else t15))) := rz_shi hX p4 (if t15 < t26 then t26 else t15)
            simp only [x_hi_br, x_hi_lo] at hX
            have hft : ft 0 σ (setA σw158 2 (upd (sA σw158 2) p4 (nI (if t15 < t26 then t26 else t15)))) := ft_A hft 2 (by decide) _
            generalize setA σw158 2 (upd (sA σw158 2) p4 (nI (if t15 < t26 then t26 else t15))) = σw159 at hX hft ⊢
            refine g_aload_n dX4_bridge_96 rfl 0 rfl ?_
            refine g_get kf_X4_10 kC_X4 (by decide) 24 at_24 rfl dX4_bridge_97 ?_
            refine s_getT (b := 0) (Or.inl rfl) kf_X4_79 (by decide) rfl dX4_bridge_100 ?_
            refine g_iload_n dX4_bridge_103 rfl 1 rfl ?_
            refine g_iload dX4_bridge_104 4 rfl ?_
            refine s_ast (q := 3) (n := 8) (at_ia (q := 3) rfl) (by omega) (by decide) dX4_bridge_106 ?_
            have hX : rzT (setA σw159 3 (upd (sA σw159 3) p4 (nI p44))) 0 (xs_ld (xs_hi (xs_lo (xs_br X (fun i => (x_br X) i || i == p4)) (updN (x_lo X) p4 (if t15 < t26 then t15 else t26))) (updN (x_hi X) p4 (if t15 < t26 then t26 else t15))) (updN (x_ld (xs_hi (xs_lo (xs_br X (fun i => (x_br X) i || i == p4)) (updN (x_lo X) p4 (if t15 < t26 then t15 else t26))) (updN (x_hi X) p4 (if t15 < t26 then t26 else t15)))) p4 p44)) := rz_sld hX p4 p44
            simp only [x_ld_br, x_ld_hi, x_ld_lo] at hX
            have hft : ft 0 σ (setA σw159 3 (upd (sA σw159 3) p4 (nI p44))) := ft_A hft 3 (by decide) _
            generalize setA σw159 3 (upd (sA σw159 3) p4 (nI p44)) = σw160 at hX hft ⊢
            refine g_aload_n dX4_bridge_107 rfl 0 rfl ?_
            refine g_get kf_X4_10 kC_X4 (by decide) 24 at_24 rfl dX4_bridge_108 ?_
            refine s_getT (b := 0) (Or.inl rfl) kf_X4_82 (by decide) rfl dX4_bridge_111 ?_
            refine g_iload_n dX4_bridge_114 rfl 1 rfl ?_
            refine g_iconst dX4_bridge_115 ci_0 ?_
            refine s_ast (q := 4) (n := 8) (at_ia (q := 4) rfl) (by omega) (by decide) dX4_bridge_116 ?_
            have hX : rzT (setA σw160 4 (upd (sA σw160 4) p4 (nI 0))) 0 (xs_bn (xs_ld (xs_hi (xs_lo (xs_br X (fun i => (x_br X) i || i == p4)) (updN (x_lo X) p4 (if t15 < t26 then t15 else t26))) (updN (x_hi X) p4 (if t15 < t26 then t26 else t15))) (updN (x_ld X) p4 p44)) (updN (x_bn (xs_ld (xs_hi (xs_lo (xs_br X (fun i => (x_br X) i || i == p4)) (updN (x_lo X) p4 (if t15 < t26 then t15 else t26))) (updN (x_hi X) p4 (if t15 < t26 then t26 else t15))) (updN (x_ld X) p4 p44))) p4 0)) := rz_sbn hX p4 0
            simp only [x_bn_br, x_bn_hi, x_bn_ld, x_bn_lo] at hX
            have hft : ft 0 σ (setA σw160 4 (upd (sA σw160 4) p4 (nI 0))) := ft_A hft 4 (by decide) _
            generalize setA σw160 4 (upd (sA σw160 4) p4 (nI 0)) = σw161 at hX hft ⊢
            refine g_aload_n dX4_bridge_117 rfl 0 rfl ?_
            refine g_get kf_X4_10 kC_X4 (by decide) 24 at_24 rfl dX4_bridge_118 ?_
            refine s_getT (b := 0) (Or.inl rfl) kf_X4_60 (by decide) rfl dX4_bridge_121 ?_
            refine g_tope (z := nI (bitsN (fun i => (x_br X) i || i == p4) 8)) ((rpT_br hX.1).trans (by simp only [x_br_bn, x_br_br, x_br_hi, x_br_ld, x_br_lo])) ?_
            refine g_callS (As := [.int (nI (bitsN (fun i => (x_br X) i || i == p4) 8))]) km_X4_85 ky_J6_bitCount_0f7a4 ks_J6_bitCount_0f7a4 (by decide) rfl (Nat.le_of_ble_eq_true rfl) dX4_bridge_124 rfl (c_bitCount (a := bitsN (fun i => (x_br X) i || i == p4) 8) (Nat.lt_of_lt_of_le (bitsN_lt _ _) (by decide)) ?_)
            exact g_ireturn dX4_bridge_127 (Nat.le_refl _) (Nat.le_refl _) (qoC (by unfold bridgeO; rw [inN_t (a := 0) (b := 7) (by omega) (by omega) (by omega), teI_t ho ht15, teI_t ho ht26, decide_eq_false (fun e => h34 ((nI_eq (by omega) (by omega)).mp e)), if_pos (by rfl), inN_t (a := 0) (b := 99) (by omega) (by omega) (by omega), if_pos rfl, ix8 (by omega), ixt ho ht15, ixt ho ht26, ix_nI (n := 100) (by omega) (by decide)]) h (fc_ft hft (by decide)) (rz_cong hX (x_ext (by simp only [tX_br, x_sz_br, x_sz_lo, x_sz_hi, x_sz_ld, x_sz_bn]) (by simp only [tX_br, x_br_br, x_br_lo, x_br_hi, x_br_ld, x_br_bn]) (by simp only [tX_br, x_lo_br, x_lo_lo, x_lo_hi, x_lo_ld, x_lo_bn]) (by simp only [tX_br, x_hi_br, x_hi_lo, x_hi_hi, x_hi_ld, x_hi_bn]) (by simp only [tX_br, x_ld_br, x_ld_lo, x_ld_hi, x_ld_ld, x_ld_bn]) (by simp only [tX_br, x_bn_br, x_bn_lo, x_bn_hi, x_bn_ld, x_bn_bn]) (by simp only [tX_br, x_th_br, x_th_lo, x_th_hi, x_th_ld, x_th_bn]) (by simp only [tX_br, x_pl_br, x_pl_lo, x_pl_hi, x_pl_ld, x_pl_bn]) (by simp only [tX_br, x_ki_br, x_ki_lo, x_ki_hi, x_ki_ld, x_ki_bn]) (by simp only [tX_br, x_kn_br, x_kn_lo, x_kn_hi, x_kn_ld, x_kn_bn]) (by simp only [tX_br, x_wt_br, x_wt_lo, x_wt_hi, x_wt_ld, x_wt_bn]) (by simp only [tX_br, x_ab_br, x_ab_lo, x_ab_hi, x_ab_ld, x_ab_bn]) (by simp only [tX_br, x_pu_br, x_pu_lo, x_pu_hi, x_pu_ld, x_pu_bn]) (by simp only [tX_br, x_fa_br, x_fa_lo, x_fa_hi, x_fa_ld, x_fa_bn]) (by simp only [tX_br, x_sg_br, x_sg_lo, x_sg_hi, x_sg_ld, x_sg_bn]) (by simp only [tX_br, x_sb_br, x_sb_lo, x_sb_hi, x_sb_ld, x_sb_bn]) (by simp only [tX_br, x_sv_br, x_sv_lo, x_sv_hi, x_sv_ld, x_sv_bn]))))
          · refine t_ifne0 (tgt := 53) dX4_bridge_47 (by decide) ?_
            refine g_bipush dX4_bridge_50 bp_m2 ?_
            exact g_ireturn dX4_bridge_52 (Nat.le_refl _) (Nat.le_refl _) (qoC (by unfold bridgeO; rw [inN_t (a := 0) (b := 7) (by omega) (by omega) (by omega), teI_t ho ht15, teI_t ho ht26, decide_eq_false (fun e => h34 ((nI_eq (by omega) (by omega)).mp e)), if_pos (by rfl), inN_f (a := 0) (b := 99) (by omega) h44, if_neg (by decide)]) h fc_rfl hX)
        · refine g_iconst dX4_bridge_37 ci_m1 ?_
          exact g_ireturn dX4_bridge_38 (Nat.le_refl _) (Nat.le_refl _) (qoC (by unfold bridgeO; rw [h34]; simp) h fc_rfl hX)
      · refine t_ifeq0 37 dX4_bridge_29 (by decide) ?_
        refine g_iconst dX4_bridge_37 ci_m1 ?_
        exact g_ireturn dX4_bridge_38 (Nat.le_refl _) (Nat.le_refl _) (qoC (by unfold bridgeO; rw [teI_f h26, Bool.and_false]; rfl) h fc_rfl hX)
    · refine t_ifeq0 37 dX4_bridge_18 (by decide) ?_
      refine g_iconst dX4_bridge_37 ci_m1 ?_
      exact g_ireturn dX4_bridge_38 (Nat.le_refl _) (Nat.le_refl _) (qoC (by unfold bridgeO; rw [teI_f h15, Bool.and_false]; rfl) h fc_rfl hX)
  · refine t_ifeq0 37 dX4_bridge_7 (by decide) ?_
    refine g_iconst dX4_bridge_37 ci_m1 ?_
    exact g_ireturn dX4_bridge_38 (Nat.le_refl _) (Nat.le_refl _) (qoC (by unfold bridgeO; rw [inN_f (a := 0) (b := 7) (by omega) h4]; rfl) h fc_rfl hX)
set_option maxHeartbeats 4000000 in
set_option maxRecDepth 20000 in
theorem c_X4_fall {l : Launch} {D : gE} {L : Nat → Nat} {σ : St} {Q : Option Value → va_W → Prop} {d : Nat} {X : XT} (hX : rzT σ 0 X) (ho : okX X) {x : Int32} (h : ∀ σ', fc σ σ' → rzT σ' 0 (fallO X x).2 → Q (some (.int (fallO X x).1)) (wsOf D L σ')) : Ctr l D yX4_fall cX4_fall 2 (some .int) (rr (d + 2)) [.ref (L 24), .int x] (wsOf D L σ) Q := by
  refine g_start ky_X4_fall (Nat.le_of_ble_eq_true rfl) ?_
  refine g_pick [0, 1] (lv' := [(0, .ref (L 24)), (1, .int x)]) rfl ?_
  have hft : ft 0 σ σ := ft_rfl
  refine g_aload_n dX4_fall_0 rfl 0 rfl ?_
  refine g_get kf_X4_10 kC_X4 (by decide) 24 at_24 rfl dX4_fall_1 ?_
  refine g_iload_n dX4_fall_4 rfl 1 rfl ?_
  refine g_callV (As := [.int x]) km_X4_91 ky_X3_hasBridge ki_X3_hasBridge (by decide) 0 (at_tn (Or.inl rfl)) rfl rfl (Nat.le_of_ble_eq_true rfl) dX4_fall_5 rfl (c_X3_hasBridge (Or.inl rfl) hX ho (fun p5 hp5 he5 h5 => ?_) (fun h5 => ?_))
  · subst he5
    refine t_ifne1 13 dX4_fall_8 (by decide) ?_
    refine g_aload_n dX4_fall_13 rfl 0 rfl ?_
    refine g_get kf_X4_10 kC_X4 (by decide) 24 at_24 rfl dX4_fall_14 ?_
    refine g_dup dX4_fall_17 rfl ?_
    refine s_getT (b := 0) (Or.inl rfl) kf_X4_60 (by decide) rfl dX4_fall_18 ?_
    refine g_tope (z := nI (bitsN (x_br X) 8)) (rpT_br hX.1) ?_
    refine g_iconst dX4_fall_21 ci_1 ?_
    refine g_iload_n dX4_fall_22 rfl 1 rfl ?_
    refine g_ishl dX4_fall_23 ?_
    refine g_iconst dX4_fall_24 ci_m1 ?_
    refine g_ixor dX4_fall_25 ?_
    refine g_iand dX4_fall_26 ?_
    refine g_tope (z := nI (bitsN (fun i => (x_br X) i && !(i == p5)) 8)) (nbB _ (by decide) (by omega)) ?_
    refine s_putT (b := 0) (Or.inl rfl) kf_X4_60 (by decide) dX4_fall_27 ?_
    have hX : rzT (setI σ 0 1 (nI (bitsN (fun i => (x_br X) i && !(i == p5)) 8))) 0 (xs_br X (fun i => (x_br X) i && !(i == p5))) := rz_sbr hX (fun i => (x_br X) i && !(i == p5))
    have hft : ft 0 σ (setI σ 0 1 (nI (bitsN (fun i => (x_br X) i && !(i == p5)) 8))) := ft_I hft 1 _
    generalize setI σ 0 1 (nI (bitsN (fun i => (x_br X) i && !(i == p5)) 8)) = σw162 at hX hft ⊢
    refine g_aload_n dX4_fall_30 rfl 0 rfl ?_
    refine g_get kf_X4_10 kC_X4 (by decide) 24 at_24 rfl dX4_fall_31 ?_
    refine s_getT (b := 0) (Or.inl rfl) kf_X4_60 (by decide) rfl dX4_fall_34 ?_
    refine g_tope (z := nI (bitsN (fun i => (x_br X) i && !(i == p5)) 8)) ((rpT_br hX.1).trans (by simp only [x_br_br])) ?_
    refine g_callS (As := [.int (nI (bitsN (fun i => (x_br X) i && !(i == p5)) 8))]) km_X4_85 ky_J6_bitCount_0f7a4 ks_J6_bitCount_0f7a4 (by decide) rfl (Nat.le_of_ble_eq_true rfl) dX4_fall_37 rfl (c_bitCount (a := bitsN (fun i => (x_br X) i && !(i == p5)) 8) (Nat.lt_of_lt_of_le (bitsN_lt _ _) (by decide)) ?_)
    exact g_ireturn dX4_fall_40 (Nat.le_refl _) (Nat.le_refl _) (qoC (by unfold fallO tX_fall; rw [brI_t hp5 h5, ix8 hp5]; rfl) h (fc_ft hft (by decide)) hX)
  · refine t_ifne0 (tgt := 13) dX4_fall_8 (by decide) ?_
    refine g_iconst dX4_fall_11 ci_m1 ?_
    exact g_ireturn dX4_fall_12 (Nat.le_refl _) (Nat.le_refl _) (qoC (by unfold fallO; rw [brI_f h5]; rfl) h fc_rfl hX)
set_option maxHeartbeats 4000000 in
set_option maxRecDepth 20000 in
theorem c_X4_person {l : Launch} {D : gE} {L : Nat → Nat} {σ : St} {Q : Option Value → va_W → Prop} {d : Nat} {X : XT} (hX : rzT σ 0 X) (ho : okX X) {x y z : Int32} (h : ∀ σ', fc σ σ' → rzT σ' 0 (personO X x y z).2 → Q (some (.int (personO X x y z).1)) (wsOf D L σ')) : Ctr l D yX4_person cX4_person 4 (some .int) (rr (d + 2)) [.ref (L 24), .int x, .int y, .int z] (wsOf D L σ) Q := by
  refine g_start ky_X4_person (Nat.le_of_ble_eq_true rfl) ?_
  refine g_pick [0, 1, 2, 3] (lv' := [(0, .ref (L 24)), (1, .int x), (2, .int y), (3, .int z)]) rfl ?_
  have hft : ft 0 σ σ := ft_rfl
  have hsz := ok_sz ho
  refine g_iload_n dX4_person_0 rfl 1 rfl ?_
  refine g_iconst dX4_person_1 ci_0 ?_
  refine g_iconst dX4_person_2 ci_5 ?_
  refine g_callS (As := [.int x, .int (nI 0), .int (nI 5)]) km_X4_44 ky_X4_within ks_X4_within (by decide) rfl (Nat.le_of_ble_eq_true rfl) dX4_person_3 rfl (c_X4_withinN (by omega) (by omega) (fun p3 ha3 hb3 he3 => ?_) (fun h3 => ?_))
  · subst he3
    refine t_ifeq1 (tgt := 20) dX4_person_6 (by decide) ?_
    refine g_aload_n dX4_person_9 rfl 0 rfl ?_
    refine g_get kf_X4_10 kC_X4 (by decide) 24 at_24 rfl dX4_person_10 ?_
    refine g_iload_n dX4_person_13 rfl 2 rfl ?_
    refine g_callV (As := [.int y]) km_X4_56 ky_X3_hasTerrace ki_X3_hasTerrace (by decide) 0 (at_tn (Or.inl rfl)) rfl rfl (Nat.le_of_ble_eq_true rfl) dX4_person_14 rfl (c_X3_hasTerrace (Or.inl rfl) hX ho (fun t14 ht14 he14 => ?_) (fun h14 => ?_))
    · subst he14
      refine t_ifne1 22 dX4_person_17 (by decide) ?_
      refine g_iload_n dX4_person_22 rfl 3 rfl ?_
      refine g_iconst dX4_person_23 ci_0 ?_
      refine g_iconst dX4_person_24 ci_2 ?_
      refine g_callS (As := [.int z, .int (nI 0), .int (nI 2)]) km_X4_44 ky_X4_within ks_X4_within (by decide) rfl (Nat.le_of_ble_eq_true rfl) dX4_person_25 rfl (c_X4_withinN (by omega) (by omega) (fun p25 ha25 hb25 he25 => ?_) (fun h25 => ?_))
      · subst he25
        refine t_ifne1 34 dX4_person_28 (by decide) ?_
        refine g_aload_n dX4_person_34 rfl 0 rfl ?_
        refine g_get kf_X4_10 kC_X4 (by decide) 24 at_24 rfl dX4_person_35 ?_
        refine g_dup dX4_person_38 rfl ?_
        refine s_getT (b := 0) (Or.inl rfl) kf_X4_94 (by decide) rfl dX4_person_39 ?_
        refine g_tope (z := nI (bitsN (x_th X) 6)) (rpT_th hX.1) ?_
        refine g_iconst dX4_person_42 ci_1 ?_
        refine g_iload_n dX4_person_43 rfl 1 rfl ?_
        refine g_ishl dX4_person_44 ?_
        refine g_ior dX4_person_45 ?_
        refine g_tope (z := nI (bitsN (fun i => (x_th X) i || i == p3) 6)) (obB _ (by decide) (by omega)) ?_
        refine s_putT (b := 0) (Or.inl rfl) kf_X4_94 (by decide) dX4_person_46 ?_
        have hX : rzT (setI σ 0 6 (nI (bitsN (fun i => (x_th X) i || i == p3) 6))) 0 (xs_th X (fun i => (x_th X) i || i == p3)) := rz_sth hX (fun i => (x_th X) i || i == p3)
        have hft : ft 0 σ (setI σ 0 6 (nI (bitsN (fun i => (x_th X) i || i == p3) 6))) := ft_I hft 6 _
        generalize setI σ 0 6 (nI (bitsN (fun i => (x_th X) i || i == p3) 6)) = σw163 at hX hft ⊢
        refine g_aload_n dX4_person_49 rfl 0 rfl ?_
        refine g_get kf_X4_10 kC_X4 (by decide) 24 at_24 rfl dX4_person_50 ?_
        refine s_getT (b := 0) (Or.inl rfl) kf_X4_97 (by decide) rfl dX4_person_53 ?_
        refine g_iload_n dX4_person_56 rfl 1 rfl ?_
        refine g_iload_n dX4_person_57 rfl 2 rfl ?_
        refine s_ast (q := 5) (n := 6) (at_ia (q := 5) rfl) (by omega) (by decide) dX4_person_58 ?_
        have hX : rzT (setA σw163 5 (upd (sA σw163 5) p3 (nI t14))) 0 (xs_pl (xs_th X (fun i => (x_th X) i || i == p3)) (updN (x_pl (xs_th X (fun i => (x_th X) i || i == p3))) p3 t14)) := rz_spl hX p3 t14
        simp only [x_pl_th] at hX
        have hft : ft 0 σ (setA σw163 5 (upd (sA σw163 5) p3 (nI t14))) := ft_A hft 5 (by decide) _
        generalize setA σw163 5 (upd (sA σw163 5) p3 (nI t14)) = σw164 at hX hft ⊢
        refine g_aload_n dX4_person_59 rfl 0 rfl ?_
        refine g_get kf_X4_10 kC_X4 (by decide) 24 at_24 rfl dX4_person_60 ?_
        refine s_getT (b := 0) (Or.inl rfl) kf_X4_100 (by decide) rfl dX4_person_63 ?_
        refine g_iload_n dX4_person_66 rfl 1 rfl ?_
        refine g_iload_n dX4_person_67 rfl 3 rfl ?_
        refine s_ast (q := 6) (n := 6) (at_ia (q := 6) rfl) (by omega) (by decide) dX4_person_68 ?_
        have hX : rzT (setA σw164 6 (upd (sA σw164 6) p3 (nI p25))) 0 (xs_ki (xs_pl (xs_th X (fun i => (x_th X) i || i == p3)) (updN (x_pl X) p3 t14)) (updN (x_ki (xs_pl (xs_th X (fun i => (x_th X) i || i == p3)) (updN (x_pl X) p3 t14))) p3 p25)) := rz_ski hX p3 p25
        simp only [x_ki_pl, x_ki_th] at hX
        have hft : ft 0 σ (setA σw164 6 (upd (sA σw164 6) p3 (nI p25))) := ft_A hft 6 (by decide) _
        generalize setA σw164 6 (upd (sA σw164 6) p3 (nI p25)) = σw165 at hX hft ⊢
        refine g_aload_n dX4_person_69 rfl 0 rfl ?_
        refine g_get kf_X4_10 kC_X4 (by decide) 24 at_24 rfl dX4_person_70 ?_
        refine s_getT (b := 0) (Or.inl rfl) kf_X4_103 (by decide) rfl dX4_person_73 ?_
        refine g_iload_n dX4_person_76 rfl 1 rfl ?_
        refine g_iconst dX4_person_77 ci_0 ?_
        refine s_ast (q := 7) (n := 6) (at_ia (q := 7) rfl) (by omega) (by decide) dX4_person_78 ?_
        have hX : rzT (setA σw165 7 (upd (sA σw165 7) p3 (nI 0))) 0 (xs_kn (xs_ki (xs_pl (xs_th X (fun i => (x_th X) i || i == p3)) (updN (x_pl X) p3 t14)) (updN (x_ki X) p3 p25)) (updF (x_kn (xs_ki (xs_pl (xs_th X (fun i => (x_th X) i || i == p3)) (updN (x_pl X) p3 t14)) (updN (x_ki X) p3 p25))) p3 (fun _ => false))) := rz_skn hX p3 (fun _ => false)
        simp only [x_kn_ki, x_kn_pl, x_kn_th] at hX
        have hft : ft 0 σ (setA σw165 7 (upd (sA σw165 7) p3 (nI 0))) := ft_A hft 7 (by decide) _
        generalize setA σw165 7 (upd (sA σw165 7) p3 (nI 0)) = σw166 at hX hft ⊢
        refine g_aload_n dX4_person_79 rfl 0 rfl ?_
        refine g_get kf_X4_10 kC_X4 (by decide) 24 at_24 rfl dX4_person_80 ?_
        refine s_getT (b := 0) (Or.inl rfl) kf_X4_94 (by decide) rfl dX4_person_83 ?_
        refine g_tope (z := nI (bitsN (fun i => (x_th X) i || i == p3) 6)) ((rpT_th hX.1).trans (by simp only [x_th_ki, x_th_kn, x_th_pl, x_th_th])) ?_
        refine g_callS (As := [.int (nI (bitsN (fun i => (x_th X) i || i == p3) 6))]) km_X4_85 ky_J6_bitCount_0f7a4 ks_J6_bitCount_0f7a4 (by decide) rfl (Nat.le_of_ble_eq_true rfl) dX4_person_86 rfl (c_bitCount (a := bitsN (fun i => (x_th X) i || i == p3) 6) (Nat.lt_of_lt_of_le (bitsN_lt _ _) (by decide)) ?_)
        exact g_ireturn dX4_person_89 (Nat.le_refl _) (Nat.le_refl _) (qoC (by unfold personO; rw [inN_t (a := 0) (b := 5) (by omega) (by omega) (by omega), teI_t ho ht14, if_pos (by rfl), inN_t (a := 0) (b := 2) (by omega) (by omega) (by omega), if_pos rfl, ix6 (by omega), ixt ho ht14, ix_nI (n := 3) (by omega) (by decide)]) h (fc_ft hft (by decide)) (rz_cong hX (x_ext (by simp only [tX_pers, x_sz_th, x_sz_pl, x_sz_ki, x_sz_kn]) (by simp only [tX_pers, x_br_th, x_br_pl, x_br_ki, x_br_kn]) (by simp only [tX_pers, x_lo_th, x_lo_pl, x_lo_ki, x_lo_kn]) (by simp only [tX_pers, x_hi_th, x_hi_pl, x_hi_ki, x_hi_kn]) (by simp only [tX_pers, x_ld_th, x_ld_pl, x_ld_ki, x_ld_kn]) (by simp only [tX_pers, x_bn_th, x_bn_pl, x_bn_ki, x_bn_kn]) (by simp only [tX_pers, x_th_th, x_th_pl, x_th_ki, x_th_kn]) (by simp only [tX_pers, x_pl_th, x_pl_pl, x_pl_ki, x_pl_kn]) (by simp only [tX_pers, x_ki_th, x_ki_pl, x_ki_ki, x_ki_kn]) (by simp only [tX_pers, x_kn_th, x_kn_pl, x_kn_ki, x_kn_kn]) (by simp only [tX_pers, x_wt_th, x_wt_pl, x_wt_ki, x_wt_kn]) (by simp only [tX_pers, x_ab_th, x_ab_pl, x_ab_ki, x_ab_kn]) (by simp only [tX_pers, x_pu_th, x_pu_pl, x_pu_ki, x_pu_kn]) (by simp only [tX_pers, x_fa_th, x_fa_pl, x_fa_ki, x_fa_kn]) (by simp only [tX_pers, x_sg_th, x_sg_pl, x_sg_ki, x_sg_kn]) (by simp only [tX_pers, x_sb_th, x_sb_pl, x_sb_ki, x_sb_kn]) (by simp only [tX_pers, x_sv_th, x_sv_pl, x_sv_ki, x_sv_kn]))))
      · refine t_ifne0 (tgt := 34) dX4_person_28 (by decide) ?_
        refine g_bipush dX4_person_31 bp_m2 ?_
        exact g_ireturn dX4_person_33 (Nat.le_refl _) (Nat.le_refl _) (qoC (by unfold personO; rw [inN_t (a := 0) (b := 5) (by omega) (by omega) (by omega), teI_t ho ht14, if_pos (by rfl), inN_f (a := 0) (b := 2) (by omega) h25, if_neg (by decide)]) h fc_rfl hX)
    · refine t_ifne0 (tgt := 22) dX4_person_17 (by decide) ?_
      refine g_iconst dX4_person_20 ci_m1 ?_
      exact g_ireturn dX4_person_21 (Nat.le_refl _) (Nat.le_refl _) (qoC (by unfold personO; rw [teI_f h14, Bool.and_false]; rfl) h fc_rfl hX)
  · refine t_ifeq0 20 dX4_person_6 (by decide) ?_
    refine g_iconst dX4_person_20 ci_m1 ?_
    exact g_ireturn dX4_person_21 (Nat.le_refl _) (Nat.le_refl _) (qoC (by unfold personO; rw [inN_f (a := 0) (b := 5) (by omega) h3]; rfl) h fc_rfl hX)
set_option maxHeartbeats 4000000 in
set_option maxRecDepth 20000 in
theorem c_X4_leave {l : Launch} {D : gE} {L : Nat → Nat} {σ : St} {Q : Option Value → va_W → Prop} {d : Nat} {X : XT} (hX : rzT σ 0 X) (ho : okX X) {x : Int32} (h : ∀ σ', fc σ σ' → rzT σ' 0 (leaveO X x).2 → Q (some (.int (leaveO X x).1)) (wsOf D L σ')) : Ctr l D yX4_leave cX4_leave 2 (some .int) (rr (d + 2)) [.ref (L 24), .int x] (wsOf D L σ) Q := by
  refine g_start ky_X4_leave (Nat.le_of_ble_eq_true rfl) ?_
  refine g_pick [0, 1] (lv' := [(0, .ref (L 24)), (1, .int x)]) rfl ?_
  have hft : ft 0 σ σ := ft_rfl
  refine g_aload_n dX4_leave_0 rfl 0 rfl ?_
  refine g_get kf_X4_10 kC_X4 (by decide) 24 at_24 rfl dX4_leave_1 ?_
  refine g_iload_n dX4_leave_4 rfl 1 rfl ?_
  refine g_callV (As := [.int x]) km_X4_106 ky_X3_hasPerson ki_X3_hasPerson (by decide) 0 (at_tn (Or.inl rfl)) rfl rfl (Nat.le_of_ble_eq_true rfl) dX4_leave_5 rfl (c_X3_hasPerson (Or.inl rfl) hX ho (fun p5 hp5 he5 h5 => ?_) (fun h5 => ?_))
  · subst he5
    refine t_ifne1 13 dX4_leave_8 (by decide) ?_
    refine g_aload_n dX4_leave_13 rfl 0 rfl ?_
    refine g_get kf_X4_10 kC_X4 (by decide) 24 at_24 rfl dX4_leave_14 ?_
    refine g_dup dX4_leave_17 rfl ?_
    refine s_getT (b := 0) (Or.inl rfl) kf_X4_94 (by decide) rfl dX4_leave_18 ?_
    refine g_tope (z := nI (bitsN (x_th X) 6)) (rpT_th hX.1) ?_
    refine g_iconst dX4_leave_21 ci_1 ?_
    refine g_iload_n dX4_leave_22 rfl 1 rfl ?_
    refine g_ishl dX4_leave_23 ?_
    refine g_iconst dX4_leave_24 ci_m1 ?_
    refine g_ixor dX4_leave_25 ?_
    refine g_iand dX4_leave_26 ?_
    refine g_tope (z := nI (bitsN (fun i => (x_th X) i && !(i == p5)) 6)) (nbB _ (by decide) (by omega)) ?_
    refine s_putT (b := 0) (Or.inl rfl) kf_X4_94 (by decide) dX4_leave_27 ?_
    have hX : rzT (setI σ 0 6 (nI (bitsN (fun i => (x_th X) i && !(i == p5)) 6))) 0 (xs_th X (fun i => (x_th X) i && !(i == p5))) := rz_sth hX (fun i => (x_th X) i && !(i == p5))
    have hft : ft 0 σ (setI σ 0 6 (nI (bitsN (fun i => (x_th X) i && !(i == p5)) 6))) := ft_I hft 6 _
    generalize setI σ 0 6 (nI (bitsN (fun i => (x_th X) i && !(i == p5)) 6)) = σw167 at hX hft ⊢
    refine g_aload_n dX4_leave_30 rfl 0 rfl ?_
    refine g_get kf_X4_10 kC_X4 (by decide) 24 at_24 rfl dX4_leave_31 ?_
    refine s_getT (b := 0) (Or.inl rfl) kf_X4_103 (by decide) rfl dX4_leave_34 ?_
    refine g_iload_n dX4_leave_37 rfl 1 rfl ?_
    refine g_iconst dX4_leave_38 ci_0 ?_
    refine s_ast (q := 7) (n := 6) (at_ia (q := 7) rfl) (by omega) (by decide) dX4_leave_39 ?_
    have hX : rzT (setA σw167 7 (upd (sA σw167 7) p5 (nI 0))) 0 (xs_kn (xs_th X (fun i => (x_th X) i && !(i == p5))) (updF (x_kn (xs_th X (fun i => (x_th X) i && !(i == p5)))) p5 (fun _ => false))) := rz_skn hX p5 (fun _ => false)
    simp only [x_kn_th] at hX
    have hft : ft 0 σ (setA σw167 7 (upd (sA σw167 7) p5 (nI 0))) := ft_A hft 7 (by decide) _
    generalize setA σw167 7 (upd (sA σw167 7) p5 (nI 0)) = σw168 at hX hft ⊢
    refine g_aload_n dX4_leave_40 rfl 0 rfl ?_
    refine g_get kf_X4_10 kC_X4 (by decide) 24 at_24 rfl dX4_leave_41 ?_
    refine s_getT (b := 0) (Or.inl rfl) kf_X4_94 (by decide) rfl dX4_leave_44 ?_
    refine g_tope (z := nI (bitsN (fun i => (x_th X) i && !(i == p5)) 6)) ((rpT_th hX.1).trans (by simp only [x_th_kn, x_th_th])) ?_
    refine g_callS (As := [.int (nI (bitsN (fun i => (x_th X) i && !(i == p5)) 6))]) km_X4_85 ky_J6_bitCount_0f7a4 ks_J6_bitCount_0f7a4 (by decide) rfl (Nat.le_of_ble_eq_true rfl) dX4_leave_47 rfl (c_bitCount (a := bitsN (fun i => (x_th X) i && !(i == p5)) 6) (Nat.lt_of_lt_of_le (bitsN_lt _ _) (by decide)) ?_)
    exact g_ireturn dX4_leave_50 (Nat.le_refl _) (Nat.le_refl _) (qoC (by unfold leaveO; rw [thI_t hp5 h5, ix6 hp5]; rfl) h (fc_ft hft (by decide)) (rz_cong hX (x_ext (by simp only [tX_leave, x_sz_th, x_sz_kn]) (by simp only [tX_leave, x_br_th, x_br_kn]) (by simp only [tX_leave, x_lo_th, x_lo_kn]) (by simp only [tX_leave, x_hi_th, x_hi_kn]) (by simp only [tX_leave, x_ld_th, x_ld_kn]) (by simp only [tX_leave, x_bn_th, x_bn_kn]) (by simp only [tX_leave, x_th_th, x_th_kn]) (by simp only [tX_leave, x_pl_th, x_pl_kn]) (by simp only [tX_leave, x_ki_th, x_ki_kn]) (by simp only [tX_leave, x_kn_th, x_kn_kn]) (by simp only [tX_leave, x_wt_th, x_wt_kn]) (by simp only [tX_leave, x_ab_th, x_ab_kn]) (by simp only [tX_leave, x_pu_th, x_pu_kn]) (by simp only [tX_leave, x_fa_th, x_fa_kn]) (by simp only [tX_leave, x_sg_th, x_sg_kn]) (by simp only [tX_leave, x_sb_th, x_sb_kn]) (by simp only [tX_leave, x_sv_th, x_sv_kn]))))
  · refine t_ifne0 (tgt := 13) dX4_leave_8 (by decide) ?_
    refine g_iconst dX4_leave_11 ci_m1 ?_
    exact g_ireturn dX4_leave_12 (Nat.le_refl _) (Nat.le_refl _) (qoC (by unfold leaveO; rw [thI_f h5]; rfl) h fc_rfl hX)
set_option maxHeartbeats 4000000 in
set_option maxRecDepth 20000 in
theorem c_X4_news {l : Launch} {D : gE} {L : Nat → Nat} {σ : St} {Q : Option Value → va_W → Prop} {d : Nat} {X : XT} (hX : rzT σ 0 X) (ho : okX X) {x y z : Int32} (h : ∀ σ', fc σ σ' → rzT σ' 0 (newsO X x y z).2 → Q (some (.int (newsO X x y z).1)) (wsOf D L σ')) : Ctr l D yX4_news cX4_news 5 (some .int) (rr (d + 2)) [.ref (L 24), .int x, .int y, .int z] (wsOf D L σ) Q := by
  refine g_start ky_X4_news (Nat.le_of_ble_eq_true rfl) ?_
  refine g_pick [0, 1, 2, 3] (lv' := [(0, .ref (L 24)), (1, .int x), (2, .int y), (3, .int z)]) rfl ?_
  have hft : ft 0 σ σ := ft_rfl
  refine g_iload_n dX4_news_0 rfl 1 rfl ?_
  refine g_callS (As := [.int x]) km_X4_109 ky_X4_isNews ks_X4_isNews (by decide) rfl (Nat.le_of_ble_eq_true rfl) dX4_news_1 rfl (c_X4_isNews (fun k1 hk1 he1 => ?_) (fun h1 => ?_))
  · subst he1
    refine t_ifne1 9 dX4_news_4 (by decide) ?_
    refine g_iload_n dX4_news_9 rfl 2 rfl ?_
    refine g_bipush dX4_news_10 bp_m20 ?_
    refine g_bipush dX4_news_12 bp_99 ?_
    refine g_callS (As := [.int y, .int (-20), .int (nI 99)]) km_X4_44 ky_X4_within ks_X4_within (by decide) rfl (Nat.le_of_ble_eq_true rfl) dX4_news_14 rfl (c_X4_withinW (fun h14 => ?_) (fun h14 => ?_))
    · refine t_ifeq1 (tgt := 29) dX4_news_17 (by decide) ?_
      refine g_iload_n dX4_news_20 rfl 3 rfl ?_
      refine g_iconst dX4_news_21 ci_0 ?_
      refine g_iconst dX4_news_22 ci_3 ?_
      refine g_callS (As := [.int z, .int (nI 0), .int (nI 3)]) km_X4_44 ky_X4_within ks_X4_within (by decide) rfl (Nat.le_of_ble_eq_true rfl) dX4_news_23 rfl (c_X4_withinN (by omega) (by omega) (fun p23 ha23 hb23 he23 => ?_) (fun h23 => ?_))
      · subst he23
        refine t_ifne1 32 dX4_news_26 (by decide) ?_
        refine g_aload_n dX4_news_32 rfl 0 rfl ?_
        refine g_get kf_X4_10 kC_X4 (by decide) 24 at_24 rfl dX4_news_33 ?_
        refine s_getT (b := 0) (Or.inl rfl) kf_X4_112 (by decide) rfl dX4_news_36 ?_
        refine g_iload_n dX4_news_39 rfl 1 rfl ?_
        refine s_ald (q := 8) (n := 8) (at_ia (q := 8) rfl) (by omega) (by decide) dX4_news_40 ?_
        refine g_tope (z := zI (x_wt X k1)) (rpT_wt hX.1 (by omega)) ?_
        refine g_istore (lv' := [(4, .int (zI (x_wt X k1))), (0, .ref (L 24)), (1, .int (nI k1)), (2, .int y), (3, .int (nI p23))]) dX4_news_41 (by decide) rfl ?_
        refine g_aload_n dX4_news_43 rfl 1 rfl ?_
        refine g_get kf_X4_10 kC_X4 (by decide) 24 at_24 rfl dX4_news_44 ?_
        refine s_getT (b := 0) (Or.inl rfl) kf_X4_112 (by decide) rfl dX4_news_47 ?_
        refine g_iload_n dX4_news_50 rfl 2 rfl ?_
        refine g_iload_n dX4_news_51 rfl 3 rfl ?_
        refine g_tope (z := zI y.toInt) ((fb_asI y).symm) ?_
        refine s_ast (q := 8) (n := 8) (at_ia (q := 8) rfl) (by omega) (by decide) dX4_news_52 ?_
        have hX : rzT (setA σ 8 (upd (sA σ 8) k1 (zI y.toInt))) 0 (xs_wt X (updF (x_wt X) k1 y.toInt)) := rz_swt hX k1 y.toInt
        have hft : ft 0 σ (setA σ 8 (upd (sA σ 8) k1 (zI y.toInt))) := ft_A hft 8 (by decide) _
        generalize setA σ 8 (upd (sA σ 8) k1 (zI y.toInt)) = σw169 at hX hft ⊢
        refine g_aload_n dX4_news_53 rfl 1 rfl ?_
        refine g_get kf_X4_10 kC_X4 (by decide) 24 at_24 rfl dX4_news_54 ?_
        refine s_getT (b := 0) (Or.inl rfl) kf_X4_115 (by decide) rfl dX4_news_57 ?_
        refine g_iload_n dX4_news_60 rfl 2 rfl ?_
        refine g_iload_n dX4_news_61 rfl 4 rfl ?_
        refine s_ast (q := 9) (n := 8) (at_ia (q := 9) rfl) (by omega) (by decide) dX4_news_62 ?_
        have hX : rzT (setA σw169 9 (upd (sA σw169 9) k1 (nI p23))) 0 (xs_ab (xs_wt X (updF (x_wt X) k1 y.toInt)) (updN (x_ab (xs_wt X (updF (x_wt X) k1 y.toInt))) k1 p23)) := rz_sab hX k1 p23
        simp only [x_ab_wt] at hX
        have hft : ft 0 σ (setA σw169 9 (upd (sA σw169 9) k1 (nI p23))) := ft_A hft 9 (by decide) _
        generalize setA σw169 9 (upd (sA σw169 9) k1 (nI p23)) = σw170 at hX hft ⊢
        refine g_aload_n dX4_news_63 rfl 1 rfl ?_
        refine g_get kf_X4_10 kC_X4 (by decide) 24 at_24 rfl dX4_news_64 ?_
        refine g_dup dX4_news_67 rfl ?_
        refine s_getT (b := 0) (Or.inl rfl) kf_X4_118 (by decide) rfl dX4_news_68 ?_
        refine g_tope (z := nI (bitsN (x_pu X) 8)) ((rpT_pu hX.1).trans (by simp only [x_pu_ab, x_pu_wt])) ?_
        refine g_iconst dX4_news_71 ci_1 ?_
        refine g_iload_n dX4_news_72 rfl 2 rfl ?_
        refine g_ishl dX4_news_73 ?_
        refine g_iconst dX4_news_74 ci_m1 ?_
        refine g_ixor dX4_news_75 ?_
        refine g_iand dX4_news_76 ?_
        refine g_tope (z := nI (bitsN (fun i => (x_pu X) i && !(i == k1)) 8)) (nbB _ (by decide) (by omega)) ?_
        refine s_putT (b := 0) (Or.inl rfl) kf_X4_118 (by decide) dX4_news_77 ?_
        have hX : rzT (setI σw170 0 12 (nI (bitsN (fun i => (x_pu X) i && !(i == k1)) 8))) 0 (xs_pu (xs_ab (xs_wt X (updF (x_wt X) k1 y.toInt)) (updN (x_ab X) k1 p23)) (fun i => (x_pu X) i && !(i == k1))) := rz_spu hX (fun i => (x_pu X) i && !(i == k1))
        have hft : ft 0 σ (setI σw170 0 12 (nI (bitsN (fun i => (x_pu X) i && !(i == k1)) 8))) := ft_I hft 12 _
        generalize setI σw170 0 12 (nI (bitsN (fun i => (x_pu X) i && !(i == k1)) 8)) = σw171 at hX hft ⊢
        refine g_iload dX4_news_80 0 rfl ?_
        refine g_sipush dX4_news_82 sp_1000 ?_
        refine g_iadd dX4_news_85 ?_
        refine g_tope (z := zI (x_wt X k1 + 1000)) (by rw [show nI 1000 = zI 1000 from by decide +kernel]; exact zI_add _ _) ?_
        exact g_ireturn dX4_news_86 (Nat.le_refl _) (Nat.le_refl _) (qoC (by unfold newsO; rw [nwI_t hk1, if_pos rfl, h14, inN_t (a := 0) (b := 3) (by omega) (by omega) (by omega), if_pos (by rfl), ix8 hk1, ix_nI (n := 4) (by omega) (by decide)]) h (fc_ft hft (by decide)) (rz_cong hX (x_ext (by simp only [tX_news, x_sz_wt, x_sz_ab, x_sz_pu]) (by simp only [tX_news, x_br_wt, x_br_ab, x_br_pu]) (by simp only [tX_news, x_lo_wt, x_lo_ab, x_lo_pu]) (by simp only [tX_news, x_hi_wt, x_hi_ab, x_hi_pu]) (by simp only [tX_news, x_ld_wt, x_ld_ab, x_ld_pu]) (by simp only [tX_news, x_bn_wt, x_bn_ab, x_bn_pu]) (by simp only [tX_news, x_th_wt, x_th_ab, x_th_pu]) (by simp only [tX_news, x_pl_wt, x_pl_ab, x_pl_pu]) (by simp only [tX_news, x_ki_wt, x_ki_ab, x_ki_pu]) (by simp only [tX_news, x_kn_wt, x_kn_ab, x_kn_pu]) (by simp only [tX_news, x_wt_wt, x_wt_ab, x_wt_pu]) (by simp only [tX_news, x_ab_wt, x_ab_ab, x_ab_pu]) (by simp only [tX_news, x_pu_wt, x_pu_ab, x_pu_pu]) (by simp only [tX_news, x_fa_wt, x_fa_ab, x_fa_pu]) (by simp only [tX_news, x_sg_wt, x_sg_ab, x_sg_pu]) (by simp only [tX_news, x_sb_wt, x_sb_ab, x_sb_pu]) (by simp only [tX_news, x_sv_wt, x_sv_ab, x_sv_pu]))))
      · refine t_ifne0 (tgt := 32) dX4_news_26 (by decide) ?_
        refine g_bipush dX4_news_29 bp_m2 ?_
        exact g_ireturn dX4_news_31 (Nat.le_refl _) (Nat.le_refl _) (qoC (by unfold newsO; rw [nwI_t hk1, if_pos rfl, h14, inN_f (a := 0) (b := 3) (by omega) h23]; rfl) h fc_rfl hX)
    · refine t_ifeq0 29 dX4_news_17 (by decide) ?_
      refine g_bipush dX4_news_29 bp_m2 ?_
      exact g_ireturn dX4_news_31 (Nat.le_refl _) (Nat.le_refl _) (qoC (by unfold newsO; rw [nwI_t hk1, if_pos rfl, h14]; rfl) h fc_rfl hX)
  · refine t_ifne0 (tgt := 9) dX4_news_4 (by decide) ?_
    refine g_iconst dX4_news_7 ci_m1 ?_
    exact g_ireturn dX4_news_8 (Nat.le_refl _) (Nat.le_refl _) (qoC (by unfold newsO; rw [nwI_f h1]; rfl) h fc_rfl hX)
set_option maxHeartbeats 4000000 in
set_option maxRecDepth 20000 in
theorem c_X4_learn {l : Launch} {D : gE} {L : Nat → Nat} {σ : St} {Q : Option Value → va_W → Prop} {d : Nat} {X : XT} (hX : rzT σ 0 X) (ho : okX X) {x y : Int32} {c : Bool} (h : ∀ σ', fc σ σ' → rzT σ' 0 (learnO X x y c).2 → Q (some (.int (learnO X x y c).1)) (wsOf D L σ')) : Ctr l D yX4_learn cX4_learn 4 (some .int) (rr (d + 2)) [.ref (L 24), .int x, .int y, .int (nI (b2n c))] (wsOf D L σ) Q := by
  refine g_start ky_X4_learn (Nat.le_of_ble_eq_true rfl) ?_
  refine g_pick [0, 1, 2, 3] (lv' := [(0, .ref (L 24)), (1, .int x), (2, .int y), (3, .int (nI (b2n c)))]) rfl ?_
  have hft : ft 0 σ σ := ft_rfl
  refine g_aload_n dX4_learn_0 rfl 0 rfl ?_
  refine g_get kf_X4_10 kC_X4 (by decide) 24 at_24 rfl dX4_learn_1 ?_
  refine g_iload_n dX4_learn_4 rfl 1 rfl ?_
  refine g_callV (As := [.int x]) km_X4_106 ky_X3_hasPerson ki_X3_hasPerson (by decide) 0 (at_tn (Or.inl rfl)) rfl rfl (Nat.le_of_ble_eq_true rfl) dX4_learn_5 rfl (c_X3_hasPerson (Or.inl rfl) hX ho (fun p5 hp5 he5 h5 => ?_) (fun h5 => ?_))
  · subst he5
    refine t_ifeq1 (tgt := 18) dX4_learn_8 (by decide) ?_
    refine g_iload_n dX4_learn_11 rfl 2 rfl ?_
    refine g_callS (As := [.int y]) km_X4_109 ky_X4_isNews ks_X4_isNews (by decide) rfl (Nat.le_of_ble_eq_true rfl) dX4_learn_12 rfl (c_X4_isNews (fun k12 hk12 he12 => ?_) (fun h12 => ?_))
    · subst he12
      refine t_ifne1 20 dX4_learn_15 (by decide) ?_
      refine g_iload_n dX4_learn_20 rfl 3 rfl ?_
      refine b_ifeq 42 dX4_learn_21 (by decide) (fun h21 => ?_) (fun h21 => ?_)
      · refine g_aload_n dX4_learn_42 rfl 0 rfl ?_
        refine g_get kf_X4_10 kC_X4 (by decide) 24 at_24 rfl dX4_learn_43 ?_
        refine s_getT (b := 0) (Or.inl rfl) kf_X4_103 (by decide) rfl dX4_learn_46 ?_
        refine g_iload_n dX4_learn_49 rfl 1 rfl ?_
        refine g_dup2 dX4_learn_50 rfl rfl ?_
        refine s_ald (q := 7) (n := 6) (at_ia (q := 7) rfl) (by omega) (by decide) dX4_learn_51 ?_
        refine g_tope (z := nI (bitsN (x_kn X p5) 8)) (rzT_kn hX (by omega)) ?_
        refine g_iconst dX4_learn_52 ci_1 ?_
        refine g_iload_n dX4_learn_53 rfl 2 rfl ?_
        refine g_ishl dX4_learn_54 ?_
        refine g_iconst dX4_learn_55 ci_m1 ?_
        refine g_ixor dX4_learn_56 ?_
        refine g_iand dX4_learn_57 ?_
        refine g_tope (z := nI (bitsN (fun i => (x_kn X p5) i && !(i == k12)) 8)) (nbB _ (by decide) (by omega)) ?_
        refine s_ast (q := 7) (n := 6) (at_ia (q := 7) rfl) (by omega) (by decide) dX4_learn_58 ?_
        have hX : rzT (setA σ 7 (upd (sA σ 7) p5 (nI (bitsN (fun i => (x_kn X p5) i && !(i == k12)) 8)))) 0 (xs_kn X (updF (x_kn X) p5 (fun i => (x_kn X p5) i && !(i == k12)))) := rz_skn hX p5 (fun i => (x_kn X p5) i && !(i == k12))
        have hft : ft 0 σ (setA σ 7 (upd (sA σ 7) p5 (nI (bitsN (fun i => (x_kn X p5) i && !(i == k12)) 8)))) := ft_A hft 7 (by decide) _
        generalize setA σ 7 (upd (sA σ 7) p5 (nI (bitsN (fun i => (x_kn X p5) i && !(i == k12)) 8))) = σw172 at hX hft ⊢
        refine g_aload_n dX4_learn_59 rfl 0 rfl ?_
        refine g_get kf_X4_10 kC_X4 (by decide) 24 at_24 rfl dX4_learn_60 ?_
        refine s_getT (b := 0) (Or.inl rfl) kf_X4_103 (by decide) rfl dX4_learn_63 ?_
        refine g_iload_n dX4_learn_66 rfl 1 rfl ?_
        refine s_ald (q := 7) (n := 6) (at_ia (q := 7) rfl) (by omega) (by decide) dX4_learn_67 ?_
        refine g_tope (z := nI (bitsN (fun i => x_kn X p5 i && !(i == k12)) 8)) ((rzT_kn hX hp5).trans (by simp only [x_kn_kn, updF, if_true])) ?_
        exact g_ireturn dX4_learn_68 (Nat.le_refl _) (Nat.le_refl _) (qoC (by unfold learnO tX_learn; rw [thI_t hp5 h5, nwI_t hk12, ix6 hp5, ix8 hk12, h21]; rfl) h (fc_ft hft (by decide)) hX)
      · refine g_aload_n dX4_learn_24 rfl 0 rfl ?_
        refine g_get kf_X4_10 kC_X4 (by decide) 24 at_24 rfl dX4_learn_25 ?_
        refine s_getT (b := 0) (Or.inl rfl) kf_X4_103 (by decide) rfl dX4_learn_28 ?_
        refine g_iload_n dX4_learn_31 rfl 1 rfl ?_
        refine g_dup2 dX4_learn_32 rfl rfl ?_
        refine s_ald (q := 7) (n := 6) (at_ia (q := 7) rfl) (by omega) (by decide) dX4_learn_33 ?_
        refine g_tope (z := nI (bitsN (x_kn X p5) 8)) (rzT_kn hX (by omega)) ?_
        refine g_iconst dX4_learn_34 ci_1 ?_
        refine g_iload_n dX4_learn_35 rfl 2 rfl ?_
        refine g_ishl dX4_learn_36 ?_
        refine g_ior dX4_learn_37 ?_
        refine g_tope (z := nI (bitsN (fun i => (x_kn X p5) i || i == k12) 8)) (obB _ (by decide) (by omega)) ?_
        refine s_ast (q := 7) (n := 6) (at_ia (q := 7) rfl) (by omega) (by decide) dX4_learn_38 ?_
        have hX : rzT (setA σ 7 (upd (sA σ 7) p5 (nI (bitsN (fun i => (x_kn X p5) i || i == k12) 8)))) 0 (xs_kn X (updF (x_kn X) p5 (fun i => (x_kn X p5) i || i == k12))) := rz_skn hX p5 (fun i => (x_kn X p5) i || i == k12)
        have hft : ft 0 σ (setA σ 7 (upd (sA σ 7) p5 (nI (bitsN (fun i => (x_kn X p5) i || i == k12) 8)))) := ft_A hft 7 (by decide) _
        generalize setA σ 7 (upd (sA σ 7) p5 (nI (bitsN (fun i => (x_kn X p5) i || i == k12) 8))) = σw173 at hX hft ⊢
        refine g_goto 59 dX4_learn_39 (by decide) ?_
        refine g_aload_n dX4_learn_59 rfl 0 rfl ?_
        refine g_get kf_X4_10 kC_X4 (by decide) 24 at_24 rfl dX4_learn_60 ?_
        refine s_getT (b := 0) (Or.inl rfl) kf_X4_103 (by decide) rfl dX4_learn_63 ?_
        refine g_iload_n dX4_learn_66 rfl 1 rfl ?_
        refine s_ald (q := 7) (n := 6) (at_ia (q := 7) rfl) (by omega) (by decide) dX4_learn_67 ?_
        refine g_tope (z := nI (bitsN (fun i => x_kn X p5 i || i == k12) 8)) ((rzT_kn hX hp5).trans (by simp only [x_kn_kn, updF, if_true])) ?_
        exact g_ireturn dX4_learn_68 (Nat.le_refl _) (Nat.le_refl _) (qoC (by unfold learnO tX_learn; rw [thI_t hp5 h5, nwI_t hk12, ix6 hp5, ix8 hk12, h21]; rfl) h (fc_ft hft (by decide)) hX)
    · refine t_ifne0 (tgt := 20) dX4_learn_15 (by decide) ?_
      refine g_iconst dX4_learn_18 ci_m1 ?_
      exact g_ireturn dX4_learn_19 (Nat.le_refl _) (Nat.le_refl _) (qoC (by unfold learnO; rw [nwI_f h12, Bool.and_false]; rfl) h fc_rfl hX)
  · refine t_ifeq0 18 dX4_learn_8 (by decide) ?_
    refine g_iconst dX4_learn_18 ci_m1 ?_
    exact g_ireturn dX4_learn_19 (Nat.le_refl _) (Nat.le_refl _) (qoC (by unfold learnO; rw [thI_f h5]; rfl) h fc_rfl hX)
set_option maxHeartbeats 4000000 in
set_option maxRecDepth 20000 in
theorem c_X4_fade {l : Launch} {D : gE} {L : Nat → Nat} {σ : St} {Q : Option Value → va_W → Prop} {d : Nat} {X : XT} (hX : rzT σ 0 X) (ho : okX X) {x : Int32} (h : ∀ σ', fc σ σ' → rzT σ' 0 (fadeO X x).2 → Q (some (.int (fadeO X x).1)) (wsOf D L σ')) : Ctr l D yX4_fade cX4_fade 3 (some .int) (rr (d + 1)) [.ref (L 24), .int x] (wsOf D L σ) Q := by
  refine g_start ky_X4_fade (Nat.le_of_ble_eq_true rfl) ?_
  refine g_pick [0, 1] (lv' := [(0, .ref (L 24)), (1, .int x)]) rfl ?_
  have hft : ft 0 σ σ := ft_rfl
  refine g_iload_n dX4_fade_0 rfl 1 rfl ?_
  refine g_iconst dX4_fade_1 ci_0 ?_
  refine g_bipush dX4_fade_2 bp_9 ?_
  refine g_callS (As := [.int x, .int (nI 0), .int (nI 9)]) km_X4_44 ky_X4_within ks_X4_within (by decide) rfl (Nat.le_of_ble_eq_true rfl) dX4_fade_4 rfl (c_X4_withinN (by omega) (by omega) (fun p4 ha4 hb4 he4 => ?_) (fun h4 => ?_))
  · subst he4
    refine t_ifne1 13 dX4_fade_7 (by decide) ?_
    refine g_aload_n dX4_fade_13 rfl 0 rfl ?_
    refine g_get kf_X4_10 kC_X4 (by decide) 24 at_24 rfl dX4_fade_14 ?_
    refine s_getT (b := 0) (Or.inl rfl) kf_X4_121 (by decide) rfl dX4_fade_17 ?_
    refine g_tope (z := nI (x_fa X)) (rpT_fa hX.1) ?_
    refine g_istore_n (lv' := [(2, .int (nI (x_fa X))), (0, .ref (L 24)), (1, .int (nI p4))]) dX4_fade_20 rfl (by decide) rfl ?_
    refine g_aload_n dX4_fade_21 rfl 1 rfl ?_
    refine g_get kf_X4_10 kC_X4 (by decide) 24 at_24 rfl dX4_fade_22 ?_
    refine g_iload_n dX4_fade_25 rfl 2 rfl ?_
    refine s_putT (b := 0) (Or.inl rfl) kf_X4_121 (by decide) dX4_fade_26 ?_
    have hX : rzT (setI σ 0 13 (nI p4)) 0 (xs_fa X p4) := rz_sfa hX p4
    have hft : ft 0 σ (setI σ 0 13 (nI p4)) := ft_I hft 13 _
    generalize setI σ 0 13 (nI p4) = σw174 at hX hft ⊢
    refine g_iload_n dX4_fade_29 rfl 0 rfl ?_
    exact g_ireturn dX4_fade_30 (Nat.le_refl _) (Nat.le_refl _) (qoC (by unfold fadeO; rw [inN_t (a := 0) (b := 9) (by omega) (by omega) (by omega), if_pos rfl, ix_nI (n := 10) (by omega) (by decide)]) h (fc_ft hft (by decide)) hX)
  · refine t_ifne0 (tgt := 13) dX4_fade_7 (by decide) ?_
    refine g_bipush dX4_fade_10 bp_m2 ?_
    exact g_ireturn dX4_fade_12 (Nat.le_refl _) (Nat.le_refl _) (qoC (by unfold fadeO; rw [inN_f (a := 0) (b := 9) (by omega) h4]; rfl) h fc_rfl hX)
set_option maxHeartbeats 4000000 in
set_option maxRecDepth 20000 in
theorem c_X4_forget {l : Launch} {D : gE} {L : Nat → Nat} {σ : St} {Q : Option Value → va_W → Prop} {d : Nat} {X : XT} (hX : rzT σ 0 X) (ho : okX X) (h : ∀ σ', fc σ σ' → rzT σ' 0 (forgetO X).2 → Q (some (.int (forgetO X).1)) (wsOf D L σ')) : Ctr l D yX4_forget cX4_forget 2 (some .int) (rr d) [.ref (L 24)] (wsOf D L σ) Q := by
  refine g_start ky_X4_forget (Nat.le_of_ble_eq_true rfl) ?_
  refine g_pick [0] (lv' := [(0, .ref (L 24))]) rfl ?_
  have hft : ft 0 σ σ := ft_rfl
  refine g_aload_n dX4_forget_0 rfl 0 rfl ?_
  refine g_get kf_X4_10 kC_X4 (by decide) 24 at_24 rfl dX4_forget_1 ?_
  refine s_getT (b := 0) (Or.inl rfl) kf_X4_225 (by decide) rfl dX4_forget_4 ?_
  refine g_tope (z := nI (x_sg X)) (rpT_sg hX.1) ?_
  refine g_istore_n (lv' := [(1, .int (nI (x_sg X))), (0, .ref (L 24))]) dX4_forget_7 rfl (by decide) rfl ?_
  refine g_aload_n dX4_forget_8 rfl 1 rfl ?_
  refine g_get kf_X4_10 kC_X4 (by decide) 24 at_24 rfl dX4_forget_9 ?_
  refine g_iconst dX4_forget_12 ci_0 ?_
  refine s_putT (b := 0) (Or.inl rfl) kf_X4_225 (by decide) dX4_forget_13 ?_
  have hX : rzT (setI σ 0 14 (nI 0)) 0 (xs_sg X 0) := rz_ssg hX 0
  have hft : ft 0 σ (setI σ 0 14 (nI 0)) := ft_I hft 14 _
  generalize setI σ 0 14 (nI 0) = σw175 at hX hft ⊢
  refine g_iload_n dX4_forget_16 rfl 0 rfl ?_
  exact g_ireturn dX4_forget_17 (Nat.le_refl _) (Nat.le_refl _) (qoC (by rfl) h (fc_ft hft (by decide)) hX)
set_option maxHeartbeats 4000000 in
set_option maxRecDepth 20000 in
theorem c_X4_seen {l : Launch} {D : gE} {L : Nat → Nat} {σ : St} {Q : Option Value → va_W → Prop} {d : Nat} {X : XT} (hX : rzT σ 0 X) (ho : okX X) {x y : Int32} (h : ∀ σ', fc σ σ' → rzT σ' 0 (seenO X x y).2 → Q (some (.int (seenO X x y).1)) (wsOf D L σ')) : Ctr l D yX4_seen cX4_seen 3 (some .int) (rr (d + 1)) [.ref (L 24), .int x, .int y] (wsOf D L σ) Q := by
  refine g_start ky_X4_seen (Nat.le_of_ble_eq_true rfl) ?_
  refine g_pick [0, 1, 2] (lv' := [(0, .ref (L 24)), (1, .int x), (2, .int y)]) rfl ?_
  have hft : ft 0 σ σ := ft_rfl
  have hsg := ok_sg ho
  refine g_iload_n dX4_seen_0 rfl 1 rfl ?_
  refine g_iconst dX4_seen_1 ci_0 ?_
  refine g_bipush dX4_seen_2 bp_7 ?_
  refine g_callS (As := [.int x, .int (nI 0), .int (nI 7)]) km_X4_44 ky_X4_within ks_X4_within (by decide) rfl (Nat.le_of_ble_eq_true rfl) dX4_seen_4 rfl (c_X4_withinN (by omega) (by omega) (fun p4 ha4 hb4 he4 => ?_) (fun h4 => ?_))
  · subst he4
    refine t_ifne1 12 dX4_seen_7 (by decide) ?_
    refine g_iload_n dX4_seen_12 rfl 2 rfl ?_
    refine g_iconst dX4_seen_13 ci_0 ?_
    refine g_sipush dX4_seen_14 sp_999 ?_
    refine g_callS (As := [.int y, .int (nI 0), .int (nI 999)]) km_X4_44 ky_X4_within ks_X4_within (by decide) rfl (Nat.le_of_ble_eq_true rfl) dX4_seen_17 rfl (c_X4_withinN (by omega) (by omega) (fun p17 ha17 hb17 he17 => ?_) (fun h17 => ?_))
    · subst he17
      refine t_ifne1 26 dX4_seen_20 (by decide) ?_
      refine g_aload_n dX4_seen_26 rfl 0 rfl ?_
      refine g_get kf_X4_10 kC_X4 (by decide) 24 at_24 rfl dX4_seen_27 ?_
      refine s_getT (b := 0) (Or.inl rfl) kf_X4_225 (by decide) rfl dX4_seen_30 ?_
      refine g_tope (z := nI (x_sg X)) (rpT_sg hX.1) ?_
      refine g_bipush dX4_seen_33 bp_6 ?_
      refine n_icmplt 41 dX4_seen_35 (by decide) (by omega) (by omega) (fun h35 => ?_) (fun h35 => ?_)
      · refine g_aload_n dX4_seen_41 rfl 0 rfl ?_
        refine g_get kf_X4_10 kC_X4 (by decide) 24 at_24 rfl dX4_seen_42 ?_
        refine s_getT (b := 0) (Or.inl rfl) kf_X4_228 (by decide) rfl dX4_seen_45 ?_
        refine g_aload_n dX4_seen_48 rfl 0 rfl ?_
        refine g_get kf_X4_10 kC_X4 (by decide) 24 at_24 rfl dX4_seen_49 ?_
        refine s_getT (b := 0) (Or.inl rfl) kf_X4_225 (by decide) rfl dX4_seen_52 ?_
        refine g_tope (z := nI (x_sg X)) (rpT_sg hX.1) ?_
        refine g_iload_n dX4_seen_55 rfl 1 rfl ?_
        refine s_ast (q := 10) (n := 6) (at_ia (q := 10) rfl) (by omega) (by decide) dX4_seen_56 ?_
        have hX : rzT (setA σ 10 (upd (sA σ 10) (x_sg X) (nI p4))) 0 (xs_sb X (updN (x_sb X) (x_sg X) p4)) := rz_ssb hX (x_sg X) p4
        have hft : ft 0 σ (setA σ 10 (upd (sA σ 10) (x_sg X) (nI p4))) := ft_A hft 10 (by decide) _
        generalize setA σ 10 (upd (sA σ 10) (x_sg X) (nI p4)) = σw176 at hX hft ⊢
        refine g_aload_n dX4_seen_57 rfl 0 rfl ?_
        refine g_get kf_X4_10 kC_X4 (by decide) 24 at_24 rfl dX4_seen_58 ?_
        refine s_getT (b := 0) (Or.inl rfl) kf_X4_231 (by decide) rfl dX4_seen_61 ?_
        refine g_aload_n dX4_seen_64 rfl 0 rfl ?_
        refine g_get kf_X4_10 kC_X4 (by decide) 24 at_24 rfl dX4_seen_65 ?_
        refine s_getT (b := 0) (Or.inl rfl) kf_X4_225 (by decide) rfl dX4_seen_68 ?_
        refine g_tope (z := nI (x_sg X)) ((rpT_sg hX.1).trans (by simp only [x_sg_sb])) ?_
        refine g_iload_n dX4_seen_71 rfl 2 rfl ?_
        refine s_ast (q := 11) (n := 6) (at_ia (q := 11) rfl) (by omega) (by decide) dX4_seen_72 ?_
        have hX : rzT (setA σw176 11 (upd (sA σw176 11) (x_sg X) (nI p17))) 0 (xs_sv (xs_sb X (updN (x_sb X) (x_sg X) p4)) (updN (x_sv (xs_sb X (updN (x_sb X) (x_sg X) p4))) (x_sg X) p17)) := rz_ssv hX (x_sg X) p17
        simp only [x_sv_sb] at hX
        have hft : ft 0 σ (setA σw176 11 (upd (sA σw176 11) (x_sg X) (nI p17))) := ft_A hft 11 (by decide) _
        generalize setA σw176 11 (upd (sA σw176 11) (x_sg X) (nI p17)) = σw177 at hX hft ⊢
        refine g_aload_n dX4_seen_73 rfl 0 rfl ?_
        refine g_get kf_X4_10 kC_X4 (by decide) 24 at_24 rfl dX4_seen_74 ?_
        refine g_dup dX4_seen_77 rfl ?_
        refine s_getT (b := 0) (Or.inl rfl) kf_X4_225 (by decide) rfl dX4_seen_78 ?_
        refine g_tope (z := nI (x_sg X)) ((rpT_sg hX.1).trans (by simp only [x_sg_sb, x_sg_sv])) ?_
        refine g_iconst dX4_seen_81 ci_1 ?_
        refine g_iadd dX4_seen_82 ?_
        refine g_tope (z := nI (x_sg X + 1)) (nI_add _ _) ?_
        refine s_putT (b := 0) (Or.inl rfl) kf_X4_225 (by decide) dX4_seen_83 ?_
        have hX : rzT (setI σw177 0 14 (nI (x_sg X + 1))) 0 (xs_sg (xs_sv (xs_sb X (updN (x_sb X) (x_sg X) p4)) (updN (x_sv X) (x_sg X) p17)) (x_sg X + 1)) := rz_ssg hX (x_sg X + 1)
        have hft : ft 0 σ (setI σw177 0 14 (nI (x_sg X + 1))) := ft_I hft 14 _
        generalize setI σw177 0 14 (nI (x_sg X + 1)) = σw178 at hX hft ⊢
        refine g_aload_n dX4_seen_86 rfl 0 rfl ?_
        refine g_get kf_X4_10 kC_X4 (by decide) 24 at_24 rfl dX4_seen_87 ?_
        refine s_getT (b := 0) (Or.inl rfl) kf_X4_225 (by decide) rfl dX4_seen_90 ?_
        refine g_tope (z := nI (x_sg X + 1)) ((rpT_sg hX.1).trans (by simp only [x_sg_sb, x_sg_sg, x_sg_sv])) ?_
        exact g_ireturn dX4_seen_93 (Nat.le_refl _) (Nat.le_refl _) (qoC (by unfold seenO; rw [inN_t (a := 0) (b := 7) (by omega) (by omega) (by omega), if_pos rfl, inN_t (a := 0) (b := 999) (by omega) (by omega) (by omega), if_pos rfl, if_neg (by omega), ix8 (by omega), ix_nI (n := 1000) (by omega) (by decide)]) h (fc_ft hft (by decide)) (rz_cong hX (x_ext (by simp only [tX_seen, x_sz_sb, x_sz_sv, x_sz_sg]) (by simp only [tX_seen, x_br_sb, x_br_sv, x_br_sg]) (by simp only [tX_seen, x_lo_sb, x_lo_sv, x_lo_sg]) (by simp only [tX_seen, x_hi_sb, x_hi_sv, x_hi_sg]) (by simp only [tX_seen, x_ld_sb, x_ld_sv, x_ld_sg]) (by simp only [tX_seen, x_bn_sb, x_bn_sv, x_bn_sg]) (by simp only [tX_seen, x_th_sb, x_th_sv, x_th_sg]) (by simp only [tX_seen, x_pl_sb, x_pl_sv, x_pl_sg]) (by simp only [tX_seen, x_ki_sb, x_ki_sv, x_ki_sg]) (by simp only [tX_seen, x_kn_sb, x_kn_sv, x_kn_sg]) (by simp only [tX_seen, x_wt_sb, x_wt_sv, x_wt_sg]) (by simp only [tX_seen, x_ab_sb, x_ab_sv, x_ab_sg]) (by simp only [tX_seen, x_pu_sb, x_pu_sv, x_pu_sg]) (by simp only [tX_seen, x_fa_sb, x_fa_sv, x_fa_sg]) (by simp only [tX_seen, x_sg_sb, x_sg_sv, x_sg_sg]) (by simp only [tX_seen, x_sb_sb, x_sb_sv, x_sb_sg]) (by simp only [tX_seen, x_sv_sb, x_sv_sv, x_sv_sg]))))
      · refine g_bipush dX4_seen_38 bp_m4 ?_
        exact g_ireturn dX4_seen_40 (Nat.le_refl _) (Nat.le_refl _) (qoC (by unfold seenO; rw [inN_t (a := 0) (b := 7) (by omega) (by omega) (by omega), if_pos rfl, inN_t (a := 0) (b := 999) (by omega) (by omega) (by omega), if_pos rfl, if_pos (by omega)]) h fc_rfl hX)
    · refine t_ifne0 (tgt := 26) dX4_seen_20 (by decide) ?_
      refine g_bipush dX4_seen_23 bp_m2 ?_
      exact g_ireturn dX4_seen_25 (Nat.le_refl _) (Nat.le_refl _) (qoC (by unfold seenO; rw [inN_t (a := 0) (b := 7) (by omega) (by omega) (by omega), if_pos rfl, inN_f (a := 0) (b := 999) (by omega) h17]; rfl) h fc_rfl hX)
  · refine t_ifne0 (tgt := 12) dX4_seen_7 (by decide) ?_
    refine g_iconst dX4_seen_10 ci_m1 ?_
    exact g_ireturn dX4_seen_11 (Nat.le_refl _) (Nat.le_refl _) (qoC (by unfold seenO; rw [inN_f (a := 0) (b := 7) (by omega) h4]; rfl) h fc_rfl hX)
def fcP (σ σ' : St) : Prop := (∀ q, q ≠ 27 → sA σ' q = sA σ q) ∧ (∀ o, o ≠ 26 → sI σ' o = sI σ o) ∧ sK σ' = sK σ ∧ sM σ' = sM σ
theorem fcP_rfl {σ : St} : fcP σ σ := ⟨fun _ _ => rfl, fun _ _ => rfl, rfl, rfl⟩
theorem qsC {Q : Option Value → va_W → Prop} {D : gE} {L : Nat → Nat} {σ : St} {s : Nat → Nat} {n : Nat} {x : Int32} (h : ∀ σ', fcP σ σ' → padC σ' (sayO s n x).2.1 (sayO s n x).2.2 → Q (some (.int (sayO s n x).1)) (wsOf D L σ')) {r : Int32} {s' : Nat → Nat} {n' : Nat} (e : sayO s n x = (r, s', n')) {σ' : St} (hf : fcP σ σ') (hp : padC σ' s' n') : Q (some (.int r)) (wsOf D L σ') := by
  rw [e] at h; exact h σ' hf hp
theorem padC_say {σ : St} {s : Nat → Nat} {n p : Nat} (hp : padC σ s n) (hn : n < 60) (hq : p < 127) : padC (setI (setA σ 27 (upd (sA σ 27) n (nI p))) 26 1 (nI (n + 1))) (updN s n p) (n + 1) := by
  refine ⟨sI_same _ _ _ _, by omega, fun i hi => ?_, fun i hi => ?_⟩
  · show (if i = n then nI p else sA σ 27 i) = nI (if i = n then p else s i)
    by_cases e : i = n
    · rw [if_pos e, if_pos e]
    · rw [if_neg e, if_neg e]; exact hp.2.2.1 i (by omega)
  · show (if i = n then p else s i) < 127
    by_cases e : i = n
    · rw [if_pos e]; exact hq
    · rw [if_neg e]; exact hp.2.2.2 i (by omega)
theorem fcP_I {a : St} (x : Int32) : fcP a (setI a 26 1 x) := ⟨fun _ _ => rfl, fun o ho => if_neg ho, rfl, rfl⟩
theorem fcP_AI {a : St} (f : Nat → Int32) (x : Int32) : fcP a (setI (setA a 27 f) 26 1 x) := ⟨fun q hq => if_neg hq, fun o ho => if_neg ho, rfl, rfl⟩
theorem padC_0 {σ : St} {s : Nat → Nat} : padC (setI σ 26 1 (nI 0)) s 0 := ⟨sI_same _ _ _ _, Nat.zero_le _, fun i hi => absurd hi (Nat.not_lt_zero i), fun i hi => absurd hi (Nat.not_lt_zero i)⟩
set_option maxHeartbeats 4000000 in
set_option maxRecDepth 20000 in
theorem c_X4_say {l : Launch} {D : gE} {L : Nat → Nat} {σ : St} {Q : Option Value → va_W → Prop} {d : Nat} {s : Nat → Nat} {n : Nat} (hp : padC σ s n) {x : Int32} (h : ∀ σ', fcP σ σ' → padC σ' (sayO s n x).2.1 (sayO s n x).2.2 → Q (some (.int ((sayO s n x).1))) (wsOf D L σ')) : Ctr l D yX4_say cX4_say 2 (some .int) (rr (d + 1)) [.ref (L 24), .int x] (wsOf D L σ) Q := by
  refine g_start ky_X4_say (Nat.le_of_ble_eq_true rfl) ?_
  refine g_pick [0, 1] (lv' := [(0, .ref (L 24)), (1, .int x)]) rfl ?_
  have hn60 := hp.2.1
  refine g_iload_n dX4_say_0 rfl 1 rfl ?_
  refine g_bipush dX4_say_1 bp_33 ?_
  refine g_bipush dX4_say_3 bp_126 ?_
  refine g_callS (As := [.int x, .int (nI 33), .int (nI 126)]) km_X4_44 ky_X4_within ks_X4_within (by decide) rfl (Nat.le_of_ble_eq_true rfl) dX4_say_5 rfl (c_X4_withinN (by omega) (by omega) (fun p5 ha5 hb5 he5 => ?_) (fun h5 => ?_))
  · subst he5
    refine t_ifne1 14 dX4_say_8 (by decide) ?_
    refine g_aload_n dX4_say_14 rfl 0 rfl ?_
    refine g_get kf_X4_26 kC_X4 (by decide) 24 at_24 rfl dX4_say_15 ?_
    refine g_get kf_X4_124 kC_X2 (by decide) 26 at_26 rfl dX4_say_18 ?_
    refine g_tope (z := nI n) (hp.1) ?_
    refine g_bipush dX4_say_21 bp_60 ?_
    refine n_icmplt 29 dX4_say_23 (by decide) (by omega) (by omega) (fun h23 => ?_) (fun h23 => ?_)
    · refine g_aload_n dX4_say_29 rfl 0 rfl ?_
      refine g_get kf_X4_26 kC_X4 (by decide) 24 at_24 rfl dX4_say_30 ?_
      refine g_get kf_X4_127 kC_X2 (by decide) 26 at_26 rfl dX4_say_33 ?_
      refine g_aload_n dX4_say_36 rfl 0 rfl ?_
      refine g_get kf_X4_26 kC_X4 (by decide) 24 at_24 rfl dX4_say_37 ?_
      refine g_get kf_X4_124 kC_X2 (by decide) 26 at_26 rfl dX4_say_40 ?_
      refine g_tope (z := nI n) (hp.1) ?_
      refine g_iload_n dX4_say_43 rfl 1 rfl ?_
      refine s_ast (q := 27) (n := 60) (at_ia (q := 27) rfl) (by omega) (by decide) dX4_say_44 ?_
      refine g_aload_n dX4_say_45 rfl 0 rfl ?_
      refine g_get kf_X4_26 kC_X4 (by decide) 24 at_24 rfl dX4_say_46 ?_
      refine g_dup dX4_say_49 rfl ?_
      refine g_get kf_X4_124 kC_X2 (by decide) 26 at_26 rfl dX4_say_50 ?_
      refine g_tope (z := nI n) (hp.1) ?_
      refine g_iconst dX4_say_53 ci_1 ?_
      refine g_iadd dX4_say_54 ?_
      refine g_tope (z := nI (n + 1)) (nI_add _ _) ?_
      refine s_putP kf_X4_124 dX4_say_55 ?_
      refine g_aload_n dX4_say_58 rfl 0 rfl ?_
      refine g_get kf_X4_26 kC_X4 (by decide) 24 at_24 rfl dX4_say_59 ?_
      refine g_get kf_X4_124 kC_X2 (by decide) 26 at_26 rfl dX4_say_62 ?_
      refine g_tope (z := nI (n + 1)) (sI_same _ _ _ _) ?_
      exact g_ireturn dX4_say_65 (Nat.le_refl _) (Nat.le_refl _) (qsC h (by unfold sayO; rw [inN_t (a := 33) (b := 126) (by omega) (by omega) (by omega), if_pos rfl, if_neg (by omega), nI_toInt (by omega)]; rfl) (fcP_AI _ _) (padC_say hp (by omega) (by omega)))
    · refine g_bipush dX4_say_26 bp_m4 ?_
      exact g_ireturn dX4_say_28 (Nat.le_refl _) (Nat.le_refl _) (qsC h (by unfold sayO; rw [inN_t (a := 33) (b := 126) (by omega) (by omega) (by omega), if_pos rfl, if_pos (by omega)]) fcP_rfl hp)
  · refine t_ifne0 (tgt := 14) dX4_say_8 (by decide) ?_
    refine g_bipush dX4_say_11 bp_m2 ?_
    exact g_ireturn dX4_say_13 (Nat.le_refl _) (Nat.le_refl _) (qsC h (by unfold sayO; rw [inN_f (a := 33) (b := 126) (by omega) h5]; rfl) fcP_rfl hp)
set_option maxHeartbeats 4000000 in
set_option maxRecDepth 20000 in
theorem c_X4_wipe {l : Launch} {D : gE} {L : Nat → Nat} {σ : St} {Q : Option Value → va_W → Prop} {d : Nat} {s : Nat → Nat} {n : Nat} (hp : padC σ s n) (h : ∀ σ', fcP σ σ' → padC σ' s 0 → Q (some (.int (nI n))) (wsOf D L σ')) : Ctr l D yX4_wipe cX4_wipe 2 (some .int) (rr d) [.ref (L 24)] (wsOf D L σ) Q := by
  refine g_start ky_X4_wipe (Nat.le_of_ble_eq_true rfl) ?_
  refine g_pick [0] (lv' := [(0, .ref (L 24))]) rfl ?_
  refine g_aload_n dX4_wipe_0 rfl 0 rfl ?_
  refine g_get kf_X4_26 kC_X4 (by decide) 24 at_24 rfl dX4_wipe_1 ?_
  refine g_get kf_X4_124 kC_X2 (by decide) 26 at_26 rfl dX4_wipe_4 ?_
  refine g_tope (z := nI n) (hp.1) ?_
  refine g_istore_n (lv' := [(1, .int (nI n)), (0, .ref (L 24))]) dX4_wipe_7 rfl (by decide) rfl ?_
  refine g_aload_n dX4_wipe_8 rfl 1 rfl ?_
  refine g_get kf_X4_26 kC_X4 (by decide) 24 at_24 rfl dX4_wipe_9 ?_
  refine g_iconst dX4_wipe_12 ci_0 ?_
  refine s_putP kf_X4_124 dX4_wipe_13 ?_
  refine g_iload_n dX4_wipe_16 rfl 0 rfl ?_
  exact g_ireturn dX4_wipe_17 (Nat.le_refl _) (Nat.le_refl _) (h _ (fcP_I _) padC_0)
set_option maxHeartbeats 4000000 in
set_option maxRecDepth 20000 in
theorem c_X4_fault {l : Launch} {D : gE} {L : Nat → Nat} {σ : St} {Q : Option Value → va_W → Prop} {d : Nat} {s : Nat → Nat} {n : Nat} (hp : padC σ s n) (h : Q (some (.int (fltR s n))) (wsOf D L σ)) : Ctr l D yX4_fault cX4_fault 1 (some .int) (rr (d + 4)) [.ref (L 24)] (wsOf D L σ) Q := by
  refine g_start ky_X4_fault (Nat.le_of_ble_eq_true rfl) ?_
  refine g_pick [0] (lv' := [(0, .ref (L 24))]) rfl ?_
  refine g_aload_n dX4_fault_0 rfl 0 rfl ?_
  refine g_get kf_X4_26 kC_X4 (by decide) 24 at_24 rfl dX4_fault_1 ?_
  refine g_callV (As := []) km_X4_130 ky_X2_faultPlace ki_X2_faultPlace (by decide) 26 at_26 rfl rfl (Nat.le_of_ble_eq_true rfl) dX4_fault_4 rfl (c_X2_faultPlace hp ?_)
  exact g_ireturn dX4_fault_7 (Nat.le_refl _) (Nat.le_refl _) (h)
