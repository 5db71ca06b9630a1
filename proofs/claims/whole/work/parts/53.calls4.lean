/-! mended, rumour, two of the class -/
theorem md_s (X : XT) (p g k : Nat) : mdN X p g (k + 1) = mdS X p g (mdN X p g k) k := rfl
set_option maxHeartbeats 4000000 in
set_option maxRecDepth 20000 in
theorem lp_X4_weakest {l : Launch} {D : gE} {L : Nat → Nat} {σ : St} {Q : Option Value → va_W → Prop} {d : Nat} {X : XT} (hX : rzT σ 0 X) (ho : okX X) {p g : Nat} (hp : p < 6) (hg : g < 6) (hn : ¬ waN X p g < 6) (h2 : mdN X p g 8 = none → Q (some (.int (-6))) (wsOf D L σ)) (h3 : ∀ c, mdN X p g 8 = some c → c < 8 → Q (some (.int (nI c))) (wsOf D L σ)) : ∀ n_ k, k + n_ = 8 → G l D yX4_weakestBridge cX4_weakestBridge 8 (some .int) (rr (d + 3)) Q 0 0 36 [(6, .int (nI k)), (5, .int (mdf (mdN X p g k))), (4, .int (nI (bitsN (beX X (buX X p)) 8))), (0, .ref (L 24)), (1, .int (nI (x_pl X p))), (2, .int (nI g)), (3, .int (nI (buX X p)))] [] (wsOf D L σ) := by
  intro n_
  induction n_ with
  | zero =>
    intro k hct
    obtain rfl : k = 8 := by omega
    refine g_iload dX4_weakestBridge_36 0 rfl ?_
    refine g_bipush dX4_weakestBridge_38 bp_8 ?_
    refine n_icmpge 128 dX4_weakestBridge_40 (by decide) (by omega) (by omega) (fun h40 => ?_) (fun h40 => absurd h40 (by omega))
    refine g_iload dX4_weakestBridge_128 1 rfl ?_
    rcases e9 : mdN X p g 8 with _ | c
    · exact g_ireturn dX4_weakestBridge_130 (Nat.le_refl _) (Nat.le_refl _) (h2 e9)
    · exact g_ireturn dX4_weakestBridge_130 (Nat.le_refl _) (Nat.le_refl _) (h3 c e9 (md_ok hn 8 c (Nat.le_refl 8) e9).1)
  | succ n_ ih =>
    intro k hct
    have hbb := ok_b ho (i := k) (by omega)
    have hpp := ok_p ho hp
    have hdl := @dN_le X (fun i => beX X (buX X p) i || i == k) (x_pl X p) g
    refine g_iload dX4_weakestBridge_36 0 rfl ?_
    refine g_bipush dX4_weakestBridge_38 bp_8 ?_
    refine n_icmpge 128 dX4_weakestBridge_40 (by decide) (by omega) (by omega) (fun h40 => absurd h40 (by omega)) (fun h40 => ?_)
    refine g_pick [0, 1, 2, 3, 4, 5, 6] (lv' := [(6, .int (nI k)), (5, .int (mdf (mdN X p g k))), (4, .int (nI (bitsN (beX X (buX X p)) 8))), (0, .ref (L 24)), (1, .int (nI (x_pl X p))), (2, .int (nI g)), (3, .int (nI (buX X p)))]) rfl ?_
    rcases e9 : mdN X p g k with _ | c
    · refine g_pick [0, 1, 2, 3, 4, 5, 6] (lv' := [(6, .int (nI k)), (5, .int (-6)), (4, .int (nI (bitsN (beX X (buX X p)) 8))), (0, .ref (L 24)), (1, .int (nI (x_pl X p))), (2, .int (nI g)), (3, .int (nI (buX X p)))]) rfl ?_
      refine g_iload dX4_weakestBridge_43 1 rfl ?_
      refine g_bipush dX4_weakestBridge_45 bp_m6 ?_
      refine g_icmpeq 73 dX4_weakestBridge_47 (by decide) (fun h47 => ?_) (fun h47 => absurd h47 (by decide +kernel))
      refine g_iconst dX4_weakestBridge_73 ci_1 ?_
      refine g_goto 78 dX4_weakestBridge_74 (by decide) ?_
      refine g_istore (lv' := [(7, .int (nI 1)), (6, .int (nI k)), (5, .int (-6)), (4, .int (nI (bitsN (beX X (buX X p)) 8))), (0, .ref (L 24)), (1, .int (nI (x_pl X p))), (2, .int (nI g)), (3, .int (nI (buX X p)))]) dX4_weakestBridge_78 (by decide) rfl ?_
      refine g_aload_n dX4_weakestBridge_80 rfl 4 rfl ?_
      refine g_get kf_X4_10 kC_X4 (by decide) 24 at_24 rfl dX4_weakestBridge_81 ?_
      refine g_iload dX4_weakestBridge_84 1 rfl ?_
      refine g_callV (As := [.int (nI k)]) km_X4_91 ky_X3_hasBridge ki_X3_hasBridge (by decide) 0 (at_tn (Or.inl rfl)) rfl rfl (Nat.le_of_ble_eq_true rfl) dX4_weakestBridge_86 rfl (c_X3_hasBridgeN (Or.inl rfl) hX ho (by omega) (fun h86 => ?_) (fun h86 => ?_))
      · refine t_ifeq1 (tgt := 122) dX4_weakestBridge_89 (by decide) ?_
        refine g_iload dX4_weakestBridge_92 0 rfl ?_
        refine t_ifeq1 (tgt := 122) dX4_weakestBridge_94 (by decide) ?_
        refine g_aload_n dX4_weakestBridge_97 rfl 4 rfl ?_
        refine g_get kf_X4_10 kC_X4 (by decide) 24 at_24 rfl dX4_weakestBridge_98 ?_
        refine g_iload_n dX4_weakestBridge_101 rfl 5 rfl ?_
        refine g_iload_n dX4_weakestBridge_102 rfl 6 rfl ?_
        refine g_iload dX4_weakestBridge_103 3 rfl ?_
        refine g_iconst dX4_weakestBridge_105 ci_1 ?_
        refine g_iload dX4_weakestBridge_106 1 rfl ?_
        refine g_ishl dX4_weakestBridge_108 ?_
        refine g_ior dX4_weakestBridge_109 ?_
        refine g_tope (z := nI (bitsN (fun i => (beX X (buX X p)) i || i == k) 8)) (obB _ (by decide) (by omega)) ?_
        refine g_callV (As := [.int (nI (x_pl X p)), .int (nI g), .int (nI (bitsN (fun i => (beX X (buX X p)) i || i == k) 8))]) km_X4_173 ky_X3_distance ki_X3_distance (by decide) 0 (at_tn (Or.inl rfl)) rfl rfl (Nat.le_of_ble_eq_true rfl) dX4_weakestBridge_110 rfl (c_X3_distance (Or.inl rfl) hX ho (by omega) (by omega) (fun h110 => ?_) (fun h110 => ?_))
        · refine g_bipush dX4_weakestBridge_113 bp_m6 ?_
          refine g_icmpeq 122 dX4_weakestBridge_115 (by decide) (fun h115 => absurd h115 (nI_n6 (by omega))) (fun h115 => ?_)
          refine g_iload dX4_weakestBridge_118 1 rfl ?_
          refine g_istore (lv' := [(5, .int (nI k)), (7, .int (nI 1)), (6, .int (nI k)), (4, .int (nI (bitsN (beX X (buX X p)) 8))), (0, .ref (L 24)), (1, .int (nI (x_pl X p))), (2, .int (nI g)), (3, .int (nI (buX X p)))]) dX4_weakestBridge_120 (by decide) rfl ?_
          refine g_iinc (v := nI (k + 1)) (lv' := [(6, .int (nI (k + 1))), (5, .int (nI k)), (7, .int (nI 1)), (4, .int (nI (bitsN (beX X (buX X p)) 8))), (0, .ref (L 24)), (1, .int (nI (x_pl X p))), (2, .int (nI g)), (3, .int (nI (buX X p)))]) dX4_weakestBridge_122 2 rfl (inc_n _) (by decide) rfl ?_
          refine g_goto 36 dX4_weakestBridge_125 (by decide) ?_
          refine g_pick [0, 1, 3, 4, 5, 6, 7] (lv' := [(6, .int (nI (k + 1))), (5, .int (nI k)), (4, .int (nI (bitsN (beX X (buX X p)) 8))), (0, .ref (L 24)), (1, .int (nI (x_pl X p))), (2, .int (nI g)), (3, .int (nI (buX X p)))]) rfl ?_
          have ih2 := ih (k + 1) (by omega)
          rw [show mdN X p g (k + 1) = some k by rw [md_s, e9]; unfold mdS; rw [if_pos ⟨h86, by rw [dN_sym]; exact h110, fun d hd => by cases hd⟩]] at ih2
          exact ih2
        · refine g_bipush dX4_weakestBridge_113 bp_m6 ?_
          refine g_icmpeq 122 dX4_weakestBridge_115 (by decide) (fun h115 => ?_) (fun h115 => absurd h115 (by decide +kernel))
          refine g_iinc (v := nI (k + 1)) (lv' := [(6, .int (nI (k + 1))), (7, .int (nI 1)), (5, .int (-6)), (4, .int (nI (bitsN (beX X (buX X p)) 8))), (0, .ref (L 24)), (1, .int (nI (x_pl X p))), (2, .int (nI g)), (3, .int (nI (buX X p)))]) dX4_weakestBridge_122 1 rfl (inc_n _) (by decide) rfl ?_
          refine g_goto 36 dX4_weakestBridge_125 (by decide) ?_
          refine g_pick [0, 2, 3, 4, 5, 6, 7] (lv' := [(6, .int (nI (k + 1))), (5, .int (-6)), (4, .int (nI (bitsN (beX X (buX X p)) 8))), (0, .ref (L 24)), (1, .int (nI (x_pl X p))), (2, .int (nI g)), (3, .int (nI (buX X p)))]) rfl ?_
          have ih2 := ih (k + 1) (by omega)
          rw [show mdN X p g (k + 1) = none by rw [md_s, e9]; unfold mdS; rw [if_neg (fun q => h110 (by rw [dN_sym]; exact q.2.1))]] at ih2
          exact ih2
      · refine t_ifeq0 122 dX4_weakestBridge_89 (by decide) ?_
        refine g_iinc (v := nI (k + 1)) (lv' := [(6, .int (nI (k + 1))), (7, .int (nI 1)), (5, .int (-6)), (4, .int (nI (bitsN (beX X (buX X p)) 8))), (0, .ref (L 24)), (1, .int (nI (x_pl X p))), (2, .int (nI g)), (3, .int (nI (buX X p)))]) dX4_weakestBridge_122 1 rfl (inc_n _) (by decide) rfl ?_
        refine g_goto 36 dX4_weakestBridge_125 (by decide) ?_
        refine g_pick [0, 2, 3, 4, 5, 6, 7] (lv' := [(6, .int (nI (k + 1))), (5, .int (-6)), (4, .int (nI (bitsN (beX X (buX X p)) 8))), (0, .ref (L 24)), (1, .int (nI (x_pl X p))), (2, .int (nI g)), (3, .int (nI (buX X p)))]) rfl ?_
        have ih2 := ih (k + 1) (by omega)
        rw [show mdN X p g (k + 1) = none by rw [md_s, e9]; unfold mdS; rw [if_neg (fun q => absurd (h86.symm.trans q.1) (by decide))]] at ih2
        exact ih2
    · refine g_pick [0, 1, 2, 3, 4, 5, 6] (lv' := [(6, .int (nI k)), (5, .int (nI c)), (4, .int (nI (bitsN (beX X (buX X p)) 8))), (0, .ref (L 24)), (1, .int (nI (x_pl X p))), (2, .int (nI g)), (3, .int (nI (buX X p)))]) rfl ?_
      have hc := (md_ok hn k c (by omega) e9).1
      have hbc := ok_b ho (i := c) (by omega)
      refine g_iload dX4_weakestBridge_43 1 rfl ?_
      refine g_bipush dX4_weakestBridge_45 bp_m6 ?_
      refine g_icmpeq 73 dX4_weakestBridge_47 (by decide) (fun h47 => absurd h47 (nI_n6 (by omega))) (fun h47 => ?_)
      refine g_aload_n dX4_weakestBridge_50 rfl 3 rfl ?_
      refine g_get kf_X4_10 kC_X4 (by decide) 24 at_24 rfl dX4_weakestBridge_51 ?_
      refine s_getT (b := 0) (Or.inl rfl) kf_X4_79 (by decide) rfl dX4_weakestBridge_54 ?_
      refine g_iload dX4_weakestBridge_57 0 rfl ?_
      refine s_ald (q := 3) (n := 8) (at_ia (q := 3) rfl) (by omega) (by decide) dX4_weakestBridge_59 ?_
      refine g_tope (z := nI (x_ld X k)) (rpT_ld hX.1 (by omega)) ?_
      refine g_aload_n dX4_weakestBridge_60 rfl 3 rfl ?_
      refine g_get kf_X4_10 kC_X4 (by decide) 24 at_24 rfl dX4_weakestBridge_61 ?_
      refine s_getT (b := 0) (Or.inl rfl) kf_X4_79 (by decide) rfl dX4_weakestBridge_64 ?_
      refine g_iload dX4_weakestBridge_67 1 rfl ?_
      refine s_ald (q := 3) (n := 8) (at_ia (q := 3) rfl) (by omega) (by decide) dX4_weakestBridge_69 ?_
      refine g_tope (z := nI (x_ld X c)) (rpT_ld hX.1 (by omega)) ?_
      refine n_icmple 77 dX4_weakestBridge_70 (by decide) (by omega) (by omega) (fun h70 => ?_) (fun h70 => ?_)
      · refine g_iconst dX4_weakestBridge_77 ci_0 ?_
        refine g_istore (lv' := [(7, .int (nI 0)), (6, .int (nI k)), (5, .int (nI c)), (4, .int (nI (bitsN (beX X (buX X p)) 8))), (0, .ref (L 24)), (1, .int (nI (x_pl X p))), (2, .int (nI g)), (3, .int (nI (buX X p)))]) dX4_weakestBridge_78 (by decide) rfl ?_
        refine g_aload_n dX4_weakestBridge_80 rfl 4 rfl ?_
        refine g_get kf_X4_10 kC_X4 (by decide) 24 at_24 rfl dX4_weakestBridge_81 ?_
        refine g_iload dX4_weakestBridge_84 1 rfl ?_
        refine g_callV (As := [.int (nI k)]) km_X4_91 ky_X3_hasBridge ki_X3_hasBridge (by decide) 0 (at_tn (Or.inl rfl)) rfl rfl (Nat.le_of_ble_eq_true rfl) dX4_weakestBridge_86 rfl (c_X3_hasBridgeN (Or.inl rfl) hX ho (by omega) (fun h86 => ?_) (fun h86 => ?_))
        · refine t_ifeq1 (tgt := 122) dX4_weakestBridge_89 (by decide) ?_
          refine g_iload dX4_weakestBridge_92 0 rfl ?_
          refine t_ifeq0 122 dX4_weakestBridge_94 (by decide) ?_
          refine g_iinc (v := nI (k + 1)) (lv' := [(6, .int (nI (k + 1))), (7, .int (nI 0)), (5, .int (nI c)), (4, .int (nI (bitsN (beX X (buX X p)) 8))), (0, .ref (L 24)), (1, .int (nI (x_pl X p))), (2, .int (nI g)), (3, .int (nI (buX X p)))]) dX4_weakestBridge_122 1 rfl (inc_n _) (by decide) rfl ?_
          refine g_goto 36 dX4_weakestBridge_125 (by decide) ?_
          refine g_pick [0, 2, 3, 4, 5, 6, 7] (lv' := [(6, .int (nI (k + 1))), (5, .int (nI c)), (4, .int (nI (bitsN (beX X (buX X p)) 8))), (0, .ref (L 24)), (1, .int (nI (x_pl X p))), (2, .int (nI g)), (3, .int (nI (buX X p)))]) rfl ?_
          have ih2 := ih (k + 1) (by omega)
          rw [show mdN X p g (k + 1) = some c by rw [md_s, e9]; unfold mdS; rw [if_neg (fun q => by have := q.2.2 c rfl; omega)]] at ih2
          exact ih2
        · refine t_ifeq0 122 dX4_weakestBridge_89 (by decide) ?_
          refine g_iinc (v := nI (k + 1)) (lv' := [(6, .int (nI (k + 1))), (7, .int (nI 0)), (5, .int (nI c)), (4, .int (nI (bitsN (beX X (buX X p)) 8))), (0, .ref (L 24)), (1, .int (nI (x_pl X p))), (2, .int (nI g)), (3, .int (nI (buX X p)))]) dX4_weakestBridge_122 1 rfl (inc_n _) (by decide) rfl ?_
          refine g_goto 36 dX4_weakestBridge_125 (by decide) ?_
          refine g_pick [0, 2, 3, 4, 5, 6, 7] (lv' := [(6, .int (nI (k + 1))), (5, .int (nI c)), (4, .int (nI (bitsN (beX X (buX X p)) 8))), (0, .ref (L 24)), (1, .int (nI (x_pl X p))), (2, .int (nI g)), (3, .int (nI (buX X p)))]) rfl ?_
          have ih2 := ih (k + 1) (by omega)
          rw [show mdN X p g (k + 1) = some c by rw [md_s, e9]; unfold mdS; rw [if_neg (fun q => absurd (h86.symm.trans q.1) (by decide))]] at ih2
          exact ih2
      · refine g_iconst dX4_weakestBridge_73 ci_1 ?_
        refine g_goto 78 dX4_weakestBridge_74 (by decide) ?_
        refine g_istore (lv' := [(7, .int (nI 1)), (6, .int (nI k)), (5, .int (nI c)), (4, .int (nI (bitsN (beX X (buX X p)) 8))), (0, .ref (L 24)), (1, .int (nI (x_pl X p))), (2, .int (nI g)), (3, .int (nI (buX X p)))]) dX4_weakestBridge_78 (by decide) rfl ?_
        refine g_aload_n dX4_weakestBridge_80 rfl 4 rfl ?_
        refine g_get kf_X4_10 kC_X4 (by decide) 24 at_24 rfl dX4_weakestBridge_81 ?_
        refine g_iload dX4_weakestBridge_84 1 rfl ?_
        refine g_callV (As := [.int (nI k)]) km_X4_91 ky_X3_hasBridge ki_X3_hasBridge (by decide) 0 (at_tn (Or.inl rfl)) rfl rfl (Nat.le_of_ble_eq_true rfl) dX4_weakestBridge_86 rfl (c_X3_hasBridgeN (Or.inl rfl) hX ho (by omega) (fun h86 => ?_) (fun h86 => ?_))
        · refine t_ifeq1 (tgt := 122) dX4_weakestBridge_89 (by decide) ?_
          refine g_iload dX4_weakestBridge_92 0 rfl ?_
          refine t_ifeq1 (tgt := 122) dX4_weakestBridge_94 (by decide) ?_
          refine g_aload_n dX4_weakestBridge_97 rfl 4 rfl ?_
          refine g_get kf_X4_10 kC_X4 (by decide) 24 at_24 rfl dX4_weakestBridge_98 ?_
          refine g_iload_n dX4_weakestBridge_101 rfl 5 rfl ?_
          refine g_iload_n dX4_weakestBridge_102 rfl 6 rfl ?_
          refine g_iload dX4_weakestBridge_103 3 rfl ?_
          refine g_iconst dX4_weakestBridge_105 ci_1 ?_
          refine g_iload dX4_weakestBridge_106 1 rfl ?_
          refine g_ishl dX4_weakestBridge_108 ?_
          refine g_ior dX4_weakestBridge_109 ?_
          refine g_tope (z := nI (bitsN (fun i => (beX X (buX X p)) i || i == k) 8)) (obB _ (by decide) (by omega)) ?_
          refine g_callV (As := [.int (nI (x_pl X p)), .int (nI g), .int (nI (bitsN (fun i => (beX X (buX X p)) i || i == k) 8))]) km_X4_173 ky_X3_distance ki_X3_distance (by decide) 0 (at_tn (Or.inl rfl)) rfl rfl (Nat.le_of_ble_eq_true rfl) dX4_weakestBridge_110 rfl (c_X3_distance (Or.inl rfl) hX ho (by omega) (by omega) (fun h110 => ?_) (fun h110 => ?_))
          · refine g_bipush dX4_weakestBridge_113 bp_m6 ?_
            refine g_icmpeq 122 dX4_weakestBridge_115 (by decide) (fun h115 => absurd h115 (nI_n6 (by omega))) (fun h115 => ?_)
            refine g_iload dX4_weakestBridge_118 1 rfl ?_
            refine g_istore (lv' := [(5, .int (nI k)), (7, .int (nI 1)), (6, .int (nI k)), (4, .int (nI (bitsN (beX X (buX X p)) 8))), (0, .ref (L 24)), (1, .int (nI (x_pl X p))), (2, .int (nI g)), (3, .int (nI (buX X p)))]) dX4_weakestBridge_120 (by decide) rfl ?_
            refine g_iinc (v := nI (k + 1)) (lv' := [(6, .int (nI (k + 1))), (5, .int (nI k)), (7, .int (nI 1)), (4, .int (nI (bitsN (beX X (buX X p)) 8))), (0, .ref (L 24)), (1, .int (nI (x_pl X p))), (2, .int (nI g)), (3, .int (nI (buX X p)))]) dX4_weakestBridge_122 2 rfl (inc_n _) (by decide) rfl ?_
            refine g_goto 36 dX4_weakestBridge_125 (by decide) ?_
            refine g_pick [0, 1, 3, 4, 5, 6, 7] (lv' := [(6, .int (nI (k + 1))), (5, .int (nI k)), (4, .int (nI (bitsN (beX X (buX X p)) 8))), (0, .ref (L 24)), (1, .int (nI (x_pl X p))), (2, .int (nI g)), (3, .int (nI (buX X p)))]) rfl ?_
            have ih2 := ih (k + 1) (by omega)
            rw [show mdN X p g (k + 1) = some k by rw [md_s, e9]; unfold mdS; rw [if_pos ⟨h86, by rw [dN_sym]; exact h110, fun d hd => by cases hd; omega⟩]] at ih2
            exact ih2
          · refine g_bipush dX4_weakestBridge_113 bp_m6 ?_
            refine g_icmpeq 122 dX4_weakestBridge_115 (by decide) (fun h115 => ?_) (fun h115 => absurd h115 (by decide +kernel))
            refine g_iinc (v := nI (k + 1)) (lv' := [(6, .int (nI (k + 1))), (7, .int (nI 1)), (5, .int (nI c)), (4, .int (nI (bitsN (beX X (buX X p)) 8))), (0, .ref (L 24)), (1, .int (nI (x_pl X p))), (2, .int (nI g)), (3, .int (nI (buX X p)))]) dX4_weakestBridge_122 1 rfl (inc_n _) (by decide) rfl ?_
            refine g_goto 36 dX4_weakestBridge_125 (by decide) ?_
            refine g_pick [0, 2, 3, 4, 5, 6, 7] (lv' := [(6, .int (nI (k + 1))), (5, .int (nI c)), (4, .int (nI (bitsN (beX X (buX X p)) 8))), (0, .ref (L 24)), (1, .int (nI (x_pl X p))), (2, .int (nI g)), (3, .int (nI (buX X p)))]) rfl ?_
            have ih2 := ih (k + 1) (by omega)
            rw [show mdN X p g (k + 1) = some c by rw [md_s, e9]; unfold mdS; rw [if_neg (fun q => h110 (by rw [dN_sym]; exact q.2.1))]] at ih2
            exact ih2
        · refine t_ifeq0 122 dX4_weakestBridge_89 (by decide) ?_
          refine g_iinc (v := nI (k + 1)) (lv' := [(6, .int (nI (k + 1))), (7, .int (nI 1)), (5, .int (nI c)), (4, .int (nI (bitsN (beX X (buX X p)) 8))), (0, .ref (L 24)), (1, .int (nI (x_pl X p))), (2, .int (nI g)), (3, .int (nI (buX X p)))]) dX4_weakestBridge_122 1 rfl (inc_n _) (by decide) rfl ?_
          refine g_goto 36 dX4_weakestBridge_125 (by decide) ?_
          refine g_pick [0, 2, 3, 4, 5, 6, 7] (lv' := [(6, .int (nI (k + 1))), (5, .int (nI c)), (4, .int (nI (bitsN (beX X (buX X p)) 8))), (0, .ref (L 24)), (1, .int (nI (x_pl X p))), (2, .int (nI g)), (3, .int (nI (buX X p)))]) rfl ?_
          have ih2 := ih (k + 1) (by omega)
          rw [show mdN X p g (k + 1) = some c by rw [md_s, e9]; unfold mdS; rw [if_neg (fun q => absurd (h86.symm.trans q.1) (by decide))]] at ih2
          exact ih2
set_option maxHeartbeats 4000000 in
set_option maxRecDepth 20000 in
theorem c_X4_weakest {l : Launch} {D : gE} {L : Nat → Nat} {σ : St} {Q : Option Value → va_W → Prop} {d : Nat} {X : XT} (hX : rzT σ 0 X) (ho : okX X) {p g : Nat} (hp : p < 6) (hg : g < 6) (h1 : waN X p g < 6 → Q (some (.int (-6))) (wsOf D L σ)) (h2 : ¬ waN X p g < 6 → mdN X p g 8 = none → Q (some (.int (-6))) (wsOf D L σ)) (h3 : ¬ waN X p g < 6 → ∀ c, mdN X p g 8 = some c → c < 8 → Q (some (.int (nI c))) (wsOf D L σ)) : Ctr l D yX4_weakestBridge cX4_weakestBridge 8 (some .int) (rr (d + 3)) [.ref (L 24), .int (nI (x_pl X p)), .int (nI g), .int (nI (buX X p))] (wsOf D L σ) Q := by
  refine g_start ky_X4_weakestBridge (Nat.le_of_ble_eq_true rfl) ?_
  refine g_pick [0, 1, 2, 3] (lv' := [(0, .ref (L 24)), (1, .int (nI (x_pl X p))), (2, .int (nI g)), (3, .int (nI (buX X p)))]) rfl ?_
  have hpp := ok_p ho hp
  have hbu := bu_bd ho p
  have hdl := @dN_le X (beX X (buX X p)) (x_pl X p) g
  refine g_aload_n dX4_weakestBridge_0 rfl 0 rfl ?_
  refine g_get kf_X4_10 kC_X4 (by decide) 24 at_24 rfl dX4_weakestBridge_1 ?_
  refine g_iload_n dX4_weakestBridge_4 rfl 3 rfl ?_
  refine g_callV (As := [.int (nI (buX X p))]) km_X4_170 ky_X3_bearing ki_X3_bearing (by decide) 0 (at_tn (Or.inl rfl)) rfl rfl (Nat.le_of_ble_eq_true rfl) dX4_weakestBridge_5 rfl (c_X3_bearing (Or.inl rfl) hX ho (by omega) ?_)
  refine g_istore (lv' := [(4, .int (nI (bitsN (beX X (buX X p)) 8))), (0, .ref (L 24)), (1, .int (nI (x_pl X p))), (2, .int (nI g)), (3, .int (nI (buX X p)))]) dX4_weakestBridge_8 (by decide) rfl ?_
  refine g_aload_n dX4_weakestBridge_10 rfl 1 rfl ?_
  refine g_get kf_X4_10 kC_X4 (by decide) 24 at_24 rfl dX4_weakestBridge_11 ?_
  refine g_iload_n dX4_weakestBridge_14 rfl 2 rfl ?_
  refine g_iload_n dX4_weakestBridge_15 rfl 3 rfl ?_
  refine g_iload dX4_weakestBridge_16 0 rfl ?_
  refine g_callV (As := [.int (nI (x_pl X p)), .int (nI g), .int (nI (bitsN (beX X (buX X p)) 8))]) km_X4_173 ky_X3_distance ki_X3_distance (by decide) 0 (at_tn (Or.inl rfl)) rfl rfl (Nat.le_of_ble_eq_true rfl) dX4_weakestBridge_18 rfl (c_X3_distance (Or.inl rfl) hX ho (by omega) (by omega) (fun h18 => ?_) (fun h18 => ?_))
  · refine g_bipush dX4_weakestBridge_21 bp_m6 ?_
    refine g_icmpeq 29 dX4_weakestBridge_23 (by decide) (fun h23 => absurd h23 (nI_n6 (by omega))) (fun h23 => ?_)
    refine g_bipush dX4_weakestBridge_26 bp_m6 ?_
    exact g_ireturn dX4_weakestBridge_28 (Nat.le_refl _) (Nat.le_refl _) (h1 (by unfold waN; rw [dN_sym]; exact h18))
  · refine g_bipush dX4_weakestBridge_21 bp_m6 ?_
    refine g_icmpeq 29 dX4_weakestBridge_23 (by decide) (fun h23 => ?_) (fun h23 => absurd h23 (by decide +kernel))
    refine g_bipush dX4_weakestBridge_29 bp_m6 ?_
    refine g_tope (z := mdf (mdN X p g 0)) (rfl) ?_
    refine g_istore (lv' := [(5, .int (mdf (mdN X p g 0))), (4, .int (nI (bitsN (beX X (buX X p)) 8))), (0, .ref (L 24)), (1, .int (nI (x_pl X p))), (2, .int (nI g)), (3, .int (nI (buX X p)))]) dX4_weakestBridge_31 (by decide) rfl ?_
    refine g_iconst dX4_weakestBridge_33 ci_0 ?_
    refine g_istore (lv' := [(6, .int (nI 0)), (5, .int (mdf (mdN X p g 0))), (4, .int (nI (bitsN (beX X (buX X p)) 8))), (0, .ref (L 24)), (1, .int (nI (x_pl X p))), (2, .int (nI g)), (3, .int (nI (buX X p)))]) dX4_weakestBridge_34 (by decide) rfl ?_
    refine g_pick [0, 1, 2, 3, 4, 5, 6] (lv' := [(6, .int (nI 0)), (5, .int (mdf (mdN X p g 0))), (4, .int (nI (bitsN (beX X (buX X p)) 8))), (0, .ref (L 24)), (1, .int (nI (x_pl X p))), (2, .int (nI g)), (3, .int (nI (buX X p)))]) rfl ?_
    have hn : ¬ waN X p g < 6 := by unfold waN; rw [dN_sym]; exact h18
    exact lp_X4_weakest hX ho hp hg hn (h2 hn) (h3 hn) 8 0 rfl
set_option maxHeartbeats 4000000 in
set_option maxRecDepth 20000 in
theorem c_X4_mended {l : Launch} {D : gE} {L : Nat → Nat} {σ : St} {Q : Option Value → va_W → Prop} {d : Nat} {X : XT} (hX : rzT σ 0 X) (ho : okX X) {x y z : Int32} (h : ∀ σ', fc σ σ' → rzT σ' 0 X → Q (some (.int (mendedR X x y z))) (wsOf D L σ')) : Ctr l D yX4_mended cX4_mended 7 (some .int) (rr (d + 4)) [.ref (L 24), .int x, .int y, .int z] (wsOf D L σ) Q := by
  refine g_start ky_X4_mended (Nat.le_of_ble_eq_true rfl) ?_
  refine g_pick [0, 1, 2, 3] (lv' := [(0, .ref (L 24)), (1, .int x), (2, .int y), (3, .int z)]) rfl ?_
  refine g_aload_n dX4_mended_0 rfl 0 rfl ?_
  refine g_iload_n dX4_mended_1 rfl 1 rfl ?_
  refine g_iload_n dX4_mended_2 rfl 2 rfl ?_
  refine g_iload_n dX4_mended_3 rfl 3 rfl ?_
  refine g_callV (As := [.int x, .int y, .int z]) km_X4_181 ky_X4_refuseTrip ki_X4_refuseTrip (by decide) 24 at_24 rfl rfl (Nat.le_of_ble_eq_true rfl) dX4_mended_4 rfl (c_X4_refuseTrip hX ho (fun p t w hp hth ht hw hx hy hz => ?_) (fun h4 => ?_) (fun h4 g4 => ?_))
  · subst hx
    subst hy
    subst hz
    have hsz := ok_sz ho
    have hpp := ok_p ho hp
    have hbu := bu_bd ho p
    refine g_istore (lv' := [(4, .int (nI 0)), (0, .ref (L 24)), (1, .int (nI p)), (2, .int (nI t)), (3, .int (nI w))]) dX4_mended_7 (by decide) rfl ?_
    refine g_iload dX4_mended_9 0 rfl ?_
    refine t_ifeq0 17 dX4_mended_11 (by decide) ?_
    refine g_aload_n dX4_mended_17 rfl 1 rfl ?_
    refine g_get kf_X4_10 kC_X4 (by decide) 24 at_24 rfl dX4_mended_18 ?_
    refine g_iload_n dX4_mended_21 rfl 2 rfl ?_
    refine g_callV (As := [.int (nI p)]) km_X4_156 ky_X3_burden ki_X3_burden (by decide) 0 (at_tn (Or.inl rfl)) rfl rfl (Nat.le_of_ble_eq_true rfl) dX4_mended_22 rfl (c_X3_burden (Or.inl rfl) hX ho (by omega) ?_)
    refine g_istore (lv' := [(5, .int (nI (buX X p))), (4, .int (nI 0)), (0, .ref (L 24)), (1, .int (nI p)), (2, .int (nI t)), (3, .int (nI w))]) dX4_mended_25 (by decide) rfl ?_
    refine g_aload_n dX4_mended_27 rfl 2 rfl ?_
    refine g_aload_n dX4_mended_28 rfl 2 rfl ?_
    refine g_get kf_X4_10 kC_X4 (by decide) 24 at_24 rfl dX4_mended_29 ?_
    refine s_getT (b := 0) (Or.inl rfl) kf_X4_97 (by decide) rfl dX4_mended_32 ?_
    refine g_iload_n dX4_mended_35 rfl 3 rfl ?_
    refine s_ald (q := 5) (n := 6) (at_ia (q := 5) rfl) (by omega) (by decide) dX4_mended_36 ?_
    refine g_tope (z := nI (x_pl X p)) (rpT_pl hX.1 (by omega)) ?_
    refine g_iload_n dX4_mended_37 rfl 4 rfl ?_
    refine g_iload dX4_mended_38 0 rfl ?_
    refine g_callV (As := [.int (nI (x_pl X p)), .int (nI t), .int (nI (buX X p))]) km_X4_193 ky_X4_weakestBridge ki_X4_weakestBridge (by decide) 24 at_24 rfl rfl (Nat.le_of_ble_eq_true rfl) dX4_mended_40 rfl (c_X4_weakest hX ho hp (by omega) (fun hw6 => ?_) (fun hw6 e9 => ?_) (fun hw6 c e9 hc => ?_))
    · refine g_istore (lv' := [(6, .int (-6)), (5, .int (nI (buX X p))), (4, .int (nI 0)), (0, .ref (L 24)), (1, .int (nI p)), (2, .int (nI t)), (3, .int (nI w))]) dX4_mended_43 (by decide) rfl ?_
      refine g_iload dX4_mended_45 0 rfl ?_
      refine g_bipush dX4_mended_47 bp_m6 ?_
      refine g_icmpne 55 dX4_mended_49 (by decide) (fun h49 => absurd h49 (by decide +kernel)) (fun h49 => ?_)
      refine g_bipush dX4_mended_52 bp_m6 ?_
      exact g_ireturn dX4_mended_54 (Nat.le_refl _) (Nat.le_refl _) (qi (by unfold mendedR; rw [thI_t hp hth, teI_t ho ht, ix6 hp, ixt ho ht, if_pos (by rfl), inN_t (a := 0) (b := 1) (by omega) hw (by omega), if_pos rfl, if_pos hw6]) (h _ fc_rfl hX))
    · refine g_istore (lv' := [(6, .int (-6)), (5, .int (nI (buX X p))), (4, .int (nI 0)), (0, .ref (L 24)), (1, .int (nI p)), (2, .int (nI t)), (3, .int (nI w))]) dX4_mended_43 (by decide) rfl ?_
      refine g_iload dX4_mended_45 0 rfl ?_
      refine g_bipush dX4_mended_47 bp_m6 ?_
      refine g_icmpne 55 dX4_mended_49 (by decide) (fun h49 => absurd h49 (by decide +kernel)) (fun h49 => ?_)
      refine g_bipush dX4_mended_52 bp_m6 ?_
      exact g_ireturn dX4_mended_54 (Nat.le_refl _) (Nat.le_refl _) (qi (by unfold mendedR; rw [thI_t hp hth, teI_t ho ht, ix6 hp, ixt ho ht, if_pos (by rfl), inN_t (a := 0) (b := 1) (by omega) hw (by omega), if_pos rfl, if_neg hw6, e9]; rfl) (h _ fc_rfl hX))
    · have hbc := ok_b ho hc
      have hlt := be_lt (md_ok hw6 8 c (Nat.le_refl 8) e9).2.1 (md_ok hw6 8 c (Nat.le_refl 8) e9).2.2
      refine g_istore (lv' := [(6, .int (nI c)), (5, .int (nI (buX X p))), (4, .int (nI 0)), (0, .ref (L 24)), (1, .int (nI p)), (2, .int (nI t)), (3, .int (nI w))]) dX4_mended_43 (by decide) rfl ?_
      refine g_iload dX4_mended_45 0 rfl ?_
      refine g_bipush dX4_mended_47 bp_m6 ?_
      refine g_icmpne 55 dX4_mended_49 (by decide) (fun h49 => ?_) (fun h49 => absurd h49 (nI_n6 (by omega)))
      refine g_iload_n dX4_mended_55 rfl 6 rfl ?_
      refine n_ifne 64 dX4_mended_56 (by decide) (by omega) (fun h56 => ?_) (fun h56 => ?_)
      · refine g_iload dX4_mended_64 1 rfl ?_
        refine g_aload_n dX4_mended_66 rfl 3 rfl ?_
        refine g_get kf_X4_10 kC_X4 (by decide) 24 at_24 rfl dX4_mended_67 ?_
        refine s_getT (b := 0) (Or.inl rfl) kf_X4_79 (by decide) rfl dX4_mended_70 ?_
        refine g_iload dX4_mended_73 0 rfl ?_
        refine s_ald (q := 3) (n := 8) (at_ia (q := 3) rfl) (by omega) (by decide) dX4_mended_75 ?_
        refine g_tope (z := nI (x_ld X c)) (rpT_ld hX.1 (by omega)) ?_
        refine g_isub dX4_mended_76 ?_
        refine g_tope (z := nI ((buX X p) - (x_ld X c))) (pk_sub (by omega)) ?_
        exact g_ireturn dX4_mended_77 (Nat.le_refl _) (Nat.le_refl _) (qi (by unfold mendedR; rw [thI_t hp hth, teI_t ho ht, ix6 hp, ixt ho ht, if_pos (by rfl), inN_t (a := 0) (b := 1) (by omega) hw (by omega), if_pos rfl, if_neg hw6, e9]; simp only [mdR]; rw [if_neg (fun e => h56 ((nI_eq (by omega) (by omega)).mp e))]) (h _ fc_rfl hX))
      · refine g_iload dX4_mended_59 0 rfl ?_
        refine g_goto 77 dX4_mended_61 (by decide) ?_
        exact g_ireturn dX4_mended_77 (Nat.le_refl _) (Nat.le_refl _) (qi (by unfold mendedR; rw [thI_t hp hth, teI_t ho ht, ix6 hp, ixt ho ht, if_pos (by rfl), inN_t (a := 0) (b := 1) (by omega) hw (by omega), if_pos rfl, if_neg hw6, e9]; simp only [mdR]; rw [h56, if_pos rfl]) (h _ fc_rfl hX))
  · refine g_istore (lv' := [(4, .int (-1)), (0, .ref (L 24)), (1, .int x), (2, .int y), (3, .int z)]) dX4_mended_7 (by decide) rfl ?_
    refine g_iload dX4_mended_9 0 rfl ?_
    refine g_ifeq 17 dX4_mended_11 (by decide) (fun h11 => absurd h11 (by decide +kernel)) (fun h11 => ?_)
    refine g_iload dX4_mended_14 0 rfl ?_
    exact g_ireturn dX4_mended_16 (Nat.le_refl _) (Nat.le_refl _) (qi (by unfold mendedR; rw [h4, if_neg (by decide)]) (h _ fc_rfl hX))
  · refine g_istore (lv' := [(4, .int (-2)), (0, .ref (L 24)), (1, .int x), (2, .int y), (3, .int z)]) dX4_mended_7 (by decide) rfl ?_
    refine g_iload dX4_mended_9 0 rfl ?_
    refine g_ifeq 17 dX4_mended_11 (by decide) (fun h11 => absurd h11 (by decide +kernel)) (fun h11 => ?_)
    refine g_iload dX4_mended_14 0 rfl ?_
    exact g_ireturn dX4_mended_16 (Nat.le_refl _) (Nat.le_refl _) (qi (by unfold mendedR; rw [h4, if_pos rfl, g4, if_neg (by decide)]) (h _ fc_rfl hX))
theorem bits0 {f : Nat → Bool} {n : Nat} (hn : n ≤ 31) : nI (bitsN f n) = 0 ↔ anyN f n = false := by
  have e0 : (0 : Int32) = nI (bitsN (fun _ => false) n) := by
    have : bitsN (fun _ => false) n = 0 := by
      induction n with
      | zero => rfl
      | succ n ih => show bitsN (fun _ => false) n + 0 = 0; rw [ih (by omega)]
    rw [this]; rfl
  rw [e0, bitsN_eq_iff hn]
  constructor
  · intro h
    cases e : anyN f n with
    | false => rfl
    | true =>
      obtain ⟨i, hi, h2⟩ := (anyN_iff f n).mp e
      rw [h i hi] at h2; cases h2
  · intro h i hi
    cases e : f i with
    | false => rfl
    | true =>
      have := (anyN_iff f n).mpr ⟨i, hi, e⟩
      rw [h] at this; cases this
theorem rn_of_ta {X : XT} {k : Nat} {σ : St} {b : Nat} (h : rzT σ b (taX X (fun p => rcX X k p && !x_kn X p k) (fun i => i == k) 6)) : rzT σ b (rnX X k) := by
  refine rzT_cong h (by simp only [taX, rnX, x_sz_kn]) (by simp only [taX, rnX, x_br_kn]) (by simp only [taX, rnX, x_th_kn]) (by simp only [taX, rnX, x_pu_kn]) (by simp only [taX, rnX, x_fa_kn]) (by simp only [taX, rnX, x_sg_kn]) (fun i hi => by simp only [taX, rnX, x_lo_kn, x_hi_kn, x_ld_kn, x_bn_kn, x_wt_kn, x_ab_kn, and_self]) (fun i hi => by simp only [taX, rnX, x_pl_kn, x_ki_kn, x_sb_kn, x_sv_kn, and_self]) (fun i hi j hj => ?_)
  simp only [taX, rnX, x_kn_kn]
  by_cases c : (rcX X k i && !x_kn X i k) = true
  · rw [if_pos ⟨hi, c⟩]
    rw [Bool.and_eq_true] at c
    rw [c.1, Bool.and_true]
  · rw [if_neg (fun q => c q.2)]
    cases e : (j == k) with
    | false => rw [Bool.false_and, Bool.or_false]
    | true =>
      rw [beq_iff_eq] at e
      subst e
      cases e2 : rcX X j i with
      | false => rw [Bool.and_false, Bool.or_false]
      | true =>
        rw [e2, Bool.true_and] at c
        have : x_kn X i j = true := by cases e3 : x_kn X i j; rw [e3] at c; exact absurd rfl c; rfl
        rw [this]; rfl
theorem ft_0 {a b : St} {X : XT} (h : ft 12 a b) (hX : rzT a 0 X) : rzT b 0 X := fD_0 (ft_fD h) hX
set_option maxHeartbeats 4000000 in
set_option maxRecDepth 20000 in
theorem lp_X4_rumour {l : Launch} {D : gE} {L : Nat → Nat} {σ : St} {Q : Option Value → va_W → Prop} {d : Nat} {X : XT} (hX : rzT σ 0 X) (ho : okX X) {k : Nat} (hk : k < 8) (h : ∀ σ', fc σ σ' → rzT σ' 0 X → Q (some (.int (nI (bitsN (fun p => x_kn (rumF X k 7) p k) 6)))) (wsOf D L σ')) : ∀ n_ j, j + n_ = 7 → ∀ Y, okX Y → ∀ σ', ft 12 σ σ' → rzT σ' 12 Y → rumF X k 7 = rumF Y k n_ → G l D yX4_rumour cX4_rumour 4 (some .int) (rr (d + 5)) Q 0 0 22 [(2, .int (nI j)), (0, .ref (L 24)), (1, .int (nI k))] [] (wsOf D L σ') := by
  intro n_
  induction n_ with
  | zero =>
    intro j hct Y hoY σ' hft hT hR
    obtain rfl : j = 7 := by omega
    refine g_iload_n dX4_rumour_22 rfl 0 rfl ?_
    refine g_bipush dX4_rumour_23 bp_6 ?_
    refine n_icmpgt 61 dX4_rumour_25 (by decide) (by omega) (by omega) (fun h25 => ?_) (fun h25 => absurd h25 (by omega))
    refine g_aload_n dX4_rumour_61 rfl 1 rfl ?_
    refine g_get kf_X4_16 kC_X4 (by decide) 24 at_24 rfl dX4_rumour_62 ?_
    refine g_iload_n dX4_rumour_65 rfl 2 rfl ?_
    refine g_callV (As := [.int (nI k)]) km_X4_203 ky_X3_knowersOf ki_X3_knowersOf (by decide) 12 (at_tn (Or.inr (Or.inl rfl))) rfl rfl (Nat.le_of_ble_eq_true rfl) dX4_rumour_66 rfl (c_X3_knowersOf (Or.inr (Or.inl rfl)) hT hoY hk ?_)
    exact g_ireturn dX4_rumour_69 (Nat.le_refl _) (Nat.le_refl _) (qi (by rw [hR]; rfl) (h _ (fc_ft hft (by decide)) (ft_0 hft hX)))
  | succ n_ ih =>
    intro j hct Y hoY σ' hft hT hR
    refine g_iload_n dX4_rumour_22 rfl 0 rfl ?_
    refine g_bipush dX4_rumour_23 bp_6 ?_
    refine n_icmpgt 61 dX4_rumour_25 (by decide) (by omega) (by omega) (fun h25 => absurd h25 (by omega)) (fun h25 => ?_)
    refine g_aload_n dX4_rumour_28 rfl 1 rfl ?_
    refine g_get kf_X4_16 kC_X4 (by decide) 24 at_24 rfl dX4_rumour_29 ?_
    refine g_iload_n dX4_rumour_32 rfl 2 rfl ?_
    refine g_callV (As := [.int (nI k)]) km_X4_196 ky_X3_hearers ki_X3_hearers (by decide) 12 (at_tn (Or.inr (Or.inl rfl))) rfl rfl (Nat.le_of_ble_eq_true rfl) dX4_rumour_33 rfl (c_X3_hearers (Or.inr (Or.inl rfl)) hT hoY hk ?_)
    refine g_istore_n (lv' := [(3, .int (nI (bitsN (fun p => rcX Y k p && !x_kn Y p k) 6))), (2, .int (nI j)), (0, .ref (L 24)), (1, .int (nI k))]) dX4_rumour_36 rfl (by decide) rfl ?_
    refine g_iload_n dX4_rumour_37 rfl 0 rfl ?_
    refine g_ifne 44 dX4_rumour_38 (by decide) (fun h38 => ?_) (fun h38 => ?_)
    · refine g_aload_n dX4_rumour_44 rfl 2 rfl ?_
      refine g_get kf_X4_16 kC_X4 (by decide) 24 at_24 rfl dX4_rumour_45 ?_
      refine g_iload_n dX4_rumour_48 rfl 0 rfl ?_
      refine g_iconst dX4_rumour_49 ci_1 ?_
      refine g_iload_n dX4_rumour_50 rfl 3 rfl ?_
      refine g_ishl dX4_rumour_51 ?_
      refine g_tope (z := nI (bitsN (fun i => i == k) 8)) (sh8 k hk) ?_
      refine g_callV (As := [.int (nI (bitsN (fun p => rcX Y k p && !x_kn Y p k) 6)), .int (nI (bitsN (fun i => i == k) 8))]) km_X4_199 ky_X3_tellAll ki_X3_tellAll (by decide) 12 (at_tn (Or.inr (Or.inl rfl))) rfl rfl (Nat.le_of_ble_eq_true rfl) dX4_rumour_52 rfl (c_X3_tellAll (Or.inr (Or.inl rfl)) hT (fun σ2 hf2 hT2 => ?_))
      refine g_iinc (v := nI (j + 1)) (lv' := [(2, .int (nI (j + 1))), (3, .int (nI (bitsN (fun p => rcX Y k p && !x_kn Y p k) 6))), (0, .ref (L 24)), (1, .int (nI k))]) dX4_rumour_55 1 rfl (inc_n _) (by decide) rfl ?_
      refine g_goto 22 dX4_rumour_58 (by decide) ?_
      refine g_pick [0, 2, 3] (lv' := [(2, .int (nI (j + 1))), (0, .ref (L 24)), (1, .int (nI k))]) rfl ?_
      have hnw : nwX Y k = true := by cases e : nwX Y k; exact absurd ((bits0 (by decide)).mpr e) h38; rfl
      exact ih (j + 1) (by omega) (rnX Y k) (ok_rn hoY k) _ (ft_trans hft hf2) (rn_of_ta hT2) (by rw [hR, rum_step hnw])
    · refine g_goto 61 dX4_rumour_41 (by decide) ?_
      refine g_aload_n dX4_rumour_61 rfl 2 rfl ?_
      refine g_get kf_X4_16 kC_X4 (by decide) 24 at_24 rfl dX4_rumour_62 ?_
      refine g_iload_n dX4_rumour_65 rfl 3 rfl ?_
      refine g_callV (As := [.int (nI k)]) km_X4_203 ky_X3_knowersOf ki_X3_knowersOf (by decide) 12 (at_tn (Or.inr (Or.inl rfl))) rfl rfl (Nat.le_of_ble_eq_true rfl) dX4_rumour_66 rfl (c_X3_knowersOf (Or.inr (Or.inl rfl)) hT hoY hk ?_)
      exact g_ireturn dX4_rumour_69 (Nat.le_refl _) (Nat.le_refl _) (qi (by rw [hR, rum_stop (show nwX Y k = false from (bits0 (by decide)).mp h38)]) (h _ (fc_ft hft (by decide)) (ft_0 hft hX)))
set_option maxHeartbeats 4000000 in
set_option maxRecDepth 20000 in
theorem c_X4_rumour {l : Launch} {D : gE} {L : Nat → Nat} {σ : St} {Q : Option Value → va_W → Prop} {d : Nat} {X : XT} (hX : rzT σ 0 X) (ho : okX X) {x : Int32} (h : ∀ σ', fc σ σ' → rzT σ' 0 X → Q (some (.int (rumourR X x))) (wsOf D L σ')) : Ctr l D yX4_rumour cX4_rumour 4 (some .int) (rr (d + 5)) [.ref (L 24), .int x] (wsOf D L σ) Q := by
  refine g_start ky_X4_rumour (Nat.le_of_ble_eq_true rfl) ?_
  refine g_pick [0, 1] (lv' := [(0, .ref (L 24)), (1, .int x)]) rfl ?_
  refine g_iload_n dX4_rumour_0 rfl 1 rfl ?_
  refine g_callS (As := [.int x]) km_X4_109 ky_X4_isNews ks_X4_isNews (by decide) rfl (Nat.le_of_ble_eq_true rfl) dX4_rumour_1 rfl (c_X4_isNews (fun k1 hk1 he1 => ?_) (fun h1 => ?_))
  · subst he1
    refine t_ifne1 9 dX4_rumour_4 (by decide) ?_
    refine g_aload_n dX4_rumour_9 rfl 0 rfl ?_
    refine g_get kf_X4_16 kC_X4 (by decide) 24 at_24 rfl dX4_rumour_10 ?_
    refine g_aload_n dX4_rumour_13 rfl 0 rfl ?_
    refine g_get kf_X4_10 kC_X4 (by decide) 24 at_24 rfl dX4_rumour_14 ?_
    refine g_callV (As := [.ref (L 0)]) km_X4_159 ky_X3_copy ki_X3_copy (by decide) 12 (at_tn (Or.inr (Or.inl rfl))) rfl rfl (Nat.le_of_ble_eq_true rfl) dX4_rumour_17 rfl (c_X3_copy (Or.inr (Or.inl rfl)) (Or.inl rfl) (by omega) hX (fun σ2 hf2 hT2 => ?_))
    refine g_iconst dX4_rumour_20 ci_0 ?_
    refine g_istore_n (lv' := [(2, .int (nI 0)), (0, .ref (L 24)), (1, .int (nI k1))]) dX4_rumour_21 rfl (by decide) rfl ?_
    refine g_pick [0, 1, 2] (lv' := [(2, .int (nI 0)), (0, .ref (L 24)), (1, .int (nI k1))]) rfl ?_
    exact lp_X4_rumour hX ho hk1 (fun σ9 hf9 hX9 => qi (by unfold rumourR; rw [nwI_t hk1, if_pos rfl, ix8 hk1]) (h σ9 hf9 hX9)) 7 0 rfl X ho _ hf2 hT2 rfl
  · refine t_ifne0 (tgt := 9) dX4_rumour_4 (by decide) ?_
    refine g_iconst dX4_rumour_7 ci_m1 ?_
    exact g_ireturn dX4_rumour_8 (Nat.le_refl _) (Nat.le_refl _) (qi (by unfold rumourR; rw [nwI_f h1]; rfl) (h _ fc_rfl hX))
set_option maxHeartbeats 4000000 in
set_option maxRecDepth 20000 in
theorem lp_X4_arrivers {l : Launch} {D : gE} {L : Nat → Nat} {σ : St} {Q : Option Value → va_W → Prop} {d : Nat} {X : XT} (hX : rzT σ 0 X) (ho : okX X) {g : Nat} {z : Int} (hg : g < 6) (hz : -1000 ≤ z ∧ z ≤ 1000) (h : Q (some (.int (nI (bitsN (fun p => x_th X p && wyX X ((buX X p : Int) + z).toNat (x_pl X p) g) 6)))) (wsOf D L σ)) : ∀ n_ p, p + n_ = 6 → G l D yX4_arrivers cX4_arrivers 6 (some .int) (rr (d + 3)) Q 0 0 5 [(4, .int (nI p)), (3, .int (nI (bitsN (fun p => x_th X p && wyX X ((buX X p : Int) + z).toNat (x_pl X p) g) p))), (0, .ref (L 24)), (1, .int (nI g)), (2, .int (zI z))] [] (wsOf D L σ) := by
  intro n_
  induction n_ with
  | zero =>
    intro p hct
    obtain rfl : p = 6 := by omega
    refine g_iload dX4_arrivers_5 0 rfl ?_
    refine g_bipush dX4_arrivers_7 bp_6 ?_
    refine n_icmpge 86 dX4_arrivers_9 (by decide) (by omega) (by omega) (fun h9 => ?_) (fun h9 => absurd h9 (by omega))
    refine g_iload_n dX4_arrivers_86 rfl 1 rfl ?_
    exact g_ireturn dX4_arrivers_87 (Nat.le_refl _) (Nat.le_refl _) (h)
  | succ n_ ih =>
    intro p hct
    have hpp := ok_p ho (i := p) (by omega)
    have hbu := bu_bd ho p
    have hdl := @dN_le X (beX X ((buX X p : Int) + z).toNat) (x_pl X p) g
    refine g_iload dX4_arrivers_5 0 rfl ?_
    refine g_bipush dX4_arrivers_7 bp_6 ?_
    refine n_icmpge 86 dX4_arrivers_9 (by decide) (by omega) (by omega) (fun h9 => absurd h9 (by omega)) (fun h9 => ?_)
    refine g_aload_n dX4_arrivers_12 rfl 2 rfl ?_
    refine g_get kf_X4_10 kC_X4 (by decide) 24 at_24 rfl dX4_arrivers_13 ?_
    refine g_iload dX4_arrivers_16 0 rfl ?_
    refine g_callV (As := [.int (nI p)]) km_X4_106 ky_X3_hasPerson ki_X3_hasPerson (by decide) 0 (at_tn (Or.inl rfl)) rfl rfl (Nat.le_of_ble_eq_true rfl) dX4_arrivers_18 rfl (c_X3_hasPersonN (Or.inl rfl) hX ho (by omega) (fun h18 => ?_) (fun h18 => ?_))
    · refine t_ifeq1 (tgt := 80) dX4_arrivers_21 (by decide) ?_
      refine g_iconst dX4_arrivers_24 ci_0 ?_
      refine g_aload_n dX4_arrivers_25 rfl 2 rfl ?_
      refine g_get kf_X4_10 kC_X4 (by decide) 24 at_24 rfl dX4_arrivers_26 ?_
      refine g_iload dX4_arrivers_29 0 rfl ?_
      refine g_callV (As := [.int (nI p)]) km_X4_156 ky_X3_burden ki_X3_burden (by decide) 0 (at_tn (Or.inl rfl)) rfl rfl (Nat.le_of_ble_eq_true rfl) dX4_arrivers_31 rfl (c_X3_burden (Or.inl rfl) hX ho (by omega) ?_)
      refine g_iload_n dX4_arrivers_34 rfl 4 rfl ?_
      refine g_iadd dX4_arrivers_35 ?_
      refine g_tope (z := zI ((buX X p : Int) + z)) (by rw [nI_zI]; exact zI_add _ _) ?_
      refine g_callS (As := [.int (nI 0), .int (zI ((buX X p : Int) + z))]) km_X4_76 ky_J9_max_7cf53 ks_J9_max_7cf53 (by decide) rfl (Nat.le_of_ble_eq_true rfl) dX4_arrivers_36 rfl (c_max0 (by omega) ?_)
      refine g_istore (lv' := [(5, .int (nI (((buX X p : Int) + z).toNat))), (4, .int (nI p)), (3, .int (nI (bitsN (fun p => x_th X p && wyX X ((buX X p : Int) + z).toNat (x_pl X p) g) p))), (0, .ref (L 24)), (1, .int (nI g)), (2, .int (zI z))]) dX4_arrivers_39 (by decide) rfl ?_
      refine g_aload_n dX4_arrivers_41 rfl 3 rfl ?_
      refine g_get kf_X4_10 kC_X4 (by decide) 24 at_24 rfl dX4_arrivers_42 ?_
      refine g_aload_n dX4_arrivers_45 rfl 3 rfl ?_
      refine g_get kf_X4_10 kC_X4 (by decide) 24 at_24 rfl dX4_arrivers_46 ?_
      refine s_getT (b := 0) (Or.inl rfl) kf_X4_97 (by decide) rfl dX4_arrivers_49 ?_
      refine g_iload dX4_arrivers_52 1 rfl ?_
      refine s_ald (q := 5) (n := 6) (at_ia (q := 5) rfl) (by omega) (by decide) dX4_arrivers_54 ?_
      refine g_tope (z := nI (x_pl X p)) (rpT_pl hX.1 (by omega)) ?_
      refine g_iload_n dX4_arrivers_55 rfl 4 rfl ?_
      refine g_aload_n dX4_arrivers_56 rfl 3 rfl ?_
      refine g_get kf_X4_10 kC_X4 (by decide) 24 at_24 rfl dX4_arrivers_57 ?_
      refine g_iload dX4_arrivers_60 0 rfl ?_
      refine g_callV (As := [.int (nI (((buX X p : Int) + z).toNat))]) km_X4_170 ky_X3_bearing ki_X3_bearing (by decide) 0 (at_tn (Or.inl rfl)) rfl rfl (Nat.le_of_ble_eq_true rfl) dX4_arrivers_62 rfl (c_X3_bearing (Or.inl rfl) hX ho (by omega) ?_)
      refine g_callV (As := [.int (nI (x_pl X p)), .int (nI g), .int (nI (bitsN (beX X (((buX X p : Int) + z).toNat)) 8))]) km_X4_173 ky_X3_distance ki_X3_distance (by decide) 0 (at_tn (Or.inl rfl)) rfl rfl (Nat.le_of_ble_eq_true rfl) dX4_arrivers_65 rfl (c_X3_distance (Or.inl rfl) hX ho (by omega) (by omega) (fun h65 => ?_) (fun h65 => ?_))
      · refine g_bipush dX4_arrivers_68 bp_m6 ?_
        refine g_icmpeq 80 dX4_arrivers_70 (by decide) (fun h70 => absurd h70 (nI_n6 (by omega))) (fun h70 => ?_)
        refine g_iload_n dX4_arrivers_73 rfl 2 rfl ?_
        refine g_iconst dX4_arrivers_74 ci_1 ?_
        refine g_iload dX4_arrivers_75 1 rfl ?_
        refine g_ishl dX4_arrivers_77 ?_
        refine g_ior dX4_arrivers_78 ?_
        refine g_tope (z := nI (bitsN (fun p => x_th X p && wyX X ((buX X p : Int) + z).toNat (x_pl X p) g) (p + 1))) (obT _ (by omega) (by (try dsimp only); rw [h18]; unfold wyX; rw [dN_sym, decide_eq_true h65]; rfl)) ?_
        refine g_istore_n (lv' := [(3, .int (nI (bitsN (fun p => x_th X p && wyX X ((buX X p : Int) + z).toNat (x_pl X p) g) (p + 1)))), (5, .int (nI (((buX X p : Int) + z).toNat))), (4, .int (nI p)), (0, .ref (L 24)), (1, .int (nI g)), (2, .int (zI z))]) dX4_arrivers_79 rfl (by decide) rfl ?_
        refine g_iinc (v := nI (p + 1)) (lv' := [(4, .int (nI (p + 1))), (3, .int (nI (bitsN (fun p => x_th X p && wyX X ((buX X p : Int) + z).toNat (x_pl X p) g) (p + 1)))), (5, .int (nI (((buX X p : Int) + z).toNat))), (0, .ref (L 24)), (1, .int (nI g)), (2, .int (zI z))]) dX4_arrivers_80 2 rfl (inc_n _) (by decide) rfl ?_
        refine g_goto 5 dX4_arrivers_83 (by decide) ?_
        refine g_pick [0, 1, 3, 4, 5] (lv' := [(4, .int (nI (p + 1))), (3, .int (nI (bitsN (fun p => x_th X p && wyX X ((buX X p : Int) + z).toNat (x_pl X p) g) (p + 1)))), (0, .ref (L 24)), (1, .int (nI g)), (2, .int (zI z))]) rfl ?_
        exact ih (p + 1) (by omega)
      · refine g_bipush dX4_arrivers_68 bp_m6 ?_
        refine g_icmpeq 80 dX4_arrivers_70 (by decide) (fun h70 => ?_) (fun h70 => absurd h70 (by decide +kernel))
        refine g_iinc (v := nI (p + 1)) (lv' := [(4, .int (nI (p + 1))), (5, .int (nI (((buX X p : Int) + z).toNat))), (3, .int (nI (bitsN (fun p => x_th X p && wyX X ((buX X p : Int) + z).toNat (x_pl X p) g) p))), (0, .ref (L 24)), (1, .int (nI g)), (2, .int (zI z))]) dX4_arrivers_80 1 rfl (inc_n _) (by decide) rfl ?_
        refine g_goto 5 dX4_arrivers_83 (by decide) ?_
        refine g_pick [0, 2, 3, 4, 5] (lv' := [(4, .int (nI (p + 1))), (3, .int (nI (bitsN (fun p => x_th X p && wyX X ((buX X p : Int) + z).toNat (x_pl X p) g) p))), (0, .ref (L 24)), (1, .int (nI g)), (2, .int (zI z))]) rfl ?_
        have ih2 := ih (p + 1) (by omega)
        rw [← obF (fun p => x_th X p && wyX X ((buX X p : Int) + z).toNat (x_pl X p) g) (by (try dsimp only); unfold wyX; rw [dN_sym, decide_eq_false h65, Bool.and_false])] at ih2
        exact ih2
    · refine t_ifeq0 80 dX4_arrivers_21 (by decide) ?_
      refine g_iinc (v := nI (p + 1)) (lv' := [(4, .int (nI (p + 1))), (3, .int (nI (bitsN (fun p => x_th X p && wyX X ((buX X p : Int) + z).toNat (x_pl X p) g) p))), (0, .ref (L 24)), (1, .int (nI g)), (2, .int (zI z))]) dX4_arrivers_80 0 rfl (inc_n _) (by decide) rfl ?_
      refine g_goto 5 dX4_arrivers_83 (by decide) ?_
      refine g_pick [0, 1, 2, 3, 4] (lv' := [(4, .int (nI (p + 1))), (3, .int (nI (bitsN (fun p => x_th X p && wyX X ((buX X p : Int) + z).toNat (x_pl X p) g) p))), (0, .ref (L 24)), (1, .int (nI g)), (2, .int (zI z))]) rfl ?_
      have ih2 := ih (p + 1) (by omega)
      rw [← obF (fun p => x_th X p && wyX X ((buX X p : Int) + z).toNat (x_pl X p) g) (by (try dsimp only); rw [h18]; rfl)] at ih2
      exact ih2
set_option maxHeartbeats 4000000 in
set_option maxRecDepth 20000 in
theorem c_X4_arrivers {l : Launch} {D : gE} {L : Nat → Nat} {σ : St} {Q : Option Value → va_W → Prop} {d : Nat} {X : XT} (hX : rzT σ 0 X) (ho : okX X) {g : Nat} {z : Int} (hg : g < 6) (hz : -1000 ≤ z ∧ z ≤ 1000) (h : Q (some (.int (nI (bitsN (fun p => x_th X p && wyX X ((buX X p : Int) + z).toNat (x_pl X p) g) 6)))) (wsOf D L σ)) : Ctr l D yX4_arrivers cX4_arrivers 6 (some .int) (rr (d + 3)) [.ref (L 24), .int (nI g), .int (zI z)] (wsOf D L σ) Q := by
  refine g_start ky_X4_arrivers (Nat.le_of_ble_eq_true rfl) ?_
  refine g_pick [0, 1, 2] (lv' := [(0, .ref (L 24)), (1, .int (nI g)), (2, .int (zI z))]) rfl ?_
  refine g_iconst dX4_arrivers_0 ci_0 ?_
  refine g_tope (z := nI (bitsN (fun p => x_th X p && wyX X ((buX X p : Int) + z).toNat (x_pl X p) g) 0)) (rfl) ?_
  refine g_istore_n (lv' := [(3, .int (nI (bitsN (fun p => x_th X p && wyX X ((buX X p : Int) + z).toNat (x_pl X p) g) 0))), (0, .ref (L 24)), (1, .int (nI g)), (2, .int (zI z))]) dX4_arrivers_1 rfl (by decide) rfl ?_
  refine g_iconst dX4_arrivers_2 ci_0 ?_
  refine g_istore (lv' := [(4, .int (nI 0)), (3, .int (nI (bitsN (fun p => x_th X p && wyX X ((buX X p : Int) + z).toNat (x_pl X p) g) 0))), (0, .ref (L 24)), (1, .int (nI g)), (2, .int (zI z))]) dX4_arrivers_3 (by decide) rfl ?_
  refine g_pick [0, 1, 2, 3, 4] (lv' := [(4, .int (nI 0)), (3, .int (nI (bitsN (fun p => x_th X p && wyX X ((buX X p : Int) + z).toNat (x_pl X p) g) 0))), (0, .ref (L 24)), (1, .int (nI g)), (2, .int (zI z))]) rfl ?_
  exact lp_X4_arrivers hX ho hg hz h 6 0 rfl
set_option maxHeartbeats 4000000 in
set_option maxRecDepth 20000 in
theorem l1_X4_two {l : Launch} {D : gE} {L : Nat → Nat} {σ : St} {Q : Option Value → va_W → Prop} {d : Nat} {X : XT} (ho : okX X) {k t : Nat} (hk : k < 8) (ht : t < x_sz X) {i R : Int32} (h : Q (some (.int R)) (wsOf D L σ)) {a : Nat} (ha : a < 6) (kk : ∀ m c, twM (a + 1) (a + 2) < m → c ≤ 6 * (a + 1) → twS (twG X k t) i m (a + 1) (a + 2) c = R → G l D yX4_two cX4_two 10 (some .int) (rr (d + 4)) Q 0 0 69 [(8, .int (nI (a + 1))), (7, .int (nI c)), (4, .int (zI (x_wt X k / 2))), (5, .int (nI (bitsN (fun p => x_th X p && wyX X ((buX X p : Int) + x_wt X k / 2).toNat (x_pl X p) t) 6))), (6, .int (nI (bitsN (fun p => x_th X p && wyX X ((buX X p : Int) + (x_wt X k - x_wt X k / 2)).toNat (x_pl X p) t) 6))), (0, .ref (L 24)), (1, .int (nI k)), (2, .int (nI t)), (3, .int i)] [] (wsOf D L σ)) : ∀ n_ b, b + n_ = 6 → ∀ m c, twM a b < m → c + (6 - b) ≤ 6 * (a + 1) → twS (twG X k t) i m a b c = R → G l D yX4_two cX4_two 10 (some .int) (rr (d + 4)) Q 0 0 82 [(9, .int (nI b)), (8, .int (nI a)), (7, .int (nI c)), (4, .int (zI (x_wt X k / 2))), (5, .int (nI (bitsN (fun p => x_th X p && wyX X ((buX X p : Int) + x_wt X k / 2).toNat (x_pl X p) t) 6))), (6, .int (nI (bitsN (fun p => x_th X p && wyX X ((buX X p : Int) + (x_wt X k - x_wt X k / 2)).toNat (x_pl X p) t) 6))), (0, .ref (L 24)), (1, .int (nI k)), (2, .int (nI t)), (3, .int i)] [] (wsOf D L σ) := by
  intro n_
  induction n_ with
  | zero =>
    intro b hct m c hm hc hE
    obtain rfl : b = 6 := by omega
    cases m with
    | zero => exact absurd hm (Nat.not_lt_zero _)
    | succ m =>
    rw [twS, if_neg (by omega), if_pos (by omega)] at hE
    refine g_iload dX4_two_82 0 rfl ?_
    refine g_bipush dX4_two_84 bp_6 ?_
    refine n_icmpge 133 dX4_two_86 (by decide) (by omega) (by omega) (fun h86 => ?_) (fun h86 => absurd h86 (by omega))
    refine g_iinc (v := nI (a + 1)) (lv' := [(8, .int (nI (a + 1))), (9, .int (nI 6)), (7, .int (nI c)), (4, .int (zI (x_wt X k / 2))), (5, .int (nI (bitsN (fun p => x_th X p && wyX X ((buX X p : Int) + x_wt X k / 2).toNat (x_pl X p) t) 6))), (6, .int (nI (bitsN (fun p => x_th X p && wyX X ((buX X p : Int) + (x_wt X k - x_wt X k / 2)).toNat (x_pl X p) t) 6))), (0, .ref (L 24)), (1, .int (nI k)), (2, .int (nI t)), (3, .int i)]) dX4_two_133 1 rfl (inc_n _) (by decide) rfl ?_
    refine g_goto 69 dX4_two_136 (by decide) ?_
    refine g_pick [0, 2, 3, 4, 5, 6, 7, 8, 9] (lv' := [(8, .int (nI (a + 1))), (7, .int (nI c)), (4, .int (zI (x_wt X k / 2))), (5, .int (nI (bitsN (fun p => x_th X p && wyX X ((buX X p : Int) + x_wt X k / 2).toNat (x_pl X p) t) 6))), (6, .int (nI (bitsN (fun p => x_th X p && wyX X ((buX X p : Int) + (x_wt X k - x_wt X k / 2)).toNat (x_pl X p) t) 6))), (0, .ref (L 24)), (1, .int (nI k)), (2, .int (nI t)), (3, .int i)]) rfl ?_
    exact kk m c (twM_a ha hm) (by omega) hE
  | succ n_ ih =>
    intro b hct m c hm hc hE
    cases m with
    | zero => exact absurd hm (Nat.not_lt_zero _)
    | succ m =>
    rw [twS, if_neg (by omega), if_neg (by omega)] at hE
    refine g_iload dX4_two_82 0 rfl ?_
    refine g_bipush dX4_two_84 bp_6 ?_
    refine n_icmpge 133 dX4_two_86 (by decide) (by omega) (by omega) (fun h86 => absurd h86 (by omega)) (fun h86 => ?_)
    refine g_iload dX4_two_89 4 rfl ?_
    refine g_iload dX4_two_91 1 rfl ?_
    refine g_callS (As := [.int (nI (bitsN (fun p => x_th X p && wyX X ((buX X p : Int) + x_wt X k / 2).toNat (x_pl X p) t) 6)), .int (nI a)]) km_X4_163 ky_X4_has ks_X4_has (by decide) rfl (Nat.le_of_ble_eq_true rfl) dX4_two_93 rfl (c_X4_has (n := 6) (by decide) (by omega) (fun h93 => ?_) (fun h93 => ?_))
    · refine t_ifeq1 (tgt := 127) dX4_two_96 (by decide) ?_
      refine g_iload dX4_two_99 5 rfl ?_
      refine g_iload dX4_two_101 0 rfl ?_
      refine g_callS (As := [.int (nI (bitsN (fun p => x_th X p && wyX X ((buX X p : Int) + (x_wt X k - x_wt X k / 2)).toNat (x_pl X p) t) 6)), .int (nI b)]) km_X4_163 ky_X4_has ks_X4_has (by decide) rfl (Nat.le_of_ble_eq_true rfl) dX4_two_103 rfl (c_X4_has (n := 6) (by decide) (by omega) (fun h103 => ?_) (fun h103 => ?_))
      · refine t_ifeq1 (tgt := 127) dX4_two_106 (by decide) ?_
        refine g_iload dX4_two_109 2 rfl ?_
        refine g_iload_n dX4_two_111 rfl 9 rfl ?_
        refine g_icmpne 124 dX4_two_112 (by decide) (fun h112 => ?_) (fun h112 => ?_)
        · refine g_iinc (v := nI (c + 1)) (lv' := [(7, .int (nI (c + 1))), (9, .int (nI b)), (8, .int (nI a)), (4, .int (zI (x_wt X k / 2))), (5, .int (nI (bitsN (fun p => x_th X p && wyX X ((buX X p : Int) + x_wt X k / 2).toNat (x_pl X p) t) 6))), (6, .int (nI (bitsN (fun p => x_th X p && wyX X ((buX X p : Int) + (x_wt X k - x_wt X k / 2)).toNat (x_pl X p) t) 6))), (0, .ref (L 24)), (1, .int (nI k)), (2, .int (nI t)), (3, .int i)]) dX4_two_124 2 rfl (inc_n _) (by decide) rfl ?_
          refine g_iinc (v := nI (b + 1)) (lv' := [(9, .int (nI (b + 1))), (7, .int (nI (c + 1))), (8, .int (nI a)), (4, .int (zI (x_wt X k / 2))), (5, .int (nI (bitsN (fun p => x_th X p && wyX X ((buX X p : Int) + x_wt X k / 2).toNat (x_pl X p) t) 6))), (6, .int (nI (bitsN (fun p => x_th X p && wyX X ((buX X p : Int) + (x_wt X k - x_wt X k / 2)).toNat (x_pl X p) t) 6))), (0, .ref (L 24)), (1, .int (nI k)), (2, .int (nI t)), (3, .int i)]) dX4_two_127 1 rfl (inc_n _) (by decide) rfl ?_
          refine g_goto 82 dX4_two_130 (by decide) ?_
          refine g_pick [0, 2, 1, 3, 4, 5, 6, 7, 8, 9] (lv' := [(9, .int (nI (b + 1))), (8, .int (nI a)), (7, .int (nI (c + 1))), (4, .int (zI (x_wt X k / 2))), (5, .int (nI (bitsN (fun p => x_th X p && wyX X ((buX X p : Int) + x_wt X k / 2).toNat (x_pl X p) t) 6))), (6, .int (nI (bitsN (fun p => x_th X p && wyX X ((buX X p : Int) + (x_wt X k - x_wt X k / 2)).toNat (x_pl X p) t) 6))), (0, .ref (L 24)), (1, .int (nI k)), (2, .int (nI t)), (3, .int i)]) rfl ?_
          rw [if_pos (show twG X k t a b = true by unfold twG; rw [h93, h103]; rfl), if_neg h112] at hE
          exact ih (b + 1) (by omega) m (c + 1) (twM_b (by omega) hm) (by omega) hE
        · refine g_bipush dX4_two_115 bp_10 ?_
          refine g_iload dX4_two_117 1 rfl ?_
          refine g_imul dX4_two_119 ?_
          refine g_tope (z := nI (10 * a)) (pk_mul _ _) ?_
          refine g_iload dX4_two_120 0 rfl ?_
          refine g_iadd dX4_two_122 ?_
          refine g_tope (z := nI (10 * a + b)) (nI_add _ _) ?_
          exact g_ireturn dX4_two_123 (Nat.le_refl _) (Nat.le_refl _) (qi (by rw [if_pos (show twG X k t a b = true by unfold twG; rw [h93, h103]; rfl), if_pos h112] at hE; exact hE) h)
      · refine t_ifeq0 127 dX4_two_106 (by decide) ?_
        refine g_iinc (v := nI (b + 1)) (lv' := [(9, .int (nI (b + 1))), (8, .int (nI a)), (7, .int (nI c)), (4, .int (zI (x_wt X k / 2))), (5, .int (nI (bitsN (fun p => x_th X p && wyX X ((buX X p : Int) + x_wt X k / 2).toNat (x_pl X p) t) 6))), (6, .int (nI (bitsN (fun p => x_th X p && wyX X ((buX X p : Int) + (x_wt X k - x_wt X k / 2)).toNat (x_pl X p) t) 6))), (0, .ref (L 24)), (1, .int (nI k)), (2, .int (nI t)), (3, .int i)]) dX4_two_127 0 rfl (inc_n _) (by decide) rfl ?_
        refine g_goto 82 dX4_two_130 (by decide) ?_
        refine g_pick [0, 1, 2, 3, 4, 5, 6, 7, 8, 9] (lv' := [(9, .int (nI (b + 1))), (8, .int (nI a)), (7, .int (nI c)), (4, .int (zI (x_wt X k / 2))), (5, .int (nI (bitsN (fun p => x_th X p && wyX X ((buX X p : Int) + x_wt X k / 2).toNat (x_pl X p) t) 6))), (6, .int (nI (bitsN (fun p => x_th X p && wyX X ((buX X p : Int) + (x_wt X k - x_wt X k / 2)).toNat (x_pl X p) t) 6))), (0, .ref (L 24)), (1, .int (nI k)), (2, .int (nI t)), (3, .int i)]) rfl ?_
        rw [if_neg (by rw [show twG X k t a b = false by unfold twG; rw [h103, Bool.and_false]]; decide)] at hE
        exact ih (b + 1) (by omega) m c (twM_b (by omega) hm) (by omega) hE
    · refine t_ifeq0 127 dX4_two_96 (by decide) ?_
      refine g_iinc (v := nI (b + 1)) (lv' := [(9, .int (nI (b + 1))), (8, .int (nI a)), (7, .int (nI c)), (4, .int (zI (x_wt X k / 2))), (5, .int (nI (bitsN (fun p => x_th X p && wyX X ((buX X p : Int) + x_wt X k / 2).toNat (x_pl X p) t) 6))), (6, .int (nI (bitsN (fun p => x_th X p && wyX X ((buX X p : Int) + (x_wt X k - x_wt X k / 2)).toNat (x_pl X p) t) 6))), (0, .ref (L 24)), (1, .int (nI k)), (2, .int (nI t)), (3, .int i)]) dX4_two_127 0 rfl (inc_n _) (by decide) rfl ?_
      refine g_goto 82 dX4_two_130 (by decide) ?_
      refine g_pick [0, 1, 2, 3, 4, 5, 6, 7, 8, 9] (lv' := [(9, .int (nI (b + 1))), (8, .int (nI a)), (7, .int (nI c)), (4, .int (zI (x_wt X k / 2))), (5, .int (nI (bitsN (fun p => x_th X p && wyX X ((buX X p : Int) + x_wt X k / 2).toNat (x_pl X p) t) 6))), (6, .int (nI (bitsN (fun p => x_th X p && wyX X ((buX X p : Int) + (x_wt X k - x_wt X k / 2)).toNat (x_pl X p) t) 6))), (0, .ref (L 24)), (1, .int (nI k)), (2, .int (nI t)), (3, .int i)]) rfl ?_
      rw [if_neg (by rw [show twG X k t a b = false by unfold twG; rw [h93]; rfl]; decide)] at hE
      exact ih (b + 1) (by omega) m c (twM_b (by omega) hm) (by omega) hE
set_option maxHeartbeats 4000000 in
set_option maxRecDepth 20000 in
theorem l2_X4_two {l : Launch} {D : gE} {L : Nat → Nat} {σ : St} {Q : Option Value → va_W → Prop} {d : Nat} {X : XT} (ho : okX X) {k t : Nat} (hk : k < 8) (ht : t < x_sz X) {i R : Int32} (h : Q (some (.int R)) (wsOf D L σ)) : ∀ n_ a, a + n_ = 6 → ∀ m c, twM a (a + 1) < m → c ≤ 6 * a → twS (twG X k t) i m a (a + 1) c = R → G l D yX4_two cX4_two 10 (some .int) (rr (d + 4)) Q 0 0 69 [(8, .int (nI a)), (7, .int (nI c)), (4, .int (zI (x_wt X k / 2))), (5, .int (nI (bitsN (fun p => x_th X p && wyX X ((buX X p : Int) + x_wt X k / 2).toNat (x_pl X p) t) 6))), (6, .int (nI (bitsN (fun p => x_th X p && wyX X ((buX X p : Int) + (x_wt X k - x_wt X k / 2)).toNat (x_pl X p) t) 6))), (0, .ref (L 24)), (1, .int (nI k)), (2, .int (nI t)), (3, .int i)] [] (wsOf D L σ) := by
  intro n_
  induction n_ with
  | zero =>
    intro a hct m c hm hc hE
    obtain rfl : a = 6 := by omega
    cases m with
    | zero => exact absurd hm (Nat.not_lt_zero _)
    | succ m =>
    rw [twS, if_pos (by omega)] at hE
    refine g_iload dX4_two_69 0 rfl ?_
    refine g_bipush dX4_two_71 bp_6 ?_
    refine n_icmpge 139 dX4_two_73 (by decide) (by omega) (by omega) (fun h73 => ?_) (fun h73 => absurd h73 (by omega))
    refine g_iload_n dX4_two_139 rfl 8 rfl ?_
    refine g_iconst dX4_two_140 ci_m1 ?_
    refine g_icmpne 149 dX4_two_141 (by decide) (fun h141 => ?_) (fun h141 => ?_)
    · refine g_bipush dX4_two_149 bp_m6 ?_
      exact g_ireturn dX4_two_151 (Nat.le_refl _) (Nat.le_refl _) (qi (by rw [if_neg h141] at hE; exact hE) h)
    · refine g_iload dX4_two_144 1 rfl ?_
      refine g_goto 151 dX4_two_146 (by decide) ?_
      exact g_ireturn dX4_two_151 (Nat.le_refl _) (Nat.le_refl _) (qi (by rw [if_pos h141] at hE; exact hE) h)
  | succ n_ ih =>
    intro a hct m c hm hc hE
    refine g_iload dX4_two_69 0 rfl ?_
    refine g_bipush dX4_two_71 bp_6 ?_
    refine n_icmpge 139 dX4_two_73 (by decide) (by omega) (by omega) (fun h73 => absurd h73 (by omega)) (fun h73 => ?_)
    refine g_iload dX4_two_76 0 rfl ?_
    refine g_iconst dX4_two_78 ci_1 ?_
    refine g_iadd dX4_two_79 ?_
    refine g_tope (z := nI (a + 1)) (nI_add _ _) ?_
    refine g_istore (lv' := [(9, .int (nI (a + 1))), (8, .int (nI a)), (7, .int (nI c)), (4, .int (zI (x_wt X k / 2))), (5, .int (nI (bitsN (fun p => x_th X p && wyX X ((buX X p : Int) + x_wt X k / 2).toNat (x_pl X p) t) 6))), (6, .int (nI (bitsN (fun p => x_th X p && wyX X ((buX X p : Int) + (x_wt X k - x_wt X k / 2)).toNat (x_pl X p) t) 6))), (0, .ref (L 24)), (1, .int (nI k)), (2, .int (nI t)), (3, .int i)]) dX4_two_80 (by decide) rfl ?_
    refine g_pick [0, 1, 2, 3, 4, 5, 6, 7, 8, 9] (lv' := [(9, .int (nI (a + 1))), (8, .int (nI a)), (7, .int (nI c)), (4, .int (zI (x_wt X k / 2))), (5, .int (nI (bitsN (fun p => x_th X p && wyX X ((buX X p : Int) + x_wt X k / 2).toNat (x_pl X p) t) 6))), (6, .int (nI (bitsN (fun p => x_th X p && wyX X ((buX X p : Int) + (x_wt X k - x_wt X k / 2)).toNat (x_pl X p) t) 6))), (0, .ref (L 24)), (1, .int (nI k)), (2, .int (nI t)), (3, .int i)]) rfl ?_
    exact l1_X4_two ho hk ht h (by omega) (fun m2 c2 hm2 hc2 hE2 => ih (a + 1) (by omega) m2 c2 hm2 hc2 hE2) (5 - a) (a + 1) (by omega) m c hm (by omega) hE
set_option maxHeartbeats 4000000 in
set_option maxRecDepth 20000 in
theorem c_X4_two {l : Launch} {D : gE} {L : Nat → Nat} {σ : St} {Q : Option Value → va_W → Prop} {d : Nat} {X : XT} (hX : rzT σ 0 X) (ho : okX X) {x y i : Int32} (h : ∀ σ', fc σ σ' → rzT σ' 0 X → Q (some (.int (twoR X x y i))) (wsOf D L σ')) : Ctr l D yX4_two cX4_two 10 (some .int) (rr (d + 4)) [.ref (L 24), .int x, .int y, .int i] (wsOf D L σ) Q := by
  refine g_start ky_X4_two (Nat.le_of_ble_eq_true rfl) ?_
  refine g_pick [0, 1, 2, 3] (lv' := [(0, .ref (L 24)), (1, .int x), (2, .int y), (3, .int i)]) rfl ?_
  refine g_iload_n dX4_two_0 rfl 1 rfl ?_
  refine g_callS (As := [.int x]) km_X4_109 ky_X4_isNews ks_X4_isNews (by decide) rfl (Nat.le_of_ble_eq_true rfl) dX4_two_1 rfl (c_X4_isNews (fun k1 hk1 he1 => ?_) (fun h1 => ?_))
  · subst he1
    refine t_ifeq1 (tgt := 18) dX4_two_4 (by decide) ?_
    refine g_aload_n dX4_two_7 rfl 0 rfl ?_
    refine g_get kf_X4_10 kC_X4 (by decide) 24 at_24 rfl dX4_two_8 ?_
    refine g_iload_n dX4_two_11 rfl 2 rfl ?_
    refine g_callV (As := [.int y]) km_X4_56 ky_X3_hasTerrace ki_X3_hasTerrace (by decide) 0 (at_tn (Or.inl rfl)) rfl rfl (Nat.le_of_ble_eq_true rfl) dX4_two_12 rfl (c_X3_hasTerrace (Or.inl rfl) hX ho (fun t12 ht12 he12 => ?_) (fun h12 => ?_))
    · subst he12
      refine t_ifne1 20 dX4_two_15 (by decide) ?_
      have hwt := ok_wt ho hk1
      have hsz := ok_sz ho
      refine g_aload_n dX4_two_20 rfl 0 rfl ?_
      refine g_get kf_X4_10 kC_X4 (by decide) 24 at_24 rfl dX4_two_21 ?_
      refine s_getT (b := 0) (Or.inl rfl) kf_X4_112 (by decide) rfl dX4_two_24 ?_
      refine g_iload_n dX4_two_27 rfl 1 rfl ?_
      refine s_ald (q := 8) (n := 8) (at_ia (q := 8) rfl) (by omega) (by decide) dX4_two_28 ?_
      refine g_tope (z := zI (x_wt X k1)) (rpT_wt hX.1 (by omega)) ?_
      refine g_iconst dX4_two_29 ci_2 ?_
      refine g_callS (As := [.int (zI (x_wt X k1)), .int (nI 2)]) km_X4_216 ky_J9_floorDiv_7cf53 ks_J9_floorDiv_7cf53 (by decide) rfl (Nat.le_of_ble_eq_true rfl) dX4_two_30 rfl (c_floorDiv2 (by omega) ?_)
      refine g_istore (lv' := [(4, .int (zI (x_wt X k1 / 2))), (0, .ref (L 24)), (1, .int (nI k1)), (2, .int (nI t12)), (3, .int i)]) dX4_two_33 (by decide) rfl ?_
      refine g_aload_n dX4_two_35 rfl 1 rfl ?_
      refine g_iload_n dX4_two_36 rfl 3 rfl ?_
      refine g_iload dX4_two_37 0 rfl ?_
      refine g_callV (As := [.int (nI t12), .int (zI (x_wt X k1 / 2))]) km_X4_219 ky_X4_arrivers ki_X4_arrivers (by decide) 24 at_24 rfl rfl (Nat.le_of_ble_eq_true rfl) dX4_two_39 rfl (c_X4_arrivers hX ho (by omega) (by omega) ?_)
      refine g_istore (lv' := [(5, .int (nI (bitsN (fun p => x_th X p && wyX X ((buX X p : Int) + (x_wt X k1 / 2)).toNat (x_pl X p) t12) 6))), (4, .int (zI (x_wt X k1 / 2))), (0, .ref (L 24)), (1, .int (nI k1)), (2, .int (nI t12)), (3, .int i)]) dX4_two_42 (by decide) rfl ?_
      refine g_aload_n dX4_two_44 rfl 2 rfl ?_
      refine g_iload_n dX4_two_45 rfl 4 rfl ?_
      refine g_aload_n dX4_two_46 rfl 2 rfl ?_
      refine g_get kf_X4_10 kC_X4 (by decide) 24 at_24 rfl dX4_two_47 ?_
      refine s_getT (b := 0) (Or.inl rfl) kf_X4_112 (by decide) rfl dX4_two_50 ?_
      refine g_iload_n dX4_two_53 rfl 3 rfl ?_
      refine s_ald (q := 8) (n := 8) (at_ia (q := 8) rfl) (by omega) (by decide) dX4_two_54 ?_
      refine g_tope (z := zI (x_wt X k1)) (rpT_wt hX.1 (by omega)) ?_
      refine g_iload dX4_two_55 1 rfl ?_
      refine g_isub dX4_two_57 ?_
      refine g_tope (z := zI ((x_wt X k1) - (x_wt X k1 / 2))) (zI_sub _ _) ?_
      refine g_callV (As := [.int (nI t12), .int (zI ((x_wt X k1) - (x_wt X k1 / 2)))]) km_X4_219 ky_X4_arrivers ki_X4_arrivers (by decide) 24 at_24 rfl rfl (Nat.le_of_ble_eq_true rfl) dX4_two_58 rfl (c_X4_arrivers hX ho (by omega) (by omega) ?_)
      refine g_istore (lv' := [(6, .int (nI (bitsN (fun p => x_th X p && wyX X ((buX X p : Int) + ((x_wt X k1) - (x_wt X k1 / 2))).toNat (x_pl X p) t12) 6))), (5, .int (nI (bitsN (fun p => x_th X p && wyX X ((buX X p : Int) + (x_wt X k1 / 2)).toNat (x_pl X p) t12) 6))), (4, .int (zI (x_wt X k1 / 2))), (0, .ref (L 24)), (1, .int (nI k1)), (2, .int (nI t12)), (3, .int i)]) dX4_two_61 (by decide) rfl ?_
      refine g_iconst dX4_two_63 ci_0 ?_
      refine g_istore (lv' := [(7, .int (nI 0)), (6, .int (nI (bitsN (fun p => x_th X p && wyX X ((buX X p : Int) + ((x_wt X k1) - (x_wt X k1 / 2))).toNat (x_pl X p) t12) 6))), (5, .int (nI (bitsN (fun p => x_th X p && wyX X ((buX X p : Int) + (x_wt X k1 / 2)).toNat (x_pl X p) t12) 6))), (4, .int (zI (x_wt X k1 / 2))), (0, .ref (L 24)), (1, .int (nI k1)), (2, .int (nI t12)), (3, .int i)]) dX4_two_64 (by decide) rfl ?_
      refine g_iconst dX4_two_66 ci_0 ?_
      refine g_istore (lv' := [(8, .int (nI 0)), (7, .int (nI 0)), (6, .int (nI (bitsN (fun p => x_th X p && wyX X ((buX X p : Int) + ((x_wt X k1) - (x_wt X k1 / 2))).toNat (x_pl X p) t12) 6))), (5, .int (nI (bitsN (fun p => x_th X p && wyX X ((buX X p : Int) + (x_wt X k1 / 2)).toNat (x_pl X p) t12) 6))), (4, .int (zI (x_wt X k1 / 2))), (0, .ref (L 24)), (1, .int (nI k1)), (2, .int (nI t12)), (3, .int i)]) dX4_two_67 (by decide) rfl ?_
      refine g_pick [0, 1, 4, 3, 2, 5, 6, 7, 8] (lv' := [(8, .int (nI 0)), (7, .int (nI 0)), (4, .int (zI (x_wt X k1 / 2))), (5, .int (nI (bitsN (fun p => x_th X p && wyX X ((buX X p : Int) + (x_wt X k1 / 2)).toNat (x_pl X p) t12) 6))), (6, .int (nI (bitsN (fun p => x_th X p && wyX X ((buX X p : Int) + ((x_wt X k1) - (x_wt X k1 / 2))).toNat (x_pl X p) t12) 6))), (0, .ref (L 24)), (1, .int (nI k1)), (2, .int (nI t12)), (3, .int i)]) rfl ?_
      exact l2_X4_two ho hk1 ht12 (qi rfl (h _ fc_rfl hX)) 6 0 rfl 64 0 (by decide) (by omega) (by unfold twoR; rw [nwI_t hk1, teI_t ho ht12, ix8 hk1, ixt ho ht12, if_pos (by rfl)])
    · refine t_ifne0 (tgt := 20) dX4_two_15 (by decide) ?_
      refine g_iconst dX4_two_18 ci_m1 ?_
      exact g_ireturn dX4_two_19 (Nat.le_refl _) (Nat.le_refl _) (qi (by unfold twoR; rw [teI_f h12, Bool.and_false]; rfl) (h _ fc_rfl hX))
  · refine t_ifeq0 18 dX4_two_4 (by decide) ?_
    refine g_iconst dX4_two_18 ci_m1 ?_
    exact g_ireturn dX4_two_19 (Nat.le_refl _) (Nat.le_refl _) (qi (by unfold twoR; rw [nwI_f h1]; rfl) (h _ fc_rfl hX))
