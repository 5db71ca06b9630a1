def tdX (X : XT) (m : Nat → Bool) (g a : Nat) : Nat → Int32
  | 0 => -6
  | k + 1 => nI (nbX X m g (atX X m g a k))
set_option maxHeartbeats 4000000 in
set_option maxRecDepth 20000 in
theorem l1_X5_way {l : Launch} {D : gE} {L : Nat → Nat} {σ : St} {Q : Option Value → va_W → Prop} {d : Nat} {X : XT} (hX : rpM σ X) (ho : okX X) {m : Nat → Bool} {g p : Nat} {f : Nat → Int32} (hf : ∀ t, t < 6 → f t = nI (faX X m g t)) (hg : g < 6) {a k j al : Nat} {td : Int32} (ha : a < 6) (hd : dN X m g a < 6) (h0 : 0 < dN X m g a) (hn : nbX X m g a < 8) (hl : ldsX X m g a (nbX X m g a) = true) (kk : G l D yX5_way cX5_way 10 (some .int) (rr (d + 1)) Q 0 0 127 [(9, .int (nI (nbX X m g a))), (8, .int (nI k)), (7, .int td), (5, .int (nI a)), (6, .int (nI al)), (4, .int (nI (bitsN m 8))), (0, .ref (L 33)), (1, .int (nI p)), (2, .int (nI g)), (3, .int (nI j))] [] (wsOf D L (setA σ 54 f))) : ∀ n b, b + n = nbX X m g a → G l D yX5_way cX5_way 10 (some .int) (rr (d + 1)) Q 0 0 108 [(9, .int (nI b)), (8, .int (nI k)), (7, .int td), (5, .int (nI a)), (6, .int (nI al)), (4, .int (nI (bitsN m 8))), (0, .ref (L 33)), (1, .int (nI p)), (2, .int (nI g)), (3, .int (nI j))] [] (wsOf D L (setA σ 54 f)) := by
  intro n
  induction n with
  | zero =>
    intro b hct
    obtain rfl : b = nbX X m g a := by omega
    refine g_aload_n dX5_way_108 rfl 6 rfl ?_
    refine g_iload dX5_way_109 0 rfl ?_
    refine g_iload dX5_way_111 3 rfl ?_
    refine g_iload dX5_way_113 5 rfl ?_
    refine g_callV (As := [.int (nI (nbX X m g a)), .int (nI a), .int (nI (bitsN m 8))]) km_X5_271 ky_X5_leadsOn ki_X5_leadsOn (by decide) 33 at_33 rfl rfl (Nat.le_of_ble_eq_true rfl) dX5_way_115 rfl (c_X5_leadsOn hX ho hf ha (by omega) hd h0 (fun _ => ?_) (fun e => by rw [hl] at e; cases e))
    refine t_ifne1 127 dX5_way_118 (by decide) ?_
    exact kk
  | succ n ih =>
    intro b hct
    refine g_aload_n dX5_way_108 rfl 6 rfl ?_
    refine g_iload dX5_way_109 0 rfl ?_
    refine g_iload dX5_way_111 3 rfl ?_
    refine g_iload dX5_way_113 5 rfl ?_
    refine g_callV (As := [.int (nI b), .int (nI a), .int (nI (bitsN m 8))]) km_X5_271 ky_X5_leadsOn ki_X5_leadsOn (by decide) 33 at_33 rfl rfl (Nat.le_of_ble_eq_true rfl) dX5_way_115 rfl (c_X5_leadsOn hX ho hf ha (by omega) hd h0 (fun e => by rw [firstN_no _ 8 b (show b < nbX X m g a by omega)] at e; cases e) (fun _ => ?_))
    refine t_ifne0 (tgt := 127) dX5_way_118 (by decide) ?_
    refine g_iinc (v := nI (b + 1)) (lv' := [(9, .int (nI (b + 1))), (8, .int (nI k)), (7, .int td), (5, .int (nI a)), (6, .int (nI al)), (4, .int (nI (bitsN m 8))), (0, .ref (L 33)), (1, .int (nI p)), (2, .int (nI g)), (3, .int (nI j))]) dX5_way_121 0 rfl (inc_n _) (by decide) rfl ?_
    refine g_goto 108 dX5_way_124 (by decide) ?_
    refine g_pick [0, 1, 2, 3, 4, 5, 6, 7, 8, 9] (lv' := [(9, .int (nI (b + 1))), (8, .int (nI k)), (7, .int td), (5, .int (nI a)), (6, .int (nI al)), (4, .int (nI (bitsN m 8))), (0, .ref (L 33)), (1, .int (nI p)), (2, .int (nI g)), (3, .int (nI j))]) rfl ?_
    exact ih (b + 1) (by omega)
set_option maxHeartbeats 4000000 in
set_option maxRecDepth 20000 in
theorem l2_X5_way {l : Launch} {D : gE} {L : Nat → Nat} {σ : St} {Q : Option Value → va_W → Prop} {d : Nat} {X : XT} (hX : rpM σ X) (ho : okX X) {m : Nat → Bool} {g p : Nat} {f : Nat → Int32} (hf : ∀ t, t < 6 → f t = nI (faX X m g t)) (hg : g < 6) {a j al : Nat} (ha : a < 6) (hd : dN X m g a < 6) (hj : j < dN X m g a) (hal : al < 2000) (h : Q (some (.int (tdX X m g a (j + 1)))) (wsOf D L (setA σ 54 f))) : ∀ n k, k + n = (j + 1) → G l D yX5_way cX5_way 10 (some .int) (rr (d + 1)) Q 0 0 99 [(8, .int (nI k)), (7, .int (tdX X m g a k)), (5, .int (nI (atX X m g a k))), (6, .int (nI al)), (4, .int (nI (bitsN m 8))), (0, .ref (L 33)), (1, .int (nI p)), (2, .int (nI g)), (3, .int (nI j))] [] (wsOf D L (setA σ 54 f)) := by
  intro n
  induction n with
  | zero =>
    intro k hct
    obtain rfl : k = (j + 1) := by omega
    refine g_iload dX5_way_99 0 rfl ?_
    refine g_iload_n dX5_way_101 rfl 8 rfl ?_
    refine n_icmpgt 157 dX5_way_102 (by decide) (by omega) (by omega) (fun h102 => ?_) (fun h102 => absurd h102 (by omega))
    refine g_iload dX5_way_157 1 rfl ?_
    exact g_ireturn dX5_way_159 (Nat.le_refl _) (Nat.le_refl _) (h)
  | succ n ih =>
    intro k hct
    have hk := at_ok (m := m) ho hg ha hd k (by omega)
    have hn := nb_ex (m := m) ho hg (a := atX X m g a k) (by omega) (by omega)
    have hl := lds_at hn.2
    have ho2 := oe_lt ho hn.1 hl.2.1
    have hX1 := rpM_A hX 54 (by omega) f
    have hbb := ok_b ho hn.1
    refine g_iload dX5_way_99 0 rfl ?_
    refine g_iload_n dX5_way_101 rfl 8 rfl ?_
    refine n_icmpgt 157 dX5_way_102 (by decide) (by omega) (by omega) (fun h102 => absurd h102 (by omega)) (fun h102 => ?_)
    refine g_iconst dX5_way_105 ci_0 ?_
    refine g_istore (lv' := [(9, .int (nI 0)), (8, .int (nI k)), (7, .int (tdX X m g a k)), (5, .int (nI (atX X m g a k))), (6, .int (nI al)), (4, .int (nI (bitsN m 8))), (0, .ref (L 33)), (1, .int (nI p)), (2, .int (nI g)), (3, .int (nI j))]) dX5_way_106 (by decide) rfl ?_
    refine g_pick [0, 1, 2, 3, 4, 5, 6, 7, 8, 9] (lv' := [(9, .int (nI 0)), (8, .int (nI k)), (7, .int (tdX X m g a k)), (5, .int (nI (atX X m g a k))), (6, .int (nI al)), (4, .int (nI (bitsN m 8))), (0, .ref (L 33)), (1, .int (nI p)), (2, .int (nI g)), (3, .int (nI j))]) rfl ?_
    refine l1_X5_way hX ho hf hg hk.1 (by omega) (by omega) hn.1 hn.2 ?_ (nbX X m g (atX X m g a k)) 0 (by omega)
    refine g_iload dX5_way_127 0 rfl ?_
    refine g_istore (lv' := [(7, .int (nI (nbX X m g (atX X m g a k)))), (9, .int (nI (nbX X m g (atX X m g a k)))), (8, .int (nI k)), (5, .int (nI (atX X m g a k))), (6, .int (nI al)), (4, .int (nI (bitsN m 8))), (0, .ref (L 33)), (1, .int (nI p)), (2, .int (nI g)), (3, .int (nI j))]) dX5_way_129 (by decide) rfl ?_
    refine g_aload_n dX5_way_131 rfl 6 rfl ?_
    refine s_getM kf_X5_7 (by decide) rfl dX5_way_132 ?_
    refine g_iload dX5_way_135 1 rfl ?_
    refine s_ald (q := 34) (n := 8) (at_ia (q := 34) rfl) (by omega) (by decide) dX5_way_137 ?_
    refine g_tope (z := nI (x_lo X (nbX X m g (atX X m g a k)))) (rpM_lo hX1 (by omega)) ?_
    refine g_aload_n dX5_way_138 rfl 6 rfl ?_
    refine s_getM kf_X5_13 (by decide) rfl dX5_way_139 ?_
    refine g_iload dX5_way_142 1 rfl ?_
    refine s_ald (q := 35) (n := 8) (at_ia (q := 35) rfl) (by omega) (by decide) dX5_way_144 ?_
    refine g_tope (z := nI (x_hi X (nbX X m g (atX X m g a k)))) (rpM_hi hX1 (by omega)) ?_
    refine g_iadd dX5_way_145 ?_
    refine g_tope (z := nI (x_lo X (nbX X m g (atX X m g a k)) + (x_hi X (nbX X m g (atX X m g a k))))) (nI_add _ _) ?_
    refine g_iload dX5_way_146 3 rfl ?_
    refine g_isub dX5_way_148 ?_
    refine g_tope (z := nI ((x_lo X (nbX X m g (atX X m g a k)) + (x_hi X (nbX X m g (atX X m g a k)))) - (atX X m g a k))) (pk_sub (by omega)) ?_
    refine g_istore (lv' := [(5, .int (nI ((x_lo X (nbX X m g (atX X m g a k)) + (x_hi X (nbX X m g (atX X m g a k)))) - (atX X m g a k)))), (7, .int (nI (nbX X m g (atX X m g a k)))), (9, .int (nI (nbX X m g (atX X m g a k)))), (8, .int (nI k)), (6, .int (nI al)), (4, .int (nI (bitsN m 8))), (0, .ref (L 33)), (1, .int (nI p)), (2, .int (nI g)), (3, .int (nI j))]) dX5_way_149 (by decide) rfl ?_
    refine g_iinc (v := nI (k + 1)) (lv' := [(8, .int (nI (k + 1))), (5, .int (nI ((x_lo X (nbX X m g (atX X m g a k)) + (x_hi X (nbX X m g (atX X m g a k)))) - (atX X m g a k)))), (7, .int (nI (nbX X m g (atX X m g a k)))), (9, .int (nI (nbX X m g (atX X m g a k)))), (6, .int (nI al)), (4, .int (nI (bitsN m 8))), (0, .ref (L 33)), (1, .int (nI p)), (2, .int (nI g)), (3, .int (nI j))]) dX5_way_151 3 rfl (inc_n _) (by decide) rfl ?_
    refine g_goto 99 dX5_way_154 (by decide) ?_
    refine g_pick [0, 2, 1, 4, 5, 6, 7, 8, 9] (lv' := [(8, .int (nI (k + 1))), (7, .int (nI (nbX X m g (atX X m g a k)))), (5, .int (nI ((x_lo X (nbX X m g (atX X m g a k)) + (x_hi X (nbX X m g (atX X m g a k)))) - (atX X m g a k)))), (6, .int (nI al)), (4, .int (nI (bitsN m 8))), (0, .ref (L 33)), (1, .int (nI p)), (2, .int (nI g)), (3, .int (nI j))]) rfl ?_
    exact ih (k + 1) (by omega)
set_option maxHeartbeats 4000000 in
set_option maxRecDepth 20000 in
theorem c_X5_way {l : Launch} {D : gE} {L : Nat → Nat} {σ : St} {Q : Option Value → va_W → Prop} {d : Nat} {X : XT} (hX : rpM σ X) (ho : okX X) {x y i : Int32} (h : ∀ σ', fr σ σ' → rpM σ' X → Q (some (.int (wayR X x y i))) (wsOf D L σ')) : Ctr l D yX5_way cX5_way 10 (some .int) (rr (d + 5)) [.ref (L 33), .int x, .int y, .int i] (wsOf D L σ) Q := by
  refine g_start ky_X5_way (Nat.le_of_ble_eq_true rfl) ?_
  refine g_pick [0, 1, 2, 3] (lv' := [(0, .ref (L 33)), (1, .int x), (2, .int y), (3, .int i)]) rfl ?_
  refine g_aload_n dX5_way_0 rfl 0 rfl ?_
  refine g_iload_n dX5_way_1 rfl 1 rfl ?_
  refine g_iload_n dX5_way_2 rfl 2 rfl ?_
  refine g_callV (As := [.int x, .int y]) km_X5_267 ky_X5_isAsked ki_X5_isAsked (by decide) 33 at_33 rfl rfl (Nat.le_of_ble_eq_true rfl) dX5_way_3 rfl (c_X5_isAsked hX ho (fun p3 t3 hp3 ht3 he3 hf3 h3 => ?_) (fun h3 => ?_))
  · subst he3
    subst hf3
    have hsz := ok_sz ho
    refine t_ifne1 11 dX5_way_6 (by decide) ?_
    refine g_aload_n dX5_way_11 rfl 0 rfl ?_
    refine g_aload_n dX5_way_12 rfl 0 rfl ?_
    have hbu := bu_bd ho p3
    refine g_iload_n dX5_way_13 rfl 1 rfl ?_
    refine g_callV (As := [.int (nI p3)]) km_X5_206 ky_X5_carriedBy ki_X5_carriedBy (by decide) 33 at_33 rfl rfl (Nat.le_of_ble_eq_true rfl) dX5_way_14 rfl (c_X5_carriedBy hX ho (by omega) (by assumption) ?_)
    refine g_callV (As := [.int (nI (buX X p3))]) km_X5_257 ky_X5_bearing ki_X5_bearing (by decide) 33 at_33 rfl rfl (Nat.le_of_ble_eq_true rfl) dX5_way_17 rfl (c_X5_bearing hX ho (by omega) ?_)
    refine g_istore (lv' := [(4, .int (nI (bitsN (beX X (buX X p3)) 8))), (0, .ref (L 33)), (1, .int (nI p3)), (2, .int (nI t3)), (3, .int i)]) dX5_way_20 (by decide) rfl ?_
    refine g_aload_n dX5_way_22 rfl 1 rfl ?_
    refine g_iload_n dX5_way_23 rfl 3 rfl ?_
    refine g_iload dX5_way_24 0 rfl ?_
    refine g_callV (As := [.int (nI t3), .int (nI (bitsN (beX X (buX X p3)) 8))]) km_X5_260 ky_X5_findFar ki_X5_findFar (by decide) 33 at_33 rfl rfl (Nat.le_of_ble_eq_true rfl) dX5_way_26 rfl (c_X5_findFar hX ho (by omega) (fun f26 hf26 => ?_))
    have hX0 := hX
    have hX := rpM_A hX 54 (by omega) f26
    have hpp := ok_p ho hp3
    have hfa := fa_le2 (X := X) (m := beX X (buX X p3)) (s := t3) (t := x_pl X p3)
    refine g_aload_n dX5_way_29 rfl 1 rfl ?_
    refine s_getM kf_X5_22 (by decide) rfl dX5_way_30 ?_
    refine g_iload_n dX5_way_33 rfl 2 rfl ?_
    refine s_ald (q := 38) (n := 6) (at_ia (q := 38) rfl) (by omega) (by decide) dX5_way_34 ?_
    refine g_tope (z := nI (x_pl X p3)) (rpM_pl hX (by omega)) ?_
    refine g_istore (lv' := [(5, .int (nI (x_pl X p3))), (4, .int (nI (bitsN (beX X (buX X p3)) 8))), (0, .ref (L 33)), (1, .int (nI p3)), (2, .int (nI t3)), (3, .int i)]) dX5_way_35 (by decide) rfl ?_
    refine g_aload_n dX5_way_37 rfl 2 rfl ?_
    refine s_getM kf_X5_70 (by decide) rfl dX5_way_38 ?_
    refine g_iload dX5_way_41 0 rfl ?_
    refine s_ald (q := 54) (n := 6) (at_ia (q := 54) rfl) (by omega) (by decide) dX5_way_43 ?_
    refine g_tope (z := nI (faX X (beX X (buX X p3)) t3 (x_pl X p3))) (hf26 _ (by omega)) ?_
    refine g_istore (lv' := [(6, .int (nI (faX X (beX X (buX X p3)) t3 (x_pl X p3)))), (5, .int (nI (x_pl X p3))), (4, .int (nI (bitsN (beX X (buX X p3)) 8))), (0, .ref (L 33)), (1, .int (nI p3)), (2, .int (nI t3)), (3, .int i)]) dX5_way_44 (by decide) rfl ?_
    refine g_iload dX5_way_46 0 rfl ?_
    refine g_sipush dX5_way_48 sp_1000 ?_
    refine n_icmpeq 59 dX5_way_51 (by decide) (by omega) (by omega) (fun h51 => ?_) (fun h51 => ?_)
    · refine g_iload dX5_way_59 0 rfl ?_
      refine g_sipush dX5_way_61 sp_1000 ?_
      refine n_icmpne 72 dX5_way_64 (by decide) (by omega) (by omega) (fun h64 => absurd h64 (fun e => e h51)) (fun h64 => ?_)
      refine g_bipush dX5_way_67 bp_m6 ?_
      refine g_goto 74 dX5_way_69 (by decide) ?_
      exact g_ireturn dX5_way_74 (Nat.le_refl _) (Nat.le_refl _) (qi (by unfold wayR; rw [thI_t hp3 h3, teI_t ho ht3, ix6 hp3, ixt ho ht3, if_pos (by rfl), if_neg (fun e => by rw [fa_wa, if_pos e] at h51; omega)]) (h _ (fr_A fr_rfl 54 (by omega) _) (rpM_A hX0 54 (by omega) _)))
    · have hwa : waN X p3 t3 < 6 := Classical.byContradiction fun e => h51 (by rw [fa_wa, if_neg e])
      refine g_iload_n dX5_way_54 rfl 6 rfl ?_
      refine g_iconst dX5_way_55 ci_m1 ?_
      refine g_icmpne 75 dX5_way_56 (by decide) (fun h56 => ?_) (fun h56 => ?_)
      · refine g_iload_n dX5_way_75 rfl 6 rfl ?_
        refine g_i2l dX5_way_76 ?_
        refine g_lconst dX5_way_77 lc_0 ?_
        refine g_iload dX5_way_78 0 rfl ?_
        refine g_iconst dX5_way_80 ci_1 ?_
        refine g_isub dX5_way_81 ?_
        refine g_tope (z := nI (faX X (beX X (buX X p3)) t3 (x_pl X p3)) - nI 1) (rfl) ?_
        refine g_i2l dX5_way_82 ?_
        refine g_callS (As := [.long i.toInt64, .long ((nI 0).toInt64), .long ((nI (faX X (beX X (buX X p3)) t3 (x_pl X p3)) - nI 1).toInt64)]) km_X5_118 ky_X5_in ks_X5_in (by decide) rfl (Nat.le_of_ble_eq_true rfl) dX5_way_83 rfl (c_X5_inS (by omega) (fun p83 hp83 he83 => ?_) (fun h83 => ?_))
        · subst he83
          refine t_ifne1 92 dX5_way_86 (by decide) ?_
          refine g_bipush dX5_way_92 bp_m6 ?_
          refine g_istore (lv' := [(7, .int (-6)), (6, .int (nI (faX X (beX X (buX X p3)) t3 (x_pl X p3)))), (5, .int (nI (x_pl X p3))), (4, .int (nI (bitsN (beX X (buX X p3)) 8))), (0, .ref (L 33)), (1, .int (nI p3)), (2, .int (nI t3)), (3, .int (nI p83))]) dX5_way_94 (by decide) rfl ?_
          refine g_iconst dX5_way_96 ci_0 ?_
          refine g_istore (lv' := [(8, .int (nI 0)), (7, .int (-6)), (6, .int (nI (faX X (beX X (buX X p3)) t3 (x_pl X p3)))), (5, .int (nI (x_pl X p3))), (4, .int (nI (bitsN (beX X (buX X p3)) 8))), (0, .ref (L 33)), (1, .int (nI p3)), (2, .int (nI t3)), (3, .int (nI p83))]) dX5_way_97 (by decide) rfl ?_
          refine g_pick [0, 1, 3, 2, 4, 5, 6, 7, 8] (lv' := [(8, .int (nI 0)), (7, .int (-6)), (5, .int (nI (x_pl X p3))), (6, .int (nI (faX X (beX X (buX X p3)) t3 (x_pl X p3)))), (4, .int (nI (bitsN (beX X (buX X p3)) 8))), (0, .ref (L 33)), (1, .int (nI p3)), (2, .int (nI t3)), (3, .int (nI p83))]) rfl ?_
          rw [fa_wa, if_pos hwa] at hp83 hfa
          refine l2_X5_way (m := beX X (buX X p3)) (g := t3) (a := x_pl X p3) hX0 ho hf26 (by omega) (by omega) hwa hp83 (by rw [fa_wa, if_pos hwa]; omega) (qi ?_ (h _ (fr_A fr_rfl 54 (by omega) _) (rpM_A hX0 54 (by omega) _))) (p83 + 1) 0 (by omega)
          unfold wayR; rw [thI_t hp3 h3, teI_t ho ht3, ix6 hp3, ixt ho ht3, if_pos (by rfl), if_pos hwa, if_neg h56, ix_nI hp83 (by omega), if_pos hp83]; rfl
        · refine t_ifne0 (tgt := 92) dX5_way_86 (by decide) ?_
          refine g_bipush dX5_way_89 bp_m6 ?_
          exact g_ireturn dX5_way_91 (Nat.le_refl _) (Nat.le_refl _) (qi (by unfold wayR; rw [thI_t hp3 h3, teI_t ho ht3, ix6 hp3, ixt ho ht3, if_pos (by rfl), if_pos hwa, if_neg h56, if_neg (ix_no (fun q hq => h83 q (by rw [fa_wa, if_pos hwa]; exact hq)))]) (h _ (fr_A fr_rfl 54 (by omega) _) (rpM_A hX0 54 (by omega) _)))
      · refine g_iload dX5_way_59 0 rfl ?_
        refine g_sipush dX5_way_61 sp_1000 ?_
        refine n_icmpne 72 dX5_way_64 (by decide) (by omega) (by omega) (fun h64 => ?_) (fun h64 => absurd h64 (h51))
        refine g_iload dX5_way_72 0 rfl ?_
        exact g_ireturn dX5_way_74 (Nat.le_refl _) (Nat.le_refl _) (qi (by unfold wayR; rw [thI_t hp3 h3, teI_t ho ht3, ix6 hp3, ixt ho ht3, if_pos (by rfl), if_pos hwa, if_pos h56, fa_wa, if_pos hwa]) (h _ (fr_A fr_rfl 54 (by omega) _) (rpM_A hX0 54 (by omega) _)))
  · refine t_ifne0 (tgt := 11) dX5_way_6 (by decide) ?_
    refine g_iconst dX5_way_9 ci_m1 ?_
    exact g_ireturn dX5_way_10 (Nat.le_refl _) (Nat.le_refl _) (qi (by unfold wayR; rw [h3, if_neg (by decide)]) (h _ fr_rfl hX))
set_option maxHeartbeats 4000000 in
theorem e_X5_mended {l : Launch} {D : gE} {L : Nat → Nat} {σ : St} {Q : Option Value → va_W → Prop} {d : Nat} {σ' : St} {X : XT} (ho : okX X) {p g w : Nat} (hw : w ≤ 1) {best : Option Nat} (hb : ∀ c, best = some c → c < 8) (h : Q (some (.int (mdR X p (nI w) best))) (wsOf D L σ')) : G l D yX5_mended cX5_mended 10 (some .int) (rr (d + 6)) Q 0 0 197 [(8, .int (nI 8)), (7, .int (nI (mdl X p (best)))), (6, .int (mdf (best))), (5, .int (nI (bitsN (beX X (buX X p)) 8))), (4, .int (nI (buX X p))), (0, .ref (L 33)), (1, .int (nI p)), (2, .int (nI g)), (3, .int (nI w))] [] (wsOf D L σ') := by
  have hlm := mdl_le ho p best
  cases best with
  | none =>
    show G l D yX5_mended cX5_mended 10 (some .int) (rr (d + 6)) Q 0 0 197 [(8, .int (nI 8)), (7, .int (nI (mdl X p (none)))), (6, .int (-6)), (5, .int (nI (bitsN (beX X (buX X p)) 8))), (4, .int (nI (buX X p))), (0, .ref (L 33)), (1, .int (nI p)), (2, .int (nI g)), (3, .int (nI w))] [] (wsOf D L σ')
    refine g_iload dX5_mended_197 2 rfl ?_
    refine g_iflt 206 dX5_mended_199 (by decide) (fun h199 => ?_) (fun h199 => absurd h199 (by decide +kernel))
    refine g_iload dX5_mended_206 2 rfl ?_
    refine g_goto 213 dX5_mended_208 (by decide) ?_
    exact g_ireturn dX5_mended_213 (Nat.le_refl _) (Nat.le_refl _) (h)
  | some c =>
    have hc := hb c rfl
    show G l D yX5_mended cX5_mended 10 (some .int) (rr (d + 6)) Q 0 0 197 [(8, .int (nI 8)), (7, .int (nI (mdl X p (some c)))), (6, .int (nI c)), (5, .int (nI (bitsN (beX X (buX X p)) 8))), (4, .int (nI (buX X p))), (0, .ref (L 33)), (1, .int (nI p)), (2, .int (nI g)), (3, .int (nI w))] [] (wsOf D L σ')
    refine g_iload dX5_mended_197 2 rfl ?_
    refine n_iflt (tgt := 206) dX5_mended_199 (by decide) (by omega) ?_
    refine g_iload_n dX5_mended_202 rfl 8 rfl ?_
    refine n_ifne 211 dX5_mended_203 (by decide) (by omega) (fun h203 => ?_) (fun h203 => ?_)
    · refine g_iload dX5_mended_211 1 rfl ?_
      exact g_ireturn dX5_mended_213 (Nat.le_refl _) (Nat.le_refl _) (qi (by simp only [mdR]; rw [if_neg (fun e => h203 ((nI_eq (by omega) (by omega)).mp e))]; rfl) h)
    · refine g_iload dX5_mended_206 2 rfl ?_
      refine g_goto 213 dX5_mended_208 (by decide) ?_
      exact g_ireturn dX5_mended_213 (Nat.le_refl _) (Nat.le_refl _) (qi (by simp only [mdR]; rw [h203, if_pos rfl]) h)
set_option maxHeartbeats 4000000 in
set_option maxRecDepth 20000 in
theorem lp_X5_mended {l : Launch} {D : gE} {L : Nat → Nat} {σ : St} {Q : Option Value → va_W → Prop} {d : Nat} {X : XT} (ho : okX X) {p g w : Nat} (hp : p < 6) (hg : g < 6) (hw : w ≤ 1) (hn : ¬ waN X p g < 6) (h : ∀ σ', fr σ σ' → rpM σ' X → Q (some (.int (mdR X p (nI w) (mdN X p g 8)))) (wsOf D L σ')) : ∀ n b, b + n = 8 → ∀ σ', fr σ σ' → rpM σ' X → G l D yX5_mended cX5_mended 10 (some .int) (rr (d + 6)) Q 0 0 78 [(8, .int (nI b)), (7, .int (nI (mdl X p (mdN X p g b)))), (6, .int (mdf (mdN X p g b))), (5, .int (nI (bitsN (beX X (buX X p)) 8))), (4, .int (nI (buX X p))), (0, .ref (L 33)), (1, .int (nI p)), (2, .int (nI g)), (3, .int (nI w))] [] (wsOf D L σ') := by
  intro n
  induction n with
  | zero =>
    intro b hct σ' hfr hX
    obtain rfl : b = 8 := by omega
    refine g_iload dX5_mended_78 0 rfl ?_
    refine g_bipush dX5_mended_80 bp_8 ?_
    refine n_icmpge 197 dX5_mended_82 (by decide) (by omega) (by omega) (fun h82 => ?_) (fun h82 => absurd h82 (by omega))
    refine g_pick [0, 1, 2, 3, 4, 5, 6, 7, 8] (lv' := [(8, .int (nI 8)), (7, .int (nI (mdl X p (mdN X p g 8)))), (6, .int (mdf (mdN X p g 8))), (5, .int (nI (bitsN (beX X (buX X p)) 8))), (4, .int (nI (buX X p))), (0, .ref (L 33)), (1, .int (nI p)), (2, .int (nI g)), (3, .int (nI w))]) rfl ?_
    exact e_X5_mended (σ := σ) (g := g) ho hw (fun c hc => (md_ok hn 8 c (by omega) hc).1) (h _ hfr hX)
  | succ n ih =>
    intro b hct σ' hfr hX
    have hbu := bu_bd ho p
    have hbb := ok_b ho (i := b) (by omega)
    have hpp := ok_p ho hp
    have hlm := mdl_le ho p (mdN X p g b)
    refine g_iload dX5_mended_78 0 rfl ?_
    refine g_bipush dX5_mended_80 bp_8 ?_
    refine n_icmpge 197 dX5_mended_82 (by decide) (by omega) (by omega) (fun h82 => absurd h82 (by omega)) (fun h82 => ?_)
    refine g_aload_n dX5_mended_85 rfl 5 rfl ?_
    refine g_iload dX5_mended_86 0 rfl ?_
    refine g_callV (As := [.int (nI b)]) km_X5_140 ky_X5_isBridge ki_X5_isBridge (by decide) 33 at_33 rfl rfl (Nat.le_of_ble_eq_true rfl) dX5_mended_88 rfl (c_X5_isBridgeN hX (by omega) (fun h88 => ?_) (fun h88 => ?_))
    · refine t_ifeq1 (tgt := 191) dX5_mended_91 (by decide) ?_
      refine g_iload dX5_mended_94 3 rfl ?_
      refine g_iload dX5_mended_96 0 rfl ?_
      refine g_ishr dX5_mended_98 ?_
      refine g_iconst dX5_mended_99 ci_1 ?_
      refine g_iand dX5_mended_100 ?_
      refine g_tope (z := nI (b2n ((beX X (buX X p)) b))) (gbB _ (by decide) (by omega)) ?_
      refine b_ifne 191 dX5_mended_101 (by decide) (fun h101 => ?_) (fun h101 => ?_)
      · refine g_iinc (v := nI (b + 1)) (lv' := [(8, .int (nI (b + 1))), (7, .int (nI (mdl X p (mdN X p g b)))), (6, .int (mdf (mdN X p g b))), (5, .int (nI (bitsN (beX X (buX X p)) 8))), (4, .int (nI (buX X p))), (0, .ref (L 33)), (1, .int (nI p)), (2, .int (nI g)), (3, .int (nI w))]) dX5_mended_191 0 rfl (inc_n _) (by decide) rfl ?_
        refine g_goto 78 dX5_mended_194 (by decide) ?_
        refine g_pick [0, 1, 2, 3, 4, 5, 6, 7, 8] (lv' := [(8, .int (nI (b + 1))), (7, .int (nI (mdl X p (mdN X p g b)))), (6, .int (mdf (mdN X p g b))), (5, .int (nI (bitsN (beX X (buX X p)) 8))), (4, .int (nI (buX X p))), (0, .ref (L 33)), (1, .int (nI p)), (2, .int (nI g)), (3, .int (nI w))]) rfl ?_
        have hst : mdN X p g (b + 1) = mdN X p g b := md_no (Or.inr (md_open hn h101))
        have ih2 := ih (b + 1) (by omega) _ hfr hX
        rw [hst] at ih2
        exact ih2
      · have hlb := be_lt h88 h101
        refine g_aload_n dX5_mended_104 rfl 5 rfl ?_
        refine g_iload_n dX5_mended_105 rfl 7 rfl ?_
        refine g_iload dX5_mended_106 3 rfl ?_
        refine g_iconst dX5_mended_108 ci_1 ?_
        refine g_iload dX5_mended_109 0 rfl ?_
        refine g_ishl dX5_mended_111 ?_
        refine g_ior dX5_mended_112 ?_
        refine g_tope (z := nI (bitsN (fun i => (beX X (buX X p)) i || i == b) 8)) (obB _ (by decide) (by omega)) ?_
        refine g_callV (As := [.int (nI g), .int (nI (bitsN (fun i => (beX X (buX X p)) i || i == b) 8))]) km_X5_260 ky_X5_findFar ki_X5_findFar (by decide) 33 at_33 rfl rfl (Nat.le_of_ble_eq_true rfl) dX5_mended_113 rfl (c_X5_findFar hX ho (by omega) (fun f113 hf113 => ?_))
        have hX := rpM_A hX 54 (by omega) f113
        have hfr := fr_A hfr 54 (by omega) f113
        have hfa := fa_le2 (X := X) (m := fun i => beX X (buX X p) i || i == b) (s := g) (t := x_pl X p)
        refine g_aload_n dX5_mended_116 rfl 5 rfl ?_
        refine s_getM kf_X5_70 (by decide) rfl dX5_mended_117 ?_
        refine g_aload_n dX5_mended_120 rfl 5 rfl ?_
        refine s_getM kf_X5_22 (by decide) rfl dX5_mended_121 ?_
        refine g_iload_n dX5_mended_124 rfl 6 rfl ?_
        refine s_ald (q := 38) (n := 6) (at_ia (q := 38) rfl) (by omega) (by decide) dX5_mended_125 ?_
        refine g_tope (z := nI (x_pl X p)) (rpM_pl hX (by omega)) ?_
        refine s_ald (q := 54) (n := 6) (at_ia (q := 54) rfl) (by omega) (by decide) dX5_mended_126 ?_
        refine g_tope (z := nI (faX X (fun i => beX X (buX X p) i || i == b) g (x_pl X p))) (hf113 _ (by omega)) ?_
        refine g_sipush dX5_mended_127 sp_1000 ?_
        refine n_icmpge 152 dX5_mended_130 (by decide) (by omega) (by omega) (fun h130 => ?_) (fun h130 => ?_)
        · refine g_iconst dX5_mended_152 ci_0 ?_
          refine g_istore (lv' := [(9, .int (nI 0)), (8, .int (nI b)), (7, .int (nI (mdl X p (mdN X p g b)))), (6, .int (mdf (mdN X p g b))), (5, .int (nI (bitsN (beX X (buX X p)) 8))), (4, .int (nI (buX X p))), (0, .ref (L 33)), (1, .int (nI p)), (2, .int (nI g)), (3, .int (nI w))]) dX5_mended_153 (by decide) rfl ?_
          refine g_iload dX5_mended_155 0 rfl ?_
          refine t_ifeq0 165 dX5_mended_157 (by decide) ?_
          refine g_iload dX5_mended_165 3 rfl ?_
          refine g_istore (lv' := [(6, .int (mdf (mdN X p g b))), (9, .int (nI 0)), (8, .int (nI b)), (7, .int (nI (mdl X p (mdN X p g b)))), (5, .int (nI (bitsN (beX X (buX X p)) 8))), (4, .int (nI (buX X p))), (0, .ref (L 33)), (1, .int (nI p)), (2, .int (nI g)), (3, .int (nI w))]) dX5_mended_167 (by decide) rfl ?_
          refine g_iload dX5_mended_169 1 rfl ?_
          refine t_ifeq0 187 dX5_mended_171 (by decide) ?_
          refine g_iload dX5_mended_187 3 rfl ?_
          refine g_istore (lv' := [(7, .int (nI (mdl X p (mdN X p g b)))), (6, .int (mdf (mdN X p g b))), (9, .int (nI 0)), (8, .int (nI b)), (5, .int (nI (bitsN (beX X (buX X p)) 8))), (4, .int (nI (buX X p))), (0, .ref (L 33)), (1, .int (nI p)), (2, .int (nI g)), (3, .int (nI w))]) dX5_mended_189 (by decide) rfl ?_
          refine g_iinc (v := nI (b + 1)) (lv' := [(8, .int (nI (b + 1))), (7, .int (nI (mdl X p (mdN X p g b)))), (6, .int (mdf (mdN X p g b))), (9, .int (nI 0)), (5, .int (nI (bitsN (beX X (buX X p)) 8))), (4, .int (nI (buX X p))), (0, .ref (L 33)), (1, .int (nI p)), (2, .int (nI g)), (3, .int (nI w))]) dX5_mended_191 3 rfl (inc_n _) (by decide) rfl ?_
          refine g_goto 78 dX5_mended_194 (by decide) ?_
          refine g_pick [0, 1, 2, 4, 5, 6, 7, 8, 9] (lv' := [(8, .int (nI (b + 1))), (7, .int (nI (mdl X p (mdN X p g b)))), (6, .int (mdf (mdN X p g b))), (5, .int (nI (bitsN (beX X (buX X p)) 8))), (4, .int (nI (buX X p))), (0, .ref (L 33)), (1, .int (nI p)), (2, .int (nI g)), (3, .int (nI w))]) rfl ?_
          have hst : mdN X p g (b + 1) = mdN X p g b := md_no (Or.inr (fun e => by have := fa_lt_iff.mpr e; omega))
          have ih2 := ih (b + 1) (by omega) _ hfr hX
          rw [hst] at ih2
          exact ih2
        · refine g_iload dX5_mended_133 4 rfl ?_
          refine g_aload_n dX5_mended_135 rfl 5 rfl ?_
          refine s_getM kf_X5_16 (by decide) rfl dX5_mended_136 ?_
          refine g_iload dX5_mended_139 0 rfl ?_
          refine s_ald (q := 36) (n := 8) (at_ia (q := 36) rfl) (by omega) (by decide) dX5_mended_141 ?_
          refine g_tope (z := nI (x_ld X b)) (rpM_ld hX (by omega)) ?_
          refine g_isub dX5_mended_142 ?_
          refine g_tope (z := nI ((buX X p) - (x_ld X b))) (pk_sub (by omega)) ?_
          refine g_iload dX5_mended_143 1 rfl ?_
          refine n_icmpge 152 dX5_mended_145 (by decide) (by omega) (by omega) (fun h145 => ?_) (fun h145 => ?_)
          · refine g_iconst dX5_mended_152 ci_0 ?_
            refine g_istore (lv' := [(9, .int (nI 0)), (8, .int (nI b)), (7, .int (nI (mdl X p (mdN X p g b)))), (6, .int (mdf (mdN X p g b))), (5, .int (nI (bitsN (beX X (buX X p)) 8))), (4, .int (nI (buX X p))), (0, .ref (L 33)), (1, .int (nI p)), (2, .int (nI g)), (3, .int (nI w))]) dX5_mended_153 (by decide) rfl ?_
            refine g_iload dX5_mended_155 0 rfl ?_
            refine t_ifeq0 165 dX5_mended_157 (by decide) ?_
            refine g_iload dX5_mended_165 3 rfl ?_
            refine g_istore (lv' := [(6, .int (mdf (mdN X p g b))), (9, .int (nI 0)), (8, .int (nI b)), (7, .int (nI (mdl X p (mdN X p g b)))), (5, .int (nI (bitsN (beX X (buX X p)) 8))), (4, .int (nI (buX X p))), (0, .ref (L 33)), (1, .int (nI p)), (2, .int (nI g)), (3, .int (nI w))]) dX5_mended_167 (by decide) rfl ?_
            refine g_iload dX5_mended_169 1 rfl ?_
            refine t_ifeq0 187 dX5_mended_171 (by decide) ?_
            refine g_iload dX5_mended_187 3 rfl ?_
            refine g_istore (lv' := [(7, .int (nI (mdl X p (mdN X p g b)))), (6, .int (mdf (mdN X p g b))), (9, .int (nI 0)), (8, .int (nI b)), (5, .int (nI (bitsN (beX X (buX X p)) 8))), (4, .int (nI (buX X p))), (0, .ref (L 33)), (1, .int (nI p)), (2, .int (nI g)), (3, .int (nI w))]) dX5_mended_189 (by decide) rfl ?_
            refine g_iinc (v := nI (b + 1)) (lv' := [(8, .int (nI (b + 1))), (7, .int (nI (mdl X p (mdN X p g b)))), (6, .int (mdf (mdN X p g b))), (9, .int (nI 0)), (5, .int (nI (bitsN (beX X (buX X p)) 8))), (4, .int (nI (buX X p))), (0, .ref (L 33)), (1, .int (nI p)), (2, .int (nI g)), (3, .int (nI w))]) dX5_mended_191 3 rfl (inc_n _) (by decide) rfl ?_
            refine g_goto 78 dX5_mended_194 (by decide) ?_
            refine g_pick [0, 1, 2, 4, 5, 6, 7, 8, 9] (lv' := [(8, .int (nI (b + 1))), (7, .int (nI (mdl X p (mdN X p g b)))), (6, .int (mdf (mdN X p g b))), (5, .int (nI (bitsN (beX X (buX X p)) 8))), (4, .int (nI (buX X p))), (0, .ref (L 33)), (1, .int (nI p)), (2, .int (nI g)), (3, .int (nI w))]) rfl ?_
            have hst : mdN X p g (b + 1) = mdN X p g b := md_worse ho hn (by omega) h88 h101 h145
            have ih2 := ih (b + 1) (by omega) _ hfr hX
            rw [hst] at ih2
            exact ih2
          · refine g_iconst dX5_mended_148 ci_1 ?_
            refine g_goto 153 dX5_mended_149 (by decide) ?_
            refine g_istore (lv' := [(9, .int (nI 1)), (8, .int (nI b)), (7, .int (nI (mdl X p (mdN X p g b)))), (6, .int (mdf (mdN X p g b))), (5, .int (nI (bitsN (beX X (buX X p)) 8))), (4, .int (nI (buX X p))), (0, .ref (L 33)), (1, .int (nI p)), (2, .int (nI g)), (3, .int (nI w))]) dX5_mended_153 (by decide) rfl ?_
            refine g_iload dX5_mended_155 0 rfl ?_
            refine t_ifeq1 (tgt := 165) dX5_mended_157 (by decide) ?_
            refine g_iload dX5_mended_160 1 rfl ?_
            refine g_goto 167 dX5_mended_162 (by decide) ?_
            refine g_istore (lv' := [(6, .int (nI b)), (9, .int (nI 1)), (8, .int (nI b)), (7, .int (nI (mdl X p (mdN X p g b)))), (5, .int (nI (bitsN (beX X (buX X p)) 8))), (4, .int (nI (buX X p))), (0, .ref (L 33)), (1, .int (nI p)), (2, .int (nI g)), (3, .int (nI w))]) dX5_mended_167 (by decide) rfl ?_
            refine g_iload dX5_mended_169 1 rfl ?_
            refine t_ifeq1 (tgt := 187) dX5_mended_171 (by decide) ?_
            refine g_iload dX5_mended_174 5 rfl ?_
            refine g_aload_n dX5_mended_176 rfl 6 rfl ?_
            refine s_getM kf_X5_16 (by decide) rfl dX5_mended_177 ?_
            refine g_iload dX5_mended_180 2 rfl ?_
            refine s_ald (q := 36) (n := 8) (at_ia (q := 36) rfl) (by omega) (by decide) dX5_mended_182 ?_
            refine g_tope (z := nI (x_ld X b)) (rpM_ld hX (by omega)) ?_
            refine g_isub dX5_mended_183 ?_
            refine g_tope (z := nI ((buX X p) - (x_ld X b))) (pk_sub (by omega)) ?_
            refine g_goto 189 dX5_mended_184 (by decide) ?_
            refine g_istore (lv' := [(7, .int (nI ((buX X p) - (x_ld X b)))), (6, .int (nI b)), (9, .int (nI 1)), (8, .int (nI b)), (5, .int (nI (bitsN (beX X (buX X p)) 8))), (4, .int (nI (buX X p))), (0, .ref (L 33)), (1, .int (nI p)), (2, .int (nI g)), (3, .int (nI w))]) dX5_mended_189 (by decide) rfl ?_
            refine g_iinc (v := nI (b + 1)) (lv' := [(8, .int (nI (b + 1))), (7, .int (nI ((buX X p) - (x_ld X b)))), (6, .int (nI b)), (9, .int (nI 1)), (5, .int (nI (bitsN (beX X (buX X p)) 8))), (4, .int (nI (buX X p))), (0, .ref (L 33)), (1, .int (nI p)), (2, .int (nI g)), (3, .int (nI w))]) dX5_mended_191 3 rfl (inc_n _) (by decide) rfl ?_
            refine g_goto 78 dX5_mended_194 (by decide) ?_
            refine g_pick [0, 1, 2, 4, 5, 6, 7, 8, 9] (lv' := [(8, .int (nI (b + 1))), (7, .int (nI ((buX X p) - (x_ld X b)))), (6, .int (nI b)), (5, .int (nI (bitsN (beX X (buX X p)) 8))), (4, .int (nI (buX X p))), (0, .ref (L 33)), (1, .int (nI p)), (2, .int (nI g)), (3, .int (nI w))]) rfl ?_
            have hst : mdN X p g (b + 1) = some b := md_yes hn (by omega) h88 h101 (fa_lt_iff.mp h130) h145
            have ih2 := ih (b + 1) (by omega) _ hfr hX
            rw [hst] at ih2
            exact ih2
    · refine t_ifeq0 191 dX5_mended_91 (by decide) ?_
      refine g_iinc (v := nI (b + 1)) (lv' := [(8, .int (nI (b + 1))), (7, .int (nI (mdl X p (mdN X p g b)))), (6, .int (mdf (mdN X p g b))), (5, .int (nI (bitsN (beX X (buX X p)) 8))), (4, .int (nI (buX X p))), (0, .ref (L 33)), (1, .int (nI p)), (2, .int (nI g)), (3, .int (nI w))]) dX5_mended_191 0 rfl (inc_n _) (by decide) rfl ?_
      refine g_goto 78 dX5_mended_194 (by decide) ?_
      refine g_pick [0, 1, 2, 3, 4, 5, 6, 7, 8] (lv' := [(8, .int (nI (b + 1))), (7, .int (nI (mdl X p (mdN X p g b)))), (6, .int (mdf (mdN X p g b))), (5, .int (nI (bitsN (beX X (buX X p)) 8))), (4, .int (nI (buX X p))), (0, .ref (L 33)), (1, .int (nI p)), (2, .int (nI g)), (3, .int (nI w))]) rfl ?_
      have hst : mdN X p g (b + 1) = mdN X p g b := md_no (Or.inl h88)
      have ih2 := ih (b + 1) (by omega) _ hfr hX
      rw [hst] at ih2
      exact ih2
set_option maxHeartbeats 4000000 in
set_option maxRecDepth 20000 in
theorem c_X5_mended {l : Launch} {D : gE} {L : Nat → Nat} {σ : St} {Q : Option Value → va_W → Prop} {d : Nat} {X : XT} (hX : rpM σ X) (ho : okX X) {x y z : Int32} (h : ∀ σ', fr σ σ' → rpM σ' X → Q (some (.int (mendedR X x y z))) (wsOf D L σ')) : Ctr l D yX5_mended cX5_mended 10 (some .int) (rr (d + 6)) [.ref (L 33), .int x, .int y, .int z] (wsOf D L σ) Q := by
  refine g_start ky_X5_mended (Nat.le_of_ble_eq_true rfl) ?_
  refine g_pick [0, 1, 2, 3] (lv' := [(0, .ref (L 33)), (1, .int x), (2, .int y), (3, .int z)]) rfl ?_
  refine g_aload_n dX5_mended_0 rfl 0 rfl ?_
  refine g_iload_n dX5_mended_1 rfl 1 rfl ?_
  refine g_iload_n dX5_mended_2 rfl 2 rfl ?_
  refine g_callV (As := [.int x, .int y]) km_X5_267 ky_X5_isAsked ki_X5_isAsked (by decide) 33 at_33 rfl rfl (Nat.le_of_ble_eq_true rfl) dX5_mended_3 rfl (c_X5_isAsked hX ho (fun p3 t3 hp3 ht3 he3 hf3 h3 => ?_) (fun h3 => ?_))
  · subst he3
    subst hf3
    have hsz := ok_sz ho
    refine t_ifne1 11 dX5_mended_6 (by decide) ?_
    refine g_iload_n dX5_mended_11 rfl 3 rfl ?_
    refine g_i2l dX5_mended_12 ?_
    refine g_lconst dX5_mended_13 lc_0 ?_
    refine g_lconst dX5_mended_14 lc_1 ?_
    refine g_callS (As := [.long z.toInt64, .long ((nI 0).toInt64), .long ((nI 1).toInt64)]) km_X5_118 ky_X5_in ks_X5_in (by decide) rfl (Nat.le_of_ble_eq_true rfl) dX5_mended_15 rfl (c_X5_inN (by omega) (by omega) (fun p15 ha15 hb15 he15 => ?_) (fun h15 => ?_))
    · subst he15
      refine t_ifne1 24 dX5_mended_18 (by decide) ?_
      have hbu := bu_bd ho p3
      have hpp := ok_p ho hp3
      have hfa := fa_le2 (X := X) (m := beX X (buX X p3)) (s := t3) (t := x_pl X p3)
      refine g_aload_n dX5_mended_24 rfl 0 rfl ?_
      refine g_iload_n dX5_mended_25 rfl 1 rfl ?_
      refine g_callV (As := [.int (nI p3)]) km_X5_206 ky_X5_carriedBy ki_X5_carriedBy (by decide) 33 at_33 rfl rfl (Nat.le_of_ble_eq_true rfl) dX5_mended_26 rfl (c_X5_carriedBy hX ho (by omega) (by assumption) ?_)
      refine g_istore (lv' := [(4, .int (nI (buX X p3))), (0, .ref (L 33)), (1, .int (nI p3)), (2, .int (nI t3)), (3, .int (nI p15))]) dX5_mended_29 (by decide) rfl ?_
      refine g_aload_n dX5_mended_31 rfl 1 rfl ?_
      refine g_iload dX5_mended_32 0 rfl ?_
      refine g_callV (As := [.int (nI (buX X p3))]) km_X5_257 ky_X5_bearing ki_X5_bearing (by decide) 33 at_33 rfl rfl (Nat.le_of_ble_eq_true rfl) dX5_mended_34 rfl (c_X5_bearing hX ho (by omega) ?_)
      refine g_istore (lv' := [(5, .int (nI (bitsN (beX X (buX X p3)) 8))), (4, .int (nI (buX X p3))), (0, .ref (L 33)), (1, .int (nI p3)), (2, .int (nI t3)), (3, .int (nI p15))]) dX5_mended_37 (by decide) rfl ?_
      refine g_aload_n dX5_mended_39 rfl 2 rfl ?_
      refine g_iload_n dX5_mended_40 rfl 4 rfl ?_
      refine g_iload dX5_mended_41 0 rfl ?_
      refine g_callV (As := [.int (nI t3), .int (nI (bitsN (beX X (buX X p3)) 8))]) km_X5_260 ky_X5_findFar ki_X5_findFar (by decide) 33 at_33 rfl rfl (Nat.le_of_ble_eq_true rfl) dX5_mended_43 rfl (c_X5_findFar hX ho (by omega) (fun f43 hf43 => ?_))
      have hX0 := hX
      have hX := rpM_A hX 54 (by omega) f43
      have hfr : fr σ _ := fr_A fr_rfl 54 (by omega) f43
      refine g_aload_n dX5_mended_46 rfl 2 rfl ?_
      refine s_getM kf_X5_70 (by decide) rfl dX5_mended_47 ?_
      refine g_aload_n dX5_mended_50 rfl 2 rfl ?_
      refine s_getM kf_X5_22 (by decide) rfl dX5_mended_51 ?_
      refine g_iload_n dX5_mended_54 rfl 3 rfl ?_
      refine s_ald (q := 38) (n := 6) (at_ia (q := 38) rfl) (by omega) (by decide) dX5_mended_55 ?_
      refine g_tope (z := nI (x_pl X p3)) (rpM_pl hX (by omega)) ?_
      refine s_ald (q := 54) (n := 6) (at_ia (q := 54) rfl) (by omega) (by decide) dX5_mended_56 ?_
      refine g_tope (z := nI (faX X (beX X (buX X p3)) t3 (x_pl X p3))) (hf43 _ (by omega)) ?_
      refine g_sipush dX5_mended_57 sp_1000 ?_
      refine n_icmpge 66 dX5_mended_60 (by decide) (by omega) (by omega) (fun h60 => ?_) (fun h60 => ?_)
      · refine g_bipush dX5_mended_66 bp_m6 ?_
        refine g_istore (lv' := [(6, .int (-6)), (5, .int (nI (bitsN (beX X (buX X p3)) 8))), (4, .int (nI (buX X p3))), (0, .ref (L 33)), (1, .int (nI p3)), (2, .int (nI t3)), (3, .int (nI p15))]) dX5_mended_68 (by decide) rfl ?_
        refine g_ldc_w kk_X5_297 dX5_mended_70 ?_
        refine g_tope (z := nI 1000000) (by decide +kernel) ?_
        refine g_istore (lv' := [(7, .int (nI 1000000)), (6, .int (-6)), (5, .int (nI (bitsN (beX X (buX X p3)) 8))), (4, .int (nI (buX X p3))), (0, .ref (L 33)), (1, .int (nI p3)), (2, .int (nI t3)), (3, .int (nI p15))]) dX5_mended_73 (by decide) rfl ?_
        refine g_iconst dX5_mended_75 ci_0 ?_
        refine g_istore (lv' := [(8, .int (nI 0)), (7, .int (nI 1000000)), (6, .int (-6)), (5, .int (nI (bitsN (beX X (buX X p3)) 8))), (4, .int (nI (buX X p3))), (0, .ref (L 33)), (1, .int (nI p3)), (2, .int (nI t3)), (3, .int (nI p15))]) dX5_mended_76 (by decide) rfl ?_
        refine g_pick [0, 1, 2, 3, 4, 5, 6, 7, 8] (lv' := [(8, .int (nI 0)), (7, .int (nI 1000000)), (6, .int (-6)), (5, .int (nI (bitsN (beX X (buX X p3)) 8))), (4, .int (nI (buX X p3))), (0, .ref (L 33)), (1, .int (nI p3)), (2, .int (nI t3)), (3, .int (nI p15))]) rfl ?_
        have hn : ¬ waN X p3 t3 < 6 := fun e => by rw [fa_wa, if_pos e] at h60; omega
        refine lp_X5_mended ho hp3 (by omega) (by omega) hn (fun σ2 hf2 hX2 => qi ?_ (h σ2 hf2 hX2)) 8 0 rfl _ hfr hX
        unfold mendedR; rw [thI_t hp3 h3, teI_t ho ht3, ix6 hp3, ixt ho ht3, if_pos (by rfl), inN_t (a := 0) (b := 1) (by omega) (by omega) (by omega), if_pos rfl, if_neg hn]
      · refine g_bipush dX5_mended_63 bp_m6 ?_
        exact g_ireturn dX5_mended_65 (Nat.le_refl _) (Nat.le_refl _) (qi (by unfold mendedR; rw [thI_t hp3 h3, teI_t ho ht3, ix6 hp3, ixt ho ht3, if_pos (by rfl), inN_t (a := 0) (b := 1) (by omega) (by omega) (by omega), if_pos rfl, if_pos (show waN X p3 t3 < 6 from fa_lt_iff.mp h60)]) (h _ hfr hX))
    · refine t_ifne0 (tgt := 24) dX5_mended_18 (by decide) ?_
      refine g_bipush dX5_mended_21 bp_m2 ?_
      exact g_ireturn dX5_mended_23 (Nat.le_refl _) (Nat.le_refl _) (qi (by unfold mendedR; rw [thI_t hp3 h3, teI_t ho ht3, ix6 hp3, ixt ho ht3, if_pos (by rfl), inN_f (a := 0) (b := 1) (by omega) h15, if_neg (by decide)]) (h _ fr_rfl hX))
  · refine t_ifne0 (tgt := 11) dX5_mended_6 (by decide) ?_
    refine g_iconst dX5_mended_9 ci_m1 ?_
    exact g_ireturn dX5_mended_10 (Nat.le_refl _) (Nat.le_refl _) (qi (by unfold mendedR; rw [h3, if_neg (by decide)]) (h _ fr_rfl hX))
