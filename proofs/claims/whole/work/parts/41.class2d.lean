set_option maxHeartbeats 4000000 in
set_option maxRecDepth 20000 in
theorem lp_X3_sum {l : Launch} {D : gE} {L : Nat → Nat} {σ : St} {Q : Option Value → va_W → Prop} {d : Nat} {b : Nat} (hb : tn σ b) {X : XT} (hX : rzT σ b X) (ho : okX X) {p : Nat} (hp : p < 6) {f : Nat → Bool} (h : Q (some (.int (zI (smX X p f 8)))) (wsOf D L σ)) : ∀ n_ k, k + n_ = 8 → G l D yX3_sum cX3_sum 5 (some .int) (rr (d + 1)) Q 0 0 5 [(4, .int (nI k)), (3, .int (zI (smX X p f k))), (0, .ref (L b)), (1, .int (nI p)), (2, .int (nI (bitsN f 8)))] [] (wsOf D L σ) := by
  intro n_
  induction n_ with
  | zero =>
    intro k hct
    obtain rfl : k = 8 := by omega
    refine g_iload dX3_sum_5 0 rfl ?_
    refine g_bipush dX3_sum_7 bp_8 ?_
    refine n_icmpge 37 dX3_sum_9 (by decide) (by omega) (by omega) (fun h9 => ?_) (fun h9 => absurd h9 (by omega))
    refine g_iload_n dX3_sum_37 rfl 1 rfl ?_
    exact g_ireturn dX3_sum_38 (Nat.le_refl _) (Nat.le_refl _) (h)
  | succ n_ ih =>
    intro k hct
    refine g_iload dX3_sum_5 0 rfl ?_
    refine g_bipush dX3_sum_7 bp_8 ?_
    refine n_icmpge 37 dX3_sum_9 (by decide) (by omega) (by omega) (fun h9 => absurd h9 (by omega)) (fun h9 => ?_)
    refine g_iload_n dX3_sum_12 rfl 4 rfl ?_
    refine g_iload dX3_sum_13 0 rfl ?_
    refine g_callN2 (C := RX3) (As := [.int (nI (bitsN f 8)), .int (nI k)]) rfl kn_X3_84 ky_X4_has ks_X4_has (by decide) rfl (Nat.le_of_ble_eq_true rfl) dX3_sum_15 rfl (c_X4_has (n := 8) (by decide) (by omega) (fun h15 => ?_) (fun h15 => ?_))
    · refine t_ifeq1 (tgt := 31) dX3_sum_18 (by decide) ?_
      refine g_iload_n dX3_sum_21 rfl 1 rfl ?_
      refine g_aload_n dX3_sum_22 rfl 2 rfl ?_
      refine g_iload_n dX3_sum_23 rfl 3 rfl ?_
      refine g_iload dX3_sum_24 0 rfl ?_
      refine g_callV (As := [.int (nI p), .int (nI k)]) km_X3_88 ky_X3_weightFor ki_X3_weightFor (by decide) b (at_tn hb) rfl rfl (Nat.le_of_ble_eq_true rfl) dX3_sum_26 rfl (c_X3_weightFor hb hX ho (by omega) (by omega) ?_)
      refine g_iadd dX3_sum_29 ?_
      refine g_tope (z := zI (smX X p f (k + 1))) ((zI_add _ _).trans (by unfold smX; show _ = zI (sumN _ k + (if f k = true then _ else _)); rw [if_pos h15])) ?_
      refine g_istore_n (lv' := [(3, .int (zI (smX X p f (k + 1)))), (4, .int (nI k)), (0, .ref (L b)), (1, .int (nI p)), (2, .int (nI (bitsN f 8)))]) dX3_sum_30 rfl (by decide) rfl ?_
      refine g_iinc (v := nI (k + 1)) (lv' := [(4, .int (nI (k + 1))), (3, .int (zI (smX X p f (k + 1)))), (0, .ref (L b)), (1, .int (nI p)), (2, .int (nI (bitsN f 8)))]) dX3_sum_31 1 rfl (inc_n _) (by decide) rfl ?_
      refine g_goto 5 dX3_sum_34 (by decide) ?_
      refine g_pick [0, 1, 2, 3, 4] (lv' := [(4, .int (nI (k + 1))), (3, .int (zI (smX X p f (k + 1)))), (0, .ref (L b)), (1, .int (nI p)), (2, .int (nI (bitsN f 8)))]) rfl ?_
      exact ih (k + 1) (by omega)
    · refine t_ifeq0 31 dX3_sum_18 (by decide) ?_
      refine g_iinc (v := nI (k + 1)) (lv' := [(4, .int (nI (k + 1))), (3, .int (zI (smX X p f k))), (0, .ref (L b)), (1, .int (nI p)), (2, .int (nI (bitsN f 8)))]) dX3_sum_31 0 rfl (inc_n _) (by decide) rfl ?_
      refine g_goto 5 dX3_sum_34 (by decide) ?_
      refine g_pick [0, 1, 2, 3, 4] (lv' := [(4, .int (nI (k + 1))), (3, .int (zI (smX X p f k))), (0, .ref (L b)), (1, .int (nI p)), (2, .int (nI (bitsN f 8)))]) rfl ?_
      have ih2 := ih (k + 1) (by omega)
      rw [← sm_f h15] at ih2
      exact ih2
set_option maxHeartbeats 4000000 in
set_option maxRecDepth 20000 in
theorem c_X3_sum {l : Launch} {D : gE} {L : Nat → Nat} {σ : St} {Q : Option Value → va_W → Prop} {d : Nat} {b : Nat} (hb : tn σ b) {X : XT} (hX : rzT σ b X) (ho : okX X) {p : Nat} (hp : p < 6) {f : Nat → Bool} (h : Q (some (.int (zI (smX X p f 8)))) (wsOf D L σ)) : Ctr l D yX3_sum cX3_sum 5 (some .int) (rr (d + 1)) [.ref (L b), .int (nI p), .int (nI (bitsN f 8))] (wsOf D L σ) Q := by
  refine g_start ky_X3_sum (Nat.le_of_ble_eq_true rfl) ?_
  refine g_pick [0, 1, 2] (lv' := [(0, .ref (L b)), (1, .int (nI p)), (2, .int (nI (bitsN f 8)))]) rfl ?_
  refine g_iconst dX3_sum_0 ci_0 ?_
  refine g_tope (z := zI (smX X p f 0)) (rfl) ?_
  refine g_istore_n (lv' := [(3, .int (zI (smX X p f 0))), (0, .ref (L b)), (1, .int (nI p)), (2, .int (nI (bitsN f 8)))]) dX3_sum_1 rfl (by decide) rfl ?_
  refine g_iconst dX3_sum_2 ci_0 ?_
  refine g_istore (lv' := [(4, .int (nI 0)), (3, .int (zI (smX X p f 0))), (0, .ref (L b)), (1, .int (nI p)), (2, .int (nI (bitsN f 8)))]) dX3_sum_3 (by decide) rfl ?_
  refine g_pick [0, 1, 2, 3, 4] (lv' := [(4, .int (nI 0)), (3, .int (zI (smX X p f 0))), (0, .ref (L b)), (1, .int (nI p)), (2, .int (nI (bitsN f 8)))]) rfl ?_
  exact lp_X3_sum hb hX ho hp h 8 0 rfl
set_option maxHeartbeats 4000000 in
set_option maxRecDepth 20000 in
theorem c_X3_burden {l : Launch} {D : gE} {L : Nat → Nat} {σ : St} {Q : Option Value → va_W → Prop} {d : Nat} {b : Nat} (hb : tn σ b) {X : XT} (hX : rzT σ b X) (ho : okX X) {p : Nat} (hp : p < 6) (h : Q (some (.int (nI (buX X p)))) (wsOf D L σ)) : Ctr l D yX3_burden cX3_burden 2 (some .int) (rr (d + 2)) [.ref (L b), .int (nI p)] (wsOf D L σ) Q := by
  refine g_start ky_X3_burden (Nat.le_of_ble_eq_true rfl) ?_
  refine g_pick [0, 1] (lv' := [(0, .ref (L b)), (1, .int (nI p))]) rfl ?_
  have hsm := sm_bd ho (p := p) (s := x_kn X p) (n := 8) (Nat.le_refl 8)
  refine g_iconst dX3_burden_0 ci_0 ?_
  refine g_aload_n dX3_burden_1 rfl 0 rfl ?_
  refine g_iload_n dX3_burden_2 rfl 1 rfl ?_
  refine g_aload_n dX3_burden_3 rfl 0 rfl ?_
  refine s_getT (b := b) hb kf_X3_30 (by decide) rfl dX3_burden_4 ?_
  refine g_iload_n dX3_burden_7 rfl 1 rfl ?_
  refine s_ald (q := (b + 7)) (n := 6) (at_ta hb 7 (by decide) (by decide)) (by omega) (by decide) dX3_burden_8 ?_
  refine g_tope (z := nI (bitsN (x_kn X p) 8)) (rzT_kn hX (by omega)) ?_
  refine g_callV (As := [.int (nI p), .int (nI (bitsN (x_kn X p) 8))]) km_X3_92 ky_X3_sum ki_X3_sum (by decide) b (at_tn hb) rfl rfl (Nat.le_of_ble_eq_true rfl) dX3_burden_9 rfl (c_X3_sum hb hX ho (by omega) ?_)
  refine g_callS (As := [.int (nI 0), .int (zI (smX X p (x_kn X p) 8))]) km_X3_95 ky_J9_max_7cf53 ks_J9_max_7cf53 (by decide) rfl (Nat.le_of_ble_eq_true rfl) dX3_burden_12 rfl (c_max0 (by omega) ?_)
  exact g_ireturn dX3_burden_15 (Nat.le_refl _) (Nat.le_refl _) (h)
