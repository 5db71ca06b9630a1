set_option maxHeartbeats 4000000 in
set_option maxRecDepth 20000 in
theorem lp_X3_lies {l : Launch} {D : gE} {L : Nat → Nat} {σ : St} {Q : Option Value → va_W → Prop} {d : Nat} {b : Nat} (hb : tn σ b) {X : XT} (hX : rzT σ b X) (ho : okX X) (h : Q (some (.int (nI (bitsN (fun k => decide (x_wt X k < 0)) 8)))) (wsOf D L σ)) : ∀ n_ k, k + n_ = 8 → G l D yX3_lies cX3_lies 3 (some .int) (rr d) Q 0 0 4 [(2, .int (nI k)), (1, .int (nI (bitsN (fun k => decide (x_wt X k < 0)) k))), (0, .ref (L b))] [] (wsOf D L σ) := by
  intro n_
  induction n_ with
  | zero =>
    intro k hct
    obtain rfl : k = 8 := by omega
    refine g_iload_n dX3_lies_4 rfl 0 rfl ?_
    refine g_bipush dX3_lies_5 bp_8 ?_
    refine n_icmpge 31 dX3_lies_7 (by decide) (by omega) (by omega) (fun h7 => ?_) (fun h7 => absurd h7 (by omega))
    refine g_iload_n dX3_lies_31 rfl 1 rfl ?_
    exact g_ireturn dX3_lies_32 (Nat.le_refl _) (Nat.le_refl _) (h)
  | succ n_ ih =>
    intro k hct
    have hw := ok_wt ho (k := k) (by omega)
    refine g_iload_n dX3_lies_4 rfl 0 rfl ?_
    refine g_bipush dX3_lies_5 bp_8 ?_
    refine n_icmpge 31 dX3_lies_7 (by decide) (by omega) (by omega) (fun h7 => absurd h7 (by omega)) (fun h7 => ?_)
    refine g_aload_n dX3_lies_10 rfl 2 rfl ?_
    refine s_getT (b := b) hb kf_X3_33 (by decide) rfl dX3_lies_11 ?_
    refine g_iload_n dX3_lies_14 rfl 0 rfl ?_
    refine s_ald (q := (b + 8)) (n := 8) (at_ta hb 8 (by decide) (by decide)) (by omega) (by decide) dX3_lies_15 ?_
    refine g_tope (z := zI (x_wt X k)) (rpT_wt hX.1 (by omega)) ?_
    refine z_ifge 25 dX3_lies_16 (by decide) (by omega) (fun h16 => ?_) (fun h16 => ?_)
    · refine g_iinc (v := nI (k + 1)) (lv' := [(2, .int (nI (k + 1))), (1, .int (nI (bitsN (fun k => decide (x_wt X k < 0)) k))), (0, .ref (L b))]) dX3_lies_25 0 rfl (inc_n _) (by decide) rfl ?_
      refine g_goto 4 dX3_lies_28 (by decide) ?_
      refine g_pick [0, 1, 2] (lv' := [(2, .int (nI (k + 1))), (1, .int (nI (bitsN (fun k => decide (x_wt X k < 0)) k))), (0, .ref (L b))]) rfl ?_
      have ih2 := ih (k + 1) (by omega)
      rw [← obF (fun k => decide (x_wt X k < 0)) (by rw [decide_eq_false_iff_not]; omega)] at ih2
      exact ih2
    · refine g_iload_n dX3_lies_19 rfl 1 rfl ?_
      refine g_iconst dX3_lies_20 ci_1 ?_
      refine g_iload_n dX3_lies_21 rfl 0 rfl ?_
      refine g_ishl dX3_lies_22 ?_
      refine g_ior dX3_lies_23 ?_
      refine g_tope (z := nI (bitsN (fun k => decide (x_wt X k < 0)) (k + 1))) (obT _ (by omega) (by rw [decide_eq_true_eq]; exact h16)) ?_
      refine g_istore_n (lv' := [(1, .int (nI (bitsN (fun k => decide (x_wt X k < 0)) (k + 1)))), (2, .int (nI k)), (0, .ref (L b))]) dX3_lies_24 rfl (by decide) rfl ?_
      refine g_iinc (v := nI (k + 1)) (lv' := [(2, .int (nI (k + 1))), (1, .int (nI (bitsN (fun k => decide (x_wt X k < 0)) (k + 1)))), (0, .ref (L b))]) dX3_lies_25 1 rfl (inc_n _) (by decide) rfl ?_
      refine g_goto 4 dX3_lies_28 (by decide) ?_
      refine g_pick [0, 1, 2] (lv' := [(2, .int (nI (k + 1))), (1, .int (nI (bitsN (fun k => decide (x_wt X k < 0)) (k + 1)))), (0, .ref (L b))]) rfl ?_
      exact ih (k + 1) (by omega)
set_option maxHeartbeats 4000000 in
set_option maxRecDepth 20000 in
theorem c_X3_lies {l : Launch} {D : gE} {L : Nat → Nat} {σ : St} {Q : Option Value → va_W → Prop} {d : Nat} {b : Nat} (hb : tn σ b) {X : XT} (hX : rzT σ b X) (ho : okX X) (h : Q (some (.int (nI (bitsN (fun k => decide (x_wt X k < 0)) 8)))) (wsOf D L σ)) : Ctr l D yX3_lies cX3_lies 3 (some .int) (rr d) [.ref (L b)] (wsOf D L σ) Q := by
  refine g_start ky_X3_lies (Nat.le_of_ble_eq_true rfl) ?_
  refine g_pick [0] (lv' := [(0, .ref (L b))]) rfl ?_
  refine g_iconst dX3_lies_0 ci_0 ?_
  refine g_tope (z := nI (bitsN (fun k => decide (x_wt X k < 0)) 0)) (rfl) ?_
  refine g_istore_n (lv' := [(1, .int (nI (bitsN (fun k => decide (x_wt X k < 0)) 0))), (0, .ref (L b))]) dX3_lies_1 rfl (by decide) rfl ?_
  refine g_iconst dX3_lies_2 ci_0 ?_
  refine g_istore_n (lv' := [(2, .int (nI 0)), (1, .int (nI (bitsN (fun k => decide (x_wt X k < 0)) 0))), (0, .ref (L b))]) dX3_lies_3 rfl (by decide) rfl ?_
  refine g_pick [0, 1, 2] (lv' := [(2, .int (nI 0)), (1, .int (nI (bitsN (fun k => decide (x_wt X k < 0)) 0))), (0, .ref (L b))]) rfl ?_
  exact lp_X3_lies hb hX ho h 8 0 rfl
set_option maxHeartbeats 4000000 in
set_option maxRecDepth 20000 in
theorem lp_X3_carriersOf {l : Launch} {D : gE} {L : Nat → Nat} {σ : St} {Q : Option Value → va_W → Prop} {d : Nat} {b : Nat} (hb : tn σ b) {X : XT} (hX : rzT σ b X) (ho : okX X) {v : Nat} (hv : v < 2 ^ 31) (h : Q (some (.int (nI (bitsN (cbX X v) 6)))) (wsOf D L σ)) : ∀ n_ p, p + n_ = 6 → G l D yX3_carriersOf cX3_carriersOf 4 (some .int) (rr (d + 3)) Q 0 0 4 [(3, .int (nI p)), (2, .int (nI (bitsN (cbX X v) p))), (0, .ref (L b)), (1, .int (nI v))] [] (wsOf D L σ) := by
  intro n_
  induction n_ with
  | zero =>
    intro p hct
    obtain rfl : p = 6 := by omega
    refine g_iload_n dX3_carriersOf_4 rfl 0 rfl ?_
    refine g_bipush dX3_carriersOf_5 bp_6 ?_
    refine n_icmpge 42 dX3_carriersOf_7 (by decide) (by omega) (by omega) (fun h7 => ?_) (fun h7 => absurd h7 (by omega))
    refine g_iload_n dX3_carriersOf_42 rfl 1 rfl ?_
    exact g_ireturn dX3_carriersOf_43 (Nat.le_refl _) (Nat.le_refl _) (h)
  | succ n_ ih =>
    intro p hct
    have hbu := bu_bd ho p
    refine g_iload_n dX3_carriersOf_4 rfl 0 rfl ?_
    refine g_bipush dX3_carriersOf_5 bp_6 ?_
    refine n_icmpge 42 dX3_carriersOf_7 (by decide) (by omega) (by omega) (fun h7 => absurd h7 (by omega)) (fun h7 => ?_)
    refine g_aload_n dX3_carriersOf_10 rfl 2 rfl ?_
    refine s_getT (b := b) hb kf_X3_59 (by decide) rfl dX3_carriersOf_11 ?_
    refine g_tope (z := nI (bitsN (x_th X) 6)) (rpT_th hX.1) ?_
    refine g_iload_n dX3_carriersOf_14 rfl 0 rfl ?_
    refine g_callN2 (C := RX3) (As := [.int (nI (bitsN (x_th X) 6)), .int (nI p)]) rfl kn_X3_84 ky_X4_has ks_X4_has (by decide) rfl (Nat.le_of_ble_eq_true rfl) dX3_carriersOf_15 rfl (c_X4_has (n := 6) (by decide) (by omega) (fun h15 => ?_) (fun h15 => ?_))
    · refine t_ifeq1 (tgt := 36) dX3_carriersOf_18 (by decide) ?_
      refine g_aload_n dX3_carriersOf_21 rfl 2 rfl ?_
      refine g_iload_n dX3_carriersOf_22 rfl 0 rfl ?_
      refine g_callV (As := [.int (nI p)]) km_X3_100 ky_X3_burden ki_X3_burden (by decide) b (at_tn hb) rfl rfl (Nat.le_of_ble_eq_true rfl) dX3_carriersOf_23 rfl (c_X3_burden hb hX ho (by omega) ?_)
      refine g_iload_n dX3_carriersOf_26 rfl 3 rfl ?_
      refine n_icmpne 36 dX3_carriersOf_27 (by decide) (by omega) (by omega) (fun h27 => ?_) (fun h27 => ?_)
      · refine g_iinc (v := nI (p + 1)) (lv' := [(3, .int (nI (p + 1))), (2, .int (nI (bitsN (cbX X v) p))), (0, .ref (L b)), (1, .int (nI v))]) dX3_carriersOf_36 0 rfl (inc_n _) (by decide) rfl ?_
        refine g_goto 4 dX3_carriersOf_39 (by decide) ?_
        refine g_pick [0, 1, 2, 3] (lv' := [(3, .int (nI (p + 1))), (2, .int (nI (bitsN (cbX X v) p))), (0, .ref (L b)), (1, .int (nI v))]) rfl ?_
        have ih2 := ih (p + 1) (by omega)
        rw [← obF (cbX X v) (by unfold cbX; rw [h15, decide_eq_false h27]; rfl)] at ih2
        exact ih2
      · refine g_iload_n dX3_carriersOf_30 rfl 1 rfl ?_
        refine g_iconst dX3_carriersOf_31 ci_1 ?_
        refine g_iload_n dX3_carriersOf_32 rfl 0 rfl ?_
        refine g_ishl dX3_carriersOf_33 ?_
        refine g_ior dX3_carriersOf_34 ?_
        refine g_tope (z := nI (bitsN (cbX X v) (p + 1))) (obT _ (by omega) (by unfold cbX; rw [h15, decide_eq_true h27]; rfl)) ?_
        refine g_istore_n (lv' := [(2, .int (nI (bitsN (cbX X v) (p + 1)))), (3, .int (nI p)), (0, .ref (L b)), (1, .int (nI v))]) dX3_carriersOf_35 rfl (by decide) rfl ?_
        refine g_iinc (v := nI (p + 1)) (lv' := [(3, .int (nI (p + 1))), (2, .int (nI (bitsN (cbX X v) (p + 1)))), (0, .ref (L b)), (1, .int (nI v))]) dX3_carriersOf_36 1 rfl (inc_n _) (by decide) rfl ?_
        refine g_goto 4 dX3_carriersOf_39 (by decide) ?_
        refine g_pick [0, 1, 2, 3] (lv' := [(3, .int (nI (p + 1))), (2, .int (nI (bitsN (cbX X v) (p + 1)))), (0, .ref (L b)), (1, .int (nI v))]) rfl ?_
        exact ih (p + 1) (by omega)
    · refine t_ifeq0 36 dX3_carriersOf_18 (by decide) ?_
      refine g_iinc (v := nI (p + 1)) (lv' := [(3, .int (nI (p + 1))), (2, .int (nI (bitsN (cbX X v) p))), (0, .ref (L b)), (1, .int (nI v))]) dX3_carriersOf_36 0 rfl (inc_n _) (by decide) rfl ?_
      refine g_goto 4 dX3_carriersOf_39 (by decide) ?_
      refine g_pick [0, 1, 2, 3] (lv' := [(3, .int (nI (p + 1))), (2, .int (nI (bitsN (cbX X v) p))), (0, .ref (L b)), (1, .int (nI v))]) rfl ?_
      have ih2 := ih (p + 1) (by omega)
      rw [← obF (cbX X v) (by unfold cbX; rw [h15]; rfl)] at ih2
      exact ih2
set_option maxHeartbeats 4000000 in
set_option maxRecDepth 20000 in
theorem c_X3_carriersOf {l : Launch} {D : gE} {L : Nat → Nat} {σ : St} {Q : Option Value → va_W → Prop} {d : Nat} {b : Nat} (hb : tn σ b) {X : XT} (hX : rzT σ b X) (ho : okX X) {v : Nat} (hv : v < 2 ^ 31) (h : Q (some (.int (nI (bitsN (cbX X v) 6)))) (wsOf D L σ)) : Ctr l D yX3_carriersOf cX3_carriersOf 4 (some .int) (rr (d + 3)) [.ref (L b), .int (nI v)] (wsOf D L σ) Q := by
  refine g_start ky_X3_carriersOf (Nat.le_of_ble_eq_true rfl) ?_
  refine g_pick [0, 1] (lv' := [(0, .ref (L b)), (1, .int (nI v))]) rfl ?_
  refine g_iconst dX3_carriersOf_0 ci_0 ?_
  refine g_tope (z := nI (bitsN (cbX X v) 0)) (rfl) ?_
  refine g_istore_n (lv' := [(2, .int (nI (bitsN (cbX X v) 0))), (0, .ref (L b)), (1, .int (nI v))]) dX3_carriersOf_1 rfl (by decide) rfl ?_
  refine g_iconst dX3_carriersOf_2 ci_0 ?_
  refine g_istore_n (lv' := [(3, .int (nI 0)), (2, .int (nI (bitsN (cbX X v) 0))), (0, .ref (L b)), (1, .int (nI v))]) dX3_carriersOf_3 rfl (by decide) rfl ?_
  refine g_pick [0, 1, 2, 3] (lv' := [(3, .int (nI 0)), (2, .int (nI (bitsN (cbX X v) 0))), (0, .ref (L b)), (1, .int (nI v))]) rfl ?_
  exact lp_X3_carriersOf hb hX ho hv h 6 0 rfl
