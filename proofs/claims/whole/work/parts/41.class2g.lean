set_option maxHeartbeats 4000000 in
set_option maxRecDepth 20000 in
theorem lp_X3_likeSightsBefore {l : Launch} {D : gE} {L : Nat → Nat} {σ : St} {Q : Option Value → va_W → Prop} {d : Nat} {b : Nat} (hb : tn σ b) {X : XT} (hX : rzT σ b X) (ho : okX X) {k : Nat} (hk : k < 6) (h : Q (some (.int (nI (cntN (lkX X k) k)))) (wsOf D L σ)) : ∀ n_ j, j + n_ = k → G l D yX3_likeSightsBefore cX3_likeSightsBefore 4 (some .int) (rr d) Q 0 0 4 [(3, .int (nI j)), (2, .int (nI (cntN (lkX X k) j))), (0, .ref (L b)), (1, .int (nI k))] [] (wsOf D L σ) := by
  intro n_
  induction n_ with
  | zero =>
    intro j hct
    obtain rfl : j = k := by omega
    refine g_iload_n dX3_likeSightsBefore_4 rfl 0 rfl ?_
    refine g_iload_n dX3_likeSightsBefore_5 rfl 3 rfl ?_
    refine n_icmpge 48 dX3_likeSightsBefore_6 (by decide) (by omega) (by omega) (fun h6 => ?_) (fun h6 => absurd h6 (by omega))
    refine g_iload_n dX3_likeSightsBefore_48 rfl 1 rfl ?_
    exact g_ireturn dX3_likeSightsBefore_49 (Nat.le_refl _) (Nat.le_refl _) (h)
  | succ n_ ih =>
    intro j hct
    have hs1 := ok_sb ho (i := j) (by omega)
    have hs2 := ok_sb ho (i := k) (by omega)
    have hcl := cntN_le (lkX X k) j
    refine g_iload_n dX3_likeSightsBefore_4 rfl 0 rfl ?_
    refine g_iload_n dX3_likeSightsBefore_5 rfl 3 rfl ?_
    refine n_icmpge 48 dX3_likeSightsBefore_6 (by decide) (by omega) (by omega) (fun h6 => absurd h6 (by omega)) (fun h6 => ?_)
    refine g_aload_n dX3_likeSightsBefore_9 rfl 2 rfl ?_
    refine s_getT (b := b) hb kf_X3_39 (by decide) rfl dX3_likeSightsBefore_10 ?_
    refine g_iload_n dX3_likeSightsBefore_13 rfl 0 rfl ?_
    refine s_ald (q := (b + 10)) (n := 6) (at_ta hb 10 (by decide) (by decide)) (by omega) (by decide) dX3_likeSightsBefore_14 ?_
    refine g_tope (z := nI (x_sb X j)) (rpT_sb hX.1 (by omega)) ?_
    refine g_aload_n dX3_likeSightsBefore_15 rfl 2 rfl ?_
    refine s_getT (b := b) hb kf_X3_39 (by decide) rfl dX3_likeSightsBefore_16 ?_
    refine g_iload_n dX3_likeSightsBefore_19 rfl 3 rfl ?_
    refine s_ald (q := (b + 10)) (n := 6) (at_ta hb 10 (by decide) (by decide)) (by omega) (by decide) dX3_likeSightsBefore_20 ?_
    refine g_tope (z := nI (x_sb X k)) (rpT_sb hX.1 (by omega)) ?_
    refine n_icmpne 42 dX3_likeSightsBefore_21 (by decide) (by omega) (by omega) (fun h21 => ?_) (fun h21 => ?_)
    · refine g_iinc (v := nI (j + 1)) (lv' := [(3, .int (nI (j + 1))), (2, .int (nI (cntN (lkX X k) j))), (0, .ref (L b)), (1, .int (nI k))]) dX3_likeSightsBefore_42 0 rfl (inc_n _) (by decide) rfl ?_
      refine g_goto 4 dX3_likeSightsBefore_45 (by decide) ?_
      refine g_pick [0, 1, 2, 3] (lv' := [(3, .int (nI (j + 1))), (2, .int (nI (cntN (lkX X k) j))), (0, .ref (L b)), (1, .int (nI k))]) rfl ?_
      have ih2 := ih (j + 1) (by omega)
      rw [show cntN (lkX X k) (j + 1) = cntN (lkX X k) j by rw [cntN_s, show lkX X k j = false by unfold lkX; simp [h21], b2n_f, Nat.add_zero]] at ih2
      exact ih2
    · refine g_aload_n dX3_likeSightsBefore_24 rfl 2 rfl ?_
      refine s_getT (b := b) hb kf_X3_42 (by decide) rfl dX3_likeSightsBefore_25 ?_
      refine g_iload_n dX3_likeSightsBefore_28 rfl 0 rfl ?_
      refine s_ald (q := (b + 11)) (n := 6) (at_ta hb 11 (by decide) (by decide)) (by omega) (by decide) dX3_likeSightsBefore_29 ?_
      refine g_tope (z := nI (x_sv X j)) (rpT_sv hX.1 (by omega)) ?_
      refine g_aload_n dX3_likeSightsBefore_30 rfl 2 rfl ?_
      refine s_getT (b := b) hb kf_X3_42 (by decide) rfl dX3_likeSightsBefore_31 ?_
      refine g_iload_n dX3_likeSightsBefore_34 rfl 3 rfl ?_
      refine s_ald (q := (b + 11)) (n := 6) (at_ta hb 11 (by decide) (by decide)) (by omega) (by decide) dX3_likeSightsBefore_35 ?_
      refine g_tope (z := nI (x_sv X k)) (rpT_sv hX.1 (by omega)) ?_
      refine n_icmpne 42 dX3_likeSightsBefore_36 (by decide) (by omega) (by omega) (fun h36 => ?_) (fun h36 => ?_)
      · refine g_iinc (v := nI (j + 1)) (lv' := [(3, .int (nI (j + 1))), (2, .int (nI (cntN (lkX X k) j))), (0, .ref (L b)), (1, .int (nI k))]) dX3_likeSightsBefore_42 0 rfl (inc_n _) (by decide) rfl ?_
        refine g_goto 4 dX3_likeSightsBefore_45 (by decide) ?_
        refine g_pick [0, 1, 2, 3] (lv' := [(3, .int (nI (j + 1))), (2, .int (nI (cntN (lkX X k) j))), (0, .ref (L b)), (1, .int (nI k))]) rfl ?_
        have ih2 := ih (j + 1) (by omega)
        rw [show cntN (lkX X k) (j + 1) = cntN (lkX X k) j by rw [cntN_s, show lkX X k j = false by unfold lkX; simp [h36], b2n_f, Nat.add_zero]] at ih2
        exact ih2
      · refine g_iinc (v := nI (cntN (lkX X k) j + 1)) (lv' := [(2, .int (nI (cntN (lkX X k) j + 1))), (3, .int (nI j)), (0, .ref (L b)), (1, .int (nI k))]) dX3_likeSightsBefore_39 1 rfl (inc_n _) (by decide) rfl ?_
        refine g_iinc (v := nI (j + 1)) (lv' := [(3, .int (nI (j + 1))), (2, .int (nI (cntN (lkX X k) j + 1))), (0, .ref (L b)), (1, .int (nI k))]) dX3_likeSightsBefore_42 1 rfl (inc_n _) (by decide) rfl ?_
        refine g_goto 4 dX3_likeSightsBefore_45 (by decide) ?_
        refine g_pick [0, 1, 2, 3] (lv' := [(3, .int (nI (j + 1))), (2, .int (nI (cntN (lkX X k) j + 1))), (0, .ref (L b)), (1, .int (nI k))]) rfl ?_
        have ih2 := ih (j + 1) (by omega)
        rw [show cntN (lkX X k) (j + 1) = cntN (lkX X k) j + 1 by rw [cntN_s, show lkX X k j = true by unfold lkX; simp [h21, h36], b2n_t]] at ih2
        exact ih2
set_option maxHeartbeats 4000000 in
set_option maxRecDepth 20000 in
theorem c_X3_likeSightsBefore {l : Launch} {D : gE} {L : Nat → Nat} {σ : St} {Q : Option Value → va_W → Prop} {d : Nat} {b : Nat} (hb : tn σ b) {X : XT} (hX : rzT σ b X) (ho : okX X) {k : Nat} (hk : k < 6) (h : Q (some (.int (nI (cntN (lkX X k) k)))) (wsOf D L σ)) : Ctr l D yX3_likeSightsBefore cX3_likeSightsBefore 4 (some .int) (rr d) [.ref (L b), .int (nI k)] (wsOf D L σ) Q := by
  refine g_start ky_X3_likeSightsBefore (Nat.le_of_ble_eq_true rfl) ?_
  refine g_pick [0, 1] (lv' := [(0, .ref (L b)), (1, .int (nI k))]) rfl ?_
  refine g_iconst dX3_likeSightsBefore_0 ci_0 ?_
  refine g_istore_n (lv' := [(2, .int (nI 0)), (0, .ref (L b)), (1, .int (nI k))]) dX3_likeSightsBefore_1 rfl (by decide) rfl ?_
  refine g_iconst dX3_likeSightsBefore_2 ci_0 ?_
  refine g_istore_n (lv' := [(3, .int (nI 0)), (2, .int (nI 0)), (0, .ref (L b)), (1, .int (nI k))]) dX3_likeSightsBefore_3 rfl (by decide) rfl ?_
  refine g_pick [0, 1, 2, 3] (lv' := [(3, .int (nI 0)), (2, .int (nI 0)), (0, .ref (L b)), (1, .int (nI k))]) rfl ?_
  exact lp_X3_likeSightsBefore hb hX ho hk h k 0 (by omega)
set_option maxHeartbeats 4000000 in
set_option maxRecDepth 20000 in
theorem lp_X3_bearing {l : Launch} {D : gE} {L : Nat → Nat} {σ : St} {Q : Option Value → va_W → Prop} {d : Nat} {b : Nat} (hb : tn σ b) {X : XT} (hX : rzT σ b X) (ho : okX X) {w : Nat} (hw : w < 2 ^ 31) (h : Q (some (.int (nI (bitsN (beX X w) 8)))) (wsOf D L σ)) : ∀ n_ p, p + n_ = 8 → G l D yX3_bearing cX3_bearing 4 (some .int) (rr (d + 1)) Q 0 0 4 [(3, .int (nI p)), (2, .int (nI (bitsN (beX X w) p))), (0, .ref (L b)), (1, .int (nI w))] [] (wsOf D L σ) := by
  intro n_
  induction n_ with
  | zero =>
    intro p hct
    obtain rfl : p = 8 := by omega
    refine g_iload_n dX3_bearing_4 rfl 0 rfl ?_
    refine g_bipush dX3_bearing_5 bp_8 ?_
    refine n_icmpge 43 dX3_bearing_7 (by decide) (by omega) (by omega) (fun h7 => ?_) (fun h7 => absurd h7 (by omega))
    refine g_iload_n dX3_bearing_43 rfl 1 rfl ?_
    exact g_ireturn dX3_bearing_44 (Nat.le_refl _) (Nat.le_refl _) (h)
  | succ n_ ih =>
    intro p hct
    have hbb := ok_b ho (i := p) (by omega)
    refine g_iload_n dX3_bearing_4 rfl 0 rfl ?_
    refine g_bipush dX3_bearing_5 bp_8 ?_
    refine n_icmpge 43 dX3_bearing_7 (by decide) (by omega) (by omega) (fun h7 => absurd h7 (by omega)) (fun h7 => ?_)
    refine g_aload_n dX3_bearing_10 rfl 2 rfl ?_
    refine s_getT (b := b) hb kf_X3_56 (by decide) rfl dX3_bearing_11 ?_
    refine g_tope (z := nI (bitsN (x_br X) 8)) (rpT_br hX.1) ?_
    refine g_iload_n dX3_bearing_14 rfl 0 rfl ?_
    refine g_callN2 (C := RX3) (As := [.int (nI (bitsN (x_br X) 8)), .int (nI p)]) rfl kn_X3_84 ky_X4_has ks_X4_has (by decide) rfl (Nat.le_of_ble_eq_true rfl) dX3_bearing_15 rfl (c_X4_has (n := 8) (by decide) (by omega) (fun h15 => ?_) (fun h15 => ?_))
    · refine t_ifeq1 (tgt := 37) dX3_bearing_18 (by decide) ?_
      refine g_aload_n dX3_bearing_21 rfl 2 rfl ?_
      refine s_getT (b := b) hb kf_X3_18 (by decide) rfl dX3_bearing_22 ?_
      refine g_iload_n dX3_bearing_25 rfl 0 rfl ?_
      refine s_ald (q := (b + 3)) (n := 8) (at_ta hb 3 (by decide) (by decide)) (by omega) (by decide) dX3_bearing_26 ?_
      refine g_tope (z := nI (x_ld X p)) (rpT_ld hX.1 (by omega)) ?_
      refine g_iload_n dX3_bearing_27 rfl 3 rfl ?_
      refine n_icmplt 37 dX3_bearing_28 (by decide) (by omega) (by omega) (fun h28 => ?_) (fun h28 => ?_)
      · refine g_iinc (v := nI (p + 1)) (lv' := [(3, .int (nI (p + 1))), (2, .int (nI (bitsN (beX X w) p))), (0, .ref (L b)), (1, .int (nI w))]) dX3_bearing_37 0 rfl (inc_n _) (by decide) rfl ?_
        refine g_goto 4 dX3_bearing_40 (by decide) ?_
        refine g_pick [0, 1, 2, 3] (lv' := [(3, .int (nI (p + 1))), (2, .int (nI (bitsN (beX X w) p))), (0, .ref (L b)), (1, .int (nI w))]) rfl ?_
        have ih2 := ih (p + 1) (by omega)
        rw [← obF (beX X w) (by unfold beX; rw [h15, decide_eq_false (by omega)]; rfl)] at ih2
        exact ih2
      · refine g_iload_n dX3_bearing_31 rfl 1 rfl ?_
        refine g_iconst dX3_bearing_32 ci_1 ?_
        refine g_iload_n dX3_bearing_33 rfl 0 rfl ?_
        refine g_ishl dX3_bearing_34 ?_
        refine g_ior dX3_bearing_35 ?_
        refine g_tope (z := nI (bitsN (beX X w) (p + 1))) (obT _ (by omega) (by unfold beX; rw [h15, decide_eq_true (by omega)]; rfl)) ?_
        refine g_istore_n (lv' := [(2, .int (nI (bitsN (beX X w) (p + 1)))), (3, .int (nI p)), (0, .ref (L b)), (1, .int (nI w))]) dX3_bearing_36 rfl (by decide) rfl ?_
        refine g_iinc (v := nI (p + 1)) (lv' := [(3, .int (nI (p + 1))), (2, .int (nI (bitsN (beX X w) (p + 1)))), (0, .ref (L b)), (1, .int (nI w))]) dX3_bearing_37 1 rfl (inc_n _) (by decide) rfl ?_
        refine g_goto 4 dX3_bearing_40 (by decide) ?_
        refine g_pick [0, 1, 2, 3] (lv' := [(3, .int (nI (p + 1))), (2, .int (nI (bitsN (beX X w) (p + 1)))), (0, .ref (L b)), (1, .int (nI w))]) rfl ?_
        exact ih (p + 1) (by omega)
    · refine t_ifeq0 37 dX3_bearing_18 (by decide) ?_
      refine g_iinc (v := nI (p + 1)) (lv' := [(3, .int (nI (p + 1))), (2, .int (nI (bitsN (beX X w) p))), (0, .ref (L b)), (1, .int (nI w))]) dX3_bearing_37 0 rfl (inc_n _) (by decide) rfl ?_
      refine g_goto 4 dX3_bearing_40 (by decide) ?_
      refine g_pick [0, 1, 2, 3] (lv' := [(3, .int (nI (p + 1))), (2, .int (nI (bitsN (beX X w) p))), (0, .ref (L b)), (1, .int (nI w))]) rfl ?_
      have ih2 := ih (p + 1) (by omega)
      rw [← obF (beX X w) (by unfold beX; rw [h15]; rfl)] at ih2
      exact ih2
set_option maxHeartbeats 4000000 in
set_option maxRecDepth 20000 in
theorem c_X3_bearing {l : Launch} {D : gE} {L : Nat → Nat} {σ : St} {Q : Option Value → va_W → Prop} {d : Nat} {b : Nat} (hb : tn σ b) {X : XT} (hX : rzT σ b X) (ho : okX X) {w : Nat} (hw : w < 2 ^ 31) (h : Q (some (.int (nI (bitsN (beX X w) 8)))) (wsOf D L σ)) : Ctr l D yX3_bearing cX3_bearing 4 (some .int) (rr (d + 1)) [.ref (L b), .int (nI w)] (wsOf D L σ) Q := by
  refine g_start ky_X3_bearing (Nat.le_of_ble_eq_true rfl) ?_
  refine g_pick [0, 1] (lv' := [(0, .ref (L b)), (1, .int (nI w))]) rfl ?_
  refine g_iconst dX3_bearing_0 ci_0 ?_
  refine g_tope (z := nI (bitsN (beX X w) 0)) (rfl) ?_
  refine g_istore_n (lv' := [(2, .int (nI (bitsN (beX X w) 0))), (0, .ref (L b)), (1, .int (nI w))]) dX3_bearing_1 rfl (by decide) rfl ?_
  refine g_iconst dX3_bearing_2 ci_0 ?_
  refine g_istore_n (lv' := [(3, .int (nI 0)), (2, .int (nI (bitsN (beX X w) 0))), (0, .ref (L b)), (1, .int (nI w))]) dX3_bearing_3 rfl (by decide) rfl ?_
  refine g_pick [0, 1, 2, 3] (lv' := [(3, .int (nI 0)), (2, .int (nI (bitsN (beX X w) 0))), (0, .ref (L b)), (1, .int (nI w))]) rfl ?_
  exact lp_X3_bearing hb hX ho hw h 8 0 rfl
