set_option maxHeartbeats 4000000 in
set_option maxRecDepth 20000 in
theorem lp_X3_knowersOf {l : Launch} {D : gE} {L : Nat → Nat} {σ : St} {Q : Option Value → va_W → Prop} {d : Nat} {b : Nat} (hb : tn σ b) {X : XT} (hX : rzT σ b X) (ho : okX X) {k : Nat} (hk : k < 8) (h : Q (some (.int (nI (bitsN (fun p => x_kn X p k) 6)))) (wsOf D L σ)) : ∀ n_ p, p + n_ = 6 → G l D yX3_knowersOf cX3_knowersOf 4 (some .int) (rr (d + 1)) Q 0 0 4 [(3, .int (nI p)), (2, .int (nI (bitsN (fun p => x_kn X p k) p))), (0, .ref (L b)), (1, .int (nI k))] [] (wsOf D L σ) := by
  intro n_
  induction n_ with
  | zero =>
    intro p hct
    obtain rfl : p = 6 := by omega
    refine g_iload_n dX3_knowersOf_4 rfl 0 rfl ?_
    refine g_bipush dX3_knowersOf_5 bp_6 ?_
    refine n_icmpge 35 dX3_knowersOf_7 (by decide) (by omega) (by omega) (fun h7 => ?_) (fun h7 => absurd h7 (by omega))
    refine g_iload_n dX3_knowersOf_35 rfl 1 rfl ?_
    exact g_ireturn dX3_knowersOf_36 (Nat.le_refl _) (Nat.le_refl _) (h)
  | succ n_ ih =>
    intro p hct
    refine g_iload_n dX3_knowersOf_4 rfl 0 rfl ?_
    refine g_bipush dX3_knowersOf_5 bp_6 ?_
    refine n_icmpge 35 dX3_knowersOf_7 (by decide) (by omega) (by omega) (fun h7 => absurd h7 (by omega)) (fun h7 => ?_)
    refine g_aload_n dX3_knowersOf_10 rfl 2 rfl ?_
    refine s_getT (b := b) hb kf_X3_30 (by decide) rfl dX3_knowersOf_11 ?_
    refine g_iload_n dX3_knowersOf_14 rfl 0 rfl ?_
    refine s_ald (q := (b + 7)) (n := 6) (at_ta hb 7 (by decide) (by decide)) (by omega) (by decide) dX3_knowersOf_15 ?_
    refine g_tope (z := nI (bitsN (x_kn X p) 8)) (rzT_kn hX (by omega)) ?_
    refine g_iload_n dX3_knowersOf_16 rfl 3 rfl ?_
    refine g_callN2 (C := RX3) (As := [.int (nI (bitsN (x_kn X p) 8)), .int (nI k)]) rfl kn_X3_84 ky_X4_has ks_X4_has (by decide) rfl (Nat.le_of_ble_eq_true rfl) dX3_knowersOf_17 rfl (c_X4_has (n := 8) (by decide) (by omega) (fun h17 => ?_) (fun h17 => ?_))
    · refine t_ifeq1 (tgt := 29) dX3_knowersOf_20 (by decide) ?_
      refine g_iload_n dX3_knowersOf_23 rfl 1 rfl ?_
      refine g_iconst dX3_knowersOf_24 ci_1 ?_
      refine g_iload_n dX3_knowersOf_25 rfl 0 rfl ?_
      refine g_ishl dX3_knowersOf_26 ?_
      refine g_ior dX3_knowersOf_27 ?_
      refine g_tope (z := nI (bitsN (fun p => x_kn X p k) (p + 1))) (obT _ (by omega) (h17)) ?_
      refine g_istore_n (lv' := [(2, .int (nI (bitsN (fun p => x_kn X p k) (p + 1)))), (3, .int (nI p)), (0, .ref (L b)), (1, .int (nI k))]) dX3_knowersOf_28 rfl (by decide) rfl ?_
      refine g_iinc (v := nI (p + 1)) (lv' := [(3, .int (nI (p + 1))), (2, .int (nI (bitsN (fun p => x_kn X p k) (p + 1)))), (0, .ref (L b)), (1, .int (nI k))]) dX3_knowersOf_29 1 rfl (inc_n _) (by decide) rfl ?_
      refine g_goto 4 dX3_knowersOf_32 (by decide) ?_
      refine g_pick [0, 1, 2, 3] (lv' := [(3, .int (nI (p + 1))), (2, .int (nI (bitsN (fun p => x_kn X p k) (p + 1)))), (0, .ref (L b)), (1, .int (nI k))]) rfl ?_
      exact ih (p + 1) (by omega)
    · refine t_ifeq0 29 dX3_knowersOf_20 (by decide) ?_
      refine g_iinc (v := nI (p + 1)) (lv' := [(3, .int (nI (p + 1))), (2, .int (nI (bitsN (fun p => x_kn X p k) p))), (0, .ref (L b)), (1, .int (nI k))]) dX3_knowersOf_29 0 rfl (inc_n _) (by decide) rfl ?_
      refine g_goto 4 dX3_knowersOf_32 (by decide) ?_
      refine g_pick [0, 1, 2, 3] (lv' := [(3, .int (nI (p + 1))), (2, .int (nI (bitsN (fun p => x_kn X p k) p))), (0, .ref (L b)), (1, .int (nI k))]) rfl ?_
      have ih2 := ih (p + 1) (by omega)
      rw [← obF (fun p => x_kn X p k) (h17)] at ih2
      exact ih2
set_option maxHeartbeats 4000000 in
set_option maxRecDepth 20000 in
theorem c_X3_knowersOf {l : Launch} {D : gE} {L : Nat → Nat} {σ : St} {Q : Option Value → va_W → Prop} {d : Nat} {b : Nat} (hb : tn σ b) {X : XT} (hX : rzT σ b X) (ho : okX X) {k : Nat} (hk : k < 8) (h : Q (some (.int (nI (bitsN (fun p => x_kn X p k) 6)))) (wsOf D L σ)) : Ctr l D yX3_knowersOf cX3_knowersOf 4 (some .int) (rr (d + 1)) [.ref (L b), .int (nI k)] (wsOf D L σ) Q := by
  refine g_start ky_X3_knowersOf (Nat.le_of_ble_eq_true rfl) ?_
  refine g_pick [0, 1] (lv' := [(0, .ref (L b)), (1, .int (nI k))]) rfl ?_
  refine g_iconst dX3_knowersOf_0 ci_0 ?_
  refine g_tope (z := nI (bitsN (fun p => x_kn X p k) 0)) (rfl) ?_
  refine g_istore_n (lv' := [(2, .int (nI (bitsN (fun p => x_kn X p k) 0))), (0, .ref (L b)), (1, .int (nI k))]) dX3_knowersOf_1 rfl (by decide) rfl ?_
  refine g_iconst dX3_knowersOf_2 ci_0 ?_
  refine g_istore_n (lv' := [(3, .int (nI 0)), (2, .int (nI (bitsN (fun p => x_kn X p k) 0))), (0, .ref (L b)), (1, .int (nI k))]) dX3_knowersOf_3 rfl (by decide) rfl ?_
  refine g_pick [0, 1, 2, 3] (lv' := [(3, .int (nI 0)), (2, .int (nI (bitsN (fun p => x_kn X p k) 0))), (0, .ref (L b)), (1, .int (nI k))]) rfl ?_
  exact lp_X3_knowersOf hb hX ho hk h 6 0 rfl
