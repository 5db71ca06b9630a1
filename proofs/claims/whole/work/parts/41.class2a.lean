set_option maxHeartbeats 4000000 in
set_option maxRecDepth 20000 in
theorem c_X3_hasTerrace {l : Launch} {D : gE} {L : Nat → Nat} {σ : St} {Q : Option Value → va_W → Prop} {d : Nat} {b : Nat} (hb : tn σ b) {X : XT} (hX : rzT σ b X) (ho : okX X) {x : Int32} (ht : ∀ t, t < x_sz X → x = nI t → Q (some (.int (nI 1))) (wsOf D L σ)) (hf : (∀ t, t < x_sz X → ¬ x = nI t) → Q (some (.int (nI 0))) (wsOf D L σ)) : Ctr l D yX3_hasTerrace cX3_hasTerrace 2 (some .boolean) (rr (d + 1)) [.ref (L b), .int x] (wsOf D L σ) Q := by
  refine g_start ky_X3_hasTerrace (Nat.le_of_ble_eq_true rfl) ?_
  refine g_pick [0, 1] (lv' := [(0, .ref (L b)), (1, .int x)]) rfl ?_
  have hsz := ok_sz ho
  refine g_iload_n dX3_hasTerrace_0 rfl 1 rfl ?_
  refine g_iconst dX3_hasTerrace_1 ci_0 ?_
  refine g_aload_n dX3_hasTerrace_2 rfl 0 rfl ?_
  refine s_getT (b := b) hb kf_X3_53 (by decide) rfl dX3_hasTerrace_3 ?_
  refine g_tope (z := nI (x_sz X)) (rpT_sz hX.1) ?_
  refine g_iconst dX3_hasTerrace_6 ci_1 ?_
  refine g_isub dX3_hasTerrace_7 ?_
  refine g_tope (z := nI (x_sz X) - nI 1) (rfl) ?_
  refine g_callN2 (C := RX3) (As := [.int x, .int (nI 0), .int (nI (x_sz X) - nI 1)]) rfl kn_X3_80 ky_X4_within ks_X4_within (by decide) rfl (Nat.le_of_ble_eq_true rfl) dX3_hasTerrace_8 rfl (c_X4_withinS (by omega) (fun p8 hp8 he8 => ?_) (fun h8 => ?_))
  · subst he8
    exact g_zreturn dX3_hasTerrace_11 (Nat.le_refl _) (Nat.le_refl _) (Or.inr rfl) (ht p8 hp8 rfl)
  · exact g_zreturn dX3_hasTerrace_11 (Nat.le_refl _) (Nat.le_refl _) (Or.inl rfl) (hf h8)
set_option maxHeartbeats 4000000 in
set_option maxRecDepth 20000 in
theorem c_X3_hasBridge {l : Launch} {D : gE} {L : Nat → Nat} {σ : St} {Q : Option Value → va_W → Prop} {d : Nat} {b : Nat} (hb : tn σ b) {X : XT} (hX : rzT σ b X) (ho : okX X) {x : Int32} (ht : ∀ p, p < 8 → x = nI p → x_br X p = true → Q (some (.int (nI 1))) (wsOf D L σ)) (hf : (∀ p, p < 8 → x = nI p → x_br X p = false) → Q (some (.int (nI 0))) (wsOf D L σ)) : Ctr l D yX3_hasBridge cX3_hasBridge 2 (some .boolean) (rr (d + 1)) [.ref (L b), .int x] (wsOf D L σ) Q := by
  refine g_start ky_X3_hasBridge (Nat.le_of_ble_eq_true rfl) ?_
  refine g_pick [0, 1] (lv' := [(0, .ref (L b)), (1, .int x)]) rfl ?_
  refine g_iload_n dX3_hasBridge_0 rfl 1 rfl ?_
  refine g_iconst dX3_hasBridge_1 ci_0 ?_
  refine g_bipush dX3_hasBridge_2 bp_7 ?_
  refine g_callN2 (C := RX3) (As := [.int x, .int (nI 0), .int (nI 7)]) rfl kn_X3_80 ky_X4_within ks_X4_within (by decide) rfl (Nat.le_of_ble_eq_true rfl) dX3_hasBridge_4 rfl (c_X4_withinN (by omega) (by omega) (fun p4 ha4 hb4 he4 => ?_) (fun h4 => ?_))
  · subst he4
    refine t_ifeq1 (tgt := 25) dX3_hasBridge_7 (by decide) ?_
    refine g_aload_n dX3_hasBridge_10 rfl 0 rfl ?_
    refine s_getT (b := b) hb kf_X3_56 (by decide) rfl dX3_hasBridge_11 ?_
    refine g_tope (z := nI (bitsN (x_br X) 8)) (rpT_br hX.1) ?_
    refine g_iload_n dX3_hasBridge_14 rfl 1 rfl ?_
    refine g_callN2 (C := RX3) (As := [.int (nI (bitsN (x_br X) 8)), .int (nI p4)]) rfl kn_X3_84 ky_X4_has ks_X4_has (by decide) rfl (Nat.le_of_ble_eq_true rfl) dX3_hasBridge_15 rfl (c_X4_has (n := 8) (by decide) (by omega) (fun h15 => ?_) (fun h15 => ?_))
    · refine t_ifeq1 (tgt := 25) dX3_hasBridge_18 (by decide) ?_
      refine g_iconst dX3_hasBridge_21 ci_1 ?_
      refine g_goto 26 dX3_hasBridge_22 (by decide) ?_
      exact g_zreturn dX3_hasBridge_26 (Nat.le_refl _) (Nat.le_refl _) (Or.inr rfl) (ht p4 (by omega) rfl h15)
    · refine t_ifeq0 25 dX3_hasBridge_18 (by decide) ?_
      refine g_iconst dX3_hasBridge_25 ci_0 ?_
      exact g_zreturn dX3_hasBridge_26 (Nat.le_refl _) (Nat.le_refl _) (Or.inl rfl) (hf (fun p hp e => by rw [← (nI_eq (by omega) (by omega)).mp e]; exact h15))
  · refine t_ifeq0 25 dX3_hasBridge_7 (by decide) ?_
    refine g_iconst dX3_hasBridge_25 ci_0 ?_
    exact g_zreturn dX3_hasBridge_26 (Nat.le_refl _) (Nat.le_refl _) (Or.inl rfl) (hf (fun p hp e => absurd e (h4 p (Nat.zero_le p) (by omega))))
theorem c_X3_hasBridgeN {l : Launch} {D : gE} {L : Nat → Nat} {σ : St} {Q : Option Value → va_W → Prop} {d : Nat} {b : Nat} (hb : tn σ b) {X : XT} (hX : rzT σ b X) (ho : okX X) {p : Nat} (hp : p < 8) (ht : x_br X p = true → Q (some (.int (nI 1))) (wsOf D L σ)) (hf : x_br X p = false → Q (some (.int (nI 0))) (wsOf D L σ)) : Ctr l D yX3_hasBridge cX3_hasBridge 2 (some .boolean) (rr (d + 1)) [.ref (L b), .int (nI p)] (wsOf D L σ) Q :=
  c_X3_hasBridge hb hX ho (fun q hq e h => ht (by rw [(nI_eq (by omega) (by omega)).mp e]; exact h)) (fun h => hf (h p hp rfl))
set_option maxHeartbeats 4000000 in
set_option maxRecDepth 20000 in
theorem c_X3_hasPerson {l : Launch} {D : gE} {L : Nat → Nat} {σ : St} {Q : Option Value → va_W → Prop} {d : Nat} {b : Nat} (hb : tn σ b) {X : XT} (hX : rzT σ b X) (ho : okX X) {x : Int32} (ht : ∀ p, p < 6 → x = nI p → x_th X p = true → Q (some (.int (nI 1))) (wsOf D L σ)) (hf : (∀ p, p < 6 → x = nI p → x_th X p = false) → Q (some (.int (nI 0))) (wsOf D L σ)) : Ctr l D yX3_hasPerson cX3_hasPerson 2 (some .boolean) (rr (d + 1)) [.ref (L b), .int x] (wsOf D L σ) Q := by
  refine g_start ky_X3_hasPerson (Nat.le_of_ble_eq_true rfl) ?_
  refine g_pick [0, 1] (lv' := [(0, .ref (L b)), (1, .int x)]) rfl ?_
  refine g_iload_n dX3_hasPerson_0 rfl 1 rfl ?_
  refine g_iconst dX3_hasPerson_1 ci_0 ?_
  refine g_iconst dX3_hasPerson_2 ci_5 ?_
  refine g_callN2 (C := RX3) (As := [.int x, .int (nI 0), .int (nI 5)]) rfl kn_X3_80 ky_X4_within ks_X4_within (by decide) rfl (Nat.le_of_ble_eq_true rfl) dX3_hasPerson_3 rfl (c_X4_withinN (by omega) (by omega) (fun p3 ha3 hb3 he3 => ?_) (fun h3 => ?_))
  · subst he3
    refine t_ifeq1 (tgt := 24) dX3_hasPerson_6 (by decide) ?_
    refine g_aload_n dX3_hasPerson_9 rfl 0 rfl ?_
    refine s_getT (b := b) hb kf_X3_59 (by decide) rfl dX3_hasPerson_10 ?_
    refine g_tope (z := nI (bitsN (x_th X) 6)) (rpT_th hX.1) ?_
    refine g_iload_n dX3_hasPerson_13 rfl 1 rfl ?_
    refine g_callN2 (C := RX3) (As := [.int (nI (bitsN (x_th X) 6)), .int (nI p3)]) rfl kn_X3_84 ky_X4_has ks_X4_has (by decide) rfl (Nat.le_of_ble_eq_true rfl) dX3_hasPerson_14 rfl (c_X4_has (n := 6) (by decide) (by omega) (fun h14 => ?_) (fun h14 => ?_))
    · refine t_ifeq1 (tgt := 24) dX3_hasPerson_17 (by decide) ?_
      refine g_iconst dX3_hasPerson_20 ci_1 ?_
      refine g_goto 25 dX3_hasPerson_21 (by decide) ?_
      exact g_zreturn dX3_hasPerson_25 (Nat.le_refl _) (Nat.le_refl _) (Or.inr rfl) (ht p3 (by omega) rfl h14)
    · refine t_ifeq0 24 dX3_hasPerson_17 (by decide) ?_
      refine g_iconst dX3_hasPerson_24 ci_0 ?_
      exact g_zreturn dX3_hasPerson_25 (Nat.le_refl _) (Nat.le_refl _) (Or.inl rfl) (hf (fun p hp e => by rw [← (nI_eq (by omega) (by omega)).mp e]; exact h14))
  · refine t_ifeq0 24 dX3_hasPerson_6 (by decide) ?_
    refine g_iconst dX3_hasPerson_24 ci_0 ?_
    exact g_zreturn dX3_hasPerson_25 (Nat.le_refl _) (Nat.le_refl _) (Or.inl rfl) (hf (fun p hp e => absurd e (h3 p (Nat.zero_le p) (by omega))))
theorem c_X3_hasPersonN {l : Launch} {D : gE} {L : Nat → Nat} {σ : St} {Q : Option Value → va_W → Prop} {d : Nat} {b : Nat} (hb : tn σ b) {X : XT} (hX : rzT σ b X) (ho : okX X) {p : Nat} (hp : p < 6) (ht : x_th X p = true → Q (some (.int (nI 1))) (wsOf D L σ)) (hf : x_th X p = false → Q (some (.int (nI 0))) (wsOf D L σ)) : Ctr l D yX3_hasPerson cX3_hasPerson 2 (some .boolean) (rr (d + 1)) [.ref (L b), .int (nI p)] (wsOf D L σ) Q :=
  c_X3_hasPerson hb hX ho (fun q hq e h => ht (by rw [(nI_eq (by omega) (by omega)).mp e]; exact h)) (fun h => hf (h p hp rfl))
