/-! CONSTRUCTORS of Town, Pad, Day, Orders -/
abbrev rk (d c s : Nat) : Room := { frames := d, cells := c, slots := s, locals := 48 * d }
theorem rk_ok {nL' d : Nat} {rm' rm : Room} (h : nL' ≤ 29) (h1 : rm'.frames = d) (h2 : rm'.locals = 48 * d) (h3 : rm.frames = d + 1) (h4 : rm.locals = 48 * (d + 1)) : rm'.frames + 1 ≤ rm.frames ∧ 8 + (nL' + 11) + rm'.locals ≤ rm.locals := ⟨by omega, by omega⟩
/-- a Town's cells in their order -/
def twn (D : gE) (M : Nat → Nat) (I : Nat → Int32) (A : Nat → Nat → Int32) : va_W := [(M 0, .inr (3, tnF I M 0)), (M 1, .inl (D.2.2.1, 8, .inl (A 1))), (M 2, .inl (D.2.2.1, 8, .inl (A 2))), (M 3, .inl (D.2.2.1, 8, .inl (A 3))), (M 4, .inl (D.2.2.1, 8, .inl (A 4))), (M 5, .inl (D.2.2.1, 6, .inl (A 5))), (M 6, .inl (D.2.2.1, 6, .inl (A 6))), (M 7, .inl (D.2.2.1, 6, .inl (A 7))), (M 8, .inl (D.2.2.1, 8, .inl (A 8))), (M 9, .inl (D.2.2.1, 8, .inl (A 9))), (M 10, .inl (D.2.2.1, 6, .inl (A 10))), (M 11, .inl (D.2.2.1, 6, .inl (A 11)))]
theorem twn_I {D : gE} {M : Nat → Nat} {I : Nat → Int32} {A : Nat → Nat → Int32} {k : Nat} {x : Int32} (hk : k = 0 ∨ k = 1 ∨ k = 6 ∨ k = 12 ∨ k = 13 ∨ k = 14) : (twn D M I A).set 0 (M 0, .inr (3, (tnF I M 0).set k (.int x))) = twn D M (upd I k x) A := by
  rw [← tnF_set hk]; rfl
theorem twn_A7 {D : gE} {M : Nat → Nat} {I : Nat → Int32} {A : Nat → Nat → Int32} {f : Nat → Int32} : (twn D M I A).set 7 (M 7, .inl (D.2.2.1, 6, .inl f)) = twn D M I (fun j => if j = 7 then f else A j) := rfl
theorem twn_A8 {D : gE} {M : Nat → Nat} {I : Nat → Int32} {A : Nat → Nat → Int32} {f : Nat → Int32} : (twn D M I A).set 8 (M 8, .inl (D.2.2.1, 8, .inl f)) = twn D M I (fun j => if j = 8 then f else A j) := rfl
theorem twn_A9 {D : gE} {M : Nat → Nat} {I : Nat → Int32} {A : Nat → Nat → Int32} {f : Nat → Int32} : (twn D M I A).set 9 (M 9, .inl (D.2.2.1, 8, .inl f)) = twn D M I (fun j => if j = 9 then f else A j) := rfl
set_option maxHeartbeats 4000000 in
set_option maxRecDepth 20000 in
theorem c_settle0 {l : Launch} {D : gE} {M : Nat → Nat} {I : Nat → Int32} {A : Nat → Nat → Int32} {Q : Option Value → va_W → Prop} {d : Nat} {n : Int32} (h : Q none (twn D M (upd (upd (upd (upd (upd I 0 n) 1 (nI 0)) 6 (nI 0)) 14 (nI 0)) 12 (nI 0)) (fun j => if j = 9 then flF (A 9) (nI 3) 8 else if j = 8 then flF (A 8) (nI 0) 8 else if j = 7 then flF (A 7) (nI 0) 6 else A j))) : Ctr l D yX3_settle cX3_settle 2 none (rr (d + 1)) [.ref (M 0), .int n] (twn D M I A) Q := by
  refine g_start ky_X3_settle (Nat.le_of_ble_eq_true rfl) ?_
  refine g_pick [0, 1] (lv' := [(0, .ref (M 0)), (1, .int n)]) rfl ?_
  refine g_aload_n dX3_settle_0 rfl 0 rfl ?_
  refine g_iload_n dX3_settle_1 rfl 1 rfl ?_
  refine g_put kf_X3_53 kC_X3 kT_X3 (by decide) 0 rfl rfl rfl rfl (by show 0 < 17; decide) dX3_settle_2 (twn_I (by decide)) ?_
  refine g_aload_n dX3_settle_5 rfl 0 rfl ?_
  refine g_iconst dX3_settle_6 ci_0 ?_
  refine g_put kf_X3_56 kC_X3 kT_X3 (by decide) 0 rfl rfl rfl rfl (by show 1 < 17; decide) dX3_settle_7 (twn_I (by decide)) ?_
  refine g_aload_n dX3_settle_10 rfl 0 rfl ?_
  refine g_iconst dX3_settle_11 ci_0 ?_
  refine g_put kf_X3_59 kC_X3 kT_X3 (by decide) 0 rfl rfl rfl rfl (by show 6 < 17; decide) dX3_settle_12 (twn_I (by decide)) ?_
  refine g_aload_n dX3_settle_15 rfl 0 rfl ?_
  refine g_iconst dX3_settle_16 ci_0 ?_
  refine g_put kf_X3_62 kC_X3 kT_X3 (by decide) 0 rfl rfl rfl rfl (by show 14 < 17; decide) dX3_settle_17 (twn_I (by decide)) ?_
  refine g_aload_n dX3_settle_20 rfl 0 rfl ?_
  refine g_iconst dX3_settle_21 ci_0 ?_
  refine g_put kf_X3_65 kC_X3 kT_X3 (by decide) 0 rfl rfl rfl rfl (by show 12 < 17; decide) dX3_settle_22 (twn_I (by decide)) ?_
  refine g_aload_n dX3_settle_25 rfl 0 rfl ?_
  refine g_get kf_X3_30 kC_X3 (by decide) 0 rfl (v := .ref (M 7)) rfl dX3_settle_26 ?_
  refine g_iconst dX3_settle_29 ci_0 ?_
  refine g_callS (As := [.ref (M 7), .int (nI 0)]) km_X3_68 ky_J7_fill_53178 ks_J7_fill_53178 (by decide) rfl (Nat.le_of_ble_eq_true rfl) dX3_settle_30 rfl (c_fillG 7 rfl (by decide) ?_)
  rw [twn_A7]
  refine g_aload_n dX3_settle_33 rfl 0 rfl ?_
  refine g_get kf_X3_33 kC_X3 (by decide) 0 rfl (v := .ref (M 8)) rfl dX3_settle_34 ?_
  refine g_iconst dX3_settle_37 ci_0 ?_
  refine g_callS (As := [.ref (M 8), .int (nI 0)]) km_X3_68 ky_J7_fill_53178 ks_J7_fill_53178 (by decide) rfl (Nat.le_of_ble_eq_true rfl) dX3_settle_38 rfl (c_fillG 8 rfl (by decide) ?_)
  rw [twn_A8]
  refine g_aload_n dX3_settle_41 rfl 0 rfl ?_
  refine g_get kf_X3_36 kC_X3 (by decide) 0 rfl (v := .ref (M 9)) rfl dX3_settle_42 ?_
  refine g_iconst dX3_settle_45 ci_3 ?_
  refine g_callS (As := [.ref (M 9), .int (nI 3)]) km_X3_68 ky_J7_fill_53178 ks_J7_fill_53178 (by decide) rfl (Nat.le_of_ble_eq_true rfl) dX3_settle_46 rfl (c_fillG 9 rfl (by decide) ?_)
  rw [twn_A9]
  exact g_return dX3_settle_49 (Nat.le_refl _) (Nat.le_refl _) h
abbrev fz3 : List Value := [.int 0, .int 0, .null, .null, .null, .null, .int 0, .null, .null, .null, .null, .null, .int 0, .int 0, .int 0, .null, .null]
abbrev fz2 : List Value := [.null, .int 0]
abbrev fz1 : List Value := [.null, .null, .null]
abbrev fz0 : List Value := [.int 0, .int 0, .int 0, .int 0, .int 0, .int 0]
def tzI : Nat → Int32 := upd (upd (upd (upd (upd (fun k => if k = 13 then nI 1 else 0) 0 (nI 4)) 1 (nI 0)) 6 (nI 0)) 14 (nI 0)) 12 (nI 0)
def tzA : Nat → Nat → Int32 := fun j => if j = 9 then flF (fun _ => 0) (nI 3) 8 else if j = 8 then flF (fun _ => 0) (nI 0) 8 else if j = 7 then flF (fun _ => 0) (nI 0) 6 else fun _ => 0
set_option maxHeartbeats 8000000 in
set_option maxRecDepth 20000 in
theorem c_X3_init {l : Launch} {D : gE} {Q : Option Value → va_W → Prop} {d b : Nat} (h : ∀ M : Nat → Nat, M 0 = b → Q none (twn D M tzI tzA)) : Ctr l D yX3_init cX3_init 1 none (rk (d + 3) 11 78) [.ref b] [(b, .inr (3, fz3))] Q := by
  refine g_start ky_X3_init (Nat.le_of_ble_eq_true rfl) ?_
  refine g_pick [0] (lv' := [(0, .ref b)]) rfl ?_
  refine g_aload_n dX3_init_0 rfl 0 rfl ?_
  refine g_oinit ko_X3 (show 1 ≤ d + 3 by omega) (show 0 + 12 ≤ 48 * (d + 3) by omega) dX3_init_1 ?_
  refine g_aload_n dX3_init_4 rfl 0 rfl ?_
  refine g_bipush (v := nI 8) dX3_init_5 (by decide +kernel) ?_
  refine g_newI 8 (by decide +kernel) (by decide +kernel) (by decide) (show 0 + 1 ≤ 11 by decide) (show 0 + 8 ≤ 78 by decide) dX3_init_7 (fun q1 => ?_)
  refine g_ws (ws' := [(b, .inr (3, [.int 0, .int 0, .null, .null, .null, .null, .int 0, .null, .null, .null, .null, .null, .int 0, .int 0, .int 0, .null, .null])), (q1, .inl (D.2.2.1, 8, .inl (fun _ => 0)))]) rfl ?_
  refine g_putF (ws' := [(b, .inr (3, [.int 0, .int 0, .ref q1, .null, .null, .null, .int 0, .null, .null, .null, .null, .null, .int 0, .int 0, .int 0, .null, .null])), (q1, .inl (D.2.2.1, 8, .inl (fun _ => 0)))]) kf_X3_9 kC_X3 kT_X3 (by decide) 0 rfl rfl rfl rfl rfl rfl (by show 2 < 17; decide) dX3_init_9 rfl ?_
  refine g_aload_n dX3_init_12 rfl 0 rfl ?_
  refine g_bipush (v := nI 8) dX3_init_13 (by decide +kernel) ?_
  refine g_newI 8 (by decide +kernel) (by decide +kernel) (by decide) (show 1 + 1 ≤ 11 by decide) (show 8 + 8 ≤ 78 by decide) dX3_init_15 (fun q2 => ?_)
  refine g_ws (ws' := [(b, .inr (3, [.int 0, .int 0, .ref q1, .null, .null, .null, .int 0, .null, .null, .null, .null, .null, .int 0, .int 0, .int 0, .null, .null])), (q1, .inl (D.2.2.1, 8, .inl (fun _ => 0))), (q2, .inl (D.2.2.1, 8, .inl (fun _ => 0)))]) rfl ?_
  refine g_putF (ws' := [(b, .inr (3, [.int 0, .int 0, .ref q1, .ref q2, .null, .null, .int 0, .null, .null, .null, .null, .null, .int 0, .int 0, .int 0, .null, .null])), (q1, .inl (D.2.2.1, 8, .inl (fun _ => 0))), (q2, .inl (D.2.2.1, 8, .inl (fun _ => 0)))]) kf_X3_15 kC_X3 kT_X3 (by decide) 0 rfl rfl rfl rfl rfl rfl (by show 3 < 17; decide) dX3_init_17 rfl ?_
  refine g_aload_n dX3_init_20 rfl 0 rfl ?_
  refine g_bipush (v := nI 8) dX3_init_21 (by decide +kernel) ?_
  refine g_newI 8 (by decide +kernel) (by decide +kernel) (by decide) (show 2 + 1 ≤ 11 by decide) (show 16 + 8 ≤ 78 by decide) dX3_init_23 (fun q3 => ?_)
  refine g_ws (ws' := [(b, .inr (3, [.int 0, .int 0, .ref q1, .ref q2, .null, .null, .int 0, .null, .null, .null, .null, .null, .int 0, .int 0, .int 0, .null, .null])), (q1, .inl (D.2.2.1, 8, .inl (fun _ => 0))), (q2, .inl (D.2.2.1, 8, .inl (fun _ => 0))), (q3, .inl (D.2.2.1, 8, .inl (fun _ => 0)))]) rfl ?_
  refine g_putF (ws' := [(b, .inr (3, [.int 0, .int 0, .ref q1, .ref q2, .ref q3, .null, .int 0, .null, .null, .null, .null, .null, .int 0, .int 0, .int 0, .null, .null])), (q1, .inl (D.2.2.1, 8, .inl (fun _ => 0))), (q2, .inl (D.2.2.1, 8, .inl (fun _ => 0))), (q3, .inl (D.2.2.1, 8, .inl (fun _ => 0)))]) kf_X3_18 kC_X3 kT_X3 (by decide) 0 rfl rfl rfl rfl rfl rfl (by show 4 < 17; decide) dX3_init_25 rfl ?_
  refine g_aload_n dX3_init_28 rfl 0 rfl ?_
  refine g_bipush (v := nI 8) dX3_init_29 (by decide +kernel) ?_
  refine g_newI 8 (by decide +kernel) (by decide +kernel) (by decide) (show 3 + 1 ≤ 11 by decide) (show 24 + 8 ≤ 78 by decide) dX3_init_31 (fun q4 => ?_)
  refine g_ws (ws' := [(b, .inr (3, [.int 0, .int 0, .ref q1, .ref q2, .ref q3, .null, .int 0, .null, .null, .null, .null, .null, .int 0, .int 0, .int 0, .null, .null])), (q1, .inl (D.2.2.1, 8, .inl (fun _ => 0))), (q2, .inl (D.2.2.1, 8, .inl (fun _ => 0))), (q3, .inl (D.2.2.1, 8, .inl (fun _ => 0))), (q4, .inl (D.2.2.1, 8, .inl (fun _ => 0)))]) rfl ?_
  refine g_putF (ws' := [(b, .inr (3, [.int 0, .int 0, .ref q1, .ref q2, .ref q3, .ref q4, .int 0, .null, .null, .null, .null, .null, .int 0, .int 0, .int 0, .null, .null])), (q1, .inl (D.2.2.1, 8, .inl (fun _ => 0))), (q2, .inl (D.2.2.1, 8, .inl (fun _ => 0))), (q3, .inl (D.2.2.1, 8, .inl (fun _ => 0))), (q4, .inl (D.2.2.1, 8, .inl (fun _ => 0)))]) kf_X3_21 kC_X3 kT_X3 (by decide) 0 rfl rfl rfl rfl rfl rfl (by show 5 < 17; decide) dX3_init_33 rfl ?_
  refine g_aload_n dX3_init_36 rfl 0 rfl ?_
  refine g_bipush (v := nI 6) dX3_init_37 (by decide +kernel) ?_
  refine g_newI 6 (by decide +kernel) (by decide +kernel) (by decide) (show 4 + 1 ≤ 11 by decide) (show 32 + 6 ≤ 78 by decide) dX3_init_39 (fun q5 => ?_)
  refine g_ws (ws' := [(b, .inr (3, [.int 0, .int 0, .ref q1, .ref q2, .ref q3, .ref q4, .int 0, .null, .null, .null, .null, .null, .int 0, .int 0, .int 0, .null, .null])), (q1, .inl (D.2.2.1, 8, .inl (fun _ => 0))), (q2, .inl (D.2.2.1, 8, .inl (fun _ => 0))), (q3, .inl (D.2.2.1, 8, .inl (fun _ => 0))), (q4, .inl (D.2.2.1, 8, .inl (fun _ => 0))), (q5, .inl (D.2.2.1, 6, .inl (fun _ => 0)))]) rfl ?_
  refine g_putF (ws' := [(b, .inr (3, [.int 0, .int 0, .ref q1, .ref q2, .ref q3, .ref q4, .int 0, .ref q5, .null, .null, .null, .null, .int 0, .int 0, .int 0, .null, .null])), (q1, .inl (D.2.2.1, 8, .inl (fun _ => 0))), (q2, .inl (D.2.2.1, 8, .inl (fun _ => 0))), (q3, .inl (D.2.2.1, 8, .inl (fun _ => 0))), (q4, .inl (D.2.2.1, 8, .inl (fun _ => 0))), (q5, .inl (D.2.2.1, 6, .inl (fun _ => 0)))]) kf_X3_24 kC_X3 kT_X3 (by decide) 0 rfl rfl rfl rfl rfl rfl (by show 7 < 17; decide) dX3_init_41 rfl ?_
  refine g_aload_n dX3_init_44 rfl 0 rfl ?_
  refine g_bipush (v := nI 6) dX3_init_45 (by decide +kernel) ?_
  refine g_newI 6 (by decide +kernel) (by decide +kernel) (by decide) (show 5 + 1 ≤ 11 by decide) (show 38 + 6 ≤ 78 by decide) dX3_init_47 (fun q6 => ?_)
  refine g_ws (ws' := [(b, .inr (3, [.int 0, .int 0, .ref q1, .ref q2, .ref q3, .ref q4, .int 0, .ref q5, .null, .null, .null, .null, .int 0, .int 0, .int 0, .null, .null])), (q1, .inl (D.2.2.1, 8, .inl (fun _ => 0))), (q2, .inl (D.2.2.1, 8, .inl (fun _ => 0))), (q3, .inl (D.2.2.1, 8, .inl (fun _ => 0))), (q4, .inl (D.2.2.1, 8, .inl (fun _ => 0))), (q5, .inl (D.2.2.1, 6, .inl (fun _ => 0))), (q6, .inl (D.2.2.1, 6, .inl (fun _ => 0)))]) rfl ?_
  refine g_putF (ws' := [(b, .inr (3, [.int 0, .int 0, .ref q1, .ref q2, .ref q3, .ref q4, .int 0, .ref q5, .ref q6, .null, .null, .null, .int 0, .int 0, .int 0, .null, .null])), (q1, .inl (D.2.2.1, 8, .inl (fun _ => 0))), (q2, .inl (D.2.2.1, 8, .inl (fun _ => 0))), (q3, .inl (D.2.2.1, 8, .inl (fun _ => 0))), (q4, .inl (D.2.2.1, 8, .inl (fun _ => 0))), (q5, .inl (D.2.2.1, 6, .inl (fun _ => 0))), (q6, .inl (D.2.2.1, 6, .inl (fun _ => 0)))]) kf_X3_27 kC_X3 kT_X3 (by decide) 0 rfl rfl rfl rfl rfl rfl (by show 8 < 17; decide) dX3_init_49 rfl ?_
  refine g_aload_n dX3_init_52 rfl 0 rfl ?_
  refine g_bipush (v := nI 6) dX3_init_53 (by decide +kernel) ?_
  refine g_newI 6 (by decide +kernel) (by decide +kernel) (by decide) (show 6 + 1 ≤ 11 by decide) (show 44 + 6 ≤ 78 by decide) dX3_init_55 (fun q7 => ?_)
  refine g_ws (ws' := [(b, .inr (3, [.int 0, .int 0, .ref q1, .ref q2, .ref q3, .ref q4, .int 0, .ref q5, .ref q6, .null, .null, .null, .int 0, .int 0, .int 0, .null, .null])), (q1, .inl (D.2.2.1, 8, .inl (fun _ => 0))), (q2, .inl (D.2.2.1, 8, .inl (fun _ => 0))), (q3, .inl (D.2.2.1, 8, .inl (fun _ => 0))), (q4, .inl (D.2.2.1, 8, .inl (fun _ => 0))), (q5, .inl (D.2.2.1, 6, .inl (fun _ => 0))), (q6, .inl (D.2.2.1, 6, .inl (fun _ => 0))), (q7, .inl (D.2.2.1, 6, .inl (fun _ => 0)))]) rfl ?_
  refine g_putF (ws' := [(b, .inr (3, [.int 0, .int 0, .ref q1, .ref q2, .ref q3, .ref q4, .int 0, .ref q5, .ref q6, .ref q7, .null, .null, .int 0, .int 0, .int 0, .null, .null])), (q1, .inl (D.2.2.1, 8, .inl (fun _ => 0))), (q2, .inl (D.2.2.1, 8, .inl (fun _ => 0))), (q3, .inl (D.2.2.1, 8, .inl (fun _ => 0))), (q4, .inl (D.2.2.1, 8, .inl (fun _ => 0))), (q5, .inl (D.2.2.1, 6, .inl (fun _ => 0))), (q6, .inl (D.2.2.1, 6, .inl (fun _ => 0))), (q7, .inl (D.2.2.1, 6, .inl (fun _ => 0)))]) kf_X3_30 kC_X3 kT_X3 (by decide) 0 rfl rfl rfl rfl rfl rfl (by show 9 < 17; decide) dX3_init_57 rfl ?_
  refine g_aload_n dX3_init_60 rfl 0 rfl ?_
  refine g_bipush (v := nI 8) dX3_init_61 (by decide +kernel) ?_
  refine g_newI 8 (by decide +kernel) (by decide +kernel) (by decide) (show 7 + 1 ≤ 11 by decide) (show 50 + 8 ≤ 78 by decide) dX3_init_63 (fun q8 => ?_)
  refine g_ws (ws' := [(b, .inr (3, [.int 0, .int 0, .ref q1, .ref q2, .ref q3, .ref q4, .int 0, .ref q5, .ref q6, .ref q7, .null, .null, .int 0, .int 0, .int 0, .null, .null])), (q1, .inl (D.2.2.1, 8, .inl (fun _ => 0))), (q2, .inl (D.2.2.1, 8, .inl (fun _ => 0))), (q3, .inl (D.2.2.1, 8, .inl (fun _ => 0))), (q4, .inl (D.2.2.1, 8, .inl (fun _ => 0))), (q5, .inl (D.2.2.1, 6, .inl (fun _ => 0))), (q6, .inl (D.2.2.1, 6, .inl (fun _ => 0))), (q7, .inl (D.2.2.1, 6, .inl (fun _ => 0))), (q8, .inl (D.2.2.1, 8, .inl (fun _ => 0)))]) rfl ?_
  refine g_putF (ws' := [(b, .inr (3, [.int 0, .int 0, .ref q1, .ref q2, .ref q3, .ref q4, .int 0, .ref q5, .ref q6, .ref q7, .ref q8, .null, .int 0, .int 0, .int 0, .null, .null])), (q1, .inl (D.2.2.1, 8, .inl (fun _ => 0))), (q2, .inl (D.2.2.1, 8, .inl (fun _ => 0))), (q3, .inl (D.2.2.1, 8, .inl (fun _ => 0))), (q4, .inl (D.2.2.1, 8, .inl (fun _ => 0))), (q5, .inl (D.2.2.1, 6, .inl (fun _ => 0))), (q6, .inl (D.2.2.1, 6, .inl (fun _ => 0))), (q7, .inl (D.2.2.1, 6, .inl (fun _ => 0))), (q8, .inl (D.2.2.1, 8, .inl (fun _ => 0)))]) kf_X3_33 kC_X3 kT_X3 (by decide) 0 rfl rfl rfl rfl rfl rfl (by show 10 < 17; decide) dX3_init_65 rfl ?_
  refine g_aload_n dX3_init_68 rfl 0 rfl ?_
  refine g_bipush (v := nI 8) dX3_init_69 (by decide +kernel) ?_
  refine g_newI 8 (by decide +kernel) (by decide +kernel) (by decide) (show 8 + 1 ≤ 11 by decide) (show 58 + 8 ≤ 78 by decide) dX3_init_71 (fun q9 => ?_)
  refine g_ws (ws' := [(b, .inr (3, [.int 0, .int 0, .ref q1, .ref q2, .ref q3, .ref q4, .int 0, .ref q5, .ref q6, .ref q7, .ref q8, .null, .int 0, .int 0, .int 0, .null, .null])), (q1, .inl (D.2.2.1, 8, .inl (fun _ => 0))), (q2, .inl (D.2.2.1, 8, .inl (fun _ => 0))), (q3, .inl (D.2.2.1, 8, .inl (fun _ => 0))), (q4, .inl (D.2.2.1, 8, .inl (fun _ => 0))), (q5, .inl (D.2.2.1, 6, .inl (fun _ => 0))), (q6, .inl (D.2.2.1, 6, .inl (fun _ => 0))), (q7, .inl (D.2.2.1, 6, .inl (fun _ => 0))), (q8, .inl (D.2.2.1, 8, .inl (fun _ => 0))), (q9, .inl (D.2.2.1, 8, .inl (fun _ => 0)))]) rfl ?_
  refine g_putF (ws' := [(b, .inr (3, [.int 0, .int 0, .ref q1, .ref q2, .ref q3, .ref q4, .int 0, .ref q5, .ref q6, .ref q7, .ref q8, .ref q9, .int 0, .int 0, .int 0, .null, .null])), (q1, .inl (D.2.2.1, 8, .inl (fun _ => 0))), (q2, .inl (D.2.2.1, 8, .inl (fun _ => 0))), (q3, .inl (D.2.2.1, 8, .inl (fun _ => 0))), (q4, .inl (D.2.2.1, 8, .inl (fun _ => 0))), (q5, .inl (D.2.2.1, 6, .inl (fun _ => 0))), (q6, .inl (D.2.2.1, 6, .inl (fun _ => 0))), (q7, .inl (D.2.2.1, 6, .inl (fun _ => 0))), (q8, .inl (D.2.2.1, 8, .inl (fun _ => 0))), (q9, .inl (D.2.2.1, 8, .inl (fun _ => 0)))]) kf_X3_36 kC_X3 kT_X3 (by decide) 0 rfl rfl rfl rfl rfl rfl (by show 11 < 17; decide) dX3_init_73 rfl ?_
  refine g_aload_n dX3_init_76 rfl 0 rfl ?_
  refine g_bipush (v := nI 6) dX3_init_77 (by decide +kernel) ?_
  refine g_newI 6 (by decide +kernel) (by decide +kernel) (by decide) (show 9 + 1 ≤ 11 by decide) (show 66 + 6 ≤ 78 by decide) dX3_init_79 (fun q10 => ?_)
  refine g_ws (ws' := [(b, .inr (3, [.int 0, .int 0, .ref q1, .ref q2, .ref q3, .ref q4, .int 0, .ref q5, .ref q6, .ref q7, .ref q8, .ref q9, .int 0, .int 0, .int 0, .null, .null])), (q1, .inl (D.2.2.1, 8, .inl (fun _ => 0))), (q2, .inl (D.2.2.1, 8, .inl (fun _ => 0))), (q3, .inl (D.2.2.1, 8, .inl (fun _ => 0))), (q4, .inl (D.2.2.1, 8, .inl (fun _ => 0))), (q5, .inl (D.2.2.1, 6, .inl (fun _ => 0))), (q6, .inl (D.2.2.1, 6, .inl (fun _ => 0))), (q7, .inl (D.2.2.1, 6, .inl (fun _ => 0))), (q8, .inl (D.2.2.1, 8, .inl (fun _ => 0))), (q9, .inl (D.2.2.1, 8, .inl (fun _ => 0))), (q10, .inl (D.2.2.1, 6, .inl (fun _ => 0)))]) rfl ?_
  refine g_putF (ws' := [(b, .inr (3, [.int 0, .int 0, .ref q1, .ref q2, .ref q3, .ref q4, .int 0, .ref q5, .ref q6, .ref q7, .ref q8, .ref q9, .int 0, .int 0, .int 0, .ref q10, .null])), (q1, .inl (D.2.2.1, 8, .inl (fun _ => 0))), (q2, .inl (D.2.2.1, 8, .inl (fun _ => 0))), (q3, .inl (D.2.2.1, 8, .inl (fun _ => 0))), (q4, .inl (D.2.2.1, 8, .inl (fun _ => 0))), (q5, .inl (D.2.2.1, 6, .inl (fun _ => 0))), (q6, .inl (D.2.2.1, 6, .inl (fun _ => 0))), (q7, .inl (D.2.2.1, 6, .inl (fun _ => 0))), (q8, .inl (D.2.2.1, 8, .inl (fun _ => 0))), (q9, .inl (D.2.2.1, 8, .inl (fun _ => 0))), (q10, .inl (D.2.2.1, 6, .inl (fun _ => 0)))]) kf_X3_39 kC_X3 kT_X3 (by decide) 0 rfl rfl rfl rfl rfl rfl (by show 15 < 17; decide) dX3_init_81 rfl ?_
  refine g_aload_n dX3_init_84 rfl 0 rfl ?_
  refine g_bipush (v := nI 6) dX3_init_85 (by decide +kernel) ?_
  refine g_newI 6 (by decide +kernel) (by decide +kernel) (by decide) (show 10 + 1 ≤ 11 by decide) (show 72 + 6 ≤ 78 by decide) dX3_init_87 (fun q11 => ?_)
  refine g_ws (ws' := [(b, .inr (3, [.int 0, .int 0, .ref q1, .ref q2, .ref q3, .ref q4, .int 0, .ref q5, .ref q6, .ref q7, .ref q8, .ref q9, .int 0, .int 0, .int 0, .ref q10, .null])), (q1, .inl (D.2.2.1, 8, .inl (fun _ => 0))), (q2, .inl (D.2.2.1, 8, .inl (fun _ => 0))), (q3, .inl (D.2.2.1, 8, .inl (fun _ => 0))), (q4, .inl (D.2.2.1, 8, .inl (fun _ => 0))), (q5, .inl (D.2.2.1, 6, .inl (fun _ => 0))), (q6, .inl (D.2.2.1, 6, .inl (fun _ => 0))), (q7, .inl (D.2.2.1, 6, .inl (fun _ => 0))), (q8, .inl (D.2.2.1, 8, .inl (fun _ => 0))), (q9, .inl (D.2.2.1, 8, .inl (fun _ => 0))), (q10, .inl (D.2.2.1, 6, .inl (fun _ => 0))), (q11, .inl (D.2.2.1, 6, .inl (fun _ => 0)))]) rfl ?_
  refine g_putF (ws' := [(b, .inr (3, [.int 0, .int 0, .ref q1, .ref q2, .ref q3, .ref q4, .int 0, .ref q5, .ref q6, .ref q7, .ref q8, .ref q9, .int 0, .int 0, .int 0, .ref q10, .ref q11])), (q1, .inl (D.2.2.1, 8, .inl (fun _ => 0))), (q2, .inl (D.2.2.1, 8, .inl (fun _ => 0))), (q3, .inl (D.2.2.1, 8, .inl (fun _ => 0))), (q4, .inl (D.2.2.1, 8, .inl (fun _ => 0))), (q5, .inl (D.2.2.1, 6, .inl (fun _ => 0))), (q6, .inl (D.2.2.1, 6, .inl (fun _ => 0))), (q7, .inl (D.2.2.1, 6, .inl (fun _ => 0))), (q8, .inl (D.2.2.1, 8, .inl (fun _ => 0))), (q9, .inl (D.2.2.1, 8, .inl (fun _ => 0))), (q10, .inl (D.2.2.1, 6, .inl (fun _ => 0))), (q11, .inl (D.2.2.1, 6, .inl (fun _ => 0)))]) kf_X3_42 kC_X3 kT_X3 (by decide) 0 rfl rfl rfl rfl rfl rfl (by show 16 < 17; decide) dX3_init_89 rfl ?_
  refine g_aload_n dX3_init_92 rfl 0 rfl ?_
  refine g_iconst dX3_init_93 ci_1 ?_
  refine g_put (ws' := twn D (fun j => [b, q1, q2, q3, q4, q5, q6, q7, q8, q9, q10, q11].getD j 0) (fun k => if k = 13 then nI 1 else 0) (fun _ _ => 0)) kf_X3_45 kC_X3 kT_X3 (by decide) 0 rfl rfl rfl rfl (by show 13 < 17; decide) dX3_init_94 rfl ?_
  refine g_aload_n dX3_init_97 rfl 0 rfl ?_
  refine g_iconst dX3_init_98 ci_4 ?_
  refine g_callVA (rm' := rr (d + 2)) (As := [.int (nI 4)]) km_X3_49 ky_X3_settle ki_X3_settle (rk_ok (d := d + 2) (by decide) rfl rfl rfl rfl) ⟨Nat.le_refl _, Nat.le_refl _⟩ 0 (fs := tnF (fun k => if k = 13 then nI 1 else 0) (fun j => [b, q1, q2, q3, q4, q5, q6, q7, q8, q9, q10, q11].getD j 0) 0) rfl kC_X3.1 rfl (Nat.le_of_ble_eq_true rfl) dX3_init_99 rfl (c_settle0 (M := (fun j => [b, q1, q2, q3, q4, q5, q6, q7, q8, q9, q10, q11].getD j 0)) ?_)
  exact g_return dX3_init_102 (Nat.le_refl _) (Nat.le_refl _) (h _ rfl)
set_option maxHeartbeats 8000000 in
set_option maxRecDepth 20000 in
theorem c_X2_init {l : Launch} {D : gE} {Q : Option Value → va_W → Prop} {d b : Nat} (h : ∀ q1 : Nat, Q none [(b, .inr (2, [.ref q1, .int 0])), (q1, .inl (D.2.2.1, 60, .inl (fun _ => 0)))]) : Ctr l D yX2_init cX2_init 1 none (rk (d + 1) 1 60) [.ref b] [(b, .inr (2, fz2))] Q := by
  refine g_start ky_X2_init (Nat.le_of_ble_eq_true rfl) ?_
  refine g_pick [0] (lv' := [(0, .ref b)]) rfl ?_
  refine g_aload_n dX2_init_0 rfl 0 rfl ?_
  refine g_oinit ko_X2 (show 1 ≤ d + 1 by omega) (show 0 + 12 ≤ 48 * (d + 1) by omega) dX2_init_1 ?_
  refine g_aload_n dX2_init_4 rfl 0 rfl ?_
  refine g_bipush (v := nI 60) dX2_init_5 (by decide +kernel) ?_
  refine g_newI 60 (by decide +kernel) (by decide +kernel) (by decide) (show 0 + 1 ≤ 1 by decide) (show 0 + 60 ≤ 60 by decide) dX2_init_7 (fun q1 => ?_)
  refine g_ws (ws' := [(b, .inr (2, [.null, .int 0])), (q1, .inl (D.2.2.1, 60, .inl (fun _ => 0)))]) rfl ?_
  refine g_putF (ws' := [(b, .inr (2, [.ref q1, .int 0])), (q1, .inl (D.2.2.1, 60, .inl (fun _ => 0)))]) kf_X2_9 kC_X2 kT_X2 (by decide) 0 rfl rfl rfl rfl rfl rfl (by show 0 < 2; decide) dX2_init_9 rfl ?_
  exact g_return dX2_init_12 (Nat.le_refl _) (Nat.le_refl _) (h _)
set_option maxHeartbeats 8000000 in
set_option maxRecDepth 20000 in
theorem c_X1_init {l : Launch} {D : gE} {Q : Option Value → va_W → Prop} {d b : Nat} (h : ∀ q1 q2 q3 : Nat, Q none [(b, .inr (1, [.ref q1, .ref q2, .ref q3])), (q1, .inl (D.2.2.1, 6, .inl (fun _ => 0))), (q2, .inl (D.2.2.1, 6, .inl (fun _ => 0))), (q3, .inl (D.2.2.1, 36, .inl (fun _ => 0)))]) : Ctr l D yX1_init cX1_init 1 none (rk (d + 1) 3 48) [.ref b] [(b, .inr (1, fz1))] Q := by
  refine g_start ky_X1_init (Nat.le_of_ble_eq_true rfl) ?_
  refine g_pick [0] (lv' := [(0, .ref b)]) rfl ?_
  refine g_aload_n dX1_init_0 rfl 0 rfl ?_
  refine g_oinit ko_X1 (show 1 ≤ d + 1 by omega) (show 0 + 12 ≤ 48 * (d + 1) by omega) dX1_init_1 ?_
  refine g_aload_n dX1_init_4 rfl 0 rfl ?_
  refine g_bipush (v := nI 6) dX1_init_5 (by decide +kernel) ?_
  refine g_newI 6 (by decide +kernel) (by decide +kernel) (by decide) (show 0 + 1 ≤ 3 by decide) (show 0 + 6 ≤ 48 by decide) dX1_init_7 (fun q1 => ?_)
  refine g_ws (ws' := [(b, .inr (1, [.null, .null, .null])), (q1, .inl (D.2.2.1, 6, .inl (fun _ => 0)))]) rfl ?_
  refine g_putF (ws' := [(b, .inr (1, [.ref q1, .null, .null])), (q1, .inl (D.2.2.1, 6, .inl (fun _ => 0)))]) kf_X1_9 kC_X1 kT_X1 (by decide) 0 rfl rfl rfl rfl rfl rfl (by show 0 < 3; decide) dX1_init_9 rfl ?_
  refine g_aload_n dX1_init_12 rfl 0 rfl ?_
  refine g_bipush (v := nI 6) dX1_init_13 (by decide +kernel) ?_
  refine g_newI 6 (by decide +kernel) (by decide +kernel) (by decide) (show 1 + 1 ≤ 3 by decide) (show 6 + 6 ≤ 48 by decide) dX1_init_15 (fun q2 => ?_)
  refine g_ws (ws' := [(b, .inr (1, [.ref q1, .null, .null])), (q1, .inl (D.2.2.1, 6, .inl (fun _ => 0))), (q2, .inl (D.2.2.1, 6, .inl (fun _ => 0)))]) rfl ?_
  refine g_putF (ws' := [(b, .inr (1, [.ref q1, .ref q2, .null])), (q1, .inl (D.2.2.1, 6, .inl (fun _ => 0))), (q2, .inl (D.2.2.1, 6, .inl (fun _ => 0)))]) kf_X1_15 kC_X1 kT_X1 (by decide) 0 rfl rfl rfl rfl rfl rfl (by show 1 < 3; decide) dX1_init_17 rfl ?_
  refine g_aload_n dX1_init_20 rfl 0 rfl ?_
  refine g_bipush (v := nI 36) dX1_init_21 (by decide +kernel) ?_
  refine g_newI 36 (by decide +kernel) (by decide +kernel) (by decide) (show 2 + 1 ≤ 3 by decide) (show 12 + 36 ≤ 48 by decide) dX1_init_23 (fun q3 => ?_)
  refine g_ws (ws' := [(b, .inr (1, [.ref q1, .ref q2, .null])), (q1, .inl (D.2.2.1, 6, .inl (fun _ => 0))), (q2, .inl (D.2.2.1, 6, .inl (fun _ => 0))), (q3, .inl (D.2.2.1, 36, .inl (fun _ => 0)))]) rfl ?_
  refine g_putF (ws' := [(b, .inr (1, [.ref q1, .ref q2, .ref q3])), (q1, .inl (D.2.2.1, 6, .inl (fun _ => 0))), (q2, .inl (D.2.2.1, 6, .inl (fun _ => 0))), (q3, .inl (D.2.2.1, 36, .inl (fun _ => 0)))]) kf_X1_18 kC_X1 kT_X1 (by decide) 0 rfl rfl rfl rfl rfl rfl (by show 2 < 3; decide) dX1_init_25 rfl ?_
  exact g_return dX1_init_28 (Nat.le_refl _) (Nat.le_refl _) (h _ _ _)
set_option maxHeartbeats 8000000 in
set_option maxRecDepth 20000 in
theorem c_X0_init {l : Launch} {D : gE} {Q : Option Value → va_W → Prop} {d b : Nat} (h : Q none [(b, .inr (0, [.int 0, .int 0, .int 0, .int 0, .int 0, .int 0]))]) : Ctr l D yX0_init cX0_init 1 none (rk (d + 1) 0 0) [.ref b] [(b, .inr (0, fz0))] Q := by
  refine g_start ky_X0_init (Nat.le_of_ble_eq_true rfl) ?_
  refine g_pick [0] (lv' := [(0, .ref b)]) rfl ?_
  refine g_aload_n dX0_init_0 rfl 0 rfl ?_
  refine g_oinit ko_X0 (show 1 ≤ d + 1 by omega) (show 0 + 12 ≤ 48 * (d + 1) by omega) dX0_init_1 ?_
  exact g_return dX0_init_4 (Nat.le_refl _) (Nat.le_refl _) (h)
