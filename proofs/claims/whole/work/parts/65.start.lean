/-! THE LAW: a round, the loop, the start -/
set_option maxHeartbeats 4000000 in
set_option maxRecDepth 20000 in
theorem law_round {p : Program} {l : Launch} {e : Env} {s : State} {m : MethodId} {below : List Frame} {meth : Method} {c : Code} {D : gE} {b N : Nat} {xs : Nat → Int32} (hF : CK p s m meth c D b) (hX : va_X b N xs s s.heap) (hbl : b < s.heap.size) (hN : N ≤ 320) {i : Nat} (hi : i + 5 ≤ N) (nx : NX p l e s m below meth c D b i) {L : Nat → Nat} {σ : St} {X : XT} {sg : Nat → Nat} {n : Nat} {M : Nat → Option XT} (h : IV σ X sg n M) : GL p l e s m below meth c D b (100 + 12 * i) (2000 + 95 * i) 26 [(3, .int (nI i)), (0, .ref b), (1, .ref (L 24)), (2, .ref (L 33))] [] (wsOf D L σ) := by
  refine lg_aload_n hF dL_law_26 rfl 1 rfl ?_
  refine lg_iload_n hF dL_law_27 rfl 0 rfl ?_
  refine lg_sld hF hX hbl (show i < N by omega) hN dL_law_28 ?_
  refine lg_bipush hF (v := nI 63) dL_law_29 (by decide +kernel) ?_
  refine lg_iand hF dL_law_31 ?_
  generalize xs i &&& nI 63 = v
  by_cases ho : v.toInt < 0 ∨ 35 < v.toInt
  · exact lg_tableOut hF 1317 dL_law_32 ho (by decide) (nx _ _ _ _ _ _ _ _ (by omega) (by omega) h)
  have h36 : v.toInt = 0 ∨ v.toInt = 1 ∨ v.toInt = 2 ∨ v.toInt = 3 ∨ v.toInt = 4 ∨ v.toInt = 5 ∨ v.toInt = 6 ∨ v.toInt = 7 ∨ v.toInt = 8 ∨ v.toInt = 9 ∨ v.toInt = 10 ∨ v.toInt = 11 ∨ v.toInt = 12 ∨ v.toInt = 13 ∨ v.toInt = 14 ∨ v.toInt = 15 ∨ v.toInt = 16 ∨ v.toInt = 17 ∨ v.toInt = 18 ∨ v.toInt = 19 ∨ v.toInt = 20 ∨ v.toInt = 21 ∨ v.toInt = 22 ∨ v.toInt = 23 ∨ v.toInt = 24 ∨ v.toInt = 25 ∨ v.toInt = 26 ∨ v.toInt = 27 ∨ v.toInt = 28 ∨ v.toInt = 29 ∨ v.toInt = 30 ∨ v.toInt = 31 ∨ v.toInt = 32 ∨ v.toInt = 33 ∨ v.toInt = 34 ∨ v.toInt = 35 := by omega
  rcases h36 with q | q | q | q | q | q | q | q | q | q | q | q | q | q | q | q | q | q | q | q | q | q | q | q | q | q | q | q | q | q | q | q | q | q | q | q
  · exact lg_tableIn hF (off := 160) 192 dL_law_32 (by omega) (by omega) (by rw [q]; rfl) (by decide) (law_c0 hF hX hbl hN hi nx h)
  · exact lg_tableIn hF (off := 183) 215 dL_law_32 (by omega) (by omega) (by rw [q]; rfl) (by decide) (law_c1 hF hX hbl hN hi nx h)
  · exact lg_tableIn hF (off := 236) 268 dL_law_32 (by omega) (by omega) (by rw [q]; rfl) (by decide) (law_c2 hF hX hbl hN hi nx h)
  · exact lg_tableIn hF (off := 259) 291 dL_law_32 (by omega) (by omega) (by rw [q]; rfl) (by decide) (law_c3 hF hX hbl hN hi nx h)
  · exact lg_tableIn hF (off := 302) 334 dL_law_32 (by omega) (by omega) (by rw [q]; rfl) (by decide) (law_c4 hF hX hbl hN hi nx h)
  · exact lg_tableIn hF (off := 325) 357 dL_law_32 (by omega) (by omega) (by rw [q]; rfl) (by decide) (law_c5 hF hX hbl hN hi nx h)
  · exact lg_tableIn hF (off := 368) 400 dL_law_32 (by omega) (by omega) (by rw [q]; rfl) (by decide) (law_c6 hF hX hbl hN hi nx h)
  · exact lg_tableIn hF (off := 427) 459 dL_law_32 (by omega) (by omega) (by rw [q]; rfl) (by decide) (law_c7 hF hX hbl hN hi nx h)
  · exact lg_tableIn hF (off := 450) 482 dL_law_32 (by omega) (by omega) (by rw [q]; rfl) (by decide) (law_c8 hF hX hbl hN hi nx h)
  · exact lg_tableIn hF (off := 473) 505 dL_law_32 (by omega) (by omega) (by rw [q]; rfl) (by decide) (law_c9 hF hX hbl hN hi nx h)
  · exact lg_tableIn hF (off := 486) 518 dL_law_32 (by omega) (by omega) (by rw [q]; rfl) (by decide) (law_c10 hF hX hbl hN hi nx h)
  · exact lg_tableIn hF (off := 499) 531 dL_law_32 (by omega) (by omega) (by rw [q]; rfl) (by decide) (law_c11 hF hX hbl hN hi nx h)
  · exact lg_tableIn hF (off := 522) 554 dL_law_32 (by omega) (by omega) (by rw [q]; rfl) (by decide) (law_c12 hF hX hbl hN hi nx h)
  · exact lg_tableIn hF (off := 555) 587 dL_law_32 (by omega) (by omega) (by rw [q]; rfl) (by decide) (law_c13 hF hX hbl hN hi nx h)
  · exact lg_tableIn hF (off := 568) 600 dL_law_32 (by omega) (by omega) (by rw [q]; rfl) (by decide) (law_c14 hF hX hbl hN hi nx h)
  · exact lg_tableIn hF (off := 601) 633 dL_law_32 (by omega) (by omega) (by rw [q]; rfl) (by decide) (law_c15 hF hX hbl hN hi nx h)
  · exact lg_tableIn hF (off := 624) 656 dL_law_32 (by omega) (by omega) (by rw [q]; rfl) (by decide) (law_c16 hF hX hbl hN hi nx h)
  · exact lg_tableIn hF (off := 647) 679 dL_law_32 (by omega) (by omega) (by rw [q]; rfl) (by decide) (law_c17 hF hX hbl hN hi nx h)
  · exact lg_tableIn hF (off := 690) 722 dL_law_32 (by omega) (by omega) (by rw [q]; rfl) (by decide) (law_c18 hF hX hbl hN hi nx h)
  · exact lg_tableIn hF (off := 733) 765 dL_law_32 (by omega) (by omega) (by rw [q]; rfl) (by decide) (law_c19 hF hX hbl hN hi nx h)
  · exact lg_tableIn hF (off := 776) 808 dL_law_32 (by omega) (by omega) (by rw [q]; rfl) (by decide) (law_c20 hF hX hbl hN hi nx h)
  · exact lg_tableIn hF (off := 819) 851 dL_law_32 (by omega) (by omega) (by rw [q]; rfl) (by decide) (law_c21 hF hX hbl hN hi nx h)
  · exact lg_tableIn hF (off := 862) 894 dL_law_32 (by omega) (by omega) (by rw [q]; rfl) (by decide) (law_c22 hF hX hbl hN hi nx h)
  · exact lg_tableIn hF (off := 885) 917 dL_law_32 (by omega) (by omega) (by rw [q]; rfl) (by decide) (law_c23 hF hX hbl hN hi nx h)
  · exact lg_tableIn hF (off := 928) 960 dL_law_32 (by omega) (by omega) (by rw [q]; rfl) (by decide) (law_c24 hF hX hbl hN hi nx h)
  · exact lg_tableIn hF (off := 971) 1003 dL_law_32 (by omega) (by omega) (by rw [q]; rfl) (by decide) (law_c25 hF hX hbl hN hi nx h)
  · exact lg_tableIn hF (off := 1004) 1036 dL_law_32 (by omega) (by omega) (by rw [q]; rfl) (by decide) (law_c26 hF hX hbl hN hi nx h)
  · exact lg_tableIn hF (off := 1037) 1069 dL_law_32 (by omega) (by omega) (by rw [q]; rfl) (by decide) (law_c27 hF hX hbl hN hi nx h)
  · exact lg_tableIn hF (off := 1070) 1102 dL_law_32 (by omega) (by omega) (by rw [q]; rfl) (by decide) (law_c28 hF hX hbl hN hi nx h)
  · exact lg_tableIn hF (off := 1083) 1115 dL_law_32 (by omega) (by omega) (by rw [q]; rfl) (by decide) (law_c29 hF hX hbl hN hi nx h)
  · exact lg_tableIn hF (off := 1106) 1138 dL_law_32 (by omega) (by omega) (by rw [q]; rfl) (by decide) (law_c30 hF hX hbl hN hi nx h)
  · exact lg_tableIn hF (off := 1119) 1151 dL_law_32 (by omega) (by omega) (by rw [q]; rfl) (by decide) (law_c31 hF hX hbl hN hi nx h)
  · exact lg_tableIn hF (off := 1173) 1205 dL_law_32 (by omega) (by omega) (by rw [q]; rfl) (by decide) (law_c32 hF hX hbl hN hi nx h)
  · exact lg_tableIn hF (off := 1216) 1248 dL_law_32 (by omega) (by omega) (by rw [q]; rfl) (by decide) (law_c33 hF hX hbl hN hi nx h)
  · exact lg_tableIn hF (off := 1239) 1271 dL_law_32 (by omega) (by omega) (by rw [q]; rfl) (by decide) (law_c34 hF hX hbl hN hi nx h)
  · exact lg_tableIn hF (off := 1262) 1294 dL_law_32 (by omega) (by omega) (by rw [q]; rfl) (by decide) (law_c35 hF hX hbl hN hi nx h)
theorem law_nx {p : Program} {l : Launch} {e : Env} {s : State} {m : MethodId} {below : List Frame} {meth : Method} {c : Code} {D : gE} {b i : Nat} (hF : CK p s m meth c D b) (lp : ∀ (L : Nat → Nat) (σ : St) (X : XT) (sg : Nat → Nat) (n : Nat) (M : Nat → Option XT), IV σ X sg n M → GL p l e s m below meth c D b (100 + 12 * (i + 5)) (2000 + 95 * (i + 5)) 18 [(3, .int (nI (i + 5))), (0, .ref b), (1, .ref (L 24)), (2, .ref (L 33))] [] (wsOf D L σ)) : NX p l e s m below meth c D b i := by
  intro cells slots L σ X sg n M hc hs h
  refine lg_iinc hF (v := nI (i + 5)) (lv' := [(3, .int (nI (i + 5))), (0, .ref b), (1, .ref (L 24)), (2, .ref (L 33))]) dL_law_1317 0 rfl (by rw [ci_5]; exact nI_add i 5) (by decide) rfl ?_
  refine lg_goto hF 18 dL_law_1320 (by decide) ?_
  exact lg_widen (by omega) (by omega) (lp L σ X sg n M h)
set_option maxHeartbeats 4000000 in
theorem law_loop {p : Program} {l : Launch} {e : Env} {s : State} {m : MethodId} {below : List Frame} {meth : Method} {c : Code} {D : gE} {b N : Nat} {xs : Nat → Int32} (hF : CK p s m meth c D b) (hX : va_X b N xs s s.heap) (hbl : b < s.heap.size) (hN : N ≤ 320) : ∀ (k i : Nat), N ≤ i + k → i ≤ 325 → ∀ (L : Nat → Nat) (σ : St) (X : XT) (sg : Nat → Nat) (n : Nat) (M : Nat → Option XT), IV σ X sg n M → GL p l e s m below meth c D b (100 + 12 * i) (2000 + 95 * i) 18 [(3, .int (nI i)), (0, .ref b), (1, .ref (L 24)), (2, .ref (L 33))] [] (wsOf D L σ) := by
  have head : ∀ (i : Nat), i ≤ 325 → (i + 5 ≤ N → NX p l e s m below meth c D b i) → ∀ (L : Nat → Nat) (σ : St) (X : XT) (sg : Nat → Nat) (n : Nat) (M : Nat → Option XT), IV σ X sg n M → GL p l e s m below meth c D b (100 + 12 * i) (2000 + 95 * i) 18 [(3, .int (nI i)), (0, .ref b), (1, .ref (L 24)), (2, .ref (L 33))] [] (wsOf D L σ) := by
    intro i hi nx L σ X sg n M h
    refine lg_iload_n hF dL_law_18 rfl 0 rfl ?_
    refine lg_aload_n hF dL_law_19 rfl 1 rfl ?_
    refine lg_slen hF hX hbl dL_law_20 ?_
    refine lg_iconst hF dL_law_21 ci_5 ?_
    refine lg_isub hF dL_law_22 ?_
    refine lg_tope (z := zI ((N : Int) - 5)) (by rw [← zI_nat, ← zI_nat, zI_sub]; rfl) ?_
    refine lg_icmpgt hF 1323 dL_law_23 (by decide) (fun _ => ?_) (fun hle => ?_)
    · refine lg_iconst hF dL_law_1323 ci_1 ?_
      exact lg_ret hF (by omega) (by omega) dL_law_1324
    · rw [← zI_nat, zI_lt (by omega) (by omega)] at hle
      exact law_round hF hX hbl hN (by omega) (nx (by omega)) h
  intro k
  induction k with
  | zero => exact fun i hk hi => head i hi (fun h5 => absurd h5 (by omega))
  | succ k ih => exact fun i hk hi => head i hi (fun h5 => law_nx hF (ih (i + 5) (by omega) (by omega)))
theorem bits_0 (n : Nat) (hn : n ≤ 8) : bitsN (fun _ => false) n = 0 := by
  have h : ∀ n, n < 9 → bitsN (fun _ => false) n = 0 := by decide
  exact h n (by omega)
theorem rz_0 : rzT σ0 0 X0 := by
  unfold rzT rpT rp
  simp only [X0, tX_beg, x_sz_kn, x_sz_ab, x_sz_wt, x_sz_sg, x_sz_pu, x_sz_th, x_sz_br, x_sz_sz, x_br_kn, x_br_ab, x_br_wt, x_br_sg, x_br_pu, x_br_th, x_br_br, x_br_sz, x_lo_kn, x_lo_ab, x_lo_wt, x_lo_sg, x_lo_pu, x_lo_th, x_lo_br, x_lo_sz, x_hi_kn, x_hi_ab, x_hi_wt, x_hi_sg, x_hi_pu, x_hi_th, x_hi_br, x_hi_sz, x_ld_kn, x_ld_ab, x_ld_wt, x_ld_sg, x_ld_pu, x_ld_th, x_ld_br, x_ld_sz, x_bn_kn, x_bn_ab, x_bn_wt, x_bn_sg, x_bn_pu, x_bn_th, x_bn_br, x_bn_sz, x_th_kn, x_th_ab, x_th_wt, x_th_sg, x_th_pu, x_th_th, x_th_br, x_th_sz, x_pl_kn, x_pl_ab, x_pl_wt, x_pl_sg, x_pl_pu, x_pl_th, x_pl_br, x_pl_sz, x_ki_kn, x_ki_ab, x_ki_wt, x_ki_sg, x_ki_pu, x_ki_th, x_ki_br, x_ki_sz, x_kn_kn, x_kn_ab, x_kn_wt, x_kn_sg, x_kn_pu, x_kn_th, x_kn_br, x_kn_sz, x_wt_kn, x_wt_ab, x_wt_wt, x_wt_sg, x_wt_pu, x_wt_th, x_wt_br, x_wt_sz, x_ab_kn, x_ab_ab, x_ab_wt, x_ab_sg, x_ab_pu, x_ab_th, x_ab_br, x_ab_sz, x_pu_kn, x_pu_ab, x_pu_wt, x_pu_sg, x_pu_pu, x_pu_th, x_pu_br, x_pu_sz, x_fa_kn, x_fa_ab, x_fa_wt, x_fa_sg, x_fa_pu, x_fa_th, x_fa_br, x_fa_sz, x_sg_kn, x_sg_ab, x_sg_wt, x_sg_sg, x_sg_pu, x_sg_th, x_sg_br, x_sg_sz, x_sb_kn, x_sb_ab, x_sb_wt, x_sb_sg, x_sb_pu, x_sb_th, x_sb_br, x_sb_sz, x_sv_kn, x_sv_ab, x_sv_wt, x_sv_sg, x_sv_pu, x_sv_th, x_sv_br, x_sv_sz]
  rw [bits_0 8 (by omega), bits_0 6 (by omega)]
  exact ⟨⟨rfl, rfl, rfl, rfl, rfl, rfl, fun _ _ => rfl, fun _ _ => rfl, fun _ _ => rfl, fun _ _ => rfl, fun _ _ => rfl, fun _ _ => rfl, fun _ _ h => (by cases h), fun i hi => if_pos hi, fun i hi => if_pos hi, fun _ _ => rfl, fun _ _ => rfl⟩, fun i hi => if_pos hi⟩
theorem iv_0 {σ : St} (f : fr σ0 σ) (hr : rpM σ X0) : IV σ X0 (fun _ => 0) 0 (fun _ => none) := by
  refine ⟨⟨hr, ⟨f.2.2.1.trans rfl, by omega, fun i hi => absurd hi (by omega), fun i hi => absurd hi (by omega)⟩, fun n hn => ⟨fun X h => (by cases h), fun _ => (congrFun (f.2.1 61 (by omega)) n).trans rfl⟩, rz_gen (fun j _ _ => f.2.1 _ (by omega)) (f.1 _ (by omega)) rz_0, ⟨(congrFun (f.1 26 (by omega)) 1).trans rfl, by omega, fun i hi => absurd hi (by omega), fun i hi => absurd hi (by omega)⟩, ?_⟩, ok_0, fun k Y h => (by cases h)⟩
  have hM : sM σ = fun _ => none := f.2.2.2.2
  have hK : sK σ = 0 := f.2.2.2.1
  refine ⟨fun n hn X h => (by cases h), fun n hn _ => by rw [hM], fun n m b h => (by rw [hM] at h; cases h), fun n b h => (by rw [hM] at h; cases h), by rw [hM, hK]; rfl⟩
/-- the classes and the links, at the law's start -/
theorem law_gB {s : State} {b : Nat} (hts : ∀ w ∈ lw_tbl, w.before #[Value.ref b] s = true) : ∃ D : gE, gB D s := by
  have htb : ∀ w ∈ tb, w.before #[Value.ref b] s = true := fun w hw => hts w (tb_all hw).1
  obtain ⟨c0, i0, h0⟩ := u_known htb kC_X0.2.1 (htb _ kin_X0.1)
  obtain ⟨c1, i1, h1⟩ := u_known htb kC_X1.2.1 (htb _ kin_X1.1)
  obtain ⟨c2, i2, h2⟩ := u_known htb kC_X2.2.1 (htb _ kin_X2.1)
  obtain ⟨c3, i3, h3⟩ := u_known htb kC_X3.2.1 (htb _ kin_X3.1)
  obtain ⟨c4, i4, h4⟩ := u_known htb kC_X4.2.1 (htb _ kin_X4.1)
  obtain ⟨c5, i5, h5⟩ := u_known htb kC_X5.2.1 (htb _ kin_X5.1)
  obtain ⟨cI, kI, pI, fI, gI, tI⟩ := Cond.arrayClass_spec (htb _ kaI)
  obtain ⟨cZ, kZ, pZ, fZ, gZ, tZ⟩ := Cond.arrayClass_spec (htb _ kaZ)
  have hao : (Cond.arrayOver (.object RX3)).before #[Value.ref b] s = true := hts _ (List.mem_of_getElem? (i := 153) (by decide +kernel))
  obtain ⟨pQ, cQ, kQ, fP, -, gQ, tQ, fQ⟩ := Cond.arrayOver_spec hao
  refine ⟨(fun k => match k with | 0 => c0 | 1 => c1 | 2 => c2 | 3 => c3 | 4 => c4 | _ => c5, fun k => match k with | 0 => i0 | 1 => i1 | 2 => i2 | 3 => i3 | 4 => i4 | _ => i5, cI, cZ, cQ), ⟨?_, ?_⟩, va_AO.of hao, va_Nw.of rfl (hts _ (List.mem_of_getElem? (i := 509) (by decide +kernel))), va_Nw.of rfl (hts _ (List.mem_of_getElem? (i := 510) (by decide +kernel))), va_Nw.of rfl (hts _ (List.mem_of_getElem? (i := 326) (by decide +kernel))), va_Nw.of rfl (hts _ (List.mem_of_getElem? (i := 255) (by decide +kernel))), va_Nw.of rfl (hts _ (List.mem_of_getElem? (i := 276) (by decide +kernel)))⟩
  · intro k q hq
    have hk : k < 6 := (List.getElem?_eq_some_iff.mp hq).1
    rcases (show k = 0 ∨ k = 1 ∨ k = 2 ∨ k = 3 ∨ k = 4 ∨ k = 5 by omega) with rfl | rfl | rfl | rfl | rfl | rfl
    · cases hq; exact h0
    · cases hq; exact h1
    · cases hq; exact h2
    · cases hq; exact h3
    · cases hq; exact h4
    · cases hq; exact h5
  · intro k q hq
    have hk : k < 3 := (List.getElem?_eq_some_iff.mp hq).1
    rcases (show k = 0 ∨ k = 1 ∨ k = 2 by omega) with rfl | rfl | rfl
    · cases hq; exact ⟨fun n z => ⟨fun k h => (by cases h), kI, gI, pI, tI⟩, fI⟩
    · cases hq; exact ⟨fun n z => ⟨fun k h => (by cases h), kZ, gZ, pZ, tZ⟩, fZ⟩
    · cases hq; exact ⟨fun n z => ⟨fun k h => (by cases h), kQ, gQ, pQ, tQ⟩, kQ, pQ, gQ, tQ, fP, fQ⟩
set_option maxHeartbeats 4000000 in
set_option maxRecDepth 20000 in
theorem law_start {p : Program} {l : Launch} {e : Env} {s : State} {m : MethodId} {below : List Frame} {meth : Method} {c : Code} {D : gE} {b N : Nat} {xs : Nat → Int32} (hF : CK p s m meth c D b) (hX : va_X b N xs s s.heap) (hbl : b < s.heap.size) (hN : N ≤ 320) : GL p l e s m below meth c D b 0 0 0 [(0, .ref b)] [] [] := by
  refine lg_new hF (fs := fz4) (show Cond.classLink RL 7 RX4 ∈ tb from kcl_L_7) kC_X4 kT_X4 kin_X4 (by decide) (show 0 + 1 ≤ 600000 by decide) (show 0 + 6 ≤ 7302250 by decide) dL_law_0 (fun x => ?_)
  refine lg_ws (ws' := [(x, .inr (4, fz4))]) rfl ?_
  refine lg_dup hF dL_law_3 rfl ?_
  refine lg_callIA hF (rm' := rk 20 32 311) (As := []) km_L_9 ky_X4_init kn_X4_init ⟨show 20 + 1 ≤ 2048 by decide, show 8 + (1 + 11) + 48 * 20 ≤ 84000 by decide⟩ ⟨show 0 + 1 + 32 ≤ 600000 by decide, show 0 + 6 + 311 ≤ 7302250 by decide⟩ rfl (Nat.le_of_ble_eq_true rfl) dL_law_4 rfl (c_X4_init (d := 16) (fun L hL => ?_))
  subst hL
  refine lg_astore_n hF (lv' := [(1, .ref (L 24)), (0, .ref b)]) dL_law_7 rfl (by decide) rfl ?_
  refine lg_new hF (fs := fz5) (show Cond.classLink RL 10 RX5 ∈ tb from kcl_L_10) kC_X5 kT_X5 kin_X5 (by decide) (show 0 + 1 + 32 + 1 ≤ 600000 by decide) (show 0 + 6 + 311 + 47 ≤ 7302250 by decide) dL_law_8 (fun y => ?_)
  refine lg_dup hF dL_law_11 rfl ?_
  refine lg_callIA hF (rm' := rk 20 28 644) (As := []) km_L_12 ky_X5_init kn_X5_init ⟨show 20 + 1 ≤ 2048 by decide, show 8 + (1 + 11) + 48 * 20 ≤ 84000 by decide⟩ ⟨show 0 + 1 + 32 + 1 + 28 ≤ 600000 by decide, show 0 + 6 + 311 + 47 + 644 ≤ 7302250 by decide⟩ rfl (Nat.le_of_ble_eq_true rfl) dL_law_12 rfl (c_X5_init (d := 17) (fun L1 hL1 h33 σ1 hf1 hr1 => ?_))
  subst h33
  refine lg_astore_n hF (lv' := [(2, .ref (L1 33)), (1, .ref (L 24)), (0, .ref b)]) dL_law_15 rfl (by decide) rfl ?_
  refine lg_iconst hF dL_law_16 ci_0 ?_
  refine lg_istore_n hF (lv' := [(3, .int (nI 0)), (2, .ref (L1 33)), (1, .ref (L 24)), (0, .ref b)]) dL_law_17 rfl (by decide) rfl ?_
  refine lg_pick [0, 3, 2, 1] (lv' := [(3, .int (nI 0)), (0, .ref b), (1, .ref (L 24)), (2, .ref (L1 33))]) rfl ?_
  rw [← hL1 24 (by omega)]
  exact lg_widen (k := 100 + 12 * 0) (n := 2000 + 95 * 0) (show 0 + 1 + 32 + 1 + 28 ≤ 100 by decide) (show 0 + 6 + 311 + 47 + 644 ≤ 2000 by decide) (law_loop hF hX hbl hN 320 0 (by omega) (by omega) L1 σ1 X0 _ 0 _ (iv_0 hf1 hr1))
theorem whole_start {p : Program} {e : Env} {s : State} {m : MethodId} {below : List Frame} {meth : Method} {c : Code} (l : Launch) {b L : Nat} {xs : Nat → Int32} (hL : L ≤ 320) (C0 : lw_At p s m meth c b L xs) : W p l e room_1 s m #[Value.ref b] below meth c s.heap [] 0 0 (lw_Z below #[Value.ref b] s) (entryFrame m ([Value.ref b] : List Value).toArray 4) := by
  obtain ⟨q1, q2, q3, q4, q5, q6, q7, q8, q9, q10⟩ := C0
  obtain ⟨D, hB⟩ := law_gB q6
  have hF : CK p s m meth c D b := ⟨q1, q2, q4, q3, q9, rfl, q5, fun w hw => q6 w (tb_all hw).1, hB, fun q h => h⟩
  rw [lg_entry_eq]
  exact law_start hF q7 q8 hL s.heap [] _ (fun k q hk => by cases hk) ⟨fun i j x y hi => (by cases hi), fun k q hk => (by cases hk)⟩ va_S.rf (lv_entry [Value.ref b] (n := 4) (Nat.le_of_ble_eq_true rfl))
