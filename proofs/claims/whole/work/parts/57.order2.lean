/-! findOrder -/
def fO (dp : Nat) (σ σ' : St) : Prop := (∀ q, q < 12 ∨ 23 < q → q ≠ 30 → q ≠ 32 → sA σ' q = sA σ q) ∧ (∀ o, o ≠ 12 → sI σ' o = sI σ o) ∧ sK σ' = sK σ ∧ sM σ' = sM σ ∧ (∀ i, i < dp → sA σ' 30 i = sA σ 30 i) ∧ (∀ i, i < 6 * dp → sA σ' 32 i = sA σ 32 i)
theorem fO_rfl {dp : Nat} {σ : St} : fO dp σ σ := ⟨fun _ _ _ _ => rfl, fun _ _ => rfl, rfl, rfl, fun _ _ => rfl, fun _ _ => rfl⟩
theorem fO_trans {dp dq : Nat} {a b c : St} (h : fO dp a b) (g : fO dq b c) (hd : dp ≤ dq) : fO dp a c := ⟨fun q h1 h2 h3 => (g.1 q h1 h2 h3).trans (h.1 q h1 h2 h3), fun o ho => (g.2.1 o ho).trans (h.2.1 o ho), g.2.2.1.trans h.2.2.1, g.2.2.2.1.trans h.2.2.2.1, fun i hi => (g.2.2.2.2.1 i (by omega)).trans (h.2.2.2.2.1 i hi), fun i hi => (g.2.2.2.2.2 i (by omega)).trans (h.2.2.2.2.2 i hi)⟩
theorem fO_ft {dp : Nat} {a b : St} (h : ft 12 a b) : fO dp a b := ⟨fun q h1 _ _ => h.1 q (by omega), h.2.1, h.2.2.1, h.2.2.2, fun i _ => by rw [h.1 30 (by omega)], fun i _ => by rw [h.1 32 (by omega)]⟩
theorem fO_30 {dp k : Nat} {a : St} (hk : dp ≤ k) (x : Int32) : fO dp a (setA a 30 (upd (sA a 30) k x)) := ⟨fun q _ h2 _ => if_neg h2, fun _ _ => rfl, rfl, rfl, fun i hi => by rw [sA_same, pk_un (by omega)], fun _ _ => rfl⟩
theorem fO_32 {dp : Nat} {a : St} (f : Nat → Int32) : fO dp a (setA a 32 (va_cpy f (sA a 32) 0 (dp * 6) 6)) := ⟨fun q _ _ h3 => if_neg h3, fun _ _ => rfl, rfl, rfl, fun _ _ => rfl, fun i hi => by rw [sA_same, pk_cpy_out (by omega)]⟩
theorem A_12 {a : St} {X : XT} (q : Nat) (hq : 24 ≤ q) (f : Nat → Int32) (hX : rzT a 12 X) : rzT (setA a q f) 12 X := rz_gen (fun j h1 h2 => sA_ne _ _ _ (by omega) _) rfl hX
theorem rz_kn {σ : St} {b : Nat} {X : XT} (h : rzT σ b X) {F : Nat → Int32} {g : Nat → Nat → Bool} (hF : ∀ i, i < 6 → F i = nI (bitsN (g i) 8)) : rzT (setA σ (b + 7) F) b (xs_kn X g) := by
  obtain ⟨⟨h0, h1, h2, h3, h4, h5, a1, a2, a3, a4, a5, a6, a7, a8, a9, a10, a11⟩, kk⟩ := h
  have ef : ∀ i, i < 6 → sA (setA σ (b + 7) F) (b + 7) i = nI (bitsN (g i) 8) := fun i hi => by rw [sA_same]; exact hF i hi
  exact ⟨⟨h0, h1, h2, h3, h4, h5, (fun i hi => (congrFun (sA_ne _ (b + 7) (b + 1) (by omega) _) i).trans (a1 i hi)), (fun i hi => (congrFun (sA_ne _ (b + 7) (b + 2) (by omega) _) i).trans (a2 i hi)), (fun i hi => (congrFun (sA_ne _ (b + 7) (b + 3) (by omega) _) i).trans (a3 i hi)), (fun i hi => (congrFun (sA_ne _ (b + 7) (b + 4) (by omega) _) i).trans (a4 i hi)), (fun i hi => (congrFun (sA_ne _ (b + 7) (b + 5) (by omega) _) i).trans (a5 i hi)), (fun i hi => (congrFun (sA_ne _ (b + 7) (b + 6) (by omega) _) i).trans (a6 i hi)), fun i hi _ => ef i hi, (fun i hi => (congrFun (sA_ne _ (b + 7) (b + 8) (by omega) _) i).trans (a8 i hi)), (fun i hi => (congrFun (sA_ne _ (b + 7) (b + 9) (by omega) _) i).trans (a9 i hi)), (fun i hi => (congrFun (sA_ne _ (b + 7) (b + 10) (by omega) _) i).trans (a10 i hi)), (fun i hi => (congrFun (sA_ne _ (b + 7) (b + 11) (by omega) _) i).trans (a11 i hi))⟩, fun i hi => ef i hi⟩
theorem ar_back {X : XT} {p g : Nat} : xs_kn (xs_pl (arX X p g) (updN (x_pl (arX X p g)) p (x_pl X p))) (x_kn X) = X := by
  refine x_ext (by simp only [arX, x_sz_kn, x_sz_pl]) (by simp only [arX, x_br_kn, x_br_pl]) (by simp only [arX, x_lo_kn, x_lo_pl]) (by simp only [arX, x_hi_kn, x_hi_pl]) (by simp only [arX, x_ld_kn, x_ld_pl]) (by simp only [arX, x_bn_kn, x_bn_pl]) (by simp only [arX, x_th_kn, x_th_pl]) ?_ (by simp only [arX, x_ki_kn, x_ki_pl]) (by simp only [arX, x_kn_kn, x_kn_pl]) (by simp only [arX, x_wt_kn, x_wt_pl]) (by simp only [arX, x_ab_kn, x_ab_pl]) (by simp only [arX, x_pu_kn, x_pu_pl]) (by simp only [arX, x_fa_kn, x_fa_pl]) (by simp only [arX, x_sg_kn, x_sg_pl]) (by simp only [arX, x_sb_kn, x_sb_pl]) (by simp only [arX, x_sv_kn, x_sv_pl])
  rw [x_pl_kn, x_pl_pl, show x_pl (arX X p g) = updN (x_pl X) p g by unfold arX; rw [x_pl_kn, x_pl_pl]]
  funext q
  show (if q = p then x_pl X p else (if q = p then g else x_pl X q)) = x_pl X q
  by_cases c : q = p
  · rw [if_pos c, c]
  · rw [if_neg c, if_neg c]
/-- what findOrder starts from -/
def foH (σ : St) (X : XT) (Gf : Nat → Nat) (f : Nat → Bool) (n dp : Nat) : Prop := rzT σ 12 X ∧ okX X ∧ (∀ p, p < 6 → f p = true → x_th X p = true ∧ sA σ 31 p = nI (Gf p) ∧ Gf p < x_sz X) ∧ cntN f 6 = n ∧ dp + n ≤ 6
theorem any_cnt {f : Nat → Bool} {n : Nat} (h : cntN f n = 0) : anyN f n = false := by
  cases e : anyN f n with
  | false => rfl
  | true =>
    obtain ⟨i, hi, h2⟩ := (anyN_iff f n).mp e
    have := cntN_pos hi h2
    omega
theorem cnt_any {f : Nat → Bool} : ∀ {n : Nat}, anyN f n = false → cntN f n = 0
  | 0, _ => rfl
  | n + 1, h => by
    rw [anyN_s, Bool.or_eq_false_iff] at h
    rw [cntN_s, cnt_any h.1, h.2]; rfl
def foS (Gf : Nat → Nat) (n : Nat) (X : XT) (f : Nat → Bool) (p : Nat) : Option (List Nat) := if (f p && goX X p (Gf p)) = true then (dfsL Gf n (arX X p (Gf p)) (fun i => f i && !(i == p))).map (fun l => p :: l) else none
theorem fo_dfs (Gf : Nat → Nat) (n : Nat) (X : XT) (f : Nat → Bool) : dfsL Gf (n + 1) X f = fsm (foS Gf n X f) 6 := rfl
theorem fsm_stay {α : Type} {h : Nat → Option α} {p : Nat} {x : α} (h0 : fsm h p = none) (h1 : h p = some x) : ∀ c, fsm h (p + 1 + c) = some x
  | 0 => by rw [Nat.add_zero, fsm_s, h0]; exact h1
  | c + 1 => by
    rw [show p + 1 + (c + 1) = (p + 1 + c) + 1 from rfl, fsm_s, fsm_stay h0 h1 c]
set_option maxHeartbeats 4000000 in
set_option maxRecDepth 20000 in
theorem lp_X4_findOrder {l : Launch} {D : gE} {L : Nat → Nat} {σ : St} {Q : Option Value → va_W → Prop} {d : Nat} {n : Nat} {Gf : Nat → Nat} (rec : ∀ {σ : St} {Q : Option Value → va_W → Prop} {X : XT} {f : Nat → Bool} {dp : Nat}, foH σ X Gf f n dp → (∀ l', dfsL Gf n X f = some l' → ∀ σ', fO dp σ σ' → (∀ i v, l'[i]? = some v → sA σ' 30 (dp + i) = nI v) → Q (some (.int (nI 1))) (wsOf D L σ')) → (dfsL Gf n X f = none → ∀ σ', fO dp σ σ' → rzT σ' 12 X → Q (some (.int (nI 0))) (wsOf D L σ')) → Ctr l D yX4_findOrder cX4_findOrder 6 (some .boolean) (rr (d + n + 5)) [.ref (L 29), .ref (L 12), .int (nI (bitsN f 6)), .int (nI dp)] (wsOf D L σ) Q) {X : XT} {f : Nat → Bool} {dp : Nat} (hH : foH σ X Gf f (n + 1) dp) (ht : ∀ l', dfsL Gf (n + 1) X f = some l' → ∀ σ', fO dp σ σ' → (∀ i v, l'[i]? = some v → sA σ' 30 (dp + i) = nI v) → Q (some (.int (nI 1))) (wsOf D L σ')) (hf : dfsL Gf (n + 1) X f = none → ∀ σ', fO dp σ σ' → rzT σ' 12 X → Q (some (.int (nI 0))) (wsOf D L σ')) : ∀ n_ p, p + n_ = 6 → ∀ σ', fO dp σ σ' → rzT σ' 12 X → fsm (foS Gf n X f) p = none → G l D yX4_findOrder cX4_findOrder 6 (some .boolean) (rr (d + (n + 1) + 5)) Q 0 0 23 [(4, .int (nI p)), (0, .ref (L 29)), (1, .ref (L 12)), (2, .int (nI (bitsN f 6))), (3, .int (nI dp))] [] (wsOf D L σ') := by
  intro n_
  induction n_ with
  | zero =>
    intro p hct σ' hO hT hno
    obtain rfl : p = 6 := by omega
    refine g_iload dX4_findOrder_23 0 rfl ?_
    refine g_bipush dX4_findOrder_25 bp_6 ?_
    refine n_icmpge 157 dX4_findOrder_27 (by decide) (by omega) (by omega) (fun h27 => ?_) (fun h27 => absurd h27 (by omega))
    refine g_iconst dX4_findOrder_157 ci_0 ?_
    exact g_zreturn dX4_findOrder_158 (Nat.le_refl _) (Nat.le_refl _) (Or.inl rfl) (hf (by rw [fo_dfs]; exact hno) _ hO hT)
  | succ n_ ih =>
    intro p hct σ' hO hT hno
    have hpp := ok_p hH.2.1 (i := p) (by omega)
    have hdp := hH.2.2.2.2
    have hsz := ok_sz hH.2.1
    refine g_iload dX4_findOrder_23 0 rfl ?_
    refine g_bipush dX4_findOrder_25 bp_6 ?_
    refine n_icmpge 157 dX4_findOrder_27 (by decide) (by omega) (by omega) (fun h27 => absurd h27 (by omega)) (fun h27 => ?_)
    refine g_aload_n dX4_findOrder_30 rfl 2 rfl ?_
    refine s_getT (b := 12) (Or.inr (Or.inl rfl)) kf_X4_97 (by decide) rfl dX4_findOrder_31 ?_
    refine g_iload dX4_findOrder_34 0 rfl ?_
    refine s_ald (q := 17) (n := 6) (at_ia (q := 17) rfl) (by omega) (by decide) dX4_findOrder_36 ?_
    refine g_tope (z := nI (x_pl X p)) (rpT_pl hT.1 (by omega)) ?_
    refine g_istore (lv' := [(5, .int (nI (x_pl X p))), (4, .int (nI p)), (0, .ref (L 29)), (1, .ref (L 12)), (2, .int (nI (bitsN f 6))), (3, .int (nI dp))]) dX4_findOrder_37 (by decide) rfl ?_
    refine g_iload_n dX4_findOrder_39 rfl 4 rfl ?_
    refine g_iload dX4_findOrder_40 1 rfl ?_
    refine g_callS (As := [.int (nI (bitsN f 6)), .int (nI p)]) km_X4_163 ky_X4_has ks_X4_has (by decide) rfl (Nat.le_of_ble_eq_true rfl) dX4_findOrder_42 rfl (c_X4_has (n := 6) (by decide) (by omega) (fun h42 => ?_) (fun h42 => ?_))
    · obtain ⟨hth, hgs, hgz⟩ := hH.2.2.1 p (by omega) h42
      have hgo : sA σ' 31 p = nI (Gf p) := (congrFun (hO.1 31 (by omega) (by decide) (by decide)) p).trans hgs
      refine t_ifeq1 (tgt := 151) dX4_findOrder_45 (by decide) ?_
      refine g_aload_n dX4_findOrder_48 rfl 3 rfl ?_
      refine g_iload dX4_findOrder_49 1 rfl ?_
      refine g_aload_n dX4_findOrder_51 rfl 2 rfl ?_
      refine g_get kf_X4_276 kC_X1 (by decide) 29 at_29 rfl dX4_findOrder_52 ?_
      refine g_iload dX4_findOrder_55 1 rfl ?_
      refine s_ald (q := 31) (n := 6) (at_ia (q := 31) rfl) (by omega) (by decide) dX4_findOrder_57 ?_
      refine g_tope (z := nI (Gf p)) (hgo) ?_
      refine g_callV (As := [.int (nI p), .int (nI (Gf p))]) km_X4_279 ky_X3_hasWay ki_X3_hasWay (by decide) 12 (at_tn (Or.inr (Or.inl rfl))) rfl rfl (Nat.le_of_ble_eq_true rfl) dX4_findOrder_58 rfl (c_X3_hasWay (Or.inr (Or.inl rfl)) hT hH.2.1 (by omega) (by omega) (fun h58 => ?_) (fun h58 => ?_))
      · refine t_ifeq1 (tgt := 151) dX4_findOrder_61 (by decide) ?_
        refine g_aload_n dX4_findOrder_64 rfl 3 rfl ?_
        refine s_getT (b := 12) (Or.inr (Or.inl rfl)) kf_X4_103 (by decide) rfl dX4_findOrder_65 ?_
        refine g_iconst dX4_findOrder_68 ci_0 ?_
        refine g_aload_n dX4_findOrder_69 rfl 2 rfl ?_
        refine g_get kf_X4_282 kC_X1 (by decide) 29 at_29 rfl dX4_findOrder_70 ?_
        refine g_iload_n dX4_findOrder_73 rfl 5 rfl ?_
        refine g_bipush dX4_findOrder_74 bp_6 ?_
        refine g_imul dX4_findOrder_76 ?_
        refine g_tope (z := nI (dp * 6)) (pk_mul _ _) ?_
        refine g_bipush dX4_findOrder_77 bp_6 ?_
        refine g_arraycopy kmac_X4_285 19 32 (at_ia (q := 19) rfl) (at_ia (q := 32) rfl) (by decide +kernel) (nI_pos (by omega)) (by decide +kernel) (by decide +kernel) (by rw [nI_clamp (by omega)]; show dp * 6 + 6 ≤ 36; omega) (by show 1 ≤ d + (n + 1) + 5; omega) (by have := nfw; show 0 + (nativeFrameWords "java/lang/System" "arraycopy" 5 + 11) ≤ 48 * (d + (n + 1) + 5); omega) dX4_findOrder_79 (ws' := wsOf D L (setA σ' 32 (va_cpy (sA σ' 19) (sA σ' 32) 0 (dp * 6) 6))) (by rw [nI_clamp (show dp * 6 < 2 ^ 31 by omega)]; exact ws_setA (at_ia (q := 32) rfl) _) ?_
        have hT1 := A_12 32 (by decide) (va_cpy (sA σ' 19) (sA σ' 32) 0 (dp * 6) 6) hT
        have hO1 := fO_trans hO (fO_32 (dp := dp) (a := σ') (sA σ' 19)) (Nat.le_refl dp)
        have hsv : ∀ i, i < 6 → sA (setA σ' 32 (va_cpy (sA σ' 19) (sA σ' 32) 0 (dp * 6) 6)) 32 (dp * 6 + i) = nI (bitsN (x_kn X i) 8) := fun i hi => by rw [sA_same, pk_cpy_in (by omega) (by omega), show 0 + (dp * 6 + i - dp * 6) = i by omega]; exact rzT_kn hT hi
        generalize setA σ' 32 (va_cpy (sA σ' 19) (sA σ' 32) 0 (dp * 6) 6) = σ1 at hT1 hO1 hsv ⊢
        refine g_aload_n dX4_findOrder_82 rfl 2 rfl ?_
        refine g_get kf_X4_213 kC_X1 (by decide) 29 at_29 rfl dX4_findOrder_83 ?_
        refine g_iload_n dX4_findOrder_86 rfl 5 rfl ?_
        refine g_iload dX4_findOrder_87 1 rfl ?_
        refine s_ast (q := 30) (n := 6) (at_ia (q := 30) rfl) (by omega) (by decide) dX4_findOrder_89 ?_
        have hT2 := A_12 30 (by decide) (upd (sA σ1 30) dp (nI p)) hT1
        have hO2 := fO_trans hO1 (fO_30 (dp := dp) (a := σ1) (Nat.le_refl dp) (nI p)) (Nat.le_refl dp)
        have hsv2 : ∀ i, i < 6 → sA (setA σ1 30 (upd (sA σ1 30) dp (nI p))) 32 (dp * 6 + i) = _ := hsv
        have hod : sA (setA σ1 30 (upd (sA σ1 30) dp (nI p))) 30 dp = nI p := by rw [sA_same]; exact pk_us
        have hgo2 : sA (setA σ1 30 (upd (sA σ1 30) dp (nI p))) 31 p = nI (Gf p) := (congrFun (hO2.1 31 (by omega) (by decide) (by decide)) p).trans hgs
        generalize setA σ1 30 (upd (sA σ1 30) dp (nI p)) = σ2 at hT2 hO2 hsv2 hod hgo2 ⊢
        refine g_aload_n dX4_findOrder_90 rfl 3 rfl ?_
        refine g_iload dX4_findOrder_91 1 rfl ?_
        refine g_aload_n dX4_findOrder_93 rfl 2 rfl ?_
        refine g_get kf_X4_276 kC_X1 (by decide) 29 at_29 rfl dX4_findOrder_94 ?_
        refine g_iload dX4_findOrder_97 1 rfl ?_
        refine s_ald (q := 31) (n := 6) (at_ia (q := 31) rfl) (by omega) (by decide) dX4_findOrder_99 ?_
        refine g_tope (z := nI (Gf p)) (hgo2) ?_
        refine g_callV (As := [.int (nI p), .int (nI (Gf p))]) km_X4_291 ky_X3_arrive ki_X3_arrive (by decide) 12 (at_tn (Or.inr (Or.inl rfl))) rfl rfl (Nat.le_of_ble_eq_true rfl) dX4_findOrder_100 rfl (c_X3_arrive (Or.inr (Or.inl rfl)) hT2 hH.2.1 (by omega) hgz (fun σ3 hf3 hT3 => ?_))
        have hO3 := fO_trans hO2 (fO_ft (dp := dp + 1) hf3) (by omega)
        have hsv3 : ∀ i, i < 6 → sA σ3 32 (dp * 6 + i) = _ := fun i hi => (congrFun (hf3.1 32 (by omega)) _).trans (hsv2 i hi)
        have hod3 : sA σ3 30 dp = nI p := (congrFun (hf3.1 30 (by omega)) _).trans hod
        refine g_aload_n dX4_findOrder_103 rfl 2 rfl ?_
        refine g_aload_n dX4_findOrder_104 rfl 3 rfl ?_
        refine g_iload_n dX4_findOrder_105 rfl 4 rfl ?_
        refine g_iconst dX4_findOrder_106 ci_1 ?_
        refine g_iload dX4_findOrder_107 1 rfl ?_
        refine g_ishl dX4_findOrder_109 ?_
        refine g_iconst dX4_findOrder_110 ci_m1 ?_
        refine g_ixor dX4_findOrder_111 ?_
        refine g_iand dX4_findOrder_112 ?_
        refine g_tope (z := nI (bitsN (fun i => f i && !(i == p)) 6)) (nbB _ (by decide) (by omega)) ?_
        refine g_iload_n dX4_findOrder_113 rfl 5 rfl ?_
        refine g_iconst dX4_findOrder_114 ci_1 ?_
        refine g_iadd dX4_findOrder_115 ?_
        refine g_tope (z := nI (dp + 1)) (nI_add _ _) ?_
        have hFH : foH σ3 (arX X p (Gf p)) Gf (fun i => f i && !(i == p)) n (dp + 1) := by
          refine ⟨hT3, ok_ar hH.2.1 (by omega) hth hgz, fun q hq hfq => ?_, ?_, by have := hH.2.2.2.2; omega⟩
          · rw [Bool.and_eq_true] at hfq
            obtain ⟨g1, g2, g3⟩ := hH.2.2.1 q hq hfq.1
            refine ⟨by rw [(sme_ar X p (Gf p)).2.2.2.2.2.1]; exact g1, (congrFun (hO3.1 31 (by omega) (by decide) (by decide)) q).trans g2, by rw [(sme_ar X p (Gf p)).1]; exact g3⟩
          · have h9 := cnt_remove (f := f) h42 (n := 6) (by omega)
            have h8 : cntN (fun i => f i && !(i == p)) 6 = cntN (fun i => f i && !(p == i)) 6 := cntN_cong (fun i _ => by rw [BEq.comm])
            rw [h8]
            have := hH.2.2.2.1
            omega
        refine g_callS (d := d + n + 5) (As := [.ref (L 29), .ref (L 12), .int (nI (bitsN (fun i => f i && !(i == p)) 6)), .int (nI (dp + 1))]) km_X4_209 ky_X4_findOrder ks_X4_findOrder (by decide) rfl (Nat.le_of_ble_eq_true rfl) dX4_findOrder_116 rfl (rec hFH (fun l1 e1 σ5 hO5 hr5 => ?_) (fun e1 σ5 hO5 hT5 => ?_))
        · refine t_ifeq1 (tgt := 124) dX4_findOrder_119 (by decide) ?_
          refine g_iconst dX4_findOrder_122 ci_1 ?_
          exact g_zreturn dX4_findOrder_123 (Nat.le_refl _) (Nat.le_refl _) (Or.inr rfl) (ht (p :: l1) (by rw [fo_dfs, ← hct]; have h9 := fsm_stay (h := foS Gf n X f) hno (show foS Gf n X f p = some (p :: l1) by unfold foS; rw [if_pos (by rw [h42, show goX X p (Gf p) = true from h58]; rfl), e1]; rfl) n_; rw [show p + 1 + n_ = p + (n_ + 1) by omega] at h9; exact h9) _ (fO_trans hO3 hO5 (by omega)) (fun i v hv => by cases i with | zero => (have e9 : p = v := Option.some.inj hv; rw [← e9, Nat.add_zero]; exact (hO5.2.2.2.2.1 dp (by omega)).trans hod3) | succ i => (have h9 := hr5 i v hv; rw [show dp + (i + 1) = dp + 1 + i by omega]; exact h9)))
        · have hsv5 : ∀ i, i < 6 → sA σ5 32 (dp * 6 + i) = _ := fun i hi => (hO5.2.2.2.2.2 _ (by omega)).trans (hsv3 i hi)
          have hO5 := fO_trans hO3 hO5 (by omega)
          refine t_ifeq0 124 dX4_findOrder_119 (by decide) ?_
          refine g_aload_n dX4_findOrder_124 rfl 3 rfl ?_
          refine s_getT (b := 12) (Or.inr (Or.inl rfl)) kf_X4_97 (by decide) rfl dX4_findOrder_125 ?_
          refine g_iload dX4_findOrder_128 1 rfl ?_
          refine g_iload dX4_findOrder_130 0 rfl ?_
          refine s_ast (q := 17) (n := 6) (at_ia (q := 17) rfl) (by omega) (by decide) dX4_findOrder_132 ?_
          have hT6 : rzT (setA σ5 17 (upd (sA σ5 17) p (nI (x_pl X p)))) 12 _ := rz_spl (b := 12) hT5 p (x_pl X p)
          have hO6 : fO dp σ (setA σ5 17 (upd (sA σ5 17) p (nI (x_pl X p)))) := fO_trans hO5 (fO_ft (dp := dp) (ft_A (b := 12) (x := σ5) (y := σ5) ft_rfl 5 (by decide) (upd (sA σ5 17) p (nI (x_pl X p))))) (Nat.le_refl dp)
          have hsv6 : ∀ i, i < 6 → sA (setA σ5 17 (upd (sA σ5 17) p (nI (x_pl X p)))) 32 (dp * 6 + i) = _ := hsv5
          generalize setA σ5 17 (upd (sA σ5 17) p (nI (x_pl X p))) = σ6 at hT6 hO6 hsv6 ⊢
          refine g_aload_n dX4_findOrder_133 rfl 2 rfl ?_
          refine g_get kf_X4_282 kC_X1 (by decide) 29 at_29 rfl dX4_findOrder_134 ?_
          refine g_iload_n dX4_findOrder_137 rfl 5 rfl ?_
          refine g_bipush dX4_findOrder_138 bp_6 ?_
          refine g_imul dX4_findOrder_140 ?_
          refine g_tope (z := nI (dp * 6)) (pk_mul _ _) ?_
          refine g_aload_n dX4_findOrder_141 rfl 3 rfl ?_
          refine s_getT (b := 12) (Or.inr (Or.inl rfl)) kf_X4_103 (by decide) rfl dX4_findOrder_142 ?_
          refine g_iconst dX4_findOrder_145 ci_0 ?_
          refine g_bipush dX4_findOrder_146 bp_6 ?_
          refine g_arraycopy kmac_X4_285 32 19 (at_ia (q := 32) rfl) (at_ia (q := 19) rfl) (nI_pos (by omega)) (by decide +kernel) (by decide +kernel) (by rw [nI_clamp (by omega)]; show dp * 6 + 6 ≤ 36; omega) (by decide +kernel) (by show 1 ≤ d + (n + 1) + 5; omega) (by have := nfw; show 0 + (nativeFrameWords "java/lang/System" "arraycopy" 5 + 11) ≤ 48 * (d + (n + 1) + 5); omega) dX4_findOrder_148 (ws' := wsOf D L (setA σ6 19 (va_cpy (sA σ6 32) (sA σ6 19) (dp * 6) 0 6))) (by rw [nI_clamp (show dp * 6 < 2 ^ 31 by omega)]; exact ws_setA (at_ia (q := 19) rfl) _) ?_
          have hT7 : rzT (setA σ6 19 (va_cpy (sA σ6 32) (sA σ6 19) (dp * 6) 0 6)) 12 X := by have h9 := rz_kn (b := 12) (F := va_cpy (sA σ6 32) (sA σ6 19) (dp * 6) 0 6) (g := x_kn X) hT6 (fun i hi => by rw [pk_cpy_in (Nat.zero_le i) (by omega), Nat.sub_zero]; exact hsv6 i hi); rw [ar_back] at h9; exact h9
          have hO7 : fO dp σ (setA σ6 19 (va_cpy (sA σ6 32) (sA σ6 19) (dp * 6) 0 6)) := fO_trans hO6 (fO_ft (dp := dp) (ft_A (b := 12) (x := σ6) (y := σ6) ft_rfl 7 (by decide) (va_cpy (sA σ6 32) (sA σ6 19) (dp * 6) 0 6))) (Nat.le_refl dp)
          generalize setA σ6 19 (va_cpy (sA σ6 32) (sA σ6 19) (dp * 6) 0 6) = σ7 at hT7 hO7 ⊢
          refine g_iinc (v := nI (p + 1)) (lv' := [(4, .int (nI (p + 1))), (5, .int (nI (x_pl X p))), (0, .ref (L 29)), (1, .ref (L 12)), (2, .int (nI (bitsN f 6))), (3, .int (nI dp))]) dX4_findOrder_151 1 rfl (inc_n _) (by decide) rfl ?_
          refine g_goto 23 dX4_findOrder_154 (by decide) ?_
          refine g_pick [0, 2, 3, 4, 5] (lv' := [(4, .int (nI (p + 1))), (0, .ref (L 29)), (1, .ref (L 12)), (2, .int (nI (bitsN f 6))), (3, .int (nI dp))]) rfl ?_
          exact ih (p + 1) (by omega) _ hO7 hT7 (by rw [fsm_s, hno]; exact (show foS Gf n X f p = none by unfold foS; rw [if_pos (by rw [h42, show goX X p (Gf p) = true from h58]; rfl), e1]; rfl))
      · refine t_ifeq0 151 dX4_findOrder_61 (by decide) ?_
        refine g_iinc (v := nI (p + 1)) (lv' := [(4, .int (nI (p + 1))), (5, .int (nI (x_pl X p))), (0, .ref (L 29)), (1, .ref (L 12)), (2, .int (nI (bitsN f 6))), (3, .int (nI dp))]) dX4_findOrder_151 1 rfl (inc_n _) (by decide) rfl ?_
        refine g_goto 23 dX4_findOrder_154 (by decide) ?_
        refine g_pick [0, 2, 3, 4, 5] (lv' := [(4, .int (nI (p + 1))), (0, .ref (L 29)), (1, .ref (L 12)), (2, .int (nI (bitsN f 6))), (3, .int (nI dp))]) rfl ?_
        exact ih (p + 1) (by omega) _ hO hT (by rw [fsm_s, hno]; exact (show foS Gf n X f p = none by unfold foS; rw [h42, show goX X p (Gf p) = false from h58]; rfl))
    · refine t_ifeq0 151 dX4_findOrder_45 (by decide) ?_
      refine g_iinc (v := nI (p + 1)) (lv' := [(4, .int (nI (p + 1))), (5, .int (nI (x_pl X p))), (0, .ref (L 29)), (1, .ref (L 12)), (2, .int (nI (bitsN f 6))), (3, .int (nI dp))]) dX4_findOrder_151 1 rfl (inc_n _) (by decide) rfl ?_
      refine g_goto 23 dX4_findOrder_154 (by decide) ?_
      refine g_pick [0, 2, 3, 4, 5] (lv' := [(4, .int (nI (p + 1))), (0, .ref (L 29)), (1, .ref (L 12)), (2, .int (nI (bitsN f 6))), (3, .int (nI dp))]) rfl ?_
      exact ih (p + 1) (by omega) _ hO hT (by rw [fsm_s, hno]; exact (show foS Gf n X f p = none by unfold foS; rw [h42]; rfl))
set_option maxHeartbeats 4000000 in
set_option maxRecDepth 20000 in
theorem c_X4_findOrder {l : Launch} {D : gE} {L : Nat → Nat} {d : Nat} {Gf : Nat → Nat} : ∀ (n : Nat) {σ : St} {Q : Option Value → va_W → Prop} {X : XT} {f : Nat → Bool} {dp : Nat} (hH : foH σ X Gf f n dp) (ht : ∀ l', dfsL Gf (n) X f = some l' → ∀ σ', fO dp σ σ' → (∀ i v, l'[i]? = some v → sA σ' 30 (dp + i) = nI v) → Q (some (.int (nI 1))) (wsOf D L σ')) (hf : dfsL Gf (n) X f = none → ∀ σ', fO dp σ σ' → rzT σ' 12 X → Q (some (.int (nI 0))) (wsOf D L σ')), Ctr l D yX4_findOrder cX4_findOrder 6 (some .boolean) (rr (d + n + 5)) [.ref (L 29), .ref (L 12), .int (nI (bitsN f 6)), .int (nI dp)] (wsOf D L σ) Q := by
  intro n
  induction n with
  | zero =>
    intro σ Q X f dp hH ht hf
    refine g_start ky_X4_findOrder (Nat.le_of_ble_eq_true rfl) ?_
    refine g_pick [0, 1, 2, 3] (lv' := [(0, .ref (L 29)), (1, .ref (L 12)), (2, .int (nI (bitsN f 6))), (3, .int (nI dp))]) rfl ?_
    refine g_iload_n dX4_findOrder_0 rfl 2 rfl ?_
    refine g_ifeq 10 dX4_findOrder_1 (by decide) (fun h1 => ?_) (fun h1 => absurd h1 (fun q => q ((bits0 (by decide)).mpr (any_cnt hH.2.2.2.1))))
    refine g_iload_n dX4_findOrder_10 rfl 2 rfl ?_
    refine g_ifne 18 dX4_findOrder_11 (by decide) (fun h11 => absurd h11 (fun q => q ((bits0 (by decide)).mpr (any_cnt hH.2.2.2.1)))) (fun h11 => ?_)
    refine g_iconst dX4_findOrder_14 ci_1 ?_
    refine g_goto 19 dX4_findOrder_15 (by decide) ?_
    exact g_zreturn dX4_findOrder_19 (Nat.le_refl _) (Nat.le_refl _) (Or.inr rfl) (ht [] rfl σ fO_rfl (fun i v hv => by cases hv))
  | succ n ih =>
    intro σ Q X f dp hH ht hf
    have hdp := hH.2.2.2.2
    refine g_start ky_X4_findOrder (Nat.le_of_ble_eq_true rfl) ?_
    refine g_pick [0, 1, 2, 3] (lv' := [(0, .ref (L 29)), (1, .ref (L 12)), (2, .int (nI (bitsN f 6))), (3, .int (nI dp))]) rfl ?_
    refine g_iload_n dX4_findOrder_0 rfl 2 rfl ?_
    refine g_ifeq 10 dX4_findOrder_1 (by decide) (fun h1 => absurd h1 (fun q => by have h9 := cnt_any ((bits0 (by decide)).mp q); have := hH.2.2.2.1; omega)) (fun h1 => ?_)
    refine g_iload_n dX4_findOrder_4 rfl 3 rfl ?_
    refine g_bipush dX4_findOrder_5 bp_6 ?_
    refine n_icmplt 20 dX4_findOrder_7 (by decide) (by omega) (by omega) (fun h7 => ?_) (fun h7 => absurd h7 (by omega))
    refine g_iconst dX4_findOrder_20 ci_0 ?_
    refine g_istore (lv' := [(4, .int (nI 0)), (0, .ref (L 29)), (1, .ref (L 12)), (2, .int (nI (bitsN f 6))), (3, .int (nI dp))]) dX4_findOrder_21 (by decide) rfl ?_
    refine g_pick [0, 1, 2, 3, 4] (lv' := [(4, .int (nI 0)), (0, .ref (L 29)), (1, .ref (L 12)), (2, .int (nI (bitsN f 6))), (3, .int (nI dp))]) rfl ?_
    exact lp_X4_findOrder (n := n) ih hH ht hf 6 0 rfl σ fO_rfl hH.1 rfl
theorem c_X4_findOrderR {l : Launch} {D : gE} {L : Nat → Nat} {d : Nat} {Gf : Nat → Nat} {n : Nat} (hn : n ≤ 6) {σ : St} {Q : Option Value → va_W → Prop} {X : XT} {f : Nat → Bool} {dp : Nat} (hH : foH σ X Gf f n dp) (ht : ∀ l', dfsL Gf (n) X f = some l' → ∀ σ', fO dp σ σ' → (∀ i v, l'[i]? = some v → sA σ' 30 (dp + i) = nI v) → Q (some (.int (nI 1))) (wsOf D L σ')) (hf : dfsL Gf (n) X f = none → ∀ σ', fO dp σ σ' → rzT σ' 12 X → Q (some (.int (nI 0))) (wsOf D L σ')) : Ctr l D yX4_findOrder cX4_findOrder 6 (some .boolean) (rr (d + 12)) [.ref (L 29), .ref (L 12), .int (nI (bitsN f 6)), .int (nI dp)] (wsOf D L σ) Q := by
  have h9 := c_X4_findOrder (l := l) (D := D) (L := L) (d := d + (7 - n)) (Gf := Gf) n (Q := Q) hH ht hf
  rw [show d + (7 - n) + n + 5 = d + 12 by omega] at h9
  exact h9
theorem nI_bv (x : Int32) : x = nI x.toBitVec.toNat := by
  apply Int32.toBitVec_inj.mp
  show x.toBitVec = BitVec.ofNat 32 x.toBitVec.toNat
  exact (BitVec.ofNat_toNat _ _).symm ▸ (by simp)
theorem sub_nat {x : Int32} {f : Nat → Bool} (h : x &&& (nI (bitsN f 6) ^^^ (-1)) = 0) : ∃ a, a < 64 ∧ x = nI a ∧ subB f a = true := by
  have e1 : x = x &&& nI (bitsN f 6) := b_ext (fun i hi => by
    have h1 : bt (x &&& (nI (bitsN f 6) ^^^ (-1))) i = bt 0 i := congrArg (fun y => bt y i) h
    rw [b_and, b_xor, b_m1 i hi, show bt 0 i = false from by unfold bt; simp] at h1
    rw [b_and]
    cases p : bt x i <;> cases q : bt (nI (bitsN f 6)) i <;> simp_all)
  have hb := bitsN_lt f 6
  have e2 : x.toBitVec.toNat = x.toBitVec.toNat &&& bitsN f 6 := by
    have h2 : x.toBitVec.toNat = (x &&& nI (bitsN f 6)).toBitVec.toNat := congrArg (fun y => y.toBitVec.toNat) e1
    rw [Int32.toBitVec_and, BitVec.toNat_and, pk_tn (show bitsN f 6 < 2 ^ 32 by omega)] at h2
    exact h2
  have e3 : x.toBitVec.toNat < 64 := by
    have : x.toBitVec.toNat &&& bitsN f 6 ≤ bitsN f 6 := Nat.and_le_right
    omega
  refine ⟨x.toBitVec.toNat, e3, nI_bv x, ?_⟩
  refine sub6 e3 ((sbB f (by decide) (show x.toBitVec.toNat < 2 ^ 6 from e3)).mp ?_)
  rw [← nI_bv x]; exact h
theorem cnt_sub6 {f : Nat → Bool} {a : Nat} (h : subB f a = true) {p : Nat} (hp : p < 6) (ht : a.testBit p = true) : f p = true := subB_iff.mp h p (by omega) ht
theorem fc_fO {a b : St} (h : fO 0 a b) : fc a b := ⟨fun q h1 h2 => h.1 q (by omega) (by omega) (by omega), fun o h1 h2 => h.2.1 o (by omega), h.2.2.1, h.2.2.2.1⟩
theorem fO_0 {a b : St} {X : XT} (h : fO 0 a b) (hX : rzT a 0 X) : rzT b 0 X := rz_gen (fun j h1 h2 => h.1 (0 + j) (by omega) (by omega) (by omega)) (h.2.1 0 (by decide)) hX
theorem fc_31 {a b : St} (h : fA 31 a b) : fc a b := ⟨fun q h1 h2 => h.1 q (by omega), fun o h1 h2 => by rw [h.2.1], h.2.2.1, h.2.2.2⟩
theorem z_31 {a b : St} {X : XT} (h : fA 31 a b) (hX : rzT a 0 X) : rzT b 0 X := rz_gen (fun j h1 h2 => h.1 (0 + j) (by omega)) (by rw [h.2.1]) hX
set_option maxHeartbeats 4000000 in
set_option maxRecDepth 20000 in
theorem c_X4_errands {l : Launch} {D : gE} {L : Nat → Nat} {σ : St} {Q : Option Value → va_W → Prop} {d : Nat} {X : XT} (hX : rzT σ 0 X) (ho : okX X) {x y i : Int32} (h : ∀ σ', fc σ σ' → rzT σ' 0 X → Q (some (.int (errandsR X x y i))) (wsOf D L σ')) : Ctr l D yX4_errands cX4_errands 4 (some .int) (rr (d + 13)) [.ref (L 24), .int x, .int y, .int i] (wsOf D L σ) Q := by
  refine g_start ky_X4_errands (Nat.le_of_ble_eq_true rfl) ?_
  refine g_pick [0, 1, 2, 3] (lv' := [(0, .ref (L 24)), (1, .int x), (2, .int y), (3, .int i)]) rfl ?_
  refine g_iload_n dX4_errands_0 rfl 1 rfl ?_
  refine g_aload_n dX4_errands_1 rfl 0 rfl ?_
  refine g_get kf_X4_10 kC_X4 (by decide) 24 at_24 rfl dX4_errands_2 ?_
  refine s_getT (b := 0) (Or.inl rfl) kf_X4_94 (by decide) rfl dX4_errands_5 ?_
  refine g_tope (z := nI (bitsN (x_th X) 6)) (rpT_th hX.1) ?_
  refine g_iconst dX4_errands_8 ci_m1 ?_
  refine g_ixor dX4_errands_9 ?_
  refine g_iand dX4_errands_10 ?_
  refine g_ifne 33 dX4_errands_11 (by decide) (fun h11 => ?_) (fun h11 => ?_)
  · refine g_bipush dX4_errands_33 bp_m2 ?_
    exact g_ireturn dX4_errands_35 (Nat.le_refl _) (Nat.le_refl _) (qi (by unfold errandsR; cases c : (inN 0 63 x && subB (x_th X) (ix 64 x)) with | false => rfl | true => (rw [Bool.and_eq_true] at c; obtain ⟨a, _, ha, rfl⟩ := inN_ex c.1; rw [ix_nI (by omega) (by omega)] at c; exact absurd ((sbB (x_th X) (by decide) (show a < 2 ^ 6 by omega)).mpr (fun i hi => subB_iff.mp c.2 i (by omega))) h11)) (h _ fc_rfl hX))
  · obtain ⟨a, ha, rfl, hsb⟩ := sub_nat h11
    have hec := ec_le a
    refine g_aload_n dX4_errands_14 rfl 0 rfl ?_
    refine g_get kf_X4_40 kC_X4 (by decide) 24 at_24 rfl dX4_errands_15 ?_
    refine g_iload_n dX4_errands_18 rfl 1 rfl ?_
    refine g_iload_n dX4_errands_19 rfl 2 rfl ?_
    refine g_aload_n dX4_errands_20 rfl 0 rfl ?_
    refine g_get kf_X4_10 kC_X4 (by decide) 24 at_24 rfl dX4_errands_21 ?_
    refine s_getT (b := 0) (Or.inl rfl) kf_X4_48 (by decide) rfl dX4_errands_24 ?_
    refine g_tope (z := nI (x_sz X)) (rpT_sz hX.1) ?_
    refine g_callV (As := [.int (nI a), .int y, .int (nI (x_sz X))]) km_X4_206 ky_X1_readGoals ki_X1_readGoals (by decide) 29 at_29 rfl rfl (Nat.le_of_ble_eq_true rfl) dX4_errands_27 rfl (c_X1_readGoals (sz := x_sz X) ha (ok_sz ho).2 (fun g hg hy hgb σ2 hf2 hr2 => ?_) (fun h27 σ2 hf2 => ?_))
    · subst hy
      have hX2 := z_31 hf2 hX
      refine t_ifne1 36 dX4_errands_30 (by decide) ?_
      refine g_iload_n dX4_errands_36 rfl 3 rfl ?_
      refine g_iconst dX4_errands_37 ci_0 ?_
      refine g_iload_n dX4_errands_38 rfl 1 rfl ?_
      refine g_callS (As := [.int (nI a)]) km_X4_85 ky_J6_bitCount_0f7a4 ks_J6_bitCount_0f7a4 (by decide) rfl (Nat.le_of_ble_eq_true rfl) dX4_errands_39 rfl (c_bitCount (by omega) ?_)
      refine g_tope (z := nI (ecN a)) (by rw [pop_ec ha]) ?_
      refine g_iconst dX4_errands_42 ci_1 ?_
      refine g_isub dX4_errands_43 ?_
      refine g_tope (z := nI (ecN a) - nI 1) (rfl) ?_
      refine g_callS (As := [.int i, .int (nI 0), .int (nI (ecN a) - nI 1)]) km_X4_44 ky_X4_within ks_X4_within (by decide) rfl (Nat.le_of_ble_eq_true rfl) dX4_errands_44 rfl (c_X4_withinS (by omega) (fun p44 hp44 he44 => ?_) (fun h44 => ?_))
      · subst he44
        refine t_ifne1 53 dX4_errands_47 (by decide) ?_
        refine g_aload_n dX4_errands_53 rfl 0 rfl ?_
        refine g_get kf_X4_16 kC_X4 (by decide) 24 at_24 rfl dX4_errands_54 ?_
        refine g_aload_n dX4_errands_57 rfl 0 rfl ?_
        refine g_get kf_X4_10 kC_X4 (by decide) 24 at_24 rfl dX4_errands_58 ?_
        refine g_callV (As := [.ref (L 0)]) km_X4_159 ky_X3_copy ki_X3_copy (by decide) 12 (at_tn (Or.inr (Or.inl rfl))) rfl rfl (Nat.le_of_ble_eq_true rfl) dX4_errands_61 rfl (c_X3_copy (Or.inr (Or.inl rfl)) (Or.inl rfl) (by omega) hX2 (fun σ3 hf3 hT3 => ?_))
        have hfo := fO_trans (dp := 0) (dq := 0) (a := σ2) fO_rfl (fO_ft hf3) (Nat.le_refl 0)
        refine g_aload_n dX4_errands_64 rfl 0 rfl ?_
        refine g_get kf_X4_40 kC_X4 (by decide) 24 at_24 rfl dX4_errands_65 ?_
        refine g_aload_n dX4_errands_68 rfl 0 rfl ?_
        refine g_get kf_X4_16 kC_X4 (by decide) 24 at_24 rfl dX4_errands_69 ?_
        refine g_iload_n dX4_errands_72 rfl 1 rfl ?_
        refine g_iconst dX4_errands_73 ci_0 ?_
        have hFH : foH σ3 X (glP a g) a.testBit (ecN a) 0 := by
          refine ⟨hT3, ho, fun p hp hfp => ⟨cnt_sub6 hsb hp hfp, (congrFun (hf3.1 31 (by omega)) p).trans (hr2 p (Nat.zero_le p) hp hfp), ?_⟩, rfl, by omega⟩
          have hcl : cntN a.testBit p < ecN a := cnt_in hp hfp
          apply Classical.byContradiction
          intro c
          rw [glB_bad hcl c] at hgb; cases hgb
        rw [show nI a = nI (bitsN a.testBit 6) by rw [bitsN_of (show a < 2 ^ 6 from ha)]]
        refine g_callS (d := d + 12) (As := [.ref (L 29), .ref (L 12), .int (nI (bitsN a.testBit 6)), .int (nI 0)]) km_X4_209 ky_X4_findOrder ks_X4_findOrder (by decide) rfl (Nat.le_of_ble_eq_true rfl) dX4_errands_74 rfl (c_X4_findOrderR (by omega) hFH (fun l1 e1 σ4 hf4 hr4 => ?_) (fun e1 σ4 hf4 hT4 => ?_))
        · refine t_ifeq1 (tgt := 92) dX4_errands_77 (by decide) ?_
          refine g_aload_n dX4_errands_80 rfl 0 rfl ?_
          refine g_get kf_X4_40 kC_X4 (by decide) 24 at_24 rfl dX4_errands_81 ?_
          refine g_get kf_X4_213 kC_X1 (by decide) 29 at_29 rfl dX4_errands_84 ?_
          refine g_iload_n dX4_errands_87 rfl 3 rfl ?_
          refine s_ald (q := 30) (n := 6) (at_ia (q := 30) rfl) (by omega) (by decide) dX4_errands_88 ?_
          refine g_tope (z := nI (nthS a (rwN (ecN a) (erF X a g) p44))) ((congrArg (sA σ4 30) (Nat.zero_add p44).symm).trans (hr4 p44 _ (((dfs_main (X := X) (a := a) (g := g)).2 l1 e1).2.2 p44 hp44))) ?_
          refine g_goto 94 dX4_errands_89 (by decide) ?_
          exact g_ireturn dX4_errands_94 (Nat.le_refl _) (Nat.le_refl _) (qi (by have h10 := ten_le (ec_le a); unfold errandsR; rw [inN_t (a := 0) (b := 63) (by omega) (by omega) (by omega), ix_nI (by omega) (by omega), hsb, show glI X a (nI g) = true by unfold glI; rw [ix_nI hg (by omega), decide_eq_true hg, hgb]; rfl, if_pos (by rfl), ix_nI hg (by omega)]; unfold erN; rw [if_pos ((dfs_main (X := X) (a := a) (g := g)).2 l1 e1).2.1, ix_nI hp44 (by omega), if_pos hp44]) (h _ (fc_trans (fc_31 hf2) (fc_trans (fc_ft hf3 (by decide)) (fc_fO hf4))) (fO_0 hf4 (ft_0 hf3 hX2))))
        · refine t_ifeq0 92 dX4_errands_77 (by decide) ?_
          refine g_bipush dX4_errands_92 bp_m6 ?_
          exact g_ireturn dX4_errands_94 (Nat.le_refl _) (Nat.le_refl _) (qi (by have h10 := ten_le (ec_le a); unfold errandsR; rw [inN_t (a := 0) (b := 63) (by omega) (by omega) (by omega), ix_nI (by omega) (by omega), hsb, show glI X a (nI g) = true by unfold glI; rw [ix_nI hg (by omega), decide_eq_true hg, hgb]; rfl, if_pos (by rfl), ix_nI hg (by omega)]; unfold erN; rw [if_neg ((dfs_main (X := X) (a := a) (g := g)).1 e1)]) (h _ (fc_trans (fc_31 hf2) (fc_trans (fc_ft hf3 (by decide)) (fc_fO hf4))) (fO_0 hf4 (ft_0 hf3 hX2))))
      · refine t_ifne0 (tgt := 53) dX4_errands_47 (by decide) ?_
        refine g_bipush dX4_errands_50 bp_m6 ?_
        exact g_ireturn dX4_errands_52 (Nat.le_refl _) (Nat.le_refl _) (qi (by have h10 := ten_le (ec_le a); unfold errandsR; rw [inN_t (a := 0) (b := 63) (by omega) (by omega) (by omega), ix_nI (by omega) (by omega), hsb, show glI X a (nI g) = true by unfold glI; rw [ix_nI hg (by omega), decide_eq_true hg, hgb]; rfl, if_pos (by rfl), ix_nI hg (by omega)]; unfold erN; rw [if_neg (ix_no h44)]; split <;> rfl) (h _ (fc_31 hf2) hX2))
    · refine t_ifne0 (tgt := 36) dX4_errands_30 (by decide) ?_
      refine g_bipush dX4_errands_33 bp_m2 ?_
      exact g_ireturn dX4_errands_35 (Nat.le_refl _) (Nat.le_refl _) (qi (by unfold errandsR; rw [inN_t (a := 0) (b := 63) (by omega) (by omega) (by omega), ix_nI (by omega) (by omega), hsb, show glI X a y = false from h27, Bool.and_false, if_neg (by decide)]) (h _ (fc_31 hf2) (z_31 hf2 hX)))
