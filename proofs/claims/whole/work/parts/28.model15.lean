/-! JUDGED, BEHIND, DONE; the PAD -/
theorem flt_cases {s : Nat → Nat} {n : Nat} (hn : n ≤ 60) : (fltR s n = -6 ∧ pdS s n = 0 ∧ ∀ j, j ≤ n → pdS s j ≠ 4) ∨ (∃ v, v ≤ 60 ∧ fltR s n = nI v) := by
  by_cases h : firstN (fun i => pdS s (i + 1) == 4) n < n
  · refine Or.inr ⟨firstN (fun i => pdS s (i + 1) == 4) n, by omega, ?_⟩
    unfold fltR; rw [if_pos h]
  · have hno : ∀ j, j ≤ n → pdS s j ≠ 4 := by
      intro j hj
      cases j with
      | zero => simp [pdS]
      | succ j =>
        have := firstN_no (fun i => pdS s (i + 1) == 4) n j (by have := firstN_le (fun i => pdS s (i + 1) == 4) n; omega)
        simpa using this
    by_cases h0 : pdS s n = 0
    · refine Or.inl ⟨?_, h0, hno⟩
      unfold fltR; rw [if_neg h, if_pos h0]
    · refine Or.inr ⟨n, hn, ?_⟩
      unfold fltR; rw [if_neg h, if_neg h0]
theorem c_X5_faultC {l : Launch} {D : gE} {L : Nat → Nat} {σ : St} {Q : Option Value → va_W → Prop} {d : Nat} {s : Nat → Nat} {n : Nat} (hp : pdM σ s n) (hg : fltR s n = -6 → ∀ σ', fp σ σ' → pI σ' s n → (∀ j, j ≤ n → pdS s j ≠ 4) → Q (some (.int (-6))) (wsOf D L σ')) (hb : ∀ v, v ≤ 60 → fltR s n = nI v → ∀ σ', fp σ σ' → Q (some (.int (nI v))) (wsOf D L σ')) : Ctr l D yX5_fault cX5_fault 3 (some .int) (rr (d + 3)) [.ref (L 33)] (wsOf D L σ) Q :=
  c_X5_fault hp (fun σ' hf hI => by
    rcases flt_cases (s := s) hp.2.1 with ⟨e, h0, h4⟩ | ⟨v, hv, e⟩
    · rw [e]; exact hg e σ' hf (hI h0 h4) h4
    · rw [e]; exact hb v hv e σ' hf)
theorem nI_m6 {v : Nat} (hv : v ≤ 60) : ¬ nI v = -6 := by
  have : ∀ v, v < 61 → ¬ nI v = -6 := by decide +kernel
  exact this v (by omega)
theorem els_st {as : List Nat} {k0 : Nat} {a b' : St} {s : Nat → Nat} {j b : Nat} (h : els as k0 a b') (ha : 46 ∉ as ∧ 47 ∉ as ∧ 48 ∉ as ∧ 49 ∉ as) (g : stA a s j b) : stA b' s j b := by
  unfold stA at g ⊢
  rw [h.1 46 ha.1, h.1 47 ha.2.1, h.1 48 ha.2.2.1, h.1 49 ha.2.2.2]
  exact g
theorem gd_le (s : Nat → Nat) (X : XT) (m : Nat) : gdS s X m ≤ m := firstN_le _ m
theorem wy_le (s : Nat → Nat) (X : XT) (j : Nat) : wyS s X j ≤ 8 := step_le
theorem c_X5_goDayC {l : Launch} {D : gE} {L : Nat → Nat} {σ : St} {Q : Option Value → va_W → Prop} {d : Nat} {X : XT} (hX : rpM σ X) (ho : okX X) {s : Nat → Nat} {m : Nat} (h23 : sI σ 33 23 = nI m) (hm : m ≤ 60) (hst : ∀ j, j < m → stA σ s j (psS s j)) (hwf : ∀ j, j < m → wfS s (psS s j)) (hb : gdS s X m < m → ∀ σ', fg σ σ' → rpM σ' (dyS s X (gdS s X m)) → sI σ' 33 25 = nI (gdS s X m) → sI σ' 33 26 = nI (wyS s X (gdS s X m)) → Q none (wsOf D L σ')) (hg : gdS s X m = m → ∀ σ', fg σ σ' → rpM σ' (dyS s X m) → sI σ' 33 25 = -6 → sI σ' 33 26 = -6 → ctr σ' (kcS s 0 m) (kcS s 1 m) (kcS s 3 m) → Q none (wsOf D L σ')) : Ctr l D yX5_goDay cX5_goDay 3 none (rr (d + 7)) [.ref (L 33)] (wsOf D L σ) Q :=
  c_X5_goDay hX ho h23 hm hst hwf (fun σ' hf hd => by
    have hle := gd_le s X m
    obtain ⟨h1, h2, h3, h4⟩ := hd
    by_cases e : gdS s X m < m
    · rw [if_pos e] at h3 h4
      exact hb e σ' hf h1 h3 h4
    · rw [if_neg e] at h3 h4
      have e : gdS s X m = m := by omega
      rw [e] at h1 h2
      exact hg e σ' hf h1 h3 h4 h2)
def jdR (X : XT) (s : Nat → Nat) (m v : Nat) : Int32 := if gdS s X m < m then (if v = 0 then nI (gdS s X m) else if v = 1 then nI (wyS s X (gdS s X m)) else -3) else if v ≤ 1 then -6 else if v = 2 then nI (kcS s 0 m) else if v = 3 then nI (kcS s 1 m) else nI (kcS s 3 m)
def judgeR (X : XT) (s : Nat → Nat) (n : Nat) (x : Int32) : Int32 := if inN 0 4 x then (if fltR s n = -6 then jdR X s (pjS s n) (ix 5 x) else -5) else -2
def bhR (X : XT) (p v : Nat) : Int32 := if v = 0 then nI (x_pl X p) else if v = 1 then nI (buX X p) else nI (bitsN (x_kn X p) 8)
def behindR (X : XT) (s : Nat → Nat) (n : Nat) (x y : Int32) : Int32 := if thI X x then (if inN 0 2 y then (if fltR s n = -6 then (if gdS s X (pjS s n) < pjS s n then -3 else bhR (dyS s X (pjS s n)) (ix 6 x) (ix 3 y)) else -5) else -2) else -1
abbrev PT : Type := (Nat → Nat) × Nat
def doneO (X : XT) (s : Nat → Nat) (n : Nat) : Int32 × XT × Nat := if fltR s n = -6 then (if gdS s X (pjS s n) < pjS s n then (-3, X, n) else (nI (pjS s n), dyS s X (pjS s n), 0)) else (-5, X, n)
def sayO (s : Nat → Nat) (n : Nat) (x : Int32) : Int32 × PT := if inN 33 126 x then (if n = 60 then (-4, s, n) else (nI (n + 1), updN s n x.toInt.toNat, n + 1)) else (-2, s, n)
theorem judge_in {X : XT} {s : Nat → Nat} {n p : Nat} (hp : p ≤ 4) (e0 : fltR s n = -6) : judgeR X s n (nI p) = jdR X s (pjS s n) p := by
  unfold judgeR
  rw [inN_t (by omega) hp (by omega), if_pos rfl, if_pos e0, ix_nI (by omega) (by omega)]
theorem behind_in {X : XT} {s : Nat → Nat} {n p v : Nat} (hp : p < 6) (ht : x_th X p = true) (hv : v ≤ 2) (e0 : fltR s n = -6) : behindR X s n (nI p) (nI v) = if gdS s X (pjS s n) < pjS s n then -3 else bhR (dyS s X (pjS s n)) p v := by
  unfold behindR
  rw [thI_t hp ht, if_pos rfl, inN_t (by omega) hv (by omega), if_pos rfl, if_pos e0, ix6 hp, ix_nI (by omega) (by omega)]
/-- what the PAD's calls change -/
def frP (σ σ' : St) : Prop := (∀ o, o ≠ 33 → sI σ' o = sI σ o) ∧ (∀ q, (q < 34 ∨ 59 < q) → sA σ' q = sA σ q) ∧ sK σ' = sK σ ∧ sM σ' = sM σ
theorem fr_frP {a b : St} (h : fr a b) : frP a b := ⟨h.1, fun q hq => h.2.1 q (by omega), h.2.2.2.1, h.2.2.2.2⟩
theorem frP_trans {a b c : St} (h : frP a b) (g : frP b c) : frP a c := ⟨fun o ho => (g.1 o ho).trans (h.1 o ho), fun q hq => (g.2.1 q hq).trans (h.2.1 q hq), g.2.2.1.trans h.2.2.1, g.2.2.2.trans h.2.2.2⟩
theorem frP_I {a : St} (k : Nat) (x : Int32) : frP a (setI a 33 k x) := ⟨fun o ho => if_neg ho, fun _ _ => rfl, rfl, rfl⟩
theorem frP_A {a : St} (q : Nat) (hq : 34 ≤ q ∧ q ≤ 59) (f : Nat → Int32) : frP a (setA a q f) := ⟨fun _ _ => rfl, fun r hr => if_neg (by omega), rfl, rfl⟩
theorem fr_pad {a b : St} {s : Nat → Nat} {n : Nat} (h : fr a b) (hp : pdM a s n) : pdM b s n := ⟨h.2.2.1.trans hp.1, hp.2.1, fun i hi => by rw [h.2.1 45 (by omega)]; exact hp.2.2.1 i hi, hp.2.2.2⟩
set_option maxHeartbeats 4000000 in
set_option maxRecDepth 20000 in
theorem c_X5_judge {l : Launch} {D : gE} {L : Nat → Nat} {σ : St} {Q : Option Value → va_W → Prop} {d : Nat} {X : XT} (hX : rpM σ X) (ho : okX X) {s : Nat → Nat} {n : Nat} (hp : pdM σ s n) {x : Int32} (h : ∀ σ', fr σ σ' → rpM σ' X → Q (some (.int (judgeR X s n x))) (wsOf D L σ')) : Ctr l D yX5_judge cX5_judge 2 (some .int) (rr (d + 8)) [.ref (L 33), .int x] (wsOf D L σ) Q := by
  refine g_start ky_X5_judge (Nat.le_of_ble_eq_true rfl) ?_
  refine g_pick [0, 1] (lv' := [(0, .ref (L 33)), (1, .int x)]) rfl ?_
  refine g_iload_n dX5_judge_0 rfl 1 rfl ?_
  refine g_i2l dX5_judge_1 ?_
  refine g_lconst dX5_judge_2 lc_0 ?_
  refine g_ldc2_w kk_X5_242 dX5_judge_3 ?_
  refine g_tople (z := (nI 4).toInt64) (by decide +kernel) ?_
  refine g_callS (As := [.long x.toInt64, .long ((nI 0).toInt64), .long ((nI 4).toInt64)]) km_X5_118 ky_X5_in ks_X5_in (by decide) rfl (Nat.le_of_ble_eq_true rfl) dX5_judge_6 rfl (c_X5_inN (by omega) (by omega) (fun p6 ha6 hb6 he6 => ?_) (fun h6 => ?_))
  · subst he6
    refine t_ifne1 15 dX5_judge_9 (by decide) ?_
    refine g_aload_n dX5_judge_15 rfl 0 rfl ?_
    refine g_callV (As := []) km_X5_244 ky_X5_fault ki_X5_fault (by decide) 33 at_33 rfl rfl (Nat.le_of_ble_eq_true rfl) dX5_judge_16 rfl (c_X5_faultC hp (fun e0 σ1 hf1 hI1 hn4 => ?_) (fun v hv e0 σ1 hf1 => ?_))
    · have hX1 := fp_X hf1 hX
      have hwf := wf_all s n (hn4 n (Nat.le_refl n))
      have hm : pjS s n ≤ 60 := Nat.le_trans (pj_le s n) hp.2.1
      refine g_iflt 25 dX5_judge_19 (by decide) (fun h19 => ?_) (fun h19 => absurd h19 (by decide +kernel))
      refine g_aload_n dX5_judge_25 rfl 0 rfl ?_
      refine g_callV (As := []) km_X5_248 ky_X5_keepNow ki_X5_keepNow (by decide) 33 at_33 rfl rfl (Nat.le_of_ble_eq_true rfl) dX5_judge_26 rfl (c_X5_keepNow (fun σ2 he2 hk2 => ?_))
      have hX2 := rpM_els hX1 he2 (fun q h1 h2 => by simp; omega) (by decide)
      have hfr2 := fr_trans (fp_fr hf1) (els_fr he2 (by decide) (by decide))
      refine g_aload_n dX5_judge_29 rfl 0 rfl ?_
      refine g_callV (As := []) km_X5_251 ky_X5_goDay ki_X5_goDay (by decide) 33 at_33 rfl rfl (Nat.le_of_ble_eq_true rfl) dX5_judge_30 rfl (c_X5_goDayC hX2 ho ((he2.2.2.1 23 (by decide)).trans hI1.1) hm (fun j hj => els_st he2 (by decide) (hI1.2.2.1 j hj)) hwf (fun hg σ3 hf3 hX3 b25 b26 => ?_) (fun hg σ3 hf3 hX3 b25 b26 hc3 => ?_))
      · have hgl : gdS s X (pjS s n) ≤ pjS s n := gd_le _ _ _
        have hsm := dy_sme hwf (X := X) _ hgl
        have hfr3 := fr_trans hfr2 (fg_fr hf3)
        have hok := dy_ok hwf ho _ hgl
        refine g_aload_n dX5_judge_33 rfl 0 rfl ?_
        refine g_callV (As := []) km_X5_254 ky_X5_putBack ki_X5_putBack (by decide) 33 at_33 rfl rfl (Nat.le_of_ble_eq_true rfl) dX5_judge_34 rfl (c_X5_backX (fg_kpt hf3 hk2) hX1 hX3 hsm (fun σ4 hf4 hX4 hs4 => ?_))
        have hfr4 := fr_trans hfr3 hf4
        refine g_iload_n dX5_judge_37 rfl 1 rfl ?_
        refine g_iconst dX5_judge_38 ci_1 ?_
        refine n_icmple 52 dX5_judge_39 (by decide) (by omega) (by omega) (fun h39 => ?_) (fun h39 => ?_)
        · refine g_iload_n dX5_judge_52 rfl 1 rfl ?_
          rcases (show p6 = 0 ∨ p6 = 1 ∨ p6 = 2 ∨ p6 = 3 ∨ p6 = 4 by omega) with rfl | rfl | rfl | rfl | rfl
          · refine g_tableIn 84 dX5_judge_53 (by decide +kernel) (by decide +kernel) (by rfl) (by decide) ?_
            refine g_aload_n dX5_judge_84 rfl 0 rfl ?_
            refine s_getM kf_X5_233 (by decide) rfl dX5_judge_85 ?_
            refine g_tope (z := nI (gdS s X (pjS s n))) ((hs4 25 (by decide)).trans b25) ?_
            exact g_ireturn dX5_judge_88 (Nat.le_refl _) (Nat.le_refl _) (qi (by rw [judge_in (by omega) e0]; unfold jdR; rw [if_pos hg]; rfl) (h _ hfr4 hX4))
          · refine g_tableIn 89 dX5_judge_53 (by decide +kernel) (by decide +kernel) (by rfl) (by decide) ?_
            refine g_aload_n dX5_judge_89 rfl 0 rfl ?_
            refine s_getM kf_X5_236 (by decide) rfl dX5_judge_90 ?_
            refine g_tope (z := nI (wyS s X (gdS s X (pjS s n)))) ((hs4 26 (by decide)).trans b26) ?_
            exact g_ireturn dX5_judge_93 (Nat.le_refl _) (Nat.le_refl _) (qi (by rw [judge_in (by omega) e0]; unfold jdR; rw [if_pos hg]; rfl) (h _ hfr4 hX4))
          · refine g_tableIn 94 dX5_judge_53 (by decide +kernel) (by decide +kernel) (by rfl) (by decide) ?_
            refine g_aload_n dX5_judge_94 rfl 0 rfl ?_
            refine s_getM kf_X5_209 (by decide) rfl dX5_judge_95 ?_
            exact g_ireturn dX5_judge_98 (Nat.le_refl _) (Nat.le_refl _) (absurd h39 (by decide))
          · refine g_tableIn 99 dX5_judge_53 (by decide +kernel) (by decide +kernel) (by rfl) (by decide) ?_
            refine g_aload_n dX5_judge_99 rfl 0 rfl ?_
            refine s_getM kf_X5_212 (by decide) rfl dX5_judge_100 ?_
            exact g_ireturn dX5_judge_103 (Nat.le_refl _) (Nat.le_refl _) (absurd h39 (by decide))
          · refine g_tableOut 104 dX5_judge_53 (by decide +kernel) (by decide) ?_
            refine g_aload_n dX5_judge_104 rfl 0 rfl ?_
            refine s_getM kf_X5_227 (by decide) rfl dX5_judge_105 ?_
            exact g_ireturn dX5_judge_108 (Nat.le_refl _) (Nat.le_refl _) (absurd h39 (by decide))
        · refine g_aload_n dX5_judge_42 rfl 0 rfl ?_
          refine s_getM kf_X5_233 (by decide) rfl dX5_judge_43 ?_
          refine g_tope (z := nI (gdS s X (pjS s n))) ((hs4 25 (by decide)).trans b25) ?_
          refine n_iflt (tgt := 52) dX5_judge_46 (by decide) (by omega) ?_
          refine g_bipush dX5_judge_49 bp_m3 ?_
          exact g_ireturn dX5_judge_51 (Nat.le_refl _) (Nat.le_refl _) (qi (by rw [judge_in (by omega) e0]; unfold jdR; rw [if_pos hg, if_neg (by omega), if_neg (by omega)]) (h _ hfr4 hX4))
      · have hsm := dy_sme hwf (X := X) _ (Nat.le_refl (pjS s n))
        have hfr3 := fr_trans hfr2 (fg_fr hf3)
        have hok := dy_ok hwf ho _ (Nat.le_refl (pjS s n))
        refine g_aload_n dX5_judge_33 rfl 0 rfl ?_
        refine g_callV (As := []) km_X5_254 ky_X5_putBack ki_X5_putBack (by decide) 33 at_33 rfl rfl (Nat.le_of_ble_eq_true rfl) dX5_judge_34 rfl (c_X5_backX (fg_kpt hf3 hk2) hX1 hX3 hsm (fun σ4 hf4 hX4 hs4 => ?_))
        have hfr4 := fr_trans hfr3 hf4
        refine g_iload_n dX5_judge_37 rfl 1 rfl ?_
        refine g_iconst dX5_judge_38 ci_1 ?_
        refine n_icmple 52 dX5_judge_39 (by decide) (by omega) (by omega) (fun h39 => ?_) (fun h39 => ?_)
        · refine g_iload_n dX5_judge_52 rfl 1 rfl ?_
          rcases (show p6 = 0 ∨ p6 = 1 ∨ p6 = 2 ∨ p6 = 3 ∨ p6 = 4 by omega) with rfl | rfl | rfl | rfl | rfl
          · refine g_tableIn 84 dX5_judge_53 (by decide +kernel) (by decide +kernel) (by rfl) (by decide) ?_
            refine g_aload_n dX5_judge_84 rfl 0 rfl ?_
            refine s_getM kf_X5_233 (by decide) rfl dX5_judge_85 ?_
            refine g_tope (z := (-6)) ((hs4 25 (by decide)).trans b25) ?_
            exact g_ireturn dX5_judge_88 (Nat.le_refl _) (Nat.le_refl _) (qi (by rw [judge_in (by omega) e0]; unfold jdR; rw [if_neg (by omega)]; rfl) (h _ hfr4 hX4))
          · refine g_tableIn 89 dX5_judge_53 (by decide +kernel) (by decide +kernel) (by rfl) (by decide) ?_
            refine g_aload_n dX5_judge_89 rfl 0 rfl ?_
            refine s_getM kf_X5_236 (by decide) rfl dX5_judge_90 ?_
            refine g_tope (z := (-6)) ((hs4 26 (by decide)).trans b26) ?_
            exact g_ireturn dX5_judge_93 (Nat.le_refl _) (Nat.le_refl _) (qi (by rw [judge_in (by omega) e0]; unfold jdR; rw [if_neg (by omega)]; rfl) (h _ hfr4 hX4))
          · refine g_tableIn 94 dX5_judge_53 (by decide +kernel) (by decide +kernel) (by rfl) (by decide) ?_
            refine g_aload_n dX5_judge_94 rfl 0 rfl ?_
            refine s_getM kf_X5_209 (by decide) rfl dX5_judge_95 ?_
            refine g_tope (z := nI (kcS s 0 (pjS s n))) ((hs4 27 (by decide)).trans hc3.1) ?_
            exact g_ireturn dX5_judge_98 (Nat.le_refl _) (Nat.le_refl _) (absurd h39 (by decide))
          · refine g_tableIn 99 dX5_judge_53 (by decide +kernel) (by decide +kernel) (by rfl) (by decide) ?_
            refine g_aload_n dX5_judge_99 rfl 0 rfl ?_
            refine s_getM kf_X5_212 (by decide) rfl dX5_judge_100 ?_
            refine g_tope (z := nI (kcS s 1 (pjS s n))) ((hs4 28 (by decide)).trans hc3.2.1) ?_
            exact g_ireturn dX5_judge_103 (Nat.le_refl _) (Nat.le_refl _) (absurd h39 (by decide))
          · refine g_tableOut 104 dX5_judge_53 (by decide +kernel) (by decide) ?_
            refine g_aload_n dX5_judge_104 rfl 0 rfl ?_
            refine s_getM kf_X5_227 (by decide) rfl dX5_judge_105 ?_
            refine g_tope (z := nI (kcS s 3 (pjS s n))) ((hs4 29 (by decide)).trans hc3.2.2) ?_
            exact g_ireturn dX5_judge_108 (Nat.le_refl _) (Nat.le_refl _) (absurd h39 (by decide))
        · refine g_aload_n dX5_judge_42 rfl 0 rfl ?_
          refine s_getM kf_X5_233 (by decide) rfl dX5_judge_43 ?_
          refine g_tope (z := (-6)) ((hs4 25 (by decide)).trans b25) ?_
          refine g_iflt 52 dX5_judge_46 (by decide) (fun h46 => ?_) (fun h46 => absurd h46 (by decide +kernel))
          refine g_iload_n dX5_judge_52 rfl 1 rfl ?_
          rcases (show p6 = 0 ∨ p6 = 1 ∨ p6 = 2 ∨ p6 = 3 ∨ p6 = 4 by omega) with rfl | rfl | rfl | rfl | rfl
          · refine g_tableIn 84 dX5_judge_53 (by decide +kernel) (by decide +kernel) (by rfl) (by decide) ?_
            refine g_aload_n dX5_judge_84 rfl 0 rfl ?_
            refine s_getM kf_X5_233 (by decide) rfl dX5_judge_85 ?_
            refine g_tope (z := (-6)) ((hs4 25 (by decide)).trans b25) ?_
            exact g_ireturn dX5_judge_88 (Nat.le_refl _) (Nat.le_refl _) (absurd h39 (by decide))
          · refine g_tableIn 89 dX5_judge_53 (by decide +kernel) (by decide +kernel) (by rfl) (by decide) ?_
            refine g_aload_n dX5_judge_89 rfl 0 rfl ?_
            refine s_getM kf_X5_236 (by decide) rfl dX5_judge_90 ?_
            refine g_tope (z := (-6)) ((hs4 26 (by decide)).trans b26) ?_
            exact g_ireturn dX5_judge_93 (Nat.le_refl _) (Nat.le_refl _) (absurd h39 (by decide))
          · refine g_tableIn 94 dX5_judge_53 (by decide +kernel) (by decide +kernel) (by rfl) (by decide) ?_
            refine g_aload_n dX5_judge_94 rfl 0 rfl ?_
            refine s_getM kf_X5_209 (by decide) rfl dX5_judge_95 ?_
            refine g_tope (z := nI (kcS s 0 (pjS s n))) ((hs4 27 (by decide)).trans hc3.1) ?_
            exact g_ireturn dX5_judge_98 (Nat.le_refl _) (Nat.le_refl _) (qi (by rw [judge_in (by omega) e0]; unfold jdR; rw [if_neg (by omega)]; rfl) (h _ hfr4 hX4))
          · refine g_tableIn 99 dX5_judge_53 (by decide +kernel) (by decide +kernel) (by rfl) (by decide) ?_
            refine g_aload_n dX5_judge_99 rfl 0 rfl ?_
            refine s_getM kf_X5_212 (by decide) rfl dX5_judge_100 ?_
            refine g_tope (z := nI (kcS s 1 (pjS s n))) ((hs4 28 (by decide)).trans hc3.2.1) ?_
            exact g_ireturn dX5_judge_103 (Nat.le_refl _) (Nat.le_refl _) (qi (by rw [judge_in (by omega) e0]; unfold jdR; rw [if_neg (by omega)]; rfl) (h _ hfr4 hX4))
          · refine g_tableOut 104 dX5_judge_53 (by decide +kernel) (by decide) ?_
            refine g_aload_n dX5_judge_104 rfl 0 rfl ?_
            refine s_getM kf_X5_227 (by decide) rfl dX5_judge_105 ?_
            refine g_tope (z := nI (kcS s 3 (pjS s n))) ((hs4 29 (by decide)).trans hc3.2.2) ?_
            exact g_ireturn dX5_judge_108 (Nat.le_refl _) (Nat.le_refl _) (qi (by rw [judge_in (by omega) e0]; unfold jdR; rw [if_neg (by omega)]; rfl) (h _ hfr4 hX4))
    · refine n_iflt (tgt := 25) dX5_judge_19 (by decide) (by omega) ?_
      refine g_bipush dX5_judge_22 bp_m5 ?_
      exact g_ireturn dX5_judge_24 (Nat.le_refl _) (Nat.le_refl _) (qi (by unfold judgeR; rw [inN_t (a := 0) (b := 4) (by omega) (by omega) (by omega), if_pos rfl, if_neg (by rw [e0]; exact nI_m6 hv)]) (h _ (fp_fr hf1) (fp_X hf1 hX)))
  · refine t_ifne0 (tgt := 15) dX5_judge_9 (by decide) ?_
    refine g_bipush dX5_judge_12 bp_m2 ?_
    exact g_ireturn dX5_judge_14 (Nat.le_refl _) (Nat.le_refl _) (qi (by unfold judgeR; rw [inN_f (a := 0) (b := 4) (by omega) h6]; rfl) (h _ fr_rfl hX))
set_option maxHeartbeats 4000000 in
set_option maxRecDepth 20000 in
theorem c_X5_behind {l : Launch} {D : gE} {L : Nat → Nat} {σ : St} {Q : Option Value → va_W → Prop} {d : Nat} {X : XT} (hX : rpM σ X) (ho : okX X) {s : Nat → Nat} {n : Nat} (hp : pdM σ s n) {x y : Int32} (h : ∀ σ', fr σ σ' → rpM σ' X → Q (some (.int (behindR X s n x y))) (wsOf D L σ')) : Ctr l D yX5_behind cX5_behind 4 (some .int) (rr (d + 8)) [.ref (L 33), .int x, .int y] (wsOf D L σ) Q := by
  refine g_start ky_X5_behind (Nat.le_of_ble_eq_true rfl) ?_
  refine g_pick [0, 1, 2] (lv' := [(0, .ref (L 33)), (1, .int x), (2, .int y)]) rfl ?_
  refine g_aload_n dX5_behind_0 rfl 0 rfl ?_
  refine g_iload_n dX5_behind_1 rfl 1 rfl ?_
  refine g_callV (As := [.int x]) km_X5_143 ky_X5_isThere ki_X5_isThere (by decide) 33 at_33 rfl rfl (Nat.le_of_ble_eq_true rfl) dX5_behind_2 rfl (c_X5_isThere hX (fun p2 hp2 he2 h2 => ?_) (fun h2 => ?_))
  · subst he2
    refine t_ifne1 10 dX5_behind_5 (by decide) ?_
    refine g_iload_n dX5_behind_10 rfl 2 rfl ?_
    refine g_i2l dX5_behind_11 ?_
    refine g_lconst dX5_behind_12 lc_0 ?_
    refine g_ldc2_w kk_X5_126 dX5_behind_13 ?_
    refine g_tople (z := (nI 2).toInt64) (by decide +kernel) ?_
    refine g_callS (As := [.long y.toInt64, .long ((nI 0).toInt64), .long ((nI 2).toInt64)]) km_X5_118 ky_X5_in ks_X5_in (by decide) rfl (Nat.le_of_ble_eq_true rfl) dX5_behind_16 rfl (c_X5_inN (by omega) (by omega) (fun p16 ha16 hb16 he16 => ?_) (fun h16 => ?_))
    · subst he16
      refine t_ifne1 25 dX5_behind_19 (by decide) ?_
      refine g_aload_n dX5_behind_25 rfl 0 rfl ?_
      refine g_callV (As := []) km_X5_244 ky_X5_fault ki_X5_fault (by decide) 33 at_33 rfl rfl (Nat.le_of_ble_eq_true rfl) dX5_behind_26 rfl (c_X5_faultC hp (fun e0 σ1 hf1 hI1 hn4 => ?_) (fun v hv e0 σ1 hf1 => ?_))
      · have hX1 := fp_X hf1 hX
        have hwf := wf_all s n (hn4 n (Nat.le_refl n))
        have hm : pjS s n ≤ 60 := Nat.le_trans (pj_le s n) hp.2.1
        refine g_iflt 35 dX5_behind_29 (by decide) (fun h29 => ?_) (fun h29 => absurd h29 (by decide +kernel))
        refine g_aload_n dX5_behind_35 rfl 0 rfl ?_
        refine g_callV (As := []) km_X5_248 ky_X5_keepNow ki_X5_keepNow (by decide) 33 at_33 rfl rfl (Nat.le_of_ble_eq_true rfl) dX5_behind_36 rfl (c_X5_keepNow (fun σ2 he2 hk2 => ?_))
        have hX2 := rpM_els hX1 he2 (fun q h1 h2 => by simp; omega) (by decide)
        have hfr2 := fr_trans (fp_fr hf1) (els_fr he2 (by decide) (by decide))
        refine g_aload_n dX5_behind_39 rfl 0 rfl ?_
        refine g_callV (As := []) km_X5_251 ky_X5_goDay ki_X5_goDay (by decide) 33 at_33 rfl rfl (Nat.le_of_ble_eq_true rfl) dX5_behind_40 rfl (c_X5_goDayC hX2 ho ((he2.2.2.1 23 (by decide)).trans hI1.1) hm (fun j hj => els_st he2 (by decide) (hI1.2.2.1 j hj)) hwf (fun hg σ3 hf3 hX3 b25 b26 => ?_) (fun hg σ3 hf3 hX3 b25 b26 hc3 => ?_))
        · have hgl : gdS s X (pjS s n) ≤ pjS s n := gd_le _ _ _
          have hsm := dy_sme hwf (X := X) _ hgl
          have hfr3 := fr_trans hfr2 (fg_fr hf3)
          have hok := dy_ok hwf ho _ hgl
          refine g_iload_n dX5_behind_43 rfl 2 rfl ?_
          refine n_ifne 56 dX5_behind_44 (by decide) (by omega) (fun h44 => ?_) (fun h44 => ?_)
          · refine g_iload_n dX5_behind_56 rfl 2 rfl ?_
            refine g_iconst dX5_behind_57 ci_1 ?_
            refine n_icmpne 69 dX5_behind_58 (by decide) (by omega) (by omega) (fun h58 => ?_) (fun h58 => ?_)
            · refine g_aload_n dX5_behind_69 rfl 0 rfl ?_
              refine s_getM kf_X5_28 (by decide) rfl dX5_behind_70 ?_
              refine g_iload_n dX5_behind_73 rfl 1 rfl ?_
              refine s_ald (q := 40) (n := 6) (at_ia (q := 40) rfl) (by omega) (by decide) dX5_behind_74 ?_
              refine g_tope (z := nI (bitsN (x_kn (dyS s X (gdS s X (pjS s n))) p2) 8)) (rpM_kn hX3 (by omega) (by rw [hsm.2.2.2.2.2.1]; exact h2)) ?_
              refine g_istore_n (lv' := [(3, .int (nI (bitsN (x_kn (dyS s X (gdS s X (pjS s n))) p2) 8))), (0, .ref (L 33)), (1, .int (nI p2)), (2, .int (nI p16))]) dX5_behind_75 rfl (by decide) rfl ?_
              refine g_aload_n dX5_behind_76 rfl 1 rfl ?_
              refine g_callV (As := []) km_X5_254 ky_X5_putBack ki_X5_putBack (by decide) 33 at_33 rfl rfl (Nat.le_of_ble_eq_true rfl) dX5_behind_77 rfl (c_X5_backX (fg_kpt hf3 hk2) hX1 hX3 hsm (fun σ4 hf4 hX4 hs4 => ?_))
              have hfr4 := fr_trans hfr3 hf4
              refine g_aload_n dX5_behind_80 rfl 1 rfl ?_
              refine s_getM kf_X5_233 (by decide) rfl dX5_behind_81 ?_
              refine g_tope (z := nI (gdS s X (pjS s n))) ((hs4 25 (by decide)).trans b25) ?_
              refine n_iflt (tgt := 92) dX5_behind_84 (by decide) (by omega) ?_
              refine g_bipush dX5_behind_87 bp_m3 ?_
              refine g_goto 93 dX5_behind_89 (by decide) ?_
              exact g_ireturn dX5_behind_93 (Nat.le_refl _) (Nat.le_refl _) (qi (by rw [behind_in hp2 h2 (by omega) e0, if_pos hg]) (h _ hfr4 hX4))
            · refine g_aload_n dX5_behind_61 rfl 0 rfl ?_
              refine g_iload_n dX5_behind_62 rfl 1 rfl ?_
              refine g_callV (As := [.int (nI p2)]) km_X5_206 ky_X5_carriedBy ki_X5_carriedBy (by decide) 33 at_33 rfl rfl (Nat.le_of_ble_eq_true rfl) dX5_behind_63 rfl (c_X5_carriedBy hX3 hok hp2 (by rw [hsm.2.2.2.2.2.1]; exact h2) ?_)
              refine g_goto 75 dX5_behind_66 (by decide) ?_
              refine g_istore_n (lv' := [(3, .int (nI (buX (dyS s X (gdS s X (pjS s n))) p2))), (0, .ref (L 33)), (1, .int (nI p2)), (2, .int (nI p16))]) dX5_behind_75 rfl (by decide) rfl ?_
              refine g_aload_n dX5_behind_76 rfl 1 rfl ?_
              refine g_callV (As := []) km_X5_254 ky_X5_putBack ki_X5_putBack (by decide) 33 at_33 rfl rfl (Nat.le_of_ble_eq_true rfl) dX5_behind_77 rfl (c_X5_backX (fg_kpt hf3 hk2) hX1 hX3 hsm (fun σ4 hf4 hX4 hs4 => ?_))
              have hfr4 := fr_trans hfr3 hf4
              refine g_aload_n dX5_behind_80 rfl 1 rfl ?_
              refine s_getM kf_X5_233 (by decide) rfl dX5_behind_81 ?_
              refine g_tope (z := nI (gdS s X (pjS s n))) ((hs4 25 (by decide)).trans b25) ?_
              refine n_iflt (tgt := 92) dX5_behind_84 (by decide) (by omega) ?_
              refine g_bipush dX5_behind_87 bp_m3 ?_
              refine g_goto 93 dX5_behind_89 (by decide) ?_
              exact g_ireturn dX5_behind_93 (Nat.le_refl _) (Nat.le_refl _) (qi (by rw [behind_in hp2 h2 (by omega) e0, if_pos hg]) (h _ hfr4 hX4))
          · refine g_aload_n dX5_behind_47 rfl 0 rfl ?_
            refine s_getM kf_X5_22 (by decide) rfl dX5_behind_48 ?_
            refine g_iload_n dX5_behind_51 rfl 1 rfl ?_
            refine s_ald (q := 38) (n := 6) (at_ia (q := 38) rfl) (by omega) (by decide) dX5_behind_52 ?_
            refine g_tope (z := nI (x_pl (dyS s X (gdS s X (pjS s n))) p2)) (rpM_pl hX3 (by omega)) ?_
            refine g_goto 75 dX5_behind_53 (by decide) ?_
            refine g_istore_n (lv' := [(3, .int (nI (x_pl (dyS s X (gdS s X (pjS s n))) p2))), (0, .ref (L 33)), (1, .int (nI p2)), (2, .int (nI p16))]) dX5_behind_75 rfl (by decide) rfl ?_
            refine g_aload_n dX5_behind_76 rfl 1 rfl ?_
            refine g_callV (As := []) km_X5_254 ky_X5_putBack ki_X5_putBack (by decide) 33 at_33 rfl rfl (Nat.le_of_ble_eq_true rfl) dX5_behind_77 rfl (c_X5_backX (fg_kpt hf3 hk2) hX1 hX3 hsm (fun σ4 hf4 hX4 hs4 => ?_))
            have hfr4 := fr_trans hfr3 hf4
            refine g_aload_n dX5_behind_80 rfl 1 rfl ?_
            refine s_getM kf_X5_233 (by decide) rfl dX5_behind_81 ?_
            refine g_tope (z := nI (gdS s X (pjS s n))) ((hs4 25 (by decide)).trans b25) ?_
            refine n_iflt (tgt := 92) dX5_behind_84 (by decide) (by omega) ?_
            refine g_bipush dX5_behind_87 bp_m3 ?_
            refine g_goto 93 dX5_behind_89 (by decide) ?_
            exact g_ireturn dX5_behind_93 (Nat.le_refl _) (Nat.le_refl _) (qi (by rw [behind_in hp2 h2 (by omega) e0, if_pos hg]) (h _ hfr4 hX4))
        · have hsm := dy_sme hwf (X := X) _ (Nat.le_refl (pjS s n))
          have hfr3 := fr_trans hfr2 (fg_fr hf3)
          have hok := dy_ok hwf ho _ (Nat.le_refl (pjS s n))
          refine g_iload_n dX5_behind_43 rfl 2 rfl ?_
          refine n_ifne 56 dX5_behind_44 (by decide) (by omega) (fun h44 => ?_) (fun h44 => ?_)
          · refine g_iload_n dX5_behind_56 rfl 2 rfl ?_
            refine g_iconst dX5_behind_57 ci_1 ?_
            refine n_icmpne 69 dX5_behind_58 (by decide) (by omega) (by omega) (fun h58 => ?_) (fun h58 => ?_)
            · refine g_aload_n dX5_behind_69 rfl 0 rfl ?_
              refine s_getM kf_X5_28 (by decide) rfl dX5_behind_70 ?_
              refine g_iload_n dX5_behind_73 rfl 1 rfl ?_
              refine s_ald (q := 40) (n := 6) (at_ia (q := 40) rfl) (by omega) (by decide) dX5_behind_74 ?_
              refine g_tope (z := nI (bitsN (x_kn (dyS s X (pjS s n)) p2) 8)) (rpM_kn hX3 (by omega) (by rw [hsm.2.2.2.2.2.1]; exact h2)) ?_
              refine g_istore_n (lv' := [(3, .int (nI (bitsN (x_kn (dyS s X (pjS s n)) p2) 8))), (0, .ref (L 33)), (1, .int (nI p2)), (2, .int (nI p16))]) dX5_behind_75 rfl (by decide) rfl ?_
              refine g_aload_n dX5_behind_76 rfl 1 rfl ?_
              refine g_callV (As := []) km_X5_254 ky_X5_putBack ki_X5_putBack (by decide) 33 at_33 rfl rfl (Nat.le_of_ble_eq_true rfl) dX5_behind_77 rfl (c_X5_backX (fg_kpt hf3 hk2) hX1 hX3 hsm (fun σ4 hf4 hX4 hs4 => ?_))
              have hfr4 := fr_trans hfr3 hf4
              refine g_aload_n dX5_behind_80 rfl 1 rfl ?_
              refine s_getM kf_X5_233 (by decide) rfl dX5_behind_81 ?_
              refine g_tope (z := (-6)) ((hs4 25 (by decide)).trans b25) ?_
              refine g_iflt 92 dX5_behind_84 (by decide) (fun h84 => ?_) (fun h84 => absurd h84 (by decide +kernel))
              refine g_iload_n dX5_behind_92 rfl 0 rfl ?_
              exact g_ireturn dX5_behind_93 (Nat.le_refl _) (Nat.le_refl _) (qi (by rw [behind_in hp2 h2 (by omega) e0, if_neg (by omega)]; unfold bhR; rw [if_neg (by omega), if_neg (by omega)]) (h _ hfr4 hX4))
            · refine g_aload_n dX5_behind_61 rfl 0 rfl ?_
              refine g_iload_n dX5_behind_62 rfl 1 rfl ?_
              refine g_callV (As := [.int (nI p2)]) km_X5_206 ky_X5_carriedBy ki_X5_carriedBy (by decide) 33 at_33 rfl rfl (Nat.le_of_ble_eq_true rfl) dX5_behind_63 rfl (c_X5_carriedBy hX3 hok hp2 (by rw [hsm.2.2.2.2.2.1]; exact h2) ?_)
              refine g_goto 75 dX5_behind_66 (by decide) ?_
              refine g_istore_n (lv' := [(3, .int (nI (buX (dyS s X (pjS s n)) p2))), (0, .ref (L 33)), (1, .int (nI p2)), (2, .int (nI p16))]) dX5_behind_75 rfl (by decide) rfl ?_
              refine g_aload_n dX5_behind_76 rfl 1 rfl ?_
              refine g_callV (As := []) km_X5_254 ky_X5_putBack ki_X5_putBack (by decide) 33 at_33 rfl rfl (Nat.le_of_ble_eq_true rfl) dX5_behind_77 rfl (c_X5_backX (fg_kpt hf3 hk2) hX1 hX3 hsm (fun σ4 hf4 hX4 hs4 => ?_))
              have hfr4 := fr_trans hfr3 hf4
              refine g_aload_n dX5_behind_80 rfl 1 rfl ?_
              refine s_getM kf_X5_233 (by decide) rfl dX5_behind_81 ?_
              refine g_tope (z := (-6)) ((hs4 25 (by decide)).trans b25) ?_
              refine g_iflt 92 dX5_behind_84 (by decide) (fun h84 => ?_) (fun h84 => absurd h84 (by decide +kernel))
              refine g_iload_n dX5_behind_92 rfl 0 rfl ?_
              exact g_ireturn dX5_behind_93 (Nat.le_refl _) (Nat.le_refl _) (qi (by rw [behind_in hp2 h2 (by omega) e0, if_neg (by omega)]; unfold bhR; rw [if_neg (by omega), if_pos (by omega)]) (h _ hfr4 hX4))
          · refine g_aload_n dX5_behind_47 rfl 0 rfl ?_
            refine s_getM kf_X5_22 (by decide) rfl dX5_behind_48 ?_
            refine g_iload_n dX5_behind_51 rfl 1 rfl ?_
            refine s_ald (q := 38) (n := 6) (at_ia (q := 38) rfl) (by omega) (by decide) dX5_behind_52 ?_
            refine g_tope (z := nI (x_pl (dyS s X (pjS s n)) p2)) (rpM_pl hX3 (by omega)) ?_
            refine g_goto 75 dX5_behind_53 (by decide) ?_
            refine g_istore_n (lv' := [(3, .int (nI (x_pl (dyS s X (pjS s n)) p2))), (0, .ref (L 33)), (1, .int (nI p2)), (2, .int (nI p16))]) dX5_behind_75 rfl (by decide) rfl ?_
            refine g_aload_n dX5_behind_76 rfl 1 rfl ?_
            refine g_callV (As := []) km_X5_254 ky_X5_putBack ki_X5_putBack (by decide) 33 at_33 rfl rfl (Nat.le_of_ble_eq_true rfl) dX5_behind_77 rfl (c_X5_backX (fg_kpt hf3 hk2) hX1 hX3 hsm (fun σ4 hf4 hX4 hs4 => ?_))
            have hfr4 := fr_trans hfr3 hf4
            refine g_aload_n dX5_behind_80 rfl 1 rfl ?_
            refine s_getM kf_X5_233 (by decide) rfl dX5_behind_81 ?_
            refine g_tope (z := (-6)) ((hs4 25 (by decide)).trans b25) ?_
            refine g_iflt 92 dX5_behind_84 (by decide) (fun h84 => ?_) (fun h84 => absurd h84 (by decide +kernel))
            refine g_iload_n dX5_behind_92 rfl 0 rfl ?_
            exact g_ireturn dX5_behind_93 (Nat.le_refl _) (Nat.le_refl _) (qi (by rw [behind_in hp2 h2 (by omega) e0, if_neg (by omega)]; unfold bhR; rw [if_pos (by omega)]) (h _ hfr4 hX4))
      · refine n_iflt (tgt := 35) dX5_behind_29 (by decide) (by omega) ?_
        refine g_bipush dX5_behind_32 bp_m5 ?_
        exact g_ireturn dX5_behind_34 (Nat.le_refl _) (Nat.le_refl _) (qi (by unfold behindR; rw [thI_t hp2 h2, if_pos rfl, inN_t (a := 0) (b := 2) (by omega) (by omega) (by omega), if_pos rfl, if_neg (by rw [e0]; exact nI_m6 hv)]) (h _ (fp_fr hf1) (fp_X hf1 hX)))
    · refine t_ifne0 (tgt := 25) dX5_behind_19 (by decide) ?_
      refine g_bipush dX5_behind_22 bp_m2 ?_
      exact g_ireturn dX5_behind_24 (Nat.le_refl _) (Nat.le_refl _) (qi (by unfold behindR; rw [thI_t hp2 h2, if_pos rfl, inN_f (a := 0) (b := 2) (by omega) h16]; rfl) (h _ fr_rfl hX))
  · refine t_ifne0 (tgt := 10) dX5_behind_5 (by decide) ?_
    refine g_iconst dX5_behind_8 ci_m1 ?_
    exact g_ireturn dX5_behind_9 (Nat.le_refl _) (Nat.le_refl _) (qi (by unfold behindR; rw [thI_f h2]; rfl) (h _ fr_rfl hX))
theorem qdn {Q : Option Value → va_W → Prop} {D : gE} {L : Nat → Nat} {σ : St} {X : XT} {s : Nat → Nat} {n : Nat} (h : ∀ σ', frP σ σ' → rpM σ' (doneO X s n).2.1 → pdM σ' s (doneO X s n).2.2 → Q (some (.int (doneO X s n).1)) (wsOf D L σ')) {r : Int32} {X' : XT} {n' : Nat} (e : doneO X s n = (r, X', n')) {σ' : St} (hf : frP σ σ') (hX : rpM σ' X') (hp : pdM σ' s n') : Q (some (.int r)) (wsOf D L σ') := by
  rw [e] at h; exact h σ' hf hX hp
theorem fr_rp {a b : St} (h : fr a b) : frP a b := fr_frP h
set_option maxHeartbeats 4000000 in
set_option maxRecDepth 20000 in
theorem c_X5_done {l : Launch} {D : gE} {L : Nat → Nat} {σ : St} {Q : Option Value → va_W → Prop} {d : Nat} {X : XT} (hX : rpM σ X) (ho : okX X) {s : Nat → Nat} {n : Nat} (hp : pdM σ s n) (h : ∀ σ', frP σ σ' → rpM σ' (doneO X s n).2.1 → pdM σ' s (doneO X s n).2.2 → Q (some (.int ((doneO X s n).1))) (wsOf D L σ')) : Ctr l D yX5_done cX5_done 1 (some .int) (rr (d + 8)) [.ref (L 33)] (wsOf D L σ) Q := by
  refine g_start ky_X5_done (Nat.le_of_ble_eq_true rfl) ?_
  refine g_pick [0] (lv' := [(0, .ref (L 33))]) rfl ?_
  refine g_aload_n dX5_done_0 rfl 0 rfl ?_
  refine g_callV (As := []) km_X5_244 ky_X5_fault ki_X5_fault (by decide) 33 at_33 rfl rfl (Nat.le_of_ble_eq_true rfl) dX5_done_1 rfl (c_X5_faultC hp (fun e0 σ1 hf1 hI1 hn4 => ?_) (fun v hv e0 σ1 hf1 => ?_))
  · have hX1 := fp_X hf1 hX
    have hwf := wf_all s n (hn4 n (Nat.le_refl n))
    have hm : pjS s n ≤ 60 := Nat.le_trans (pj_le s n) hp.2.1
    refine g_iflt 10 dX5_done_4 (by decide) (fun h4 => ?_) (fun h4 => absurd h4 (by decide +kernel))
    refine g_aload_n dX5_done_10 rfl 0 rfl ?_
    refine g_callV (As := []) km_X5_248 ky_X5_keepNow ki_X5_keepNow (by decide) 33 at_33 rfl rfl (Nat.le_of_ble_eq_true rfl) dX5_done_11 rfl (c_X5_keepNow (fun σ2 he2 hk2 => ?_))
    have hX2 := rpM_els hX1 he2 (fun q h1 h2 => by simp; omega) (by decide)
    have hfr2 := fr_trans (fp_fr hf1) (els_fr he2 (by decide) (by decide))
    refine g_aload_n dX5_done_14 rfl 0 rfl ?_
    refine g_callV (As := []) km_X5_251 ky_X5_goDay ki_X5_goDay (by decide) 33 at_33 rfl rfl (Nat.le_of_ble_eq_true rfl) dX5_done_15 rfl (c_X5_goDayC hX2 ho ((he2.2.2.1 23 (by decide)).trans hI1.1) hm (fun j hj => els_st he2 (by decide) (hI1.2.2.1 j hj)) hwf (fun hg σ3 hf3 hX3 b25 b26 => ?_) (fun hg σ3 hf3 hX3 b25 b26 hc3 => ?_))
    · have hgl : gdS s X (pjS s n) ≤ pjS s n := gd_le _ _ _
      have hsm := dy_sme hwf (X := X) _ hgl
      have hfr3 := fr_trans hfr2 (fg_fr hf3)
      have hok := dy_ok hwf ho _ hgl
      refine g_aload_n dX5_done_18 rfl 0 rfl ?_
      refine s_getM kf_X5_233 (by decide) rfl dX5_done_19 ?_
      refine g_tope (z := nI (gdS s X (pjS s n))) (b25) ?_
      refine n_iflt (tgt := 32) dX5_done_22 (by decide) (by omega) ?_
      refine g_aload_n dX5_done_25 rfl 0 rfl ?_
      refine g_callV (As := []) km_X5_254 ky_X5_putBack ki_X5_putBack (by decide) 33 at_33 rfl rfl (Nat.le_of_ble_eq_true rfl) dX5_done_26 rfl (c_X5_backX (fg_kpt hf3 hk2) hX1 hX3 hsm (fun σ4 hf4 hX4 hs4 => ?_))
      have hfr4 := fr_trans hfr3 hf4
      refine g_bipush dX5_done_29 bp_m3 ?_
      exact g_ireturn dX5_done_31 (Nat.le_refl _) (Nat.le_refl _) (qdn h (by unfold doneO; rw [if_pos e0, if_pos hg]) (fr_frP hfr4) hX4 (fr_pad hfr4 hp))
    · have hsm := dy_sme hwf (X := X) _ (Nat.le_refl (pjS s n))
      have hfr3 := fr_trans hfr2 (fg_fr hf3)
      have hok := dy_ok hwf ho _ (Nat.le_refl (pjS s n))
      refine g_aload_n dX5_done_18 rfl 0 rfl ?_
      refine s_getM kf_X5_233 (by decide) rfl dX5_done_19 ?_
      refine g_tope (z := (-6)) (b25) ?_
      refine g_iflt 32 dX5_done_22 (by decide) (fun h22 => ?_) (fun h22 => absurd h22 (by decide +kernel))
      refine g_aload_n dX5_done_32 rfl 0 rfl ?_
      refine g_iconst dX5_done_33 ci_0 ?_
      refine s_putM kf_X5_159 (by decide) dX5_done_34 ?_
      refine g_aload_n dX5_done_37 rfl 0 rfl ?_
      refine s_getM kf_X5_170 (by decide) rfl dX5_done_38 ?_
      refine g_tope (z := nI (pjS s n)) ((sI_ne σ3 33 18 23 (by decide) (nI 0)).trans ((hf3.2.2.1 23 (by decide) (by decide)).trans ((he2.2.2.1 23 (by decide)).trans hI1.1))) ?_
      exact g_ireturn dX5_done_41 (Nat.le_refl _) (Nat.le_refl _) (qdn h (by unfold doneO; rw [if_pos e0, if_neg (by omega)]) (frP_trans (fr_frP hfr3) (frP_I 18 (nI 0))) (rpM_I hX3 18 (by omega) (nI 0)) ⟨sI_same _ _ _ _, Nat.zero_le _, fun i hi => absurd hi (Nat.not_lt_zero i), fun i hi => absurd hi (Nat.not_lt_zero i)⟩)
  · refine n_iflt (tgt := 10) dX5_done_4 (by decide) (by omega) ?_
    refine g_bipush dX5_done_7 bp_m5 ?_
    exact g_ireturn dX5_done_9 (Nat.le_refl _) (Nat.le_refl _) (qdn h (by unfold doneO; rw [if_neg (by rw [e0]; exact nI_m6 hv)]) (fr_frP (fp_fr hf1)) (fp_X hf1 hX) (fp_pad hf1 hp))
theorem qsy {Q : Option Value → va_W → Prop} {D : gE} {L : Nat → Nat} {σ : St} {X : XT} {s : Nat → Nat} {n : Nat} {x : Int32} (h : ∀ σ', frP σ σ' → rpM σ' X → pdM σ' (sayO s n x).2.1 (sayO s n x).2.2 → Q (some (.int (sayO s n x).1)) (wsOf D L σ')) {r : Int32} {s' : Nat → Nat} {n' : Nat} (e : sayO s n x = (r, s', n')) {σ' : St} (hf : frP σ σ') (hX : rpM σ' X) (hp : pdM σ' s' n') : Q (some (.int r)) (wsOf D L σ') := by
  rw [e] at h; exact h σ' hf hX hp
theorem frP_rfl {σ : St} : frP σ σ := ⟨fun _ _ => rfl, fun _ _ => rfl, rfl, rfl⟩
theorem pad_say {σ : St} {s : Nat → Nat} {n p : Nat} (hp : pdM σ s n) (hn : n < 60) (hq : p < 127) : pdM (setI (setA σ 45 (upd (sA σ 45) n (nI p))) 33 18 (nI (n + 1))) (updN s n p) (n + 1) := by
  refine ⟨sI_same _ _ _ _, by omega, fun i hi => ?_, fun i hi => ?_⟩
  · show (if i = n then nI p else sA σ 45 i) = nI (if i = n then p else s i)
    by_cases e : i = n
    · rw [if_pos e, if_pos e]
    · rw [if_neg e, if_neg e]; exact hp.2.2.1 i (by omega)
  · show (if i = n then p else s i) < 127
    by_cases e : i = n
    · rw [if_pos e]; exact hq
    · rw [if_neg e]; exact hp.2.2.2 i (by omega)
set_option maxHeartbeats 4000000 in
set_option maxRecDepth 20000 in
theorem c_X5_say {l : Launch} {D : gE} {L : Nat → Nat} {σ : St} {Q : Option Value → va_W → Prop} {d : Nat} {X : XT} (hX : rpM σ X) {s : Nat → Nat} {n : Nat} (hp : pdM σ s n) {x : Int32} (h : ∀ σ', frP σ σ' → rpM σ' X → pdM σ' (sayO s n x).2.1 (sayO s n x).2.2 → Q (some (.int ((sayO s n x).1))) (wsOf D L σ')) : Ctr l D yX5_say cX5_say 2 (some .int) (rr (d + 1)) [.ref (L 33), .int x] (wsOf D L σ) Q := by
  refine g_start ky_X5_say (Nat.le_of_ble_eq_true rfl) ?_
  refine g_pick [0, 1] (lv' := [(0, .ref (L 33)), (1, .int x)]) rfl ?_
  have hn60 := hp.2.1
  refine g_iload_n dX5_say_0 rfl 1 rfl ?_
  refine g_i2l dX5_say_1 ?_
  refine g_ldc2_w kk_X5_155 dX5_say_2 ?_
  refine g_tople (z := (nI 33).toInt64) (by decide +kernel) ?_
  refine g_ldc2_w kk_X5_157 dX5_say_5 ?_
  refine g_tople (z := (nI 126).toInt64) (by decide +kernel) ?_
  refine g_callS (As := [.long x.toInt64, .long ((nI 33).toInt64), .long ((nI 126).toInt64)]) km_X5_118 ky_X5_in ks_X5_in (by decide) rfl (Nat.le_of_ble_eq_true rfl) dX5_say_8 rfl (c_X5_inN (by omega) (by omega) (fun p8 ha8 hb8 he8 => ?_) (fun h8 => ?_))
  · subst he8
    refine t_ifne1 17 dX5_say_11 (by decide) ?_
    refine g_aload_n dX5_say_17 rfl 0 rfl ?_
    refine s_getM kf_X5_159 (by decide) rfl dX5_say_18 ?_
    refine g_tope (z := nI n) (hp.1) ?_
    refine g_bipush dX5_say_21 bp_60 ?_
    refine n_icmpne 29 dX5_say_23 (by decide) (by omega) (by omega) (fun h23 => ?_) (fun h23 => ?_)
    · refine g_aload_n dX5_say_29 rfl 0 rfl ?_
      refine s_getM kf_X5_43 (by decide) rfl dX5_say_30 ?_
      refine g_aload_n dX5_say_33 rfl 0 rfl ?_
      refine s_getM kf_X5_159 (by decide) rfl dX5_say_34 ?_
      refine g_tope (z := nI n) (hp.1) ?_
      refine g_iload_n dX5_say_37 rfl 1 rfl ?_
      refine s_ast (q := 45) (n := 60) (at_ia (q := 45) rfl) (by omega) (by decide) dX5_say_38 ?_
      refine g_aload_n dX5_say_39 rfl 0 rfl ?_
      refine g_dup dX5_say_40 rfl ?_
      refine s_getM kf_X5_159 (by decide) rfl dX5_say_41 ?_
      refine g_tope (z := nI n) (hp.1) ?_
      refine g_iconst dX5_say_44 ci_1 ?_
      refine g_iadd dX5_say_45 ?_
      refine g_tope (z := nI (n + 1)) (nI_add _ _) ?_
      refine s_putM kf_X5_159 (by decide) dX5_say_46 ?_
      refine g_aload_n dX5_say_49 rfl 0 rfl ?_
      refine s_getM kf_X5_159 (by decide) rfl dX5_say_50 ?_
      refine g_tope (z := nI (n + 1)) (sI_same _ _ _ _) ?_
      exact g_ireturn dX5_say_53 (Nat.le_refl _) (Nat.le_refl _) (qsy h (by unfold sayO; rw [inN_t (a := 33) (b := 126) (by omega) (by omega) (by omega), if_pos rfl, if_neg h23, nI_toInt (by omega)]; rfl) (frP_trans (frP_A 45 (by omega) _) (frP_I 18 _)) (rpM_I (rpM_A hX 45 (by omega) _) 18 (by omega) _) (pad_say hp (by omega) (by omega)))
    · refine g_bipush dX5_say_26 bp_m4 ?_
      exact g_ireturn dX5_say_28 (Nat.le_refl _) (Nat.le_refl _) (qsy h (by unfold sayO; rw [inN_t (a := 33) (b := 126) (by omega) (by omega) (by omega), if_pos rfl, if_pos h23]) frP_rfl hX hp)
  · refine t_ifne0 (tgt := 17) dX5_say_11 (by decide) ?_
    refine g_bipush dX5_say_14 bp_m2 ?_
    exact g_ireturn dX5_say_16 (Nat.le_refl _) (Nat.le_refl _) (qsy h (by unfold sayO; rw [inN_f (a := 33) (b := 126) (by omega) h8]; rfl) frP_rfl hX hp)
set_option maxHeartbeats 4000000 in
set_option maxRecDepth 20000 in
theorem c_X5_wipe {l : Launch} {D : gE} {L : Nat → Nat} {σ : St} {Q : Option Value → va_W → Prop} {d : Nat} {X : XT} (hX : rpM σ X) {s : Nat → Nat} {n : Nat} (hp : pdM σ s n) (h : ∀ σ', frP σ σ' → rpM σ' X → pdM σ' s 0 → Q (some (.int (nI n))) (wsOf D L σ')) : Ctr l D yX5_wipe cX5_wipe 2 (some .int) (rr d) [.ref (L 33)] (wsOf D L σ) Q := by
  refine g_start ky_X5_wipe (Nat.le_of_ble_eq_true rfl) ?_
  refine g_pick [0] (lv' := [(0, .ref (L 33))]) rfl ?_
  refine g_aload_n dX5_wipe_0 rfl 0 rfl ?_
  refine s_getM kf_X5_159 (by decide) rfl dX5_wipe_1 ?_
  refine g_tope (z := nI n) (hp.1) ?_
  refine g_istore_n (lv' := [(1, .int (nI n)), (0, .ref (L 33))]) dX5_wipe_4 rfl (by decide) rfl ?_
  refine g_aload_n dX5_wipe_5 rfl 1 rfl ?_
  refine g_iconst dX5_wipe_6 ci_0 ?_
  refine s_putM kf_X5_159 (by decide) dX5_wipe_7 ?_
  refine g_iload_n dX5_wipe_10 rfl 0 rfl ?_
  exact g_ireturn dX5_wipe_11 (Nat.le_refl _) (Nat.le_refl _) (h _ (frP_I 18 _) (rpM_I hX 18 (by omega) _) ⟨sI_same _ _ _ _, Nat.zero_le _, fun i hi => absurd hi (Nat.not_lt_zero i), fun i hi => absurd hi (Nat.not_lt_zero i)⟩)
