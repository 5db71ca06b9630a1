/-! STEPS -/
def tellE (X : XT) (a b k : Nat) : Nat × XT := if ¬ (x_th X a = true ∧ x_th X b = true) then (1, X) else if a = b ∨ ¬ x_pl X a = x_pl X b then (2, X) else if x_kn X a k = false then (3, X) else if x_kn X b k = true then (4, X) else (0, xs_kn X (updF (x_kn X) b (fun i => x_kn X b i || i == k)))
def crossE (X : XT) (p b : Nat) : Nat × XT := if x_th X p = false then (1, X) else if x_br X b = false then (5, X) else if ¬ x_pl X p = x_lo X b ∧ ¬ x_pl X p = x_hi X b then (6, X) else if x_ld X b < buX X p then (7, X) else (0, xs_pl (xs_bn X (updN (x_bn X) b (if x_bn X b < buX X p then buX X p else x_bn X b))) (updN (x_pl X) p (x_lo X b + x_hi X b - x_pl X p)))
def pubE (X : XT) (k : Nat) : Nat × XT := if x_pu X k = true then (8, X) else (0, xs_pu X (fun i => x_pu X i || i == k))
def ngt (w : Int) (f : Nat) : Int := if w ≤ 0 then w else if 0 < w - f then w - f else 0
def ntP (X : XT) (n : Nat) : XT := xs_wt X (fun k => if k < n then ngt (x_wt X k) (x_fa X) else x_wt X k)
def nightE (X : XT) : XT := ntP X 8
theorem ntP_0 (X : XT) : ntP X 0 = X := by
  refine x_ext (by simp only [ntP, x_sz_wt]) (by simp only [ntP, x_br_wt]) (by simp only [ntP, x_lo_wt]) (by simp only [ntP, x_hi_wt]) (by simp only [ntP, x_ld_wt]) (by simp only [ntP, x_bn_wt]) (by simp only [ntP, x_th_wt]) (by simp only [ntP, x_pl_wt]) (by simp only [ntP, x_ki_wt]) (by simp only [ntP, x_kn_wt]) ?_ (by simp only [ntP, x_ab_wt]) (by simp only [ntP, x_pu_wt]) (by simp only [ntP, x_fa_wt]) (by simp only [ntP, x_sg_wt]) (by simp only [ntP, x_sb_wt]) (by simp only [ntP, x_sv_wt])
  funext k
  simp only [ntP, x_wt_wt]
  simp
theorem ntP_s (X : XT) (n : Nat) (v : Int) (hv : v = ngt (x_wt X n) (x_fa X)) : xs_wt (ntP X n) (updF (x_wt (ntP X n)) n v) = ntP X (n + 1) := by
  refine x_ext (by simp only [ntP, x_sz_wt]) (by simp only [ntP, x_br_wt]) (by simp only [ntP, x_lo_wt]) (by simp only [ntP, x_hi_wt]) (by simp only [ntP, x_ld_wt]) (by simp only [ntP, x_bn_wt]) (by simp only [ntP, x_th_wt]) (by simp only [ntP, x_pl_wt]) (by simp only [ntP, x_ki_wt]) (by simp only [ntP, x_kn_wt]) ?_ (by simp only [ntP, x_ab_wt]) (by simp only [ntP, x_pu_wt]) (by simp only [ntP, x_fa_wt]) (by simp only [ntP, x_sg_wt]) (by simp only [ntP, x_sb_wt]) (by simp only [ntP, x_sv_wt])
  funext k
  simp only [ntP, x_wt_wt, updF]
  by_cases e : k = n
  · subst e; simp [hv]
  · by_cases e2 : k < n
    · simp [e, e2, Nat.lt_succ_of_lt e2]
    · simp [e, e2, show ¬ k < n + 1 by omega]
theorem ntP_fa (X : XT) (n : Nat) : x_fa (ntP X n) = x_fa X := by unfold ntP; rw [x_fa_wt]
theorem ntP_at (X : XT) (n : Nat) : x_wt (ntP X n) n = x_wt X n := by unfold ntP; rw [x_wt_wt]; simp
theorem night_sme (X : XT) : smeX (nightE X) X := sme_wt X _
theorem tell_sme (X : XT) (a b k : Nat) : smeX (tellE X a b k).2 X := by
  unfold tellE
  split
  · exact sme_rfl
  split
  · exact sme_rfl
  split
  · exact sme_rfl
  split
  · exact sme_rfl
  · exact sme_kn X _
theorem cross_sme (X : XT) (p b : Nat) : smeX (crossE X p b).2 X := by
  unfold crossE
  split
  · exact sme_rfl
  split
  · exact sme_rfl
  split
  · exact sme_rfl
  split
  · exact sme_rfl
  · exact sme_trans (sme_pl _ _) (sme_bn X _)
theorem pub_sme (X : XT) (k : Nat) : smeX (pubE X k).2 X := by
  unfold pubE
  split
  · exact sme_rfl
  · exact sme_pu X _
theorem ngt_bd {w : Int} {f : Nat} (h : -20 ≤ w ∧ w ≤ 99) : -20 ≤ ngt w f ∧ ngt w f ≤ 99 := by
  unfold ngt; split
  · exact h
  · split <;> omega
theorem ok_night {X : XT} (h : okX X) : okX (nightE X) := by
  unfold okX at h ⊢
  unfold nightE ntP
  simp only [x_sz_wt, x_lo_wt, x_hi_wt, x_ld_wt, x_bn_wt, x_br_wt, x_pl_wt, x_ki_wt, x_th_wt, x_kn_wt, x_wt_wt, x_ab_wt, x_fa_wt, x_sg_wt, x_sb_wt, x_sv_wt]
  refine ⟨h.1, h.2.1, h.2.2.1, h.2.2.2.1, h.2.2.2.2.1, h.2.2.2.2.2.1, fun k hk => ?_, h.2.2.2.2.2.2.2⟩
  have hw := h.2.2.2.2.2.2.1 k hk
  rw [if_pos hk]
  have := ngt_bd (f := x_fa X) (show -20 ≤ x_wt X k ∧ x_wt X k ≤ 99 from ⟨hw.1, hw.2.1⟩)
  exact ⟨this.1, this.2, hw.2.2⟩
theorem ok_tell {X : XT} (h : okX X) {a b k : Nat} (hb : b < 6) : okX (tellE X a b k).2 := by
  unfold tellE
  split
  · exact h
  rename_i h0
  split
  · exact h
  split
  · exact h
  split
  · exact h
  · refine ok_kn h (fun p hp ht i => ?_)
    have hne : p ≠ b := fun e => by subst e; exact h0 (by intro h3; rw [ht] at h3; exact absurd h3.2 (by decide))
    unfold updF
    rw [if_neg hne]
    exact ok_no h hp ht i
theorem ok_pub {X : XT} (h : okX X) (k : Nat) : okX (pubE X k).2 := by
  unfold pubE
  split
  · exact h
  · exact ok_pu h _
theorem ok_cross {X : XT} (h : okX X) {p b : Nat} (hp : p < 6) (hb : b < 8) : okX (crossE X p b).2 := by
  unfold crossE
  split
  · exact h
  rename_i h1
  split
  · exact h
  rename_i h2
  split
  · exact h
  rename_i h3
  split
  · exact h
  rename_i h4
  have hbr := ok_br h hb (by simpa using h2)
  have hbb := ok_b h hb
  have hbu := bu_bd h p
  have hth : x_th X p = true := by simpa using h1
  have hpl := ok_th h hp hth
  unfold okX at h ⊢
  simp only [x_sz_pl, x_lo_pl, x_hi_pl, x_ld_pl, x_bn_pl, x_br_pl, x_pl_pl, x_ki_pl, x_th_pl, x_kn_pl, x_wt_pl, x_ab_pl, x_fa_pl, x_sg_pl, x_sb_pl, x_sv_pl, x_sz_bn, x_lo_bn, x_hi_bn, x_ld_bn, x_bn_bn, x_br_bn, x_pl_bn, x_ki_bn, x_th_bn, x_kn_bn, x_wt_bn, x_ab_bn, x_fa_bn, x_sg_bn, x_sb_bn, x_sv_bn]
  refine ⟨h.1, fun i hi => ?_, h.2.2.1, fun i hi => ?_, fun i hi ht => ?_, h.2.2.2.2.2⟩
  · have := h.2.1 i hi
    refine ⟨this.1, this.2.1, this.2.2.1, ?_⟩
    unfold updN
    split
    · split <;> omega
    · exact this.2.2.2
  · have := h.2.2.2.1 i hi
    refine ⟨?_, this.2⟩
    unfold updN
    split
    · omega
    · exact this.1
  · unfold updN
    split
    · omega
    · exact h.2.2.2.2.1 i hi ht
/-! what a DAY may change -/
def fd (σ σ' : St) : Prop := (∀ q, q ≠ 37 → q ≠ 38 → q ≠ 40 → q ≠ 41 → sA σ' q = sA σ q) ∧ (∀ o, o ≠ 33 → sI σ' o = sI σ o) ∧ (∀ k, k ≠ 3 → k ≠ 27 → k ≠ 28 → k ≠ 29 → sI σ' 33 k = sI σ 33 k) ∧ sK σ' = sK σ ∧ sM σ' = sM σ
theorem fd_rfl {σ : St} : fd σ σ := ⟨fun _ _ _ _ _ => rfl, fun _ _ => rfl, fun _ _ _ _ _ => rfl, rfl, rfl⟩
theorem fd_trans {a b c : St} (h : fd a b) (g : fd b c) : fd a c := ⟨fun q h1 h2 h3 h4 => (g.1 q h1 h2 h3 h4).trans (h.1 q h1 h2 h3 h4), fun o ho => (g.2.1 o ho).trans (h.2.1 o ho), fun k h1 h2 h3 h4 => (g.2.2.1 k h1 h2 h3 h4).trans (h.2.2.1 k h1 h2 h3 h4), g.2.2.2.1.trans h.2.2.2.1, g.2.2.2.2.trans h.2.2.2.2⟩
theorem fd_A {a b : St} (h : fd a b) (q : Nat) (hq : q = 37 ∨ q = 38 ∨ q = 40 ∨ q = 41) (f : Nat → Int32) : fd a (setA b q f) := fd_trans h ⟨fun r h1 h2 h3 h4 => if_neg (by omega), fun _ _ => rfl, fun _ _ _ _ _ => rfl, rfl, rfl⟩
theorem sI_ne (σ : St) (o k j : Nat) (h : j ≠ k) (x : Int32) : sI (setI σ o k x) o j = sI σ o j := by
  show (if o = o then upd (sI σ o) k x else sI σ o) j = _
  rw [if_pos rfl]
  exact if_neg h
theorem fd_I {a b : St} (h : fd a b) (k : Nat) (hk : k = 3 ∨ k = 27 ∨ k = 28 ∨ k = 29) (x : Int32) : fd a (setI b 33 k x) := fd_trans h ⟨fun _ _ _ _ _ => rfl, fun o ho => if_neg ho, fun j h1 h2 h3 h4 => sI_ne b 33 k j (by omega) x, rfl, rfl⟩
theorem fd_fr {a b : St} (h : fd a b) : fr a b := ⟨h.2.1, fun q hq => h.1 q (by omega) (by omega) (by omega) (by omega), h.2.2.1 18 (by omega) (by omega) (by omega) (by omega), h.2.2.2.1, h.2.2.2.2⟩
theorem fd_kpt {σ0 a b : St} (h : fd a b) (hk : kpt σ0 a) : kpt σ0 b := by
  refine ⟨fun p hp => ?_, fun k hq => ?_, ?_⟩
  · rw [h.1 50 (by omega) (by omega) (by omega) (by omega), h.1 51 (by omega) (by omega) (by omega) (by omega)]; exact hk.1 p hp
  · rw [h.1 52 (by omega) (by omega) (by omega) (by omega), h.1 53 (by omega) (by omega) (by omega) (by omega)]; exact hk.2.1 k hq
  · rw [h.2.2.1 34 (by omega) (by omega) (by omega) (by omega)]; exact hk.2.2
/-- counters: tellings, crossings, nights -/
def ctr (σ : St) (t c n : Nat) : Prop := sI σ 33 27 = nI t ∧ sI σ 33 28 = nI c ∧ sI σ 33 29 = nI n
theorem qe {E : Nat × XT} {w : Nat} {X' : XT} {P : St → Prop} {R : St → Prop} {Q : Option Value → va_W → Prop} {D : gE} {L : Nat → Nat} {σ' : St} (e : E = (w, X')) (h : ∀ σ', P σ' → rpM σ' E.2 → R σ' → Q (some (.int (nI E.1))) (wsOf D L σ')) (hp : P σ') (hX : rpM σ' X') (hr : R σ') : Q (some (.int (nI w))) (wsOf D L σ') := by
  subst e; exact h σ' hp hX hr
set_option maxHeartbeats 4000000 in
set_option maxRecDepth 20000 in
theorem c_X5_tell {l : Launch} {D : gE} {L : Nat → Nat} {σ : St} {Q : Option Value → va_W → Prop} {d : Nat} {X : XT} (hX : rpM σ X) (ho : okX X) {a b k : Nat} (ha : a < 6) (hb : b < 6) (hk : k < 8) {t c n : Nat} (hc : ctr σ t c n) (hb9 : t < 1000000 ∧ c < 1000000 ∧ n < 1000000) (ht : ∀ {w : Nat}, tellE X a b k = (w + 1, X) → ∀ σ', fd σ σ' → rpM σ' X → ctr σ' t c n → Q (some (.int (nI (w + 1)))) (wsOf D L σ')) (ht0 : ∀ {X' : XT}, tellE X a b k = (0, X') → ∀ σ', fd σ σ' → rpM σ' X' → ctr σ' (t + 1) c n → Q (some (.int (nI 0))) (wsOf D L σ')) : Ctr l D yX5_tell cX5_tell 4 (some .int) (rr (d + 2)) [.ref (L 33), .int (nI a), .int (nI b), .int (nI k)] (wsOf D L σ) Q := by
  refine g_start ky_X5_tell (Nat.le_of_ble_eq_true rfl) ?_
  refine g_pick [0, 1, 2, 3] (lv' := [(0, .ref (L 33)), (1, .int (nI a)), (2, .int (nI b)), (3, .int (nI k))]) rfl ?_
  obtain ⟨c27, c28, c29⟩ := hc
  have hfd : fd σ σ := fd_rfl
  have hpa := ok_p ho ha
  have hpb := ok_p ho hb
  refine g_aload_n dX5_tell_0 rfl 0 rfl ?_
  refine g_iload_n dX5_tell_1 rfl 1 rfl ?_
  refine g_callV (As := [.int (nI a)]) km_X5_143 ky_X5_isThere ki_X5_isThere (by decide) 33 at_33 rfl rfl (Nat.le_of_ble_eq_true rfl) dX5_tell_2 rfl (c_X5_isThereN hX (by omega) (fun h2 => ?_) (fun h2 => ?_))
  · refine t_ifeq1 (tgt := 16) dX5_tell_5 (by decide) ?_
    refine g_aload_n dX5_tell_8 rfl 0 rfl ?_
    refine g_iload_n dX5_tell_9 rfl 2 rfl ?_
    refine g_callV (As := [.int (nI b)]) km_X5_143 ky_X5_isThere ki_X5_isThere (by decide) 33 at_33 rfl rfl (Nat.le_of_ble_eq_true rfl) dX5_tell_10 rfl (c_X5_isThereN hX (by omega) (fun h10 => ?_) (fun h10 => ?_))
    · refine t_ifne1 18 dX5_tell_13 (by decide) ?_
      refine g_iload_n dX5_tell_18 rfl 1 rfl ?_
      refine g_iload_n dX5_tell_19 rfl 2 rfl ?_
      refine n_icmpeq 38 dX5_tell_20 (by decide) (by omega) (by omega) (fun h20 => ?_) (fun h20 => ?_)
      · refine g_iconst dX5_tell_38 ci_2 ?_
        exact g_ireturn dX5_tell_39 (Nat.le_refl _) (Nat.le_refl _) (ht (by unfold tellE; rw [if_neg (fun q => q ⟨h2, h10⟩), if_pos (Or.inl h20)]) _ hfd hX ⟨c27, c28, c29⟩)
      · refine g_aload_n dX5_tell_23 rfl 0 rfl ?_
        refine s_getM kf_X5_22 (by decide) rfl dX5_tell_24 ?_
        refine g_iload_n dX5_tell_27 rfl 1 rfl ?_
        refine s_ald (q := 38) (n := 6) (at_ia (q := 38) rfl) (by omega) (by decide) dX5_tell_28 ?_
        refine g_tope (z := nI (x_pl X a)) (rpM_pl hX (by omega)) ?_
        refine g_aload_n dX5_tell_29 rfl 0 rfl ?_
        refine s_getM kf_X5_22 (by decide) rfl dX5_tell_30 ?_
        refine g_iload_n dX5_tell_33 rfl 2 rfl ?_
        refine s_ald (q := 38) (n := 6) (at_ia (q := 38) rfl) (by omega) (by decide) dX5_tell_34 ?_
        refine g_tope (z := nI (x_pl X b)) (rpM_pl hX (by omega)) ?_
        refine n_icmpeq 40 dX5_tell_35 (by decide) (by omega) (by omega) (fun h35 => ?_) (fun h35 => ?_)
        · refine g_aload_n dX5_tell_40 rfl 0 rfl ?_
          refine s_getM kf_X5_28 (by decide) rfl dX5_tell_41 ?_
          refine g_iload_n dX5_tell_44 rfl 1 rfl ?_
          refine s_ald (q := 40) (n := 6) (at_ia (q := 40) rfl) (by omega) (by decide) dX5_tell_45 ?_
          refine g_tope (z := nI (bitsN (x_kn X a) 8)) (rpM_kn hX (by omega) (by assumption)) ?_
          refine g_iload_n dX5_tell_46 rfl 3 rfl ?_
          refine g_ishr dX5_tell_47 ?_
          refine g_iconst dX5_tell_48 ci_1 ?_
          refine g_iand dX5_tell_49 ?_
          refine g_tope (z := nI (b2n ((x_kn X a) k))) (gbB _ (by decide) (by omega)) ?_
          refine b_ifne 55 dX5_tell_50 (by decide) (fun h50 => ?_) (fun h50 => ?_)
          · refine g_aload_n dX5_tell_55 rfl 0 rfl ?_
            refine s_getM kf_X5_28 (by decide) rfl dX5_tell_56 ?_
            refine g_iload_n dX5_tell_59 rfl 2 rfl ?_
            refine s_ald (q := 40) (n := 6) (at_ia (q := 40) rfl) (by omega) (by decide) dX5_tell_60 ?_
            refine g_tope (z := nI (bitsN (x_kn X b) 8)) (rpM_kn hX (by omega) (by assumption)) ?_
            refine g_iload_n dX5_tell_61 rfl 3 rfl ?_
            refine g_ishr dX5_tell_62 ?_
            refine g_iconst dX5_tell_63 ci_1 ?_
            refine g_iand dX5_tell_64 ?_
            refine g_tope (z := nI (b2n ((x_kn X b) k))) (gbB _ (by decide) (by omega)) ?_
            refine g_iconst dX5_tell_65 ci_1 ?_
            refine b_icmpne 71 dX5_tell_66 (by decide) (fun h66 => ?_) (fun h66 => ?_)
            · refine g_aload_n dX5_tell_71 rfl 0 rfl ?_
              refine s_getM kf_X5_28 (by decide) rfl dX5_tell_72 ?_
              refine g_iload_n dX5_tell_75 rfl 2 rfl ?_
              refine g_dup2 dX5_tell_76 rfl rfl ?_
              refine s_ald (q := 40) (n := 6) (at_ia (q := 40) rfl) (by omega) (by decide) dX5_tell_77 ?_
              refine g_tope (z := nI (bitsN (x_kn X b) 8)) (rpM_kn hX (by omega) (by assumption)) ?_
              refine g_iconst dX5_tell_78 ci_1 ?_
              refine g_iload_n dX5_tell_79 rfl 3 rfl ?_
              refine g_ishl dX5_tell_80 ?_
              refine g_ior dX5_tell_81 ?_
              refine g_tope (z := nI (bitsN (fun i => (x_kn X b) i || i == k) 8)) (obB _ (by decide) (by omega)) ?_
              refine s_ast (q := 40) (n := 6) (at_ia (q := 40) rfl) (by omega) (by decide) dX5_tell_82 ?_
              have hX := rpM_skn hX b (fun i => (x_kn X b) i || i == k)
              have hfd := fd_A hfd 40 (by omega) (upd (sA σ 40) b (nI (bitsN (fun i => (x_kn X b) i || i == k) 8)))
              have c27 : sI (setA σ 40 (upd (sA σ 40) b (nI (bitsN (fun i => (x_kn X b) i || i == k) 8)))) 33 27 = _ := c27
              have c28 : sI (setA σ 40 (upd (sA σ 40) b (nI (bitsN (fun i => (x_kn X b) i || i == k) 8)))) 33 28 = _ := c28
              have c29 : sI (setA σ 40 (upd (sA σ 40) b (nI (bitsN (fun i => (x_kn X b) i || i == k) 8)))) 33 29 = _ := c29
              generalize setA σ 40 (upd (sA σ 40) b (nI (bitsN (fun i => (x_kn X b) i || i == k) 8))) = σw42 at hX hfd c27 c28 c29 ⊢
              refine g_aload_n dX5_tell_83 rfl 0 rfl ?_
              refine g_dup dX5_tell_84 rfl ?_
              refine s_getM kf_X5_209 (by decide) rfl dX5_tell_85 ?_
              refine g_tope (z := nI t) (c27) ?_
              refine g_iconst dX5_tell_88 ci_1 ?_
              refine g_iadd dX5_tell_89 ?_
              refine g_tope (z := nI (t + 1)) (nI_add _ _) ?_
              refine s_putM kf_X5_209 (by decide) dX5_tell_90 ?_
              have hX := rpM_I hX 27 (by omega) (nI (t + 1))
              have hfd := fd_I hfd 27 (by omega) (nI (t + 1))
              have c27 : sI (setI σw42 33 27 (nI (t + 1))) 33 27 = nI (t + 1) := sI_same _ _ _ _
              have c28 := (sI_ne σw42 33 27 28 (by decide) (nI (t + 1))).trans c28
              have c29 := (sI_ne σw42 33 27 29 (by decide) (nI (t + 1))).trans c29
              generalize setI σw42 33 27 (nI (t + 1)) = σw43 at hX hfd c27 c28 c29 ⊢
              refine g_iconst dX5_tell_93 ci_0 ?_
              exact g_ireturn dX5_tell_94 (Nat.le_refl _) (Nat.le_refl _) (ht0 (by unfold tellE; rw [if_neg (fun q => q ⟨h2, h10⟩), if_neg (by rintro (q | q); exact h20 q; exact q h35), if_neg (by rw [h50]; decide), if_neg (by rw [h66]; decide)]) _ hfd hX ⟨c27, c28, c29⟩)
            · refine g_iconst dX5_tell_69 ci_4 ?_
              exact g_ireturn dX5_tell_70 (Nat.le_refl _) (Nat.le_refl _) (ht (by unfold tellE; rw [if_neg (fun q => q ⟨h2, h10⟩), if_neg (by rintro (q | q); exact h20 q; exact q h35), if_neg (by rw [h50]; decide), if_pos h66]) _ hfd hX ⟨c27, c28, c29⟩)
          · refine g_iconst dX5_tell_53 ci_3 ?_
            exact g_ireturn dX5_tell_54 (Nat.le_refl _) (Nat.le_refl _) (ht (by unfold tellE; rw [if_neg (fun q => q ⟨h2, h10⟩), if_neg (by rintro (q | q); exact h20 q; exact q h35), if_pos h50]) _ hfd hX ⟨c27, c28, c29⟩)
        · refine g_iconst dX5_tell_38 ci_2 ?_
          exact g_ireturn dX5_tell_39 (Nat.le_refl _) (Nat.le_refl _) (ht (by unfold tellE; rw [if_neg (fun q => q ⟨h2, h10⟩), if_pos (Or.inr h35)]) _ hfd hX ⟨c27, c28, c29⟩)
    · refine t_ifne0 (tgt := 18) dX5_tell_13 (by decide) ?_
      refine g_iconst dX5_tell_16 ci_1 ?_
      exact g_ireturn dX5_tell_17 (Nat.le_refl _) (Nat.le_refl _) (ht (by unfold tellE; rw [if_pos (by rw [h10]; simp)]) _ hfd hX ⟨c27, c28, c29⟩)
  · refine t_ifeq0 16 dX5_tell_5 (by decide) ?_
    refine g_iconst dX5_tell_16 ci_1 ?_
    exact g_ireturn dX5_tell_17 (Nat.le_refl _) (Nat.le_refl _) (ht (by unfold tellE; rw [if_pos (by rw [h2]; simp)]) _ hfd hX ⟨c27, c28, c29⟩)
set_option maxHeartbeats 4000000 in
set_option maxRecDepth 20000 in
theorem c_X5_cross {l : Launch} {D : gE} {L : Nat → Nat} {σ : St} {Q : Option Value → va_W → Prop} {d : Nat} {X : XT} (hX : rpM σ X) (ho : okX X) {p b : Nat} (hp : p < 6) (hb : b < 8) {t c n : Nat} (hc : ctr σ t c n) (hb9 : t < 1000000 ∧ c < 1000000 ∧ n < 1000000) (ht : ∀ {w : Nat}, crossE X p b = (w + 1, X) → ∀ σ', fd σ σ' → rpM σ' X → ctr σ' t c n → Q (some (.int (nI (w + 1)))) (wsOf D L σ')) (ht0 : ∀ {X' : XT}, crossE X p b = (0, X') → ∀ σ', fd σ σ' → rpM σ' X' → ctr σ' t (c + 1) n → Q (some (.int (nI 0))) (wsOf D L σ')) : Ctr l D yX5_cross cX5_cross 4 (some .int) (rr (d + 5)) [.ref (L 33), .int (nI p), .int (nI b)] (wsOf D L σ) Q := by
  refine g_start ky_X5_cross (Nat.le_of_ble_eq_true rfl) ?_
  refine g_pick [0, 1, 2] (lv' := [(0, .ref (L 33)), (1, .int (nI p)), (2, .int (nI b))]) rfl ?_
  obtain ⟨c27, c28, c29⟩ := hc
  have hfd : fd σ σ := fd_rfl
  have hpp := ok_p ho hp
  have hbb := ok_b ho hb
  have hbu := bu_bd ho p
  refine g_aload_n dX5_cross_0 rfl 0 rfl ?_
  refine g_iload_n dX5_cross_1 rfl 1 rfl ?_
  refine g_callV (As := [.int (nI p)]) km_X5_143 ky_X5_isThere ki_X5_isThere (by decide) 33 at_33 rfl rfl (Nat.le_of_ble_eq_true rfl) dX5_cross_2 rfl (c_X5_isThereN hX (by omega) (fun h2 => ?_) (fun h2 => ?_))
  · refine t_ifne1 10 dX5_cross_5 (by decide) ?_
    refine g_aload_n dX5_cross_10 rfl 0 rfl ?_
    refine g_iload_n dX5_cross_11 rfl 2 rfl ?_
    refine g_callV (As := [.int (nI b)]) km_X5_140 ky_X5_isBridge ki_X5_isBridge (by decide) 33 at_33 rfl rfl (Nat.le_of_ble_eq_true rfl) dX5_cross_12 rfl (c_X5_isBridgeN hX (by omega) (fun h12 => ?_) (fun h12 => ?_))
    · refine t_ifne1 20 dX5_cross_15 (by decide) ?_
      refine g_aload_n dX5_cross_20 rfl 0 rfl ?_
      refine s_getM kf_X5_22 (by decide) rfl dX5_cross_21 ?_
      refine g_iload_n dX5_cross_24 rfl 1 rfl ?_
      refine s_ald (q := 38) (n := 6) (at_ia (q := 38) rfl) (by omega) (by decide) dX5_cross_25 ?_
      refine g_tope (z := nI (x_pl X p)) (rpM_pl hX (by omega)) ?_
      refine g_aload_n dX5_cross_26 rfl 0 rfl ?_
      refine s_getM kf_X5_7 (by decide) rfl dX5_cross_27 ?_
      refine g_iload_n dX5_cross_30 rfl 2 rfl ?_
      refine s_ald (q := 34) (n := 8) (at_ia (q := 34) rfl) (by omega) (by decide) dX5_cross_31 ?_
      refine g_tope (z := nI (x_lo X b)) (rpM_lo hX (by omega)) ?_
      refine n_icmpeq 53 dX5_cross_32 (by decide) (by omega) (by omega) (fun h32 => ?_) (fun h32 => ?_)
      · refine g_aload_n dX5_cross_53 rfl 0 rfl ?_
        refine g_iload_n dX5_cross_54 rfl 1 rfl ?_
        refine g_callV (As := [.int (nI p)]) km_X5_206 ky_X5_carriedBy ki_X5_carriedBy (by decide) 33 at_33 rfl rfl (Nat.le_of_ble_eq_true rfl) dX5_cross_55 rfl (c_X5_carriedBy hX ho (by omega) (by assumption) ?_)
        refine g_istore_n (lv' := [(3, .int (nI (buX X p))), (0, .ref (L 33)), (1, .int (nI p)), (2, .int (nI b))]) dX5_cross_58 rfl (by decide) rfl ?_
        refine g_iload_n dX5_cross_59 rfl 0 rfl ?_
        refine g_aload_n dX5_cross_60 rfl 1 rfl ?_
        refine s_getM kf_X5_16 (by decide) rfl dX5_cross_61 ?_
        refine g_iload_n dX5_cross_64 rfl 3 rfl ?_
        refine s_ald (q := 36) (n := 8) (at_ia (q := 36) rfl) (by omega) (by decide) dX5_cross_65 ?_
        refine g_tope (z := nI (x_ld X b)) (rpM_ld hX (by omega)) ?_
        refine n_icmple 72 dX5_cross_66 (by decide) (by omega) (by omega) (fun h66 => ?_) (fun h66 => ?_)
        · have hol := oe_lt ho hb (Or.inl h32.symm)
          refine g_aload_n dX5_cross_72 rfl 1 rfl ?_
          refine s_getM kf_X5_19 (by decide) rfl dX5_cross_73 ?_
          refine g_iload_n dX5_cross_76 rfl 3 rfl ?_
          refine g_iload_n dX5_cross_77 rfl 0 rfl ?_
          refine g_aload_n dX5_cross_78 rfl 1 rfl ?_
          refine s_getM kf_X5_19 (by decide) rfl dX5_cross_79 ?_
          refine g_iload_n dX5_cross_82 rfl 3 rfl ?_
          refine s_ald (q := 37) (n := 8) (at_ia (q := 37) rfl) (by omega) (by decide) dX5_cross_83 ?_
          refine g_tope (z := nI (x_bn X b)) (rpM_bn hX (by omega)) ?_
          refine n_icmple 91 dX5_cross_84 (by decide) (by omega) (by omega) (fun h84 => ?_) (fun h84 => ?_)
          · refine g_aload_n dX5_cross_91 rfl 1 rfl ?_
            refine s_getM kf_X5_19 (by decide) rfl dX5_cross_92 ?_
            refine g_iload_n dX5_cross_95 rfl 3 rfl ?_
            refine s_ald (q := 37) (n := 8) (at_ia (q := 37) rfl) (by omega) (by decide) dX5_cross_96 ?_
            refine g_tope (z := nI (x_bn X b)) (rpM_bn hX (by omega)) ?_
            refine s_ast (q := 37) (n := 8) (at_ia (q := 37) rfl) (by omega) (by decide) dX5_cross_97 ?_
            have hX := rpM_sbn hX b (x_bn X b)
            have hfd := fd_A hfd 37 (by omega) (upd (sA σ 37) b (nI (x_bn X b)))
            have c27 : sI (setA σ 37 (upd (sA σ 37) b (nI (x_bn X b)))) 33 27 = _ := c27
            have c28 : sI (setA σ 37 (upd (sA σ 37) b (nI (x_bn X b)))) 33 28 = _ := c28
            have c29 : sI (setA σ 37 (upd (sA σ 37) b (nI (x_bn X b)))) 33 29 = _ := c29
            generalize setA σ 37 (upd (sA σ 37) b (nI (x_bn X b))) = σw44 at hX hfd c27 c28 c29 ⊢
            refine g_aload_n dX5_cross_98 rfl 1 rfl ?_
            refine s_getM kf_X5_22 (by decide) rfl dX5_cross_99 ?_
            refine g_iload_n dX5_cross_102 rfl 2 rfl ?_
            refine g_aload_n dX5_cross_103 rfl 1 rfl ?_
            refine s_getM kf_X5_7 (by decide) rfl dX5_cross_104 ?_
            refine g_iload_n dX5_cross_107 rfl 3 rfl ?_
            refine s_ald (q := 34) (n := 8) (at_ia (q := 34) rfl) (by omega) (by decide) dX5_cross_108 ?_
            refine g_tope (z := nI ((x_lo X) b)) ((rpM_lo hX (by omega)).trans (by simp only [x_lo_bn])) ?_
            refine g_aload_n dX5_cross_109 rfl 1 rfl ?_
            refine s_getM kf_X5_13 (by decide) rfl dX5_cross_110 ?_
            refine g_iload_n dX5_cross_113 rfl 3 rfl ?_
            refine s_ald (q := 35) (n := 8) (at_ia (q := 35) rfl) (by omega) (by decide) dX5_cross_114 ?_
            refine g_tope (z := nI ((x_hi X) b)) ((rpM_hi hX (by omega)).trans (by simp only [x_hi_bn])) ?_
            refine g_iadd dX5_cross_115 ?_
            refine g_tope (z := nI ((x_lo X) b + ((x_hi X) b))) (nI_add _ _) ?_
            refine g_aload_n dX5_cross_116 rfl 1 rfl ?_
            refine s_getM kf_X5_22 (by decide) rfl dX5_cross_117 ?_
            refine g_iload_n dX5_cross_120 rfl 2 rfl ?_
            refine s_ald (q := 38) (n := 6) (at_ia (q := 38) rfl) (by omega) (by decide) dX5_cross_121 ?_
            refine g_tope (z := nI ((x_pl X) p)) ((rpM_pl hX (by omega)).trans (by simp only [x_pl_bn])) ?_
            refine g_isub dX5_cross_122 ?_
            refine g_tope (z := nI (((x_lo X) b + ((x_hi X) b)) - ((x_pl X) p))) (pk_sub (by omega)) ?_
            refine s_ast (q := 38) (n := 6) (at_ia (q := 38) rfl) (by omega) (by decide) dX5_cross_123 ?_
            have hX := rpM_spl hX p (((x_lo X) b + ((x_hi X) b)) - ((x_pl X) p))
            simp only [x_pl_bn] at hX
            have hfd := fd_A hfd 38 (by omega) (upd (sA σw44 38) p (nI (((x_lo X) b + ((x_hi X) b)) - ((x_pl X) p))))
            have c27 : sI (setA σw44 38 (upd (sA σw44 38) p (nI (((x_lo X) b + ((x_hi X) b)) - ((x_pl X) p))))) 33 27 = _ := c27
            have c28 : sI (setA σw44 38 (upd (sA σw44 38) p (nI (((x_lo X) b + ((x_hi X) b)) - ((x_pl X) p))))) 33 28 = _ := c28
            have c29 : sI (setA σw44 38 (upd (sA σw44 38) p (nI (((x_lo X) b + ((x_hi X) b)) - ((x_pl X) p))))) 33 29 = _ := c29
            generalize setA σw44 38 (upd (sA σw44 38) p (nI (((x_lo X) b + ((x_hi X) b)) - ((x_pl X) p)))) = σw45 at hX hfd c27 c28 c29 ⊢
            refine g_aload_n dX5_cross_124 rfl 1 rfl ?_
            refine g_dup dX5_cross_125 rfl ?_
            refine s_getM kf_X5_212 (by decide) rfl dX5_cross_126 ?_
            refine g_tope (z := nI c) (c28) ?_
            refine g_iconst dX5_cross_129 ci_1 ?_
            refine g_iadd dX5_cross_130 ?_
            refine g_tope (z := nI (c + 1)) (nI_add _ _) ?_
            refine s_putM kf_X5_212 (by decide) dX5_cross_131 ?_
            have hX := rpM_I hX 28 (by omega) (nI (c + 1))
            have hfd := fd_I hfd 28 (by omega) (nI (c + 1))
            have c27 := (sI_ne σw45 33 28 27 (by decide) (nI (c + 1))).trans c27
            have c28 : sI (setI σw45 33 28 (nI (c + 1))) 33 28 = nI (c + 1) := sI_same _ _ _ _
            have c29 := (sI_ne σw45 33 28 29 (by decide) (nI (c + 1))).trans c29
            generalize setI σw45 33 28 (nI (c + 1)) = σw46 at hX hfd c27 c28 c29 ⊢
            refine g_iconst dX5_cross_134 ci_0 ?_
            exact g_ireturn dX5_cross_135 (Nat.le_refl _) (Nat.le_refl _) (ht0 (by unfold crossE; rw [if_neg (by rw [h2]; decide), if_neg (by rw [h12]; decide), if_neg (fun q => q.1 h32), if_neg (show ¬ x_ld X b < buX X p by omega), if_neg (show ¬ x_bn X b < buX X p by omega)]) _ hfd hX ⟨c27, c28, c29⟩)
          · refine g_iload_n dX5_cross_87 rfl 0 rfl ?_
            refine g_goto 97 dX5_cross_88 (by decide) ?_
            refine s_ast (q := 37) (n := 8) (at_ia (q := 37) rfl) (by omega) (by decide) dX5_cross_97 ?_
            have hX := rpM_sbn hX b (buX X p)
            have hfd := fd_A hfd 37 (by omega) (upd (sA σ 37) b (nI (buX X p)))
            have c27 : sI (setA σ 37 (upd (sA σ 37) b (nI (buX X p)))) 33 27 = _ := c27
            have c28 : sI (setA σ 37 (upd (sA σ 37) b (nI (buX X p)))) 33 28 = _ := c28
            have c29 : sI (setA σ 37 (upd (sA σ 37) b (nI (buX X p)))) 33 29 = _ := c29
            generalize setA σ 37 (upd (sA σ 37) b (nI (buX X p))) = σw47 at hX hfd c27 c28 c29 ⊢
            refine g_aload_n dX5_cross_98 rfl 1 rfl ?_
            refine s_getM kf_X5_22 (by decide) rfl dX5_cross_99 ?_
            refine g_iload_n dX5_cross_102 rfl 2 rfl ?_
            refine g_aload_n dX5_cross_103 rfl 1 rfl ?_
            refine s_getM kf_X5_7 (by decide) rfl dX5_cross_104 ?_
            refine g_iload_n dX5_cross_107 rfl 3 rfl ?_
            refine s_ald (q := 34) (n := 8) (at_ia (q := 34) rfl) (by omega) (by decide) dX5_cross_108 ?_
            refine g_tope (z := nI ((x_lo X) b)) ((rpM_lo hX (by omega)).trans (by simp only [x_lo_bn])) ?_
            refine g_aload_n dX5_cross_109 rfl 1 rfl ?_
            refine s_getM kf_X5_13 (by decide) rfl dX5_cross_110 ?_
            refine g_iload_n dX5_cross_113 rfl 3 rfl ?_
            refine s_ald (q := 35) (n := 8) (at_ia (q := 35) rfl) (by omega) (by decide) dX5_cross_114 ?_
            refine g_tope (z := nI ((x_hi X) b)) ((rpM_hi hX (by omega)).trans (by simp only [x_hi_bn])) ?_
            refine g_iadd dX5_cross_115 ?_
            refine g_tope (z := nI ((x_lo X) b + ((x_hi X) b))) (nI_add _ _) ?_
            refine g_aload_n dX5_cross_116 rfl 1 rfl ?_
            refine s_getM kf_X5_22 (by decide) rfl dX5_cross_117 ?_
            refine g_iload_n dX5_cross_120 rfl 2 rfl ?_
            refine s_ald (q := 38) (n := 6) (at_ia (q := 38) rfl) (by omega) (by decide) dX5_cross_121 ?_
            refine g_tope (z := nI ((x_pl X) p)) ((rpM_pl hX (by omega)).trans (by simp only [x_pl_bn])) ?_
            refine g_isub dX5_cross_122 ?_
            refine g_tope (z := nI (((x_lo X) b + ((x_hi X) b)) - ((x_pl X) p))) (pk_sub (by omega)) ?_
            refine s_ast (q := 38) (n := 6) (at_ia (q := 38) rfl) (by omega) (by decide) dX5_cross_123 ?_
            have hX := rpM_spl hX p (((x_lo X) b + ((x_hi X) b)) - ((x_pl X) p))
            simp only [x_pl_bn] at hX
            have hfd := fd_A hfd 38 (by omega) (upd (sA σw47 38) p (nI (((x_lo X) b + ((x_hi X) b)) - ((x_pl X) p))))
            have c27 : sI (setA σw47 38 (upd (sA σw47 38) p (nI (((x_lo X) b + ((x_hi X) b)) - ((x_pl X) p))))) 33 27 = _ := c27
            have c28 : sI (setA σw47 38 (upd (sA σw47 38) p (nI (((x_lo X) b + ((x_hi X) b)) - ((x_pl X) p))))) 33 28 = _ := c28
            have c29 : sI (setA σw47 38 (upd (sA σw47 38) p (nI (((x_lo X) b + ((x_hi X) b)) - ((x_pl X) p))))) 33 29 = _ := c29
            generalize setA σw47 38 (upd (sA σw47 38) p (nI (((x_lo X) b + ((x_hi X) b)) - ((x_pl X) p)))) = σw48 at hX hfd c27 c28 c29 ⊢
            refine g_aload_n dX5_cross_124 rfl 1 rfl ?_
            refine g_dup dX5_cross_125 rfl ?_
            refine s_getM kf_X5_212 (by decide) rfl dX5_cross_126 ?_
            refine g_tope (z := nI c) (c28) ?_
            refine g_iconst dX5_cross_129 ci_1 ?_
            refine g_iadd dX5_cross_130 ?_
            refine g_tope (z := nI (c + 1)) (nI_add _ _) ?_
            refine s_putM kf_X5_212 (by decide) dX5_cross_131 ?_
            have hX := rpM_I hX 28 (by omega) (nI (c + 1))
            have hfd := fd_I hfd 28 (by omega) (nI (c + 1))
            have c27 := (sI_ne σw48 33 28 27 (by decide) (nI (c + 1))).trans c27
            have c28 : sI (setI σw48 33 28 (nI (c + 1))) 33 28 = nI (c + 1) := sI_same _ _ _ _
            have c29 := (sI_ne σw48 33 28 29 (by decide) (nI (c + 1))).trans c29
            generalize setI σw48 33 28 (nI (c + 1)) = σw49 at hX hfd c27 c28 c29 ⊢
            refine g_iconst dX5_cross_134 ci_0 ?_
            exact g_ireturn dX5_cross_135 (Nat.le_refl _) (Nat.le_refl _) (ht0 (by unfold crossE; rw [if_neg (by rw [h2]; decide), if_neg (by rw [h12]; decide), if_neg (fun q => q.1 h32), if_neg (show ¬ x_ld X b < buX X p by omega), if_pos h84]) _ hfd hX ⟨c27, c28, c29⟩)
        · refine g_bipush dX5_cross_69 bp_7 ?_
          exact g_ireturn dX5_cross_71 (Nat.le_refl _) (Nat.le_refl _) (ht (by unfold crossE; rw [if_neg (by rw [h2]; decide), if_neg (by rw [h12]; decide), if_neg (fun q => q.1 h32), if_pos h66]) _ hfd hX ⟨c27, c28, c29⟩)
      · refine g_aload_n dX5_cross_35 rfl 0 rfl ?_
        refine s_getM kf_X5_22 (by decide) rfl dX5_cross_36 ?_
        refine g_iload_n dX5_cross_39 rfl 1 rfl ?_
        refine s_ald (q := 38) (n := 6) (at_ia (q := 38) rfl) (by omega) (by decide) dX5_cross_40 ?_
        refine g_tope (z := nI (x_pl X p)) (rpM_pl hX (by omega)) ?_
        refine g_aload_n dX5_cross_41 rfl 0 rfl ?_
        refine s_getM kf_X5_13 (by decide) rfl dX5_cross_42 ?_
        refine g_iload_n dX5_cross_45 rfl 2 rfl ?_
        refine s_ald (q := 35) (n := 8) (at_ia (q := 35) rfl) (by omega) (by decide) dX5_cross_46 ?_
        refine g_tope (z := nI (x_hi X b)) (rpM_hi hX (by omega)) ?_
        refine n_icmpeq 53 dX5_cross_47 (by decide) (by omega) (by omega) (fun h47 => ?_) (fun h47 => ?_)
        · refine g_aload_n dX5_cross_53 rfl 0 rfl ?_
          refine g_iload_n dX5_cross_54 rfl 1 rfl ?_
          refine g_callV (As := [.int (nI p)]) km_X5_206 ky_X5_carriedBy ki_X5_carriedBy (by decide) 33 at_33 rfl rfl (Nat.le_of_ble_eq_true rfl) dX5_cross_55 rfl (c_X5_carriedBy hX ho (by omega) (by assumption) ?_)
          refine g_istore_n (lv' := [(3, .int (nI (buX X p))), (0, .ref (L 33)), (1, .int (nI p)), (2, .int (nI b))]) dX5_cross_58 rfl (by decide) rfl ?_
          refine g_iload_n dX5_cross_59 rfl 0 rfl ?_
          refine g_aload_n dX5_cross_60 rfl 1 rfl ?_
          refine s_getM kf_X5_16 (by decide) rfl dX5_cross_61 ?_
          refine g_iload_n dX5_cross_64 rfl 3 rfl ?_
          refine s_ald (q := 36) (n := 8) (at_ia (q := 36) rfl) (by omega) (by decide) dX5_cross_65 ?_
          refine g_tope (z := nI (x_ld X b)) (rpM_ld hX (by omega)) ?_
          refine n_icmple 72 dX5_cross_66 (by decide) (by omega) (by omega) (fun h66 => ?_) (fun h66 => ?_)
          · have hol := oe_lt ho hb (Or.inr h47.symm)
            refine g_aload_n dX5_cross_72 rfl 1 rfl ?_
            refine s_getM kf_X5_19 (by decide) rfl dX5_cross_73 ?_
            refine g_iload_n dX5_cross_76 rfl 3 rfl ?_
            refine g_iload_n dX5_cross_77 rfl 0 rfl ?_
            refine g_aload_n dX5_cross_78 rfl 1 rfl ?_
            refine s_getM kf_X5_19 (by decide) rfl dX5_cross_79 ?_
            refine g_iload_n dX5_cross_82 rfl 3 rfl ?_
            refine s_ald (q := 37) (n := 8) (at_ia (q := 37) rfl) (by omega) (by decide) dX5_cross_83 ?_
            refine g_tope (z := nI (x_bn X b)) (rpM_bn hX (by omega)) ?_
            refine n_icmple 91 dX5_cross_84 (by decide) (by omega) (by omega) (fun h84 => ?_) (fun h84 => ?_)
            · refine g_aload_n dX5_cross_91 rfl 1 rfl ?_
              refine s_getM kf_X5_19 (by decide) rfl dX5_cross_92 ?_
              refine g_iload_n dX5_cross_95 rfl 3 rfl ?_
              refine s_ald (q := 37) (n := 8) (at_ia (q := 37) rfl) (by omega) (by decide) dX5_cross_96 ?_
              refine g_tope (z := nI (x_bn X b)) (rpM_bn hX (by omega)) ?_
              refine s_ast (q := 37) (n := 8) (at_ia (q := 37) rfl) (by omega) (by decide) dX5_cross_97 ?_
              have hX := rpM_sbn hX b (x_bn X b)
              have hfd := fd_A hfd 37 (by omega) (upd (sA σ 37) b (nI (x_bn X b)))
              have c27 : sI (setA σ 37 (upd (sA σ 37) b (nI (x_bn X b)))) 33 27 = _ := c27
              have c28 : sI (setA σ 37 (upd (sA σ 37) b (nI (x_bn X b)))) 33 28 = _ := c28
              have c29 : sI (setA σ 37 (upd (sA σ 37) b (nI (x_bn X b)))) 33 29 = _ := c29
              generalize setA σ 37 (upd (sA σ 37) b (nI (x_bn X b))) = σw50 at hX hfd c27 c28 c29 ⊢
              refine g_aload_n dX5_cross_98 rfl 1 rfl ?_
              refine s_getM kf_X5_22 (by decide) rfl dX5_cross_99 ?_
              refine g_iload_n dX5_cross_102 rfl 2 rfl ?_
              refine g_aload_n dX5_cross_103 rfl 1 rfl ?_
              refine s_getM kf_X5_7 (by decide) rfl dX5_cross_104 ?_
              refine g_iload_n dX5_cross_107 rfl 3 rfl ?_
              refine s_ald (q := 34) (n := 8) (at_ia (q := 34) rfl) (by omega) (by decide) dX5_cross_108 ?_
              refine g_tope (z := nI ((x_lo X) b)) ((rpM_lo hX (by omega)).trans (by simp only [x_lo_bn])) ?_
              refine g_aload_n dX5_cross_109 rfl 1 rfl ?_
              refine s_getM kf_X5_13 (by decide) rfl dX5_cross_110 ?_
              refine g_iload_n dX5_cross_113 rfl 3 rfl ?_
              refine s_ald (q := 35) (n := 8) (at_ia (q := 35) rfl) (by omega) (by decide) dX5_cross_114 ?_
              refine g_tope (z := nI ((x_hi X) b)) ((rpM_hi hX (by omega)).trans (by simp only [x_hi_bn])) ?_
              refine g_iadd dX5_cross_115 ?_
              refine g_tope (z := nI ((x_lo X) b + ((x_hi X) b))) (nI_add _ _) ?_
              refine g_aload_n dX5_cross_116 rfl 1 rfl ?_
              refine s_getM kf_X5_22 (by decide) rfl dX5_cross_117 ?_
              refine g_iload_n dX5_cross_120 rfl 2 rfl ?_
              refine s_ald (q := 38) (n := 6) (at_ia (q := 38) rfl) (by omega) (by decide) dX5_cross_121 ?_
              refine g_tope (z := nI ((x_pl X) p)) ((rpM_pl hX (by omega)).trans (by simp only [x_pl_bn])) ?_
              refine g_isub dX5_cross_122 ?_
              refine g_tope (z := nI (((x_lo X) b + ((x_hi X) b)) - ((x_pl X) p))) (pk_sub (by omega)) ?_
              refine s_ast (q := 38) (n := 6) (at_ia (q := 38) rfl) (by omega) (by decide) dX5_cross_123 ?_
              have hX := rpM_spl hX p (((x_lo X) b + ((x_hi X) b)) - ((x_pl X) p))
              simp only [x_pl_bn] at hX
              have hfd := fd_A hfd 38 (by omega) (upd (sA σw50 38) p (nI (((x_lo X) b + ((x_hi X) b)) - ((x_pl X) p))))
              have c27 : sI (setA σw50 38 (upd (sA σw50 38) p (nI (((x_lo X) b + ((x_hi X) b)) - ((x_pl X) p))))) 33 27 = _ := c27
              have c28 : sI (setA σw50 38 (upd (sA σw50 38) p (nI (((x_lo X) b + ((x_hi X) b)) - ((x_pl X) p))))) 33 28 = _ := c28
              have c29 : sI (setA σw50 38 (upd (sA σw50 38) p (nI (((x_lo X) b + ((x_hi X) b)) - ((x_pl X) p))))) 33 29 = _ := c29
              generalize setA σw50 38 (upd (sA σw50 38) p (nI (((x_lo X) b + ((x_hi X) b)) - ((x_pl X) p)))) = σw51 at hX hfd c27 c28 c29 ⊢
              refine g_aload_n dX5_cross_124 rfl 1 rfl ?_
              refine g_dup dX5_cross_125 rfl ?_
              refine s_getM kf_X5_212 (by decide) rfl dX5_cross_126 ?_
              refine g_tope (z := nI c) (c28) ?_
              refine g_iconst dX5_cross_129 ci_1 ?_
              refine g_iadd dX5_cross_130 ?_
              refine g_tope (z := nI (c + 1)) (nI_add _ _) ?_
              refine s_putM kf_X5_212 (by decide) dX5_cross_131 ?_
              have hX := rpM_I hX 28 (by omega) (nI (c + 1))
              have hfd := fd_I hfd 28 (by omega) (nI (c + 1))
              have c27 := (sI_ne σw51 33 28 27 (by decide) (nI (c + 1))).trans c27
              have c28 : sI (setI σw51 33 28 (nI (c + 1))) 33 28 = nI (c + 1) := sI_same _ _ _ _
              have c29 := (sI_ne σw51 33 28 29 (by decide) (nI (c + 1))).trans c29
              generalize setI σw51 33 28 (nI (c + 1)) = σw52 at hX hfd c27 c28 c29 ⊢
              refine g_iconst dX5_cross_134 ci_0 ?_
              exact g_ireturn dX5_cross_135 (Nat.le_refl _) (Nat.le_refl _) (ht0 (by unfold crossE; rw [if_neg (by rw [h2]; decide), if_neg (by rw [h12]; decide), if_neg (fun q => q.2 h47), if_neg (show ¬ x_ld X b < buX X p by omega), if_neg (show ¬ x_bn X b < buX X p by omega)]) _ hfd hX ⟨c27, c28, c29⟩)
            · refine g_iload_n dX5_cross_87 rfl 0 rfl ?_
              refine g_goto 97 dX5_cross_88 (by decide) ?_
              refine s_ast (q := 37) (n := 8) (at_ia (q := 37) rfl) (by omega) (by decide) dX5_cross_97 ?_
              have hX := rpM_sbn hX b (buX X p)
              have hfd := fd_A hfd 37 (by omega) (upd (sA σ 37) b (nI (buX X p)))
              have c27 : sI (setA σ 37 (upd (sA σ 37) b (nI (buX X p)))) 33 27 = _ := c27
              have c28 : sI (setA σ 37 (upd (sA σ 37) b (nI (buX X p)))) 33 28 = _ := c28
              have c29 : sI (setA σ 37 (upd (sA σ 37) b (nI (buX X p)))) 33 29 = _ := c29
              generalize setA σ 37 (upd (sA σ 37) b (nI (buX X p))) = σw53 at hX hfd c27 c28 c29 ⊢
              refine g_aload_n dX5_cross_98 rfl 1 rfl ?_
              refine s_getM kf_X5_22 (by decide) rfl dX5_cross_99 ?_
              refine g_iload_n dX5_cross_102 rfl 2 rfl ?_
              refine g_aload_n dX5_cross_103 rfl 1 rfl ?_
              refine s_getM kf_X5_7 (by decide) rfl dX5_cross_104 ?_
              refine g_iload_n dX5_cross_107 rfl 3 rfl ?_
              refine s_ald (q := 34) (n := 8) (at_ia (q := 34) rfl) (by omega) (by decide) dX5_cross_108 ?_
              refine g_tope (z := nI ((x_lo X) b)) ((rpM_lo hX (by omega)).trans (by simp only [x_lo_bn])) ?_
              refine g_aload_n dX5_cross_109 rfl 1 rfl ?_
              refine s_getM kf_X5_13 (by decide) rfl dX5_cross_110 ?_
              refine g_iload_n dX5_cross_113 rfl 3 rfl ?_
              refine s_ald (q := 35) (n := 8) (at_ia (q := 35) rfl) (by omega) (by decide) dX5_cross_114 ?_
              refine g_tope (z := nI ((x_hi X) b)) ((rpM_hi hX (by omega)).trans (by simp only [x_hi_bn])) ?_
              refine g_iadd dX5_cross_115 ?_
              refine g_tope (z := nI ((x_lo X) b + ((x_hi X) b))) (nI_add _ _) ?_
              refine g_aload_n dX5_cross_116 rfl 1 rfl ?_
              refine s_getM kf_X5_22 (by decide) rfl dX5_cross_117 ?_
              refine g_iload_n dX5_cross_120 rfl 2 rfl ?_
              refine s_ald (q := 38) (n := 6) (at_ia (q := 38) rfl) (by omega) (by decide) dX5_cross_121 ?_
              refine g_tope (z := nI ((x_pl X) p)) ((rpM_pl hX (by omega)).trans (by simp only [x_pl_bn])) ?_
              refine g_isub dX5_cross_122 ?_
              refine g_tope (z := nI (((x_lo X) b + ((x_hi X) b)) - ((x_pl X) p))) (pk_sub (by omega)) ?_
              refine s_ast (q := 38) (n := 6) (at_ia (q := 38) rfl) (by omega) (by decide) dX5_cross_123 ?_
              have hX := rpM_spl hX p (((x_lo X) b + ((x_hi X) b)) - ((x_pl X) p))
              simp only [x_pl_bn] at hX
              have hfd := fd_A hfd 38 (by omega) (upd (sA σw53 38) p (nI (((x_lo X) b + ((x_hi X) b)) - ((x_pl X) p))))
              have c27 : sI (setA σw53 38 (upd (sA σw53 38) p (nI (((x_lo X) b + ((x_hi X) b)) - ((x_pl X) p))))) 33 27 = _ := c27
              have c28 : sI (setA σw53 38 (upd (sA σw53 38) p (nI (((x_lo X) b + ((x_hi X) b)) - ((x_pl X) p))))) 33 28 = _ := c28
              have c29 : sI (setA σw53 38 (upd (sA σw53 38) p (nI (((x_lo X) b + ((x_hi X) b)) - ((x_pl X) p))))) 33 29 = _ := c29
              generalize setA σw53 38 (upd (sA σw53 38) p (nI (((x_lo X) b + ((x_hi X) b)) - ((x_pl X) p)))) = σw54 at hX hfd c27 c28 c29 ⊢
              refine g_aload_n dX5_cross_124 rfl 1 rfl ?_
              refine g_dup dX5_cross_125 rfl ?_
              refine s_getM kf_X5_212 (by decide) rfl dX5_cross_126 ?_
              refine g_tope (z := nI c) (c28) ?_
              refine g_iconst dX5_cross_129 ci_1 ?_
              refine g_iadd dX5_cross_130 ?_
              refine g_tope (z := nI (c + 1)) (nI_add _ _) ?_
              refine s_putM kf_X5_212 (by decide) dX5_cross_131 ?_
              have hX := rpM_I hX 28 (by omega) (nI (c + 1))
              have hfd := fd_I hfd 28 (by omega) (nI (c + 1))
              have c27 := (sI_ne σw54 33 28 27 (by decide) (nI (c + 1))).trans c27
              have c28 : sI (setI σw54 33 28 (nI (c + 1))) 33 28 = nI (c + 1) := sI_same _ _ _ _
              have c29 := (sI_ne σw54 33 28 29 (by decide) (nI (c + 1))).trans c29
              generalize setI σw54 33 28 (nI (c + 1)) = σw55 at hX hfd c27 c28 c29 ⊢
              refine g_iconst dX5_cross_134 ci_0 ?_
              exact g_ireturn dX5_cross_135 (Nat.le_refl _) (Nat.le_refl _) (ht0 (by unfold crossE; rw [if_neg (by rw [h2]; decide), if_neg (by rw [h12]; decide), if_neg (fun q => q.2 h47), if_neg (show ¬ x_ld X b < buX X p by omega), if_pos h84]) _ hfd hX ⟨c27, c28, c29⟩)
          · refine g_bipush dX5_cross_69 bp_7 ?_
            exact g_ireturn dX5_cross_71 (Nat.le_refl _) (Nat.le_refl _) (ht (by unfold crossE; rw [if_neg (by rw [h2]; decide), if_neg (by rw [h12]; decide), if_neg (fun q => q.2 h47), if_pos h66]) _ hfd hX ⟨c27, c28, c29⟩)
        · refine g_bipush dX5_cross_50 bp_6 ?_
          exact g_ireturn dX5_cross_52 (Nat.le_refl _) (Nat.le_refl _) (ht (by unfold crossE; rw [if_neg (by rw [h2]; decide), if_neg (by rw [h12]; decide), if_pos ⟨h32, h47⟩]) _ hfd hX ⟨c27, c28, c29⟩)
    · refine t_ifne0 (tgt := 20) dX5_cross_15 (by decide) ?_
      refine g_iconst dX5_cross_18 ci_5 ?_
      exact g_ireturn dX5_cross_19 (Nat.le_refl _) (Nat.le_refl _) (ht (by unfold crossE; rw [if_neg (by rw [h2]; decide), if_pos h12]) _ hfd hX ⟨c27, c28, c29⟩)
  · refine t_ifne0 (tgt := 10) dX5_cross_5 (by decide) ?_
    refine g_iconst dX5_cross_8 ci_1 ?_
    exact g_ireturn dX5_cross_9 (Nat.le_refl _) (Nat.le_refl _) (ht (by unfold crossE; rw [if_pos h2]) _ hfd hX ⟨c27, c28, c29⟩)
set_option maxHeartbeats 4000000 in
set_option maxRecDepth 20000 in
theorem c_X5_publish {l : Launch} {D : gE} {L : Nat → Nat} {σ : St} {Q : Option Value → va_W → Prop} {d : Nat} {X : XT} (hX : rpM σ X) (ho : okX X) {k : Nat} (hk : k < 8) {t c n : Nat} (hc : ctr σ t c n) (hb9 : t < 1000000 ∧ c < 1000000 ∧ n < 1000000) (ht : ∀ {w : Nat}, pubE X k = (w + 1, X) → ∀ σ', fd σ σ' → rpM σ' X → ctr σ' t c n → Q (some (.int (nI (w + 1)))) (wsOf D L σ')) (ht0 : ∀ {X' : XT}, pubE X k = (0, X') → ∀ σ', fd σ σ' → rpM σ' X' → ctr σ' t c n → Q (some (.int (nI 0))) (wsOf D L σ')) : Ctr l D yX5_publish cX5_publish 2 (some .int) (rr d) [.ref (L 33), .int (nI k)] (wsOf D L σ) Q := by
  refine g_start ky_X5_publish (Nat.le_of_ble_eq_true rfl) ?_
  refine g_pick [0, 1] (lv' := [(0, .ref (L 33)), (1, .int (nI k))]) rfl ?_
  obtain ⟨c27, c28, c29⟩ := hc
  have hfd : fd σ σ := fd_rfl
  refine g_aload_n dX5_publish_0 rfl 0 rfl ?_
  refine s_getM kf_X5_112 (by decide) rfl dX5_publish_1 ?_
  refine g_tope (z := nI (bitsN (x_pu X) 8)) (rpM_pu hX) ?_
  refine g_iload_n dX5_publish_4 rfl 1 rfl ?_
  refine g_ishr dX5_publish_5 ?_
  refine g_iconst dX5_publish_6 ci_1 ?_
  refine g_iand dX5_publish_7 ?_
  refine g_tope (z := nI (b2n ((x_pu X) k))) (gbB _ (by decide) (by omega)) ?_
  refine g_iconst dX5_publish_8 ci_1 ?_
  refine b_icmpne 15 dX5_publish_9 (by decide) (fun h9 => ?_) (fun h9 => ?_)
  · refine g_aload_n dX5_publish_15 rfl 0 rfl ?_
    refine g_dup dX5_publish_16 rfl ?_
    refine s_getM kf_X5_112 (by decide) rfl dX5_publish_17 ?_
    refine g_tope (z := nI (bitsN (x_pu X) 8)) (rpM_pu hX) ?_
    refine g_iconst dX5_publish_20 ci_1 ?_
    refine g_iload_n dX5_publish_21 rfl 1 rfl ?_
    refine g_ishl dX5_publish_22 ?_
    refine g_ior dX5_publish_23 ?_
    refine g_tope (z := nI (bitsN (fun i => (x_pu X) i || i == k) 8)) (obB _ (by decide) (by omega)) ?_
    refine s_putM kf_X5_112 (by decide) dX5_publish_24 ?_
    have hX := rpM_spu hX (fun i => (x_pu X) i || i == k)
    have hfd := fd_I hfd 3 (by omega) (nI (bitsN (fun i => (x_pu X) i || i == k) 8))
    have c27 := (sI_ne σ 33 3 27 (by decide) (nI (bitsN (fun i => (x_pu X) i || i == k) 8))).trans c27
    have c28 := (sI_ne σ 33 3 28 (by decide) (nI (bitsN (fun i => (x_pu X) i || i == k) 8))).trans c28
    have c29 := (sI_ne σ 33 3 29 (by decide) (nI (bitsN (fun i => (x_pu X) i || i == k) 8))).trans c29
    generalize setI σ 33 3 (nI (bitsN (fun i => (x_pu X) i || i == k) 8)) = σw56 at hX hfd c27 c28 c29 ⊢
    refine g_iconst dX5_publish_27 ci_0 ?_
    exact g_ireturn dX5_publish_28 (Nat.le_refl _) (Nat.le_refl _) (ht0 (by unfold pubE; rw [if_neg (by rw [h9]; decide)]) _ hfd hX ⟨c27, c28, c29⟩)
  · refine g_bipush dX5_publish_12 bp_8 ?_
    exact g_ireturn dX5_publish_14 (Nat.le_refl _) (Nat.le_refl _) (ht (by unfold pubE; rw [if_pos h9]) _ hfd hX ⟨c27, c28, c29⟩)
set_option maxHeartbeats 4000000 in
set_option maxRecDepth 20000 in
theorem lp_X5_passNight {l : Launch} {D : gE} {L : Nat → Nat} {σ : St} {Q : Option Value → va_W → Prop} {d : Nat} {X : XT} (ho : okX X) {t c n9 : Nat} (h : ∀ σ', fd σ σ' → rpM σ' (nightE X) → ctr σ' t c n9 → Q none (wsOf D L σ')) : ∀ n k, k + n = 8 → ∀ σ', fd σ σ' → rpM σ' (ntP X k) → ctr σ' t c n9 → G l D yX5_passNight cX5_passNight 3 none (rr d) Q 0 0 2 [(1, .int (nI k)), (0, .ref (L 33))] [] (wsOf D L σ') := by
  intro n
  induction n with
  | zero =>
    intro k hct σ' hfd hX hc
    obtain rfl : k = 8 := by omega
    obtain ⟨c27, c28, c29⟩ := hc
    refine g_iload_n dX5_passNight_2 rfl 0 rfl ?_
    refine g_bipush dX5_passNight_3 bp_8 ?_
    refine n_icmpge 59 dX5_passNight_5 (by decide) (by omega) (by omega) (fun h5 => ?_) (fun h5 => absurd h5 (by omega))
    exact g_return dX5_passNight_59 (Nat.le_refl _) (Nat.le_refl _) (h _ hfd hX ⟨c27, c28, c29⟩)
  | succ n ih =>
    intro k hct σ' hfd hX hc
    obtain ⟨c27, c28, c29⟩ := hc
    have hwt := ok_wt ho (k := k) (by omega)
    have hfa := ok_fa ho
    refine g_iload_n dX5_passNight_2 rfl 0 rfl ?_
    refine g_bipush dX5_passNight_3 bp_8 ?_
    refine n_icmpge 59 dX5_passNight_5 (by decide) (by omega) (by omega) (fun h5 => absurd h5 (by omega)) (fun h5 => ?_)
    refine g_aload_n dX5_passNight_8 rfl 1 rfl ?_
    refine s_getM kf_X5_31 (by decide) rfl dX5_passNight_9 ?_
    refine g_iload_n dX5_passNight_12 rfl 0 rfl ?_
    refine s_ald (q := 41) (n := 8) (at_ia (q := 41) rfl) (by omega) (by decide) dX5_passNight_13 ?_
    refine g_tope (z := zI (x_wt X k)) ((rpM_wt hX (by omega)).trans (by rw [ntP_at])) ?_
    refine g_aload_n dX5_passNight_14 rfl 1 rfl ?_
    refine s_getM kf_X5_95 (by decide) rfl dX5_passNight_15 ?_
    refine g_tope (z := nI (x_fa X)) ((rpM_fa hX).trans (by rw [ntP_fa])) ?_
    refine g_isub dX5_passNight_18 ?_
    refine g_tope (z := zI (x_wt X k - (x_fa X : Int))) (by rw [nI_zI]; exact zI_sub _ _) ?_
    refine g_istore_n (lv' := [(2, .int (zI (x_wt X k - (x_fa X : Int)))), (1, .int (nI k)), (0, .ref (L 33))]) dX5_passNight_19 rfl (by decide) rfl ?_
    refine g_aload_n dX5_passNight_20 rfl 2 rfl ?_
    refine s_getM kf_X5_31 (by decide) rfl dX5_passNight_21 ?_
    refine g_iload_n dX5_passNight_24 rfl 1 rfl ?_
    refine g_aload_n dX5_passNight_25 rfl 2 rfl ?_
    refine s_getM kf_X5_31 (by decide) rfl dX5_passNight_26 ?_
    refine g_iload_n dX5_passNight_29 rfl 1 rfl ?_
    refine s_ald (q := 41) (n := 8) (at_ia (q := 41) rfl) (by omega) (by decide) dX5_passNight_30 ?_
    refine g_tope (z := zI (x_wt X k)) ((rpM_wt hX (by omega)).trans (by rw [ntP_at])) ?_
    refine z_ifgt 43 dX5_passNight_31 (by decide) (by omega) (fun h31 => ?_) (fun h31 => ?_)
    · refine g_iload_n dX5_passNight_43 rfl 0 rfl ?_
      refine z_ifle 51 dX5_passNight_44 (by decide) (by omega) (fun h44 => ?_) (fun h44 => ?_)
      · refine g_iconst dX5_passNight_51 ci_0 ?_
        refine s_ast (q := 41) (n := 8) (at_ia (q := 41) rfl) (by omega) (by decide) dX5_passNight_52 ?_
        have hX := rpM_swtn hX k 0
        rw [ntP_s X k ((0 : Nat) : Int) (by unfold ngt; rw [if_neg (show ¬ x_wt X k ≤ 0 by omega), if_neg (show ¬ 0 < x_wt X k - (x_fa X : Int) by omega)]; rfl)] at hX
        have hfd := fd_A hfd 41 (by omega) (upd (sA σ' 41) k (nI 0))
        have c27 : sI (setA σ' 41 (upd (sA σ' 41) k (nI 0))) 33 27 = _ := c27
        have c28 : sI (setA σ' 41 (upd (sA σ' 41) k (nI 0))) 33 28 = _ := c28
        have c29 : sI (setA σ' 41 (upd (sA σ' 41) k (nI 0))) 33 29 = _ := c29
        generalize setA σ' 41 (upd (sA σ' 41) k (nI 0)) = σq at hX hfd c27 c28 c29 ⊢
        refine g_iinc (v := nI (k + 1)) (lv' := [(1, .int (nI (k + 1))), (2, .int (zI (x_wt X k - (x_fa X : Int)))), (0, .ref (L 33))]) dX5_passNight_53 1 rfl (inc_n _) (by decide) rfl ?_
        refine g_goto 2 dX5_passNight_56 (by decide) ?_
        refine g_pick [0, 2] (lv' := [(1, .int (nI (k + 1))), (0, .ref (L 33))]) rfl ?_
        exact ih (k + 1) (by omega) _ hfd hX ⟨c27, c28, c29⟩
      · refine g_iload_n dX5_passNight_47 rfl 0 rfl ?_
        refine g_goto 52 dX5_passNight_48 (by decide) ?_
        refine s_ast (q := 41) (n := 8) (at_ia (q := 41) rfl) (by omega) (by decide) dX5_passNight_52 ?_
        have hX := rpM_swt hX k (x_wt X k - (x_fa X : Int))
        rw [ntP_s X k (x_wt X k - (x_fa X : Int)) (by unfold ngt; rw [if_neg (show ¬ x_wt X k ≤ 0 by omega), if_pos (show 0 < x_wt X k - (x_fa X : Int) by omega)])] at hX
        have hfd := fd_A hfd 41 (by omega) (upd (sA σ' 41) k (zI (x_wt X k - (x_fa X : Int))))
        have c27 : sI (setA σ' 41 (upd (sA σ' 41) k (zI (x_wt X k - (x_fa X : Int))))) 33 27 = _ := c27
        have c28 : sI (setA σ' 41 (upd (sA σ' 41) k (zI (x_wt X k - (x_fa X : Int))))) 33 28 = _ := c28
        have c29 : sI (setA σ' 41 (upd (sA σ' 41) k (zI (x_wt X k - (x_fa X : Int))))) 33 29 = _ := c29
        generalize setA σ' 41 (upd (sA σ' 41) k (zI (x_wt X k - (x_fa X : Int)))) = σq at hX hfd c27 c28 c29 ⊢
        refine g_iinc (v := nI (k + 1)) (lv' := [(1, .int (nI (k + 1))), (2, .int (zI (x_wt X k - (x_fa X : Int)))), (0, .ref (L 33))]) dX5_passNight_53 1 rfl (inc_n _) (by decide) rfl ?_
        refine g_goto 2 dX5_passNight_56 (by decide) ?_
        refine g_pick [0, 2] (lv' := [(1, .int (nI (k + 1))), (0, .ref (L 33))]) rfl ?_
        exact ih (k + 1) (by omega) _ hfd hX ⟨c27, c28, c29⟩
    · refine g_aload_n dX5_passNight_34 rfl 2 rfl ?_
      refine s_getM kf_X5_31 (by decide) rfl dX5_passNight_35 ?_
      refine g_iload_n dX5_passNight_38 rfl 1 rfl ?_
      refine s_ald (q := 41) (n := 8) (at_ia (q := 41) rfl) (by omega) (by decide) dX5_passNight_39 ?_
      refine g_tope (z := zI (x_wt X k)) ((rpM_wt hX (by omega)).trans (by rw [ntP_at])) ?_
      refine g_goto 52 dX5_passNight_40 (by decide) ?_
      refine s_ast (q := 41) (n := 8) (at_ia (q := 41) rfl) (by omega) (by decide) dX5_passNight_52 ?_
      have hX := rpM_swt hX k (x_wt X k)
      rw [ntP_s X k (x_wt X k) (by unfold ngt; rw [if_pos (show x_wt X k ≤ 0 by omega)])] at hX
      have hfd := fd_A hfd 41 (by omega) (upd (sA σ' 41) k (zI (x_wt X k)))
      have c27 : sI (setA σ' 41 (upd (sA σ' 41) k (zI (x_wt X k)))) 33 27 = _ := c27
      have c28 : sI (setA σ' 41 (upd (sA σ' 41) k (zI (x_wt X k)))) 33 28 = _ := c28
      have c29 : sI (setA σ' 41 (upd (sA σ' 41) k (zI (x_wt X k)))) 33 29 = _ := c29
      generalize setA σ' 41 (upd (sA σ' 41) k (zI (x_wt X k))) = σq at hX hfd c27 c28 c29 ⊢
      refine g_iinc (v := nI (k + 1)) (lv' := [(1, .int (nI (k + 1))), (2, .int (zI (x_wt X k - (x_fa X : Int)))), (0, .ref (L 33))]) dX5_passNight_53 1 rfl (inc_n _) (by decide) rfl ?_
      refine g_goto 2 dX5_passNight_56 (by decide) ?_
      refine g_pick [0, 2] (lv' := [(1, .int (nI (k + 1))), (0, .ref (L 33))]) rfl ?_
      exact ih (k + 1) (by omega) _ hfd hX ⟨c27, c28, c29⟩
set_option maxHeartbeats 4000000 in
set_option maxRecDepth 20000 in
theorem c_X5_passNight {l : Launch} {D : gE} {L : Nat → Nat} {σ : St} {Q : Option Value → va_W → Prop} {d : Nat} {X : XT} (hX : rpM σ X) (ho : okX X) {t c n : Nat} (hc : ctr σ t c n) (h : ∀ σ', fd σ σ' → rpM σ' (nightE X) → ctr σ' t c n → Q none (wsOf D L σ')) : Ctr l D yX5_passNight cX5_passNight 3 none (rr d) [.ref (L 33)] (wsOf D L σ) Q := by
  refine g_start ky_X5_passNight (Nat.le_of_ble_eq_true rfl) ?_
  refine g_pick [0] (lv' := [(0, .ref (L 33))]) rfl ?_
  refine g_iconst dX5_passNight_0 ci_0 ?_
  refine g_istore_n (lv' := [(1, .int (nI 0)), (0, .ref (L 33))]) dX5_passNight_1 rfl (by decide) rfl ?_
  refine g_pick [0, 1] (lv' := [(1, .int (nI 0)), (0, .ref (L 33))]) rfl ?_
  exact lp_X5_passNight ho h 8 0 rfl _ fd_rfl (by rw [ntP_0]; exact hX) hc
