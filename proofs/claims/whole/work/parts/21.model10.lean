/-! what was kept, and put back -/
def kpt (σ0 σ : St) : Prop := (∀ p, p < 6 → sA σ 50 p = sA σ0 38 p ∧ sA σ 51 p = sA σ0 40 p) ∧ (∀ k, k < 8 → sA σ 52 k = sA σ0 41 k ∧ sA σ 53 k = sA σ0 37 k) ∧ sI σ 33 34 = sI σ0 33 3
theorem kpt_A {σ0 σ : St} (h : kpt σ0 σ) (q : Nat) (hq : q < 50 ∨ 53 < q) (f : Nat → Int32) : kpt σ0 (setA σ q f) := by
  have e : ∀ r, 50 ≤ r → r ≤ 53 → sA (setA σ q f) r = sA σ r := fun r h1 h2 => if_neg (by omega)
  refine ⟨fun p hp => ?_, fun k hk => ?_, h.2.2⟩
  · rw [e 50 (by omega) (by omega), e 51 (by omega) (by omega)]; exact h.1 p hp
  · rw [e 52 (by omega) (by omega), e 53 (by omega) (by omega)]; exact h.2.1 k hk
theorem kpt_I {σ0 σ : St} (h : kpt σ0 σ) (k : Nat) (hk : k ≠ 34) (x : Int32) : kpt σ0 (setI σ 33 k x) := by
  refine ⟨h.1, h.2.1, ?_⟩
  rw [← h.2.2]
  show (if 33 = 33 then upd (sI σ 33) k x else sI σ 33) 34 = _
  rw [if_pos rfl]
  exact if_neg (fun e => hk e.symm)
/-- all else is as it was -/
def els (as : List Nat) (k0 : Nat) (σ σ' : St) : Prop := (∀ q, q ∉ as → sA σ' q = sA σ q) ∧ (∀ o, o ≠ 33 → sI σ' o = sI σ o) ∧ (∀ k, k ≠ k0 → sI σ' 33 k = sI σ 33 k) ∧ sK σ' = sK σ ∧ sM σ' = sM σ
theorem els_rfl {as : List Nat} {k0 : Nat} {σ : St} : els as k0 σ σ := ⟨fun _ _ => rfl, fun _ _ => rfl, fun _ _ => rfl, rfl, rfl⟩
theorem els_A {as : List Nat} {k0 : Nat} {σ σ' : St} (h : els as k0 σ σ') {q : Nat} (hq : q ∈ as) (f : Nat → Int32) : els as k0 σ (setA σ' q f) :=
  ⟨fun r hr => (if_neg (fun e : r = q => hr (by rw [e]; exact hq))).trans (h.1 r hr), h.2.1, h.2.2.1, h.2.2.2.1, h.2.2.2.2⟩
theorem els_I {as : List Nat} {k0 : Nat} {σ σ' : St} (h : els as k0 σ σ') (x : Int32) : els as k0 σ (setI σ' 33 k0 x) :=
  ⟨h.1, fun o ho => (if_neg ho).trans (h.2.1 o ho), fun k hk => (show (if 33 = 33 then upd (sI σ' 33) k0 x else sI σ' 33) k = _ by rw [if_pos rfl]; exact (if_neg hk).trans (h.2.2.1 k hk)), h.2.2.2.1, h.2.2.2.2⟩
theorem els_fr {as : List Nat} {k0 : Nat} {σ σ' : St} (h : els as k0 σ σ') (ha : ∀ q ∈ as, 34 ≤ q ∧ q ≤ 59 ∧ q ≠ 45) (hk : k0 ≠ 18) : fr σ σ' :=
  ⟨h.2.1, fun q hq => h.1 q (fun e => by have := ha q e; omega), h.2.2.1 18 (fun e => hk e.symm), h.2.2.2.1, h.2.2.2.2⟩
/-- copies made so far: of the rows a (from c) the first n -/
def cpd (a c : Nat) (n : Nat) (σ0 σ : St) : Prop := ∀ i, i < n → sA σ a i = sA σ0 c i
theorem cpd_put {a c n : Nat} {σ0 σ : St} (h : cpd a c n σ0 σ) (x : Int32) (hx : x = sA σ0 c n) : cpd a c (n + 1) σ0 (setA σ a (upd (sA σ a) n x)) := by
  intro i hi
  show (if a = a then upd (sA σ a) n x else sA σ a) i = _
  rw [if_pos rfl]
  unfold upd
  by_cases e : i = n
  · rw [if_pos e, hx, e]
  · rw [if_neg e]; exact h i (by omega)
theorem cpd_oth {a c n q : Nat} {σ0 σ : St} (h : cpd a c n σ0 σ) (hq : a ≠ q) (f : Nat → Int32) : cpd a c n σ0 (setA σ q f) := by
  intro i hi
  show (if a = q then f else sA σ a) i = _
  rw [if_neg hq]
  exact h i hi
theorem cpd_int {a c n o k : Nat} {σ0 σ : St} (h : cpd a c n σ0 σ) (x : Int32) : cpd a c n σ0 (setI σ o k x) := h
theorem rpM_els {as : List Nat} {k0 : Nat} {σ σ' : St} {X : XT} (h : rpM σ X) (he : els as k0 σ σ') (ha : ∀ q, 34 ≤ q → q ≤ 44 → q ∉ as) (hk : k0 ≠ 0 ∧ k0 ≠ 1 ∧ k0 ≠ 2 ∧ k0 ≠ 3 ∧ k0 ≠ 13 ∧ k0 ≠ 16) : rpM σ' X := by
  have e : ∀ j, 1 ≤ j → j ≤ 11 → sA σ' (33 + j) = sA σ (33 + j) := fun j h1 h2 => he.1 _ (ha _ (by omega) (by omega))
  have e2 : ∀ k, (k = 0 ∨ k = 1 ∨ k = 2 ∨ k = 3 ∨ k = 13 ∨ k = 16) → sI σ' 33 k = sI σ 33 k := fun k h1 => he.2.2.1 k (by omega)
  unfold rpM rp at h ⊢
  simp only [e 1 (by omega) (by omega), e 2 (by omega) (by omega), e 3 (by omega) (by omega), e 4 (by omega) (by omega), e 5 (by omega) (by omega), e 6 (by omega) (by omega), e 7 (by omega) (by omega), e 8 (by omega) (by omega), e 9 (by omega) (by omega), e 10 (by omega) (by omega), e 11 (by omega) (by omega)]
  refine ⟨(e2 0 (by omega)).trans h.1, (e2 1 (by omega)).trans h.2.1, (e2 2 (by omega)).trans h.2.2.1, (e2 3 (by omega)).trans h.2.2.2.1, (e2 13 (by omega)).trans h.2.2.2.2.1, (e2 16 (by omega)).trans h.2.2.2.2.2.1, h.2.2.2.2.2.2⟩
/-- the same but for places, what is KNOWN, WEIGHTS, bends, PUBLISHED -/
def smeX (X Y : XT) : Prop := x_sz X = x_sz Y ∧ x_br X = x_br Y ∧ x_lo X = x_lo Y ∧ x_hi X = x_hi Y ∧ x_ld X = x_ld Y ∧ x_th X = x_th Y ∧ x_ki X = x_ki Y ∧ x_ab X = x_ab Y ∧ x_fa X = x_fa Y ∧ x_sg X = x_sg Y ∧ x_sb X = x_sb Y ∧ x_sv X = x_sv Y
theorem sme_rfl {X : XT} : smeX X X := ⟨rfl, rfl, rfl, rfl, rfl, rfl, rfl, rfl, rfl, rfl, rfl, rfl⟩
theorem sme_trans {X Y Z : XT} (h : smeX X Y) (g : smeX Y Z) : smeX X Z := ⟨h.1.trans g.1, h.2.1.trans g.2.1, h.2.2.1.trans g.2.2.1, h.2.2.2.1.trans g.2.2.2.1, h.2.2.2.2.1.trans g.2.2.2.2.1, h.2.2.2.2.2.1.trans g.2.2.2.2.2.1, h.2.2.2.2.2.2.1.trans g.2.2.2.2.2.2.1, h.2.2.2.2.2.2.2.1.trans g.2.2.2.2.2.2.2.1, h.2.2.2.2.2.2.2.2.1.trans g.2.2.2.2.2.2.2.2.1, h.2.2.2.2.2.2.2.2.2.1.trans g.2.2.2.2.2.2.2.2.2.1, h.2.2.2.2.2.2.2.2.2.2.1.trans g.2.2.2.2.2.2.2.2.2.2.1, h.2.2.2.2.2.2.2.2.2.2.2.trans g.2.2.2.2.2.2.2.2.2.2.2⟩
theorem sme_pl (X : XT) (f : Nat → Nat) : smeX (xs_pl X f) X := ⟨x_sz_pl _ _, x_br_pl _ _, x_lo_pl _ _, x_hi_pl _ _, x_ld_pl _ _, x_th_pl _ _, x_ki_pl _ _, x_ab_pl _ _, x_fa_pl _ _, x_sg_pl _ _, x_sb_pl _ _, x_sv_pl _ _⟩
theorem sme_kn (X : XT) (f : Nat → Nat → Bool) : smeX (xs_kn X f) X := ⟨x_sz_kn _ _, x_br_kn _ _, x_lo_kn _ _, x_hi_kn _ _, x_ld_kn _ _, x_th_kn _ _, x_ki_kn _ _, x_ab_kn _ _, x_fa_kn _ _, x_sg_kn _ _, x_sb_kn _ _, x_sv_kn _ _⟩
theorem sme_wt (X : XT) (f : Nat → Int) : smeX (xs_wt X f) X := ⟨x_sz_wt _ _, x_br_wt _ _, x_lo_wt _ _, x_hi_wt _ _, x_ld_wt _ _, x_th_wt _ _, x_ki_wt _ _, x_ab_wt _ _, x_fa_wt _ _, x_sg_wt _ _, x_sb_wt _ _, x_sv_wt _ _⟩
theorem sme_bn (X : XT) (f : Nat → Nat) : smeX (xs_bn X f) X := ⟨x_sz_bn _ _, x_br_bn _ _, x_lo_bn _ _, x_hi_bn _ _, x_ld_bn _ _, x_th_bn _ _, x_ki_bn _ _, x_ab_bn _ _, x_fa_bn _ _, x_sg_bn _ _, x_sb_bn _ _, x_sv_bn _ _⟩
theorem sme_pu (X : XT) (f : Nat → Bool) : smeX (xs_pu X f) X := ⟨x_sz_pu _ _, x_br_pu _ _, x_lo_pu _ _, x_hi_pu _ _, x_ld_pu _ _, x_th_pu _ _, x_ki_pu _ _, x_ab_pu _ _, x_fa_pu _ _, x_sg_pu _ _, x_sb_pu _ _, x_sv_pu _ _⟩
theorem back_ok {σ0 σ σ' : St} {X0 X : XT} (h0 : rpM σ0 X0) (h : rpM σ X) (hs : smeX X X0) (he : els [37, 38, 40, 41] 3 σ σ') (h38 : cpd 38 38 6 σ0 σ') (h40 : cpd 40 40 6 σ0 σ') (h41 : cpd 41 41 8 σ0 σ') (h37 : cpd 37 37 8 σ0 σ') (h3 : sI σ' 33 3 = sI σ0 33 3) : rpM σ' X0 := by
  have e : ∀ q, (q = 34 ∨ q = 35 ∨ q = 36 ∨ q = 39 ∨ q = 42 ∨ q = 43 ∨ q = 44) → sA σ' q = sA σ q := fun q hq => he.1 q (by simp; omega)
  refine ⟨?_, ?_, ?_, ?_, ?_, ?_, fun i hi => ?_, fun i hi => ?_, fun i hi => ?_, fun i hi => ?_, fun i hi => ?_, fun i hi => ?_, fun i hi ht => ?_, fun i hi => ?_, fun i hi => ?_, fun i hi => ?_, fun i hi => ?_⟩
  · rw [← hs.1]; exact (he.2.2.1 0 (by omega)).trans (rpM_sz h)
  · rw [← hs.2.1]; exact (he.2.2.1 1 (by omega)).trans (rpM_br h)
  · rw [← hs.2.2.2.2.2.1]; exact (he.2.2.1 2 (by omega)).trans (rpM_th h)
  · exact h3.trans (rpM_pu h0)
  · rw [← hs.2.2.2.2.2.2.2.2.1]; exact (he.2.2.1 13 (by omega)).trans (rpM_fa h)
  · rw [← hs.2.2.2.2.2.2.2.2.2.1]; exact (he.2.2.1 16 (by omega)).trans (rpM_sg h)
  · rw [← hs.2.2.1]; exact (congrFun (e 34 (by omega)) i).trans (rpM_lo h hi)
  · rw [← hs.2.2.2.1]; exact (congrFun (e 35 (by omega)) i).trans (rpM_hi h hi)
  · rw [← hs.2.2.2.2.1]; exact (congrFun (e 36 (by omega)) i).trans (rpM_ld h hi)
  · exact (h37 i hi).trans (rpM_bn h0 hi)
  · exact (h38 i hi).trans (rpM_pl h0 hi)
  · rw [← hs.2.2.2.2.2.2.1]; exact (congrFun (e 39 (by omega)) i).trans (rpM_ki h hi)
  · exact (h40 i hi).trans (rpM_kn h0 hi ht)
  · exact (h41 i hi).trans (rpM_wt h0 hi)
  · rw [← hs.2.2.2.2.2.2.2.1]; exact (congrFun (e 42 (by omega)) i).trans (rpM_ab h hi)
  · rw [← hs.2.2.2.2.2.2.2.2.2.2.1]; exact (congrFun (e 43 (by omega)) i).trans (rpM_sb h hi)
  · rw [← hs.2.2.2.2.2.2.2.2.2.2.2]; exact (congrFun (e 44 (by omega)) i).trans (rpM_sv h hi)
set_option maxHeartbeats 4000000 in
set_option maxRecDepth 20000 in
theorem l2_X5_keepNow {l : Launch} {D : gE} {L : Nat → Nat} {σ : St} {Q : Option Value → va_W → Prop} {d : Nat} (h : ∀ σ', els [50, 51, 52, 53] 34 σ σ' → kpt σ σ' → Q none (wsOf D L σ')) : ∀ n k, k + n = 8 → ∀ σ', els [50, 51, 52, 53] 34 σ σ' → cpd 50 38 6 σ σ' → cpd 51 40 6 σ σ' → cpd 52 41 k σ σ' → cpd 53 37 k σ σ' → G l D yX5_keepNow cX5_keepNow 2 none (rr d) Q 0 0 40 [(1, .int (nI k)), (0, .ref (L 33))] [] (wsOf D L σ') := by
  intro n
  induction n with
  | zero =>
    intro k hct σ' he c50 c51 c52 c53
    obtain rfl : k = 8 := by omega
    refine g_iload_n dX5_keepNow_40 rfl 0 rfl ?_
    refine g_bipush dX5_keepNow_41 bp_8 ?_
    refine n_icmpge 76 dX5_keepNow_43 (by decide) (by omega) (by omega) (fun h43 => ?_) (fun h43 => absurd h43 (by omega))
    refine g_aload_n dX5_keepNow_76 rfl 1 rfl ?_
    refine g_aload_n dX5_keepNow_77 rfl 1 rfl ?_
    refine s_getM kf_X5_112 (by decide) rfl dX5_keepNow_78 ?_
    refine s_putM kf_X5_230 (by decide) dX5_keepNow_81 ?_
    exact g_return dX5_keepNow_84 (Nat.le_refl _) (Nat.le_refl _) (h _ (els_I he _) ⟨fun p hp => ⟨c50 p hp, c51 p hp⟩, fun k hk => ⟨c52 k hk, c53 k hk⟩, (sI_same _ _ _ _).trans (he.2.2.1 3 (by decide))⟩)
  | succ n ih =>
    intro k hct σ' he c50 c51 c52 c53
    refine g_iload_n dX5_keepNow_40 rfl 0 rfl ?_
    refine g_bipush dX5_keepNow_41 bp_8 ?_
    refine n_icmpge 76 dX5_keepNow_43 (by decide) (by omega) (by omega) (fun h43 => absurd h43 (by omega)) (fun h43 => ?_)
    refine g_aload_n dX5_keepNow_46 rfl 1 rfl ?_
    refine s_getM kf_X5_64 (by decide) rfl dX5_keepNow_47 ?_
    refine g_iload_n dX5_keepNow_50 rfl 0 rfl ?_
    refine g_aload_n dX5_keepNow_51 rfl 1 rfl ?_
    refine s_getM kf_X5_31 (by decide) rfl dX5_keepNow_52 ?_
    refine g_iload_n dX5_keepNow_55 rfl 0 rfl ?_
    refine s_ald (q := 41) (n := 8) (at_ia (q := 41) rfl) (by omega) (by decide) dX5_keepNow_56 ?_
    refine s_ast (q := 52) (n := 8) (at_ia (q := 52) rfl) (by omega) (by decide) dX5_keepNow_57 ?_
    have he0 := he
    have he := els_A he (q := 52) (by decide) (upd (sA σ' 52) k (sA σ' 41 k))
    have c50 := cpd_oth (q := 52) c50 (by decide) (upd (sA σ' 52) k (sA σ' 41 k))
    have c51 := cpd_oth (q := 52) c51 (by decide) (upd (sA σ' 52) k (sA σ' 41 k))
    have c52 := cpd_put c52 (sA σ' 41 k) (congrFun (he0.1 41 (by decide)) _)
    have c53 := cpd_oth (q := 52) c53 (by decide) (upd (sA σ' 52) k (sA σ' 41 k))
    generalize setA σ' 52 (upd (sA σ' 52) k (sA σ' 41 k)) = σk34 at he c50 c51 c52 c53 ⊢
    refine g_aload_n dX5_keepNow_58 rfl 1 rfl ?_
    refine s_getM kf_X5_67 (by decide) rfl dX5_keepNow_59 ?_
    refine g_iload_n dX5_keepNow_62 rfl 0 rfl ?_
    refine g_aload_n dX5_keepNow_63 rfl 1 rfl ?_
    refine s_getM kf_X5_19 (by decide) rfl dX5_keepNow_64 ?_
    refine g_iload_n dX5_keepNow_67 rfl 0 rfl ?_
    refine s_ald (q := 37) (n := 8) (at_ia (q := 37) rfl) (by omega) (by decide) dX5_keepNow_68 ?_
    refine s_ast (q := 53) (n := 8) (at_ia (q := 53) rfl) (by omega) (by decide) dX5_keepNow_69 ?_
    have he0 := he
    have he := els_A he (q := 53) (by decide) (upd (sA σk34 53) k (sA σk34 37 k))
    have c50 := cpd_oth (q := 53) c50 (by decide) (upd (sA σk34 53) k (sA σk34 37 k))
    have c51 := cpd_oth (q := 53) c51 (by decide) (upd (sA σk34 53) k (sA σk34 37 k))
    have c52 := cpd_oth (q := 53) c52 (by decide) (upd (sA σk34 53) k (sA σk34 37 k))
    have c53 := cpd_put c53 (sA σk34 37 k) (congrFun (he0.1 37 (by decide)) _)
    generalize setA σk34 53 (upd (sA σk34 53) k (sA σk34 37 k)) = σk35 at he c50 c51 c52 c53 ⊢
    refine g_iinc (v := nI (k + 1)) (lv' := [(1, .int (nI (k + 1))), (0, .ref (L 33))]) dX5_keepNow_70 0 rfl (inc_n _) (by decide) rfl ?_
    refine g_goto 40 dX5_keepNow_73 (by decide) ?_
    refine g_pick [0, 1] (lv' := [(1, .int (nI (k + 1))), (0, .ref (L 33))]) rfl ?_
    exact ih (k + 1) (by omega) _ he c50 c51 c52 c53
set_option maxHeartbeats 4000000 in
set_option maxRecDepth 20000 in
theorem l1_X5_keepNow {l : Launch} {D : gE} {L : Nat → Nat} {σ : St} {Q : Option Value → va_W → Prop} {d : Nat} (h : ∀ σ', els [50, 51, 52, 53] 34 σ σ' → kpt σ σ' → Q none (wsOf D L σ')) : ∀ n k, k + n = 6 → ∀ σ', els [50, 51, 52, 53] 34 σ σ' → cpd 50 38 k σ σ' → cpd 51 40 k σ σ' → cpd 52 41 0 σ σ' → cpd 53 37 0 σ σ' → G l D yX5_keepNow cX5_keepNow 2 none (rr d) Q 0 0 2 [(1, .int (nI k)), (0, .ref (L 33))] [] (wsOf D L σ') := by
  intro n
  induction n with
  | zero =>
    intro k hct σ' he c50 c51 c52 c53
    obtain rfl : k = 6 := by omega
    refine g_iload_n dX5_keepNow_2 rfl 0 rfl ?_
    refine g_bipush dX5_keepNow_3 bp_6 ?_
    refine n_icmpge 38 dX5_keepNow_5 (by decide) (by omega) (by omega) (fun h5 => ?_) (fun h5 => absurd h5 (by omega))
    refine g_iconst dX5_keepNow_38 ci_0 ?_
    refine g_istore_n (lv' := [(1, .int (nI 0)), (0, .ref (L 33))]) dX5_keepNow_39 rfl (by decide) rfl ?_
    refine g_pick [0, 1] (lv' := [(1, .int (nI 0)), (0, .ref (L 33))]) rfl ?_
    exact l2_X5_keepNow h 8 0 rfl _ he c50 c51 c52 c53
  | succ n ih =>
    intro k hct σ' he c50 c51 c52 c53
    refine g_iload_n dX5_keepNow_2 rfl 0 rfl ?_
    refine g_bipush dX5_keepNow_3 bp_6 ?_
    refine n_icmpge 38 dX5_keepNow_5 (by decide) (by omega) (by omega) (fun h5 => absurd h5 (by omega)) (fun h5 => ?_)
    refine g_aload_n dX5_keepNow_8 rfl 1 rfl ?_
    refine s_getM kf_X5_58 (by decide) rfl dX5_keepNow_9 ?_
    refine g_iload_n dX5_keepNow_12 rfl 0 rfl ?_
    refine g_aload_n dX5_keepNow_13 rfl 1 rfl ?_
    refine s_getM kf_X5_22 (by decide) rfl dX5_keepNow_14 ?_
    refine g_iload_n dX5_keepNow_17 rfl 0 rfl ?_
    refine s_ald (q := 38) (n := 6) (at_ia (q := 38) rfl) (by omega) (by decide) dX5_keepNow_18 ?_
    refine s_ast (q := 50) (n := 6) (at_ia (q := 50) rfl) (by omega) (by decide) dX5_keepNow_19 ?_
    have he0 := he
    have he := els_A he (q := 50) (by decide) (upd (sA σ' 50) k (sA σ' 38 k))
    have c50 := cpd_put c50 (sA σ' 38 k) (congrFun (he0.1 38 (by decide)) _)
    have c51 := cpd_oth (q := 50) c51 (by decide) (upd (sA σ' 50) k (sA σ' 38 k))
    have c52 := cpd_oth (q := 50) c52 (by decide) (upd (sA σ' 50) k (sA σ' 38 k))
    have c53 := cpd_oth (q := 50) c53 (by decide) (upd (sA σ' 50) k (sA σ' 38 k))
    generalize setA σ' 50 (upd (sA σ' 50) k (sA σ' 38 k)) = σk36 at he c50 c51 c52 c53 ⊢
    refine g_aload_n dX5_keepNow_20 rfl 1 rfl ?_
    refine s_getM kf_X5_61 (by decide) rfl dX5_keepNow_21 ?_
    refine g_iload_n dX5_keepNow_24 rfl 0 rfl ?_
    refine g_aload_n dX5_keepNow_25 rfl 1 rfl ?_
    refine s_getM kf_X5_28 (by decide) rfl dX5_keepNow_26 ?_
    refine g_iload_n dX5_keepNow_29 rfl 0 rfl ?_
    refine s_ald (q := 40) (n := 6) (at_ia (q := 40) rfl) (by omega) (by decide) dX5_keepNow_30 ?_
    refine s_ast (q := 51) (n := 6) (at_ia (q := 51) rfl) (by omega) (by decide) dX5_keepNow_31 ?_
    have he0 := he
    have he := els_A he (q := 51) (by decide) (upd (sA σk36 51) k (sA σk36 40 k))
    have c50 := cpd_oth (q := 51) c50 (by decide) (upd (sA σk36 51) k (sA σk36 40 k))
    have c51 := cpd_put c51 (sA σk36 40 k) (congrFun (he0.1 40 (by decide)) _)
    have c52 := cpd_oth (q := 51) c52 (by decide) (upd (sA σk36 51) k (sA σk36 40 k))
    have c53 := cpd_oth (q := 51) c53 (by decide) (upd (sA σk36 51) k (sA σk36 40 k))
    generalize setA σk36 51 (upd (sA σk36 51) k (sA σk36 40 k)) = σk37 at he c50 c51 c52 c53 ⊢
    refine g_iinc (v := nI (k + 1)) (lv' := [(1, .int (nI (k + 1))), (0, .ref (L 33))]) dX5_keepNow_32 0 rfl (inc_n _) (by decide) rfl ?_
    refine g_goto 2 dX5_keepNow_35 (by decide) ?_
    refine g_pick [0, 1] (lv' := [(1, .int (nI (k + 1))), (0, .ref (L 33))]) rfl ?_
    exact ih (k + 1) (by omega) _ he c50 c51 c52 c53
set_option maxHeartbeats 4000000 in
set_option maxRecDepth 20000 in
theorem c_X5_keepNow {l : Launch} {D : gE} {L : Nat → Nat} {σ : St} {Q : Option Value → va_W → Prop} {d : Nat} (h : ∀ σ', els [50, 51, 52, 53] 34 σ σ' → kpt σ σ' → Q none (wsOf D L σ')) : Ctr l D yX5_keepNow cX5_keepNow 2 none (rr d) [.ref (L 33)] (wsOf D L σ) Q := by
  refine g_start ky_X5_keepNow (Nat.le_of_ble_eq_true rfl) ?_
  refine g_pick [0] (lv' := [(0, .ref (L 33))]) rfl ?_
  refine g_iconst dX5_keepNow_0 ci_0 ?_
  refine g_istore_n (lv' := [(1, .int (nI 0)), (0, .ref (L 33))]) dX5_keepNow_1 rfl (by decide) rfl ?_
  refine g_pick [0, 1] (lv' := [(1, .int (nI 0)), (0, .ref (L 33))]) rfl ?_
  exact l1_X5_keepNow h 6 0 rfl _ els_rfl (fun i hi => absurd hi (by omega)) (fun i hi => absurd hi (by omega)) (fun i hi => absurd hi (by omega)) (fun i hi => absurd hi (by omega))
theorem c_X5_keepX {l : Launch} {D : gE} {L : Nat → Nat} {σ : St} {Q : Option Value → va_W → Prop} {d : Nat} {X : XT} (hX : rpM σ X) (h : ∀ σ', fr σ σ' → rpM σ' X → kpt σ σ' → Q none (wsOf D L σ')) : Ctr l D yX5_keepNow cX5_keepNow 2 none (rr d) [.ref (L 33)] (wsOf D L σ) Q := c_X5_keepNow (fun σ' he hk => h σ' (els_fr he (by decide) (by decide)) (rpM_els hX he (fun q h1 h2 => by simp; omega) (by decide)) hk)
set_option maxHeartbeats 4000000 in
set_option maxRecDepth 20000 in
theorem l2_X5_putBack {l : Launch} {D : gE} {L : Nat → Nat} {σ : St} {Q : Option Value → va_W → Prop} {d : Nat} {σ0 : St} (hk : kpt σ0 σ) (h : ∀ σ', els [37, 38, 40, 41] 3 σ σ' → cpd 38 38 6 σ0 σ' → cpd 40 40 6 σ0 σ' → cpd 41 41 8 σ0 σ' → cpd 37 37 8 σ0 σ' → sI σ' 33 3 = sI σ0 33 3 → Q none (wsOf D L σ')) : ∀ n k, k + n = 8 → ∀ σ', els [37, 38, 40, 41] 3 σ σ' → cpd 38 38 6 σ0 σ' → cpd 40 40 6 σ0 σ' → cpd 41 41 k σ0 σ' → cpd 37 37 k σ0 σ' → G l D yX5_putBack cX5_putBack 2 none (rr d) Q 0 0 40 [(1, .int (nI k)), (0, .ref (L 33))] [] (wsOf D L σ') := by
  intro n
  induction n with
  | zero =>
    intro k hct σ' he c38 c40 c41 c37
    obtain rfl : k = 8 := by omega
    refine g_iload_n dX5_putBack_40 rfl 0 rfl ?_
    refine g_bipush dX5_putBack_41 bp_8 ?_
    refine n_icmpge 76 dX5_putBack_43 (by decide) (by omega) (by omega) (fun h43 => ?_) (fun h43 => absurd h43 (by omega))
    refine g_aload_n dX5_putBack_76 rfl 1 rfl ?_
    refine g_aload_n dX5_putBack_77 rfl 1 rfl ?_
    refine s_getM kf_X5_230 (by decide) rfl dX5_putBack_78 ?_
    refine s_putM kf_X5_112 (by decide) dX5_putBack_81 ?_
    exact g_return dX5_putBack_84 (Nat.le_refl _) (Nat.le_refl _) (h _ (els_I he _) c38 c40 c41 c37 ((sI_same _ _ _ _).trans ((he.2.2.1 34 (by decide)).trans hk.2.2)))
  | succ n ih =>
    intro k hct σ' he c38 c40 c41 c37
    refine g_iload_n dX5_putBack_40 rfl 0 rfl ?_
    refine g_bipush dX5_putBack_41 bp_8 ?_
    refine n_icmpge 76 dX5_putBack_43 (by decide) (by omega) (by omega) (fun h43 => absurd h43 (by omega)) (fun h43 => ?_)
    refine g_aload_n dX5_putBack_46 rfl 1 rfl ?_
    refine s_getM kf_X5_31 (by decide) rfl dX5_putBack_47 ?_
    refine g_iload_n dX5_putBack_50 rfl 0 rfl ?_
    refine g_aload_n dX5_putBack_51 rfl 1 rfl ?_
    refine s_getM kf_X5_64 (by decide) rfl dX5_putBack_52 ?_
    refine g_iload_n dX5_putBack_55 rfl 0 rfl ?_
    refine s_ald (q := 52) (n := 8) (at_ia (q := 52) rfl) (by omega) (by decide) dX5_putBack_56 ?_
    refine s_ast (q := 41) (n := 8) (at_ia (q := 41) rfl) (by omega) (by decide) dX5_putBack_57 ?_
    have he0 := he
    have he := els_A he (q := 41) (by decide) (upd (sA σ' 41) k (sA σ' 52 k))
    have c37 := cpd_oth (q := 41) c37 (by decide) (upd (sA σ' 41) k (sA σ' 52 k))
    have c38 := cpd_oth (q := 41) c38 (by decide) (upd (sA σ' 41) k (sA σ' 52 k))
    have c40 := cpd_oth (q := 41) c40 (by decide) (upd (sA σ' 41) k (sA σ' 52 k))
    have c41 := cpd_put c41 (sA σ' 52 k) ((congrFun (he0.1 52 (by decide)) _).trans (hk.2.1 _ (by omega)).1)
    generalize setA σ' 41 (upd (sA σ' 41) k (sA σ' 52 k)) = σk38 at he c37 c38 c40 c41 ⊢
    refine g_aload_n dX5_putBack_58 rfl 1 rfl ?_
    refine s_getM kf_X5_19 (by decide) rfl dX5_putBack_59 ?_
    refine g_iload_n dX5_putBack_62 rfl 0 rfl ?_
    refine g_aload_n dX5_putBack_63 rfl 1 rfl ?_
    refine s_getM kf_X5_67 (by decide) rfl dX5_putBack_64 ?_
    refine g_iload_n dX5_putBack_67 rfl 0 rfl ?_
    refine s_ald (q := 53) (n := 8) (at_ia (q := 53) rfl) (by omega) (by decide) dX5_putBack_68 ?_
    refine s_ast (q := 37) (n := 8) (at_ia (q := 37) rfl) (by omega) (by decide) dX5_putBack_69 ?_
    have he0 := he
    have he := els_A he (q := 37) (by decide) (upd (sA σk38 37) k (sA σk38 53 k))
    have c37 := cpd_put c37 (sA σk38 53 k) ((congrFun (he0.1 53 (by decide)) _).trans (hk.2.1 _ (by omega)).2)
    have c38 := cpd_oth (q := 37) c38 (by decide) (upd (sA σk38 37) k (sA σk38 53 k))
    have c40 := cpd_oth (q := 37) c40 (by decide) (upd (sA σk38 37) k (sA σk38 53 k))
    have c41 := cpd_oth (q := 37) c41 (by decide) (upd (sA σk38 37) k (sA σk38 53 k))
    generalize setA σk38 37 (upd (sA σk38 37) k (sA σk38 53 k)) = σk39 at he c37 c38 c40 c41 ⊢
    refine g_iinc (v := nI (k + 1)) (lv' := [(1, .int (nI (k + 1))), (0, .ref (L 33))]) dX5_putBack_70 0 rfl (inc_n _) (by decide) rfl ?_
    refine g_goto 40 dX5_putBack_73 (by decide) ?_
    refine g_pick [0, 1] (lv' := [(1, .int (nI (k + 1))), (0, .ref (L 33))]) rfl ?_
    exact ih (k + 1) (by omega) _ he c38 c40 c41 c37
set_option maxHeartbeats 4000000 in
set_option maxRecDepth 20000 in
theorem l1_X5_putBack {l : Launch} {D : gE} {L : Nat → Nat} {σ : St} {Q : Option Value → va_W → Prop} {d : Nat} {σ0 : St} (hk : kpt σ0 σ) (h : ∀ σ', els [37, 38, 40, 41] 3 σ σ' → cpd 38 38 6 σ0 σ' → cpd 40 40 6 σ0 σ' → cpd 41 41 8 σ0 σ' → cpd 37 37 8 σ0 σ' → sI σ' 33 3 = sI σ0 33 3 → Q none (wsOf D L σ')) : ∀ n k, k + n = 6 → ∀ σ', els [37, 38, 40, 41] 3 σ σ' → cpd 38 38 k σ0 σ' → cpd 40 40 k σ0 σ' → cpd 41 41 0 σ0 σ' → cpd 37 37 0 σ0 σ' → G l D yX5_putBack cX5_putBack 2 none (rr d) Q 0 0 2 [(1, .int (nI k)), (0, .ref (L 33))] [] (wsOf D L σ') := by
  intro n
  induction n with
  | zero =>
    intro k hct σ' he c38 c40 c41 c37
    obtain rfl : k = 6 := by omega
    refine g_iload_n dX5_putBack_2 rfl 0 rfl ?_
    refine g_bipush dX5_putBack_3 bp_6 ?_
    refine n_icmpge 38 dX5_putBack_5 (by decide) (by omega) (by omega) (fun h5 => ?_) (fun h5 => absurd h5 (by omega))
    refine g_iconst dX5_putBack_38 ci_0 ?_
    refine g_istore_n (lv' := [(1, .int (nI 0)), (0, .ref (L 33))]) dX5_putBack_39 rfl (by decide) rfl ?_
    refine g_pick [0, 1] (lv' := [(1, .int (nI 0)), (0, .ref (L 33))]) rfl ?_
    exact l2_X5_putBack hk h 8 0 rfl _ he c38 c40 c41 c37
  | succ n ih =>
    intro k hct σ' he c38 c40 c41 c37
    refine g_iload_n dX5_putBack_2 rfl 0 rfl ?_
    refine g_bipush dX5_putBack_3 bp_6 ?_
    refine n_icmpge 38 dX5_putBack_5 (by decide) (by omega) (by omega) (fun h5 => absurd h5 (by omega)) (fun h5 => ?_)
    refine g_aload_n dX5_putBack_8 rfl 1 rfl ?_
    refine s_getM kf_X5_22 (by decide) rfl dX5_putBack_9 ?_
    refine g_iload_n dX5_putBack_12 rfl 0 rfl ?_
    refine g_aload_n dX5_putBack_13 rfl 1 rfl ?_
    refine s_getM kf_X5_58 (by decide) rfl dX5_putBack_14 ?_
    refine g_iload_n dX5_putBack_17 rfl 0 rfl ?_
    refine s_ald (q := 50) (n := 6) (at_ia (q := 50) rfl) (by omega) (by decide) dX5_putBack_18 ?_
    refine s_ast (q := 38) (n := 6) (at_ia (q := 38) rfl) (by omega) (by decide) dX5_putBack_19 ?_
    have he0 := he
    have he := els_A he (q := 38) (by decide) (upd (sA σ' 38) k (sA σ' 50 k))
    have c37 := cpd_oth (q := 38) c37 (by decide) (upd (sA σ' 38) k (sA σ' 50 k))
    have c38 := cpd_put c38 (sA σ' 50 k) ((congrFun (he0.1 50 (by decide)) _).trans (hk.1 _ (by omega)).1)
    have c40 := cpd_oth (q := 38) c40 (by decide) (upd (sA σ' 38) k (sA σ' 50 k))
    have c41 := cpd_oth (q := 38) c41 (by decide) (upd (sA σ' 38) k (sA σ' 50 k))
    generalize setA σ' 38 (upd (sA σ' 38) k (sA σ' 50 k)) = σk40 at he c37 c38 c40 c41 ⊢
    refine g_aload_n dX5_putBack_20 rfl 1 rfl ?_
    refine s_getM kf_X5_28 (by decide) rfl dX5_putBack_21 ?_
    refine g_iload_n dX5_putBack_24 rfl 0 rfl ?_
    refine g_aload_n dX5_putBack_25 rfl 1 rfl ?_
    refine s_getM kf_X5_61 (by decide) rfl dX5_putBack_26 ?_
    refine g_iload_n dX5_putBack_29 rfl 0 rfl ?_
    refine s_ald (q := 51) (n := 6) (at_ia (q := 51) rfl) (by omega) (by decide) dX5_putBack_30 ?_
    refine s_ast (q := 40) (n := 6) (at_ia (q := 40) rfl) (by omega) (by decide) dX5_putBack_31 ?_
    have he0 := he
    have he := els_A he (q := 40) (by decide) (upd (sA σk40 40) k (sA σk40 51 k))
    have c37 := cpd_oth (q := 40) c37 (by decide) (upd (sA σk40 40) k (sA σk40 51 k))
    have c38 := cpd_oth (q := 40) c38 (by decide) (upd (sA σk40 40) k (sA σk40 51 k))
    have c40 := cpd_put c40 (sA σk40 51 k) ((congrFun (he0.1 51 (by decide)) _).trans (hk.1 _ (by omega)).2)
    have c41 := cpd_oth (q := 40) c41 (by decide) (upd (sA σk40 40) k (sA σk40 51 k))
    generalize setA σk40 40 (upd (sA σk40 40) k (sA σk40 51 k)) = σk41 at he c37 c38 c40 c41 ⊢
    refine g_iinc (v := nI (k + 1)) (lv' := [(1, .int (nI (k + 1))), (0, .ref (L 33))]) dX5_putBack_32 0 rfl (inc_n _) (by decide) rfl ?_
    refine g_goto 2 dX5_putBack_35 (by decide) ?_
    refine g_pick [0, 1] (lv' := [(1, .int (nI (k + 1))), (0, .ref (L 33))]) rfl ?_
    exact ih (k + 1) (by omega) _ he c38 c40 c41 c37
set_option maxHeartbeats 4000000 in
set_option maxRecDepth 20000 in
theorem c_X5_putBack {l : Launch} {D : gE} {L : Nat → Nat} {σ : St} {Q : Option Value → va_W → Prop} {d : Nat} {σ0 : St} (hk : kpt σ0 σ) (h : ∀ σ', els [37, 38, 40, 41] 3 σ σ' → cpd 38 38 6 σ0 σ' → cpd 40 40 6 σ0 σ' → cpd 41 41 8 σ0 σ' → cpd 37 37 8 σ0 σ' → sI σ' 33 3 = sI σ0 33 3 → Q none (wsOf D L σ')) : Ctr l D yX5_putBack cX5_putBack 2 none (rr d) [.ref (L 33)] (wsOf D L σ) Q := by
  refine g_start ky_X5_putBack (Nat.le_of_ble_eq_true rfl) ?_
  refine g_pick [0] (lv' := [(0, .ref (L 33))]) rfl ?_
  refine g_iconst dX5_putBack_0 ci_0 ?_
  refine g_istore_n (lv' := [(1, .int (nI 0)), (0, .ref (L 33))]) dX5_putBack_1 rfl (by decide) rfl ?_
  refine g_pick [0, 1] (lv' := [(1, .int (nI 0)), (0, .ref (L 33))]) rfl ?_
  exact l1_X5_putBack hk h 6 0 rfl _ els_rfl (fun i hi => absurd hi (by omega)) (fun i hi => absurd hi (by omega)) (fun i hi => absurd hi (by omega)) (fun i hi => absurd hi (by omega))
theorem c_X5_backX {l : Launch} {D : gE} {L : Nat → Nat} {σ : St} {Q : Option Value → va_W → Prop} {d : Nat} {σ0 : St} {X0 X : XT} (hk : kpt σ0 σ) (h0 : rpM σ0 X0) (hX : rpM σ X) (hs : smeX X X0) (h : ∀ σ', fr σ σ' → rpM σ' X0 → (∀ k, k ≠ 3 → sI σ' 33 k = sI σ 33 k) → Q none (wsOf D L σ')) : Ctr l D yX5_putBack cX5_putBack 2 none (rr d) [.ref (L 33)] (wsOf D L σ) Q := c_X5_putBack hk (fun σ' he c38 c40 c41 c37 h3 => h σ' (els_fr he (by decide) (by decide)) (back_ok h0 hX hs he c38 c40 c41 c37 h3) he.2.2.1)
