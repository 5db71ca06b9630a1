/-! ERRANDS of the reference -/
theorem ten_le {k : Nat} (h : k ≤ 6) : 10 ^ k ≤ 1000000 := Nat.le_trans (Nat.pow_le_pow_right (by decide) h) (by decide)
def dcr : Nat → Int32
  | 0 => -1
  | n + 1 => nI n
theorem dcr_dec (q : Nat) : nI q + Int32.ofInt (-1) = dcr q := by
  cases q with
  | zero => decide +kernel
  | succ n => exact pk_m1 n
theorem dcr_sub (q : Nat) : nI q - nI 1 = dcr q := by
  cases q with
  | zero => decide +kernel
  | succ n => exact pk_sub (by omega)
set_option maxHeartbeats 4000000 in
set_option maxRecDepth 20000 in
theorem lp_X5_tens {l : Launch} {D : gE} {L : Nat → Nat} {σ : St} {Q : Option Value → va_W → Prop} {d : Nat} {e : Nat} (he : e ≤ 6) (h : Q (some (.int (nI (10 ^ e)))) (wsOf D L σ)) : ∀ n_ k, k + n_ = e → G l D yX5_tens cX5_tens 3 (some .int) (rr d) Q 0 0 4 [(2, .int (nI k)), (1, .int (nI (10 ^ k))), (0, .int (nI e))] [] (wsOf D L σ) := by
  intro n_
  induction n_ with
  | zero =>
    intro k hct
    obtain rfl : k = e := by omega
    refine g_iload_n dX5_tens_4 rfl 0 rfl ?_
    refine g_iload_n dX5_tens_5 rfl 2 rfl ?_
    refine n_icmpge 20 dX5_tens_6 (by decide) (by omega) (by omega) (fun h6 => ?_) (fun h6 => absurd h6 (by omega))
    refine g_iload_n dX5_tens_20 rfl 1 rfl ?_
    exact g_ireturn dX5_tens_21 (Nat.le_refl _) (Nat.le_refl _) (h)
  | succ n_ ih =>
    intro k hct
    refine g_iload_n dX5_tens_4 rfl 0 rfl ?_
    refine g_iload_n dX5_tens_5 rfl 2 rfl ?_
    refine n_icmpge 20 dX5_tens_6 (by decide) (by omega) (by omega) (fun h6 => absurd h6 (by omega)) (fun h6 => ?_)
    refine g_iload_n dX5_tens_9 rfl 1 rfl ?_
    refine g_bipush dX5_tens_10 bp_10 ?_
    refine g_imul dX5_tens_12 ?_
    refine g_tope (z := nI (10 ^ (k + 1))) ((pk_mul _ _).trans (by rw [Nat.pow_succ])) ?_
    refine g_istore_n (lv' := [(1, .int (nI (10 ^ (k + 1)))), (2, .int (nI k)), (0, .int (nI e))]) dX5_tens_13 rfl (by decide) rfl ?_
    refine g_iinc (v := nI (k + 1)) (lv' := [(2, .int (nI (k + 1))), (1, .int (nI (10 ^ (k + 1)))), (0, .int (nI e))]) dX5_tens_14 1 rfl (inc_n _) (by decide) rfl ?_
    refine g_goto 4 dX5_tens_17 (by decide) ?_
    refine g_pick [0, 1, 2] (lv' := [(2, .int (nI (k + 1))), (1, .int (nI (10 ^ (k + 1)))), (0, .int (nI e))]) rfl ?_
    exact ih (k + 1) (by omega)
set_option maxHeartbeats 4000000 in
set_option maxRecDepth 20000 in
theorem c_X5_tens {l : Launch} {D : gE} {L : Nat → Nat} {σ : St} {Q : Option Value → va_W → Prop} {d : Nat} {e : Nat} (he : e ≤ 6) (h : Q (some (.int (nI (10 ^ e)))) (wsOf D L σ)) : Ctr l D yX5_tens cX5_tens 3 (some .int) (rr d) [.int (nI e)] (wsOf D L σ) Q := by
  refine g_start ky_X5_tens (Nat.le_of_ble_eq_true rfl) ?_
  refine g_pick [0] (lv' := [(0, .int (nI e))]) rfl ?_
  refine g_iconst dX5_tens_0 ci_1 ?_
  refine g_istore_n (lv' := [(1, .int (nI 1)), (0, .int (nI e))]) dX5_tens_1 rfl (by decide) rfl ?_
  refine g_iconst dX5_tens_2 ci_0 ?_
  refine g_istore_n (lv' := [(2, .int (nI 0)), (1, .int (nI 1)), (0, .int (nI e))]) dX5_tens_3 rfl (by decide) rfl ?_
  refine g_pick [0, 1, 2] (lv' := [(2, .int (nI 0)), (1, .int (nI 1)), (0, .int (nI e))]) rfl ?_
  exact lp_X5_tens he h e 0 (by omega)
/-- what laying the errands changes -/
def fE (σ σ' : St) : Prop := (∀ q, q ≠ 55 → q ≠ 56 → sA σ' q = sA σ q) ∧ (∀ o, o ≠ 33 → sI σ' o = sI σ o) ∧ (∀ k, k ≠ 39 → sI σ' 33 k = sI σ 33 k) ∧ sK σ' = sK σ ∧ sM σ' = sM σ
theorem fE_rfl {σ : St} : fE σ σ := ⟨fun _ _ _ => rfl, fun _ _ => rfl, fun _ _ => rfl, rfl, rfl⟩
theorem fE_trans {a b c : St} (h : fE a b) (g : fE b c) : fE a c := ⟨fun q h1 h2 => (g.1 q h1 h2).trans (h.1 q h1 h2), fun o ho => (g.2.1 o ho).trans (h.2.1 o ho), fun k h1 => (g.2.2.1 k h1).trans (h.2.2.1 k h1), g.2.2.2.1.trans h.2.2.2.1, g.2.2.2.2.trans h.2.2.2.2⟩
theorem fE_A {a b : St} (h : fE a b) (q : Nat) (hq : q = 55 ∨ q = 56) (f : Nat → Int32) : fE a (setA b q f) := fE_trans h ⟨fun r h1 h2 => if_neg (by omega), fun _ _ => rfl, fun _ _ => rfl, rfl, rfl⟩
theorem fE_I {a b : St} (h : fE a b) (x : Int32) : fE a (setI b 33 39 x) := fE_trans h ⟨fun _ _ _ => rfl, fun o ho => if_neg ho, fun j h1 => sI_ne b 33 39 j h1 x, rfl, rfl⟩
theorem fE_fr {a b : St} (h : fE a b) : fr a b := ⟨h.2.1, fun q hq => h.1 q (by omega) (by omega), h.2.2.1 18 (by omega), h.2.2.2.1, h.2.2.2.2⟩
/-- the rows of errands, from a PERSON on -/
def eRw (σ : St) (a g q : Nat) : Prop := ∀ p, q ≤ p → p < 6 → a.testBit p = true → sA σ 55 (cntN a.testBit p) = nI p ∧ sA σ 56 (cntN a.testBit p) = nI (glN g (ecN a) (cntN a.testBit p))
theorem eRw_no {σ : St} {a g q : Nat} (h : eRw σ a g (q + 1)) (hq : a.testBit q = false) : eRw σ a g q := fun p h1 h2 h3 => h p (by
  rcases Nat.lt_or_ge q p with c | c
  · exact c
  · have : p = q := by omega
    rw [this, hq] at h3; cases h3) h2 h3
theorem eRw_yes {σ : St} {a g q : Nat} (h : eRw σ a g (q + 1)) (hq : a.testBit q = true) : eRw (setA (setA σ 55 (upd (sA σ 55) (cntN a.testBit q) (nI q))) 56 (upd (sA (setA σ 55 (upd (sA σ 55) (cntN a.testBit q) (nI q))) 56) (cntN a.testBit q) (nI (glN g (ecN a) (cntN a.testBit q))))) a g q := by
  intro p h1 h2 h3
  rw [sA_ne _ 56 55 (by decide), sA_same, sA_same, sA_ne _ 55 56 (by decide)]
  by_cases c : p = q
  · rw [c]; exact ⟨pk_us, pk_us⟩
  · have hne : cntN a.testBit p ≠ cntN a.testBit q := fun e => c (cnt_inj h3 hq e)
    rw [pk_un hne, pk_un hne]
    exact h p (by omega) h2 h3
theorem eRw_0 {σ : St} {a g j : Nat} (h : eRw σ a g 0) (hj : j < ecN a) : sA σ 55 j = nI (nthS a j) ∧ sA σ 56 j = nI (glN g (ecN a) j) := by
  obtain ⟨h1, h2, h3⟩ := nth_spec hj
  have := h (nthS a j) (Nat.zero_le _) h1 h2
  rw [h3] at this; exact this
theorem glB_s {sz g e c : Nat} (hc : c < e) : glB sz g e c = (glB sz g e (c + 1) && decide (glN g e c < sz)) := by
  unfold glB
  rw [Bool.eq_iff_iff]
  rw [Bool.and_eq_true, Bool.not_eq_true', Bool.not_eq_true', decide_eq_true_eq]
  constructor
  · intro h
    refine ⟨?_, ?_⟩
    · cases e2 : anyN (fun j => decide (c + 1 ≤ j) && !decide (glN g e j < sz)) e with
      | false => rfl
      | true =>
        obtain ⟨j, hj, h2⟩ := (anyN_iff _ e).mp e2
        simp at h2
        have : anyN (fun j => decide (c ≤ j) && !decide (glN g e j < sz)) e = true := (anyN_iff _ e).mpr ⟨j, hj, by simp; omega⟩
        rw [h] at this; cases this
    · apply Classical.byContradiction
      intro q
      have : anyN (fun j => decide (c ≤ j) && !decide (glN g e j < sz)) e = true := (anyN_iff _ e).mpr ⟨c, hc, by simp; omega⟩
      rw [h] at this; cases this
  · intro h
    cases e2 : anyN (fun j => decide (c ≤ j) && !decide (glN g e j < sz)) e with
    | false => rfl
    | true =>
      obtain ⟨j, hj, h2⟩ := (anyN_iff _ e).mp e2
      simp at h2
      by_cases q : j = c
      · rw [q] at h2; omega
      · have : anyN (fun j => decide (c + 1 ≤ j) && !decide (glN g e j < sz)) e = true := (anyN_iff _ e).mpr ⟨j, hj, by simp; omega⟩
        rw [h.1] at this; cases this
theorem glB_e {sz g e : Nat} : glB sz g e e = true := by
  unfold glB
  rw [Bool.not_eq_true']
  cases e2 : anyN (fun j => decide (e ≤ j) && !decide (glN g e j < sz)) e with
  | false => rfl
  | true =>
    obtain ⟨j, hj, h2⟩ := (anyN_iff _ e).mp e2
    simp at h2; omega
theorem ten_div {g e c : Nat} (hc : c < e) : g / 10 ^ (e - (c + 1)) / 10 = g / 10 ^ (e - c) := by
  rw [Nat.div_div_eq_div_mul, ← Nat.pow_succ, show (e - (c + 1)).succ = e - c by omega]
set_option maxHeartbeats 4000000 in
set_option maxRecDepth 20000 in
theorem lp_X5_layErrands {l : Launch} {D : gE} {L : Nat → Nat} {σ : St} {Q : Option Value → va_W → Prop} {d : Nat} {X : XT} (ho : okX X) {a g : Nat} (ha : a < 64) (hg : g < 2 ^ 31)  (ht : glB (x_sz X) g (ecN a) 0 = true → ∀ σ', fE σ σ' ∧ sI σ' 33 39 = nI (ecN a) → rpM σ' X → eRw σ' a g 0 → Q (some (.int (nI 1))) (wsOf D L σ')) (hf : glB (x_sz X) g (ecN a) 0 = false → ∀ σ', fE σ σ' ∧ sI σ' 33 39 = nI (ecN a) → rpM σ' X → Q (some (.int (nI 0))) (wsOf D L σ')) : ∀ q, q ≤ 6 → ∀ σ', fE σ σ' ∧ sI σ' 33 39 = nI (ecN a) → rpM σ' X → eRw σ' a g q → G l D yX5_layErrands cX5_layErrands 7 (some .boolean) (rr (d + 2)) Q 0 0 45 [(6, .int (dcr q)), (4, .int (dcr (cntN a.testBit q))), (5, .int (nI (b2n (glB (x_sz X) g (ecN a) (cntN a.testBit q))))), (3, .int (nI (g / 10 ^ (ecN a - cntN a.testBit q)))), (0, .ref (L 33)), (1, .int (nI a)), (2, .int (nI g))] [] (wsOf D L σ') := by
  intro q
  induction q with
  | zero =>
    intro hq σ' hfe hX hr
    refine g_iload dX5_layErrands_45 0 rfl ?_
    refine g_iflt 117 dX5_layErrands_47 (by decide) (fun h47 => ?_) (fun h47 => absurd h47 (by decide +kernel))
    refine g_iload dX5_layErrands_117 2 rfl ?_
    cases e9 : glB (x_sz X) g (ecN a) (cntN a.testBit 0)
    · exact g_zreturn dX5_layErrands_119 (Nat.le_refl _) (Nat.le_refl _) (Or.inl rfl) (hf e9 _ hfe hX)
    · exact g_zreturn dX5_layErrands_119 (Nat.le_refl _) (Nat.le_refl _) (Or.inr rfl) (ht e9 _ hfe hX hr)
  | succ q ih =>
    intro hq σ' hfe hX hr
    have hdl := Nat.div_le_self g (10 ^ (ecN a - (cntN a.testBit q + 1)))
    have hec := ec_le a
    have hgl : glN g (ecN a) (cntN a.testBit q) < 10 := Nat.mod_lt _ (by decide)
    have hsz := ok_sz ho
    cases h57 : a.testBit q with
    | true =>
      have hcl : cntN a.testBit q < ecN a := cnt_in (by omega) h57
      have hcs : cntN a.testBit (q + 1) = cntN a.testBit q + 1 := by rw [cntN_s, h57]; rfl
      rw [hcs]
      show G l D yX5_layErrands cX5_layErrands 7 (some .boolean) (rr (d + 2)) Q 0 0 45 [(6, .int (nI q)), (4, .int (nI (cntN a.testBit q))), (5, .int (nI (b2n (glB (x_sz X) g (ecN a) (cntN a.testBit q + 1))))), (3, .int (nI (g / 10 ^ (ecN a - (cntN a.testBit q + 1))))), (0, .ref (L 33)), (1, .int (nI a)), (2, .int (nI g))] [] (wsOf D L σ')
      refine g_iload dX5_layErrands_45 0 rfl ?_
      refine n_iflt (tgt := 117) dX5_layErrands_47 (by decide) (by omega) ?_
      refine g_iload_n dX5_layErrands_50 rfl 5 rfl ?_
      refine g_iload dX5_layErrands_51 0 rfl ?_
      refine g_ishr dX5_layErrands_53 ?_
      refine g_iconst dX5_layErrands_54 ci_1 ?_
      refine g_iand dX5_layErrands_55 ?_
      refine g_tope (z := nI (b2n (a.testBit q))) (gb (by omega) (by omega)) ?_
      refine g_iconst dX5_layErrands_56 ci_1 ?_
      refine b_icmpne 111 dX5_layErrands_57 (by decide) (fun q57 => absurd (q57.symm.trans h57) (by decide)) (fun _ => ?_)
      refine g_aload_n dX5_layErrands_60 rfl 4 rfl ?_
      refine s_getM kf_X5_73 (by decide) rfl dX5_layErrands_61 ?_
      refine g_iload dX5_layErrands_64 1 rfl ?_
      refine g_iload dX5_layErrands_66 0 rfl ?_
      refine s_ast (q := 55) (n := 6) (at_ia (q := 55) rfl) (by omega) (by decide) dX5_layErrands_68 ?_
      have hX1 := rpM_A hX 55 (by omega) (upd (sA σ' 55) (cntN a.testBit q) (nI q))
      have hfe1 := And.intro (fE_A hfe.1 55 (by omega) (upd (sA σ' 55) (cntN a.testBit q) (nI q))) hfe.2
      refine g_aload_n dX5_layErrands_69 rfl 4 rfl ?_
      refine s_getM kf_X5_76 (by decide) rfl dX5_layErrands_70 ?_
      refine g_iload dX5_layErrands_73 1 rfl ?_
      refine g_iload_n dX5_layErrands_75 rfl 3 rfl ?_
      refine g_bipush dX5_layErrands_76 bp_10 ?_
      refine g_irem dX5_layErrands_78 (by decide +kernel) ?_
      refine g_tope (z := nI (glN g (ecN a) (cntN a.testBit q))) ((pk_rem (by omega) (by omega) (by omega)).trans (by unfold glN; rw [show ecN a - 1 - cntN a.testBit q = ecN a - (cntN a.testBit q + 1) by omega])) ?_
      refine s_ast (q := 56) (n := 6) (at_ia (q := 56) rfl) (by omega) (by decide) dX5_layErrands_79 ?_
      have hX2 := rpM_A hX1 56 (by omega) (upd (sA (setA σ' 55 (upd (sA σ' 55) (cntN a.testBit q) (nI q))) 56) (cntN a.testBit q) (nI (glN g (ecN a) (cntN a.testBit q))))
      have hfe2 := And.intro (fE_A hfe1.1 56 (by omega) (upd (sA (setA σ' 55 (upd (sA σ' 55) (cntN a.testBit q) (nI q))) 56) (cntN a.testBit q) (nI (glN g (ecN a) (cntN a.testBit q))))) hfe1.2
      have hr2 := eRw_yes hr h57
      have hfe2 : fE σ (setA (setA σ' 55 (upd (sA σ' 55) (cntN a.testBit q) (nI q))) 56 (upd (sA (setA σ' 55 (upd (sA σ' 55) (cntN a.testBit q) (nI q))) 56) (cntN a.testBit q) (nI (glN g (ecN a) (cntN a.testBit q))))) ∧ sI (setA (setA σ' 55 (upd (sA σ' 55) (cntN a.testBit q) (nI q))) 56 (upd (sA (setA σ' 55 (upd (sA σ' 55) (cntN a.testBit q) (nI q))) 56) (cntN a.testBit q) (nI (glN g (ecN a) (cntN a.testBit q))))) 33 39 = nI (ecN a) := hfe2
      generalize setA (setA σ' 55 (upd (sA σ' 55) (cntN a.testBit q) (nI q))) 56 (upd (sA (setA σ' 55 (upd (sA σ' 55) (cntN a.testBit q) (nI q))) 56) (cntN a.testBit q) (nI (glN g (ecN a) (cntN a.testBit q)))) = σ2 at hX2 hfe2 hr2 ⊢
      refine g_iload dX5_layErrands_80 2 rfl ?_
      refine b_ifeq 100 dX5_layErrands_82 (by decide) (fun h82 => ?_) (fun h82 => ?_)
      · refine g_iconst dX5_layErrands_100 ci_0 ?_
        refine g_tope (z := nI (b2n (glB (x_sz X) g (ecN a) (cntN a.testBit q)))) (by rw [glB_s hcl, h82]; rfl) ?_
        refine g_istore (lv' := [(5, .int (nI (b2n (glB (x_sz X) g (ecN a) (cntN a.testBit q))))), (6, .int (nI q)), (4, .int (nI (cntN a.testBit q))), (3, .int (nI (g / 10 ^ (ecN a - (cntN a.testBit q + 1))))), (0, .ref (L 33)), (1, .int (nI a)), (2, .int (nI g))]) dX5_layErrands_101 (by decide) rfl ?_
        refine g_iload_n dX5_layErrands_103 rfl 3 rfl ?_
        refine g_bipush dX5_layErrands_104 bp_10 ?_
        refine g_idiv dX5_layErrands_106 (by decide +kernel) ?_
        refine g_tope (z := nI (g / 10 ^ (ecN a - cntN a.testBit q))) ((pk_div (by omega) (by omega) (by omega)).trans (by rw [ten_div hcl])) ?_
        refine g_istore_n (lv' := [(3, .int (nI (g / 10 ^ (ecN a - cntN a.testBit q)))), (5, .int (nI (b2n (glB (x_sz X) g (ecN a) (cntN a.testBit q))))), (6, .int (nI q)), (4, .int (nI (cntN a.testBit q))), (0, .ref (L 33)), (1, .int (nI a)), (2, .int (nI g))]) dX5_layErrands_107 rfl (by decide) rfl ?_
        refine g_iinc (v := dcr (cntN a.testBit q)) (lv' := [(4, .int (dcr (cntN a.testBit q))), (3, .int (nI (g / 10 ^ (ecN a - cntN a.testBit q)))), (5, .int (nI (b2n (glB (x_sz X) g (ecN a) (cntN a.testBit q))))), (6, .int (nI q)), (0, .ref (L 33)), (1, .int (nI a)), (2, .int (nI g))]) dX5_layErrands_108 3 rfl (dcr_dec (cntN a.testBit q)) (by decide) rfl ?_
        refine g_iinc (v := dcr q) (lv' := [(6, .int (dcr q)), (4, .int (dcr (cntN a.testBit q))), (3, .int (nI (g / 10 ^ (ecN a - cntN a.testBit q)))), (5, .int (nI (b2n (glB (x_sz X) g (ecN a) (cntN a.testBit q))))), (0, .ref (L 33)), (1, .int (nI a)), (2, .int (nI g))]) dX5_layErrands_111 3 rfl (dcr_dec q) (by decide) rfl ?_
        refine g_goto 45 dX5_layErrands_114 (by decide) ?_
        refine g_pick [0, 1, 3, 2, 4, 5, 6] (lv' := [(6, .int (dcr q)), (4, .int (dcr (cntN a.testBit q))), (5, .int (nI (b2n (glB (x_sz X) g (ecN a) (cntN a.testBit q))))), (3, .int (nI (g / 10 ^ (ecN a - cntN a.testBit q)))), (0, .ref (L 33)), (1, .int (nI a)), (2, .int (nI g))]) rfl ?_
        exact ih (by omega) _ hfe2 hX2 hr2
      · refine g_aload_n dX5_layErrands_85 rfl 4 rfl ?_
        refine g_iload_n dX5_layErrands_86 rfl 3 rfl ?_
        refine g_bipush dX5_layErrands_87 bp_10 ?_
        refine g_irem dX5_layErrands_89 (by decide +kernel) ?_
        refine g_tope (z := nI (glN g (ecN a) (cntN a.testBit q))) ((pk_rem (by omega) (by omega) (by omega)).trans (by unfold glN; rw [show ecN a - 1 - cntN a.testBit q = ecN a - (cntN a.testBit q + 1) by omega])) ?_
        refine g_callV (As := [.int (nI (glN g (ecN a) (cntN a.testBit q)))]) km_X5_130 ky_X5_isTerrace ki_X5_isTerrace (by decide) 33 at_33 rfl rfl (Nat.le_of_ble_eq_true rfl) dX5_layErrands_90 rfl (c_X5_isTerrace hX2 ho (fun t90 ht90 he90 => ?_) (fun h90 => ?_))
        · have he90 := (nI_eq (by omega) (by omega)).mp he90
          refine t_ifeq1 (tgt := 100) dX5_layErrands_93 (by decide) ?_
          refine g_iconst dX5_layErrands_96 ci_1 ?_
          refine g_goto 101 dX5_layErrands_97 (by decide) ?_
          refine g_tope (z := nI (b2n (glB (x_sz X) g (ecN a) (cntN a.testBit q)))) (by rw [glB_s hcl, h82, decide_eq_true (by omega)]; rfl) ?_
          refine g_istore (lv' := [(5, .int (nI (b2n (glB (x_sz X) g (ecN a) (cntN a.testBit q))))), (6, .int (nI q)), (4, .int (nI (cntN a.testBit q))), (3, .int (nI (g / 10 ^ (ecN a - (cntN a.testBit q + 1))))), (0, .ref (L 33)), (1, .int (nI a)), (2, .int (nI g))]) dX5_layErrands_101 (by decide) rfl ?_
          refine g_iload_n dX5_layErrands_103 rfl 3 rfl ?_
          refine g_bipush dX5_layErrands_104 bp_10 ?_
          refine g_idiv dX5_layErrands_106 (by decide +kernel) ?_
          refine g_tope (z := nI (g / 10 ^ (ecN a - cntN a.testBit q))) ((pk_div (by omega) (by omega) (by omega)).trans (by rw [ten_div hcl])) ?_
          refine g_istore_n (lv' := [(3, .int (nI (g / 10 ^ (ecN a - cntN a.testBit q)))), (5, .int (nI (b2n (glB (x_sz X) g (ecN a) (cntN a.testBit q))))), (6, .int (nI q)), (4, .int (nI (cntN a.testBit q))), (0, .ref (L 33)), (1, .int (nI a)), (2, .int (nI g))]) dX5_layErrands_107 rfl (by decide) rfl ?_
          refine g_iinc (v := dcr (cntN a.testBit q)) (lv' := [(4, .int (dcr (cntN a.testBit q))), (3, .int (nI (g / 10 ^ (ecN a - cntN a.testBit q)))), (5, .int (nI (b2n (glB (x_sz X) g (ecN a) (cntN a.testBit q))))), (6, .int (nI q)), (0, .ref (L 33)), (1, .int (nI a)), (2, .int (nI g))]) dX5_layErrands_108 3 rfl (dcr_dec (cntN a.testBit q)) (by decide) rfl ?_
          refine g_iinc (v := dcr q) (lv' := [(6, .int (dcr q)), (4, .int (dcr (cntN a.testBit q))), (3, .int (nI (g / 10 ^ (ecN a - cntN a.testBit q)))), (5, .int (nI (b2n (glB (x_sz X) g (ecN a) (cntN a.testBit q))))), (0, .ref (L 33)), (1, .int (nI a)), (2, .int (nI g))]) dX5_layErrands_111 3 rfl (dcr_dec q) (by decide) rfl ?_
          refine g_goto 45 dX5_layErrands_114 (by decide) ?_
          refine g_pick [0, 1, 3, 2, 4, 5, 6] (lv' := [(6, .int (dcr q)), (4, .int (dcr (cntN a.testBit q))), (5, .int (nI (b2n (glB (x_sz X) g (ecN a) (cntN a.testBit q))))), (3, .int (nI (g / 10 ^ (ecN a - cntN a.testBit q)))), (0, .ref (L 33)), (1, .int (nI a)), (2, .int (nI g))]) rfl ?_
          exact ih (by omega) _ hfe2 hX2 hr2
        · refine t_ifeq0 100 dX5_layErrands_93 (by decide) ?_
          refine g_iconst dX5_layErrands_100 ci_0 ?_
          refine g_tope (z := nI (b2n (glB (x_sz X) g (ecN a) (cntN a.testBit q)))) (by rw [glB_s hcl, h82, decide_eq_false (fun q9 => h90 _ q9 rfl)]; rfl) ?_
          refine g_istore (lv' := [(5, .int (nI (b2n (glB (x_sz X) g (ecN a) (cntN a.testBit q))))), (6, .int (nI q)), (4, .int (nI (cntN a.testBit q))), (3, .int (nI (g / 10 ^ (ecN a - (cntN a.testBit q + 1))))), (0, .ref (L 33)), (1, .int (nI a)), (2, .int (nI g))]) dX5_layErrands_101 (by decide) rfl ?_
          refine g_iload_n dX5_layErrands_103 rfl 3 rfl ?_
          refine g_bipush dX5_layErrands_104 bp_10 ?_
          refine g_idiv dX5_layErrands_106 (by decide +kernel) ?_
          refine g_tope (z := nI (g / 10 ^ (ecN a - cntN a.testBit q))) ((pk_div (by omega) (by omega) (by omega)).trans (by rw [ten_div hcl])) ?_
          refine g_istore_n (lv' := [(3, .int (nI (g / 10 ^ (ecN a - cntN a.testBit q)))), (5, .int (nI (b2n (glB (x_sz X) g (ecN a) (cntN a.testBit q))))), (6, .int (nI q)), (4, .int (nI (cntN a.testBit q))), (0, .ref (L 33)), (1, .int (nI a)), (2, .int (nI g))]) dX5_layErrands_107 rfl (by decide) rfl ?_
          refine g_iinc (v := dcr (cntN a.testBit q)) (lv' := [(4, .int (dcr (cntN a.testBit q))), (3, .int (nI (g / 10 ^ (ecN a - cntN a.testBit q)))), (5, .int (nI (b2n (glB (x_sz X) g (ecN a) (cntN a.testBit q))))), (6, .int (nI q)), (0, .ref (L 33)), (1, .int (nI a)), (2, .int (nI g))]) dX5_layErrands_108 3 rfl (dcr_dec (cntN a.testBit q)) (by decide) rfl ?_
          refine g_iinc (v := dcr q) (lv' := [(6, .int (dcr q)), (4, .int (dcr (cntN a.testBit q))), (3, .int (nI (g / 10 ^ (ecN a - cntN a.testBit q)))), (5, .int (nI (b2n (glB (x_sz X) g (ecN a) (cntN a.testBit q))))), (0, .ref (L 33)), (1, .int (nI a)), (2, .int (nI g))]) dX5_layErrands_111 3 rfl (dcr_dec q) (by decide) rfl ?_
          refine g_goto 45 dX5_layErrands_114 (by decide) ?_
          refine g_pick [0, 1, 3, 2, 4, 5, 6] (lv' := [(6, .int (dcr q)), (4, .int (dcr (cntN a.testBit q))), (5, .int (nI (b2n (glB (x_sz X) g (ecN a) (cntN a.testBit q))))), (3, .int (nI (g / 10 ^ (ecN a - cntN a.testBit q)))), (0, .ref (L 33)), (1, .int (nI a)), (2, .int (nI g))]) rfl ?_
          exact ih (by omega) _ hfe2 hX2 hr2
    | false =>
      have hcs : cntN a.testBit (q + 1) = cntN a.testBit q := by rw [cntN_s, h57]; rfl
      rw [hcs]
      show G l D yX5_layErrands cX5_layErrands 7 (some .boolean) (rr (d + 2)) Q 0 0 45 [(6, .int (nI q)), (4, .int (dcr (cntN a.testBit q))), (5, .int (nI (b2n (glB (x_sz X) g (ecN a) (cntN a.testBit q))))), (3, .int (nI (g / 10 ^ (ecN a - cntN a.testBit q)))), (0, .ref (L 33)), (1, .int (nI a)), (2, .int (nI g))] [] (wsOf D L σ')
      refine g_iload dX5_layErrands_45 0 rfl ?_
      refine n_iflt (tgt := 117) dX5_layErrands_47 (by decide) (by omega) ?_
      refine g_iload_n dX5_layErrands_50 rfl 5 rfl ?_
      refine g_iload dX5_layErrands_51 0 rfl ?_
      refine g_ishr dX5_layErrands_53 ?_
      refine g_iconst dX5_layErrands_54 ci_1 ?_
      refine g_iand dX5_layErrands_55 ?_
      refine g_tope (z := nI (b2n (a.testBit q))) (gb (by omega) (by omega)) ?_
      refine g_iconst dX5_layErrands_56 ci_1 ?_
      refine b_icmpne 111 dX5_layErrands_57 (by decide) (fun _ => ?_) (fun q57 => absurd (q57.symm.trans h57) (by decide))
      refine g_iinc (v := dcr q) (lv' := [(6, .int (dcr q)), (4, .int (dcr (cntN a.testBit q))), (5, .int (nI (b2n (glB (x_sz X) g (ecN a) (cntN a.testBit q))))), (3, .int (nI (g / 10 ^ (ecN a - cntN a.testBit q)))), (0, .ref (L 33)), (1, .int (nI a)), (2, .int (nI g))]) dX5_layErrands_111 0 rfl (dcr_dec q) (by decide) rfl ?_
      refine g_goto 45 dX5_layErrands_114 (by decide) ?_
      refine g_pick [0, 1, 2, 3, 4, 5, 6] (lv' := [(6, .int (dcr q)), (4, .int (dcr (cntN a.testBit q))), (5, .int (nI (b2n (glB (x_sz X) g (ecN a) (cntN a.testBit q))))), (3, .int (nI (g / 10 ^ (ecN a - cntN a.testBit q)))), (0, .ref (L 33)), (1, .int (nI a)), (2, .int (nI g))]) rfl ?_
      exact ih (by omega) _ hfe hX (eRw_no hr h57)
set_option maxHeartbeats 4000000 in
set_option maxRecDepth 20000 in
theorem c_X5_layErrands {l : Launch} {D : gE} {L : Nat → Nat} {σ : St} {Q : Option Value → va_W → Prop} {d : Nat} {X : XT} (hX : rpM σ X) (ho : okX X) {a : Nat} (ha : a < 64) {y : Int32} (ht : ∀ g, g < 10 ^ ecN a → y = nI g → glB (x_sz X) g (ecN a) 0 = true → ∀ σ', fE σ σ' → rpM σ' X → eRw σ' a g 0 → sI σ' 33 39 = nI (ecN a) → Q (some (.int (nI 1))) (wsOf D L σ')) (hf : glI X a y = false → ∀ σ', fE σ σ' → rpM σ' X → Q (some (.int (nI 0))) (wsOf D L σ')) : Ctr l D yX5_layErrands cX5_layErrands 7 (some .boolean) (rr (d + 2)) [.ref (L 33), .int (nI a), .int y] (wsOf D L σ) Q := by
  refine g_start ky_X5_layErrands (Nat.le_of_ble_eq_true rfl) ?_
  refine g_pick [0, 1, 2] (lv' := [(0, .ref (L 33)), (1, .int (nI a)), (2, .int y)]) rfl ?_
  have h10 := ten_le (ec_le a)
  refine g_aload_n dX5_layErrands_0 rfl 0 rfl ?_
  refine g_iload_n dX5_layErrands_1 rfl 1 rfl ?_
  refine g_callS (As := [.int (nI a)]) km_X5_136 ky_X5_ones ks_X5_ones (by decide) rfl (Nat.le_of_ble_eq_true rfl) dX5_layErrands_2 rfl (c_X5_ones (by omega) ?_)
  refine g_tope (z := nI (ecN a)) (by rw [pop_ec ha]) ?_
  refine s_putM kf_X5_304 (by decide) dX5_layErrands_5 ?_
  have hX1 := rpM_I hX 39 (by omega) (nI (ecN a))
  have hf1 := fE_I (fE_rfl (σ := σ)) (nI (ecN a))
  have h39 : sI (setI σ 33 39 (nI (ecN a))) 33 39 = nI (ecN a) := sI_same _ _ _ _
  generalize setI σ 33 39 (nI (ecN a)) = σ1 at hX1 hf1 h39 ⊢
  refine g_iload_n dX5_layErrands_8 rfl 2 rfl ?_
  refine g_i2l dX5_layErrands_9 ?_
  refine g_lconst dX5_layErrands_10 lc_0 ?_
  refine g_aload_n dX5_layErrands_11 rfl 0 rfl ?_
  refine s_getM kf_X5_304 (by decide) rfl dX5_layErrands_12 ?_
  refine g_tope (z := nI (ecN a)) (h39) ?_
  refine g_callS (As := [.int (nI (ecN a))]) km_X5_307 ky_X5_tens ks_X5_tens (by decide) rfl (Nat.le_of_ble_eq_true rfl) dX5_layErrands_15 rfl (c_X5_tens (ec_le a) ?_)
  refine g_iconst dX5_layErrands_18 ci_1 ?_
  refine g_isub dX5_layErrands_19 ?_
  refine g_tope (z := nI (10 ^ ecN a) - nI 1) (rfl) ?_
  refine g_i2l dX5_layErrands_20 ?_
  refine g_callS (As := [.long y.toInt64, .long ((nI 0).toInt64), .long ((nI (10 ^ ecN a) - nI 1).toInt64)]) km_X5_118 ky_X5_in ks_X5_in (by decide) rfl (Nat.le_of_ble_eq_true rfl) dX5_layErrands_21 rfl (c_X5_inS (by omega) (fun g hg hy => ?_) (fun h21 => ?_))
  · subst hy
    refine t_ifne1 29 dX5_layErrands_24 (by decide) ?_
    refine g_iload_n dX5_layErrands_29 rfl 2 rfl ?_
    refine g_tope (z := nI (g / 10 ^ (ecN a - cntN a.testBit 6))) (by rw [show ecN a - cntN a.testBit 6 = 0 from Nat.sub_self _, Nat.pow_zero, Nat.div_one]) ?_
    refine g_istore_n (lv' := [(3, .int (nI (g / 10 ^ (ecN a - cntN a.testBit 6)))), (0, .ref (L 33)), (1, .int (nI a)), (2, .int (nI g))]) dX5_layErrands_30 rfl (by decide) rfl ?_
    refine g_aload_n dX5_layErrands_31 rfl 1 rfl ?_
    refine s_getM kf_X5_304 (by decide) rfl dX5_layErrands_32 ?_
    refine g_tope (z := nI (ecN a)) (h39) ?_
    refine g_iconst dX5_layErrands_35 ci_1 ?_
    refine g_isub dX5_layErrands_36 ?_
    refine g_tope (z := dcr (ecN a)) (dcr_sub _) ?_
    refine g_istore (lv' := [(4, .int (dcr (ecN a))), (3, .int (nI (g / 10 ^ (ecN a - cntN a.testBit 6)))), (0, .ref (L 33)), (1, .int (nI a)), (2, .int (nI g))]) dX5_layErrands_37 (by decide) rfl ?_
    refine g_iconst dX5_layErrands_39 ci_1 ?_
    refine g_tope (z := nI (b2n (glB (x_sz X) g (ecN a) (cntN a.testBit 6)))) (by rw [show glB (x_sz X) g (ecN a) (cntN a.testBit 6) = true from glB_e]; rfl) ?_
    refine g_istore (lv' := [(5, .int (nI (b2n (glB (x_sz X) g (ecN a) (cntN a.testBit 6))))), (4, .int (dcr (ecN a))), (3, .int (nI (g / 10 ^ (ecN a - cntN a.testBit 6)))), (0, .ref (L 33)), (1, .int (nI a)), (2, .int (nI g))]) dX5_layErrands_40 (by decide) rfl ?_
    refine g_iconst dX5_layErrands_42 ci_5 ?_
    refine g_tope (z := dcr 6) (rfl) ?_
    refine g_istore (lv' := [(6, .int (dcr 6)), (5, .int (nI (b2n (glB (x_sz X) g (ecN a) (cntN a.testBit 6))))), (4, .int (dcr (ecN a))), (3, .int (nI (g / 10 ^ (ecN a - cntN a.testBit 6)))), (0, .ref (L 33)), (1, .int (nI a)), (2, .int (nI g))]) dX5_layErrands_43 (by decide) rfl ?_
    refine g_pick [0, 2, 1, 3, 4, 5, 6] (lv' := [(6, .int (dcr 6)), (4, .int (dcr (ecN a))), (5, .int (nI (b2n (glB (x_sz X) g (ecN a) (cntN a.testBit 6))))), (3, .int (nI (g / 10 ^ (ecN a - cntN a.testBit 6)))), (0, .ref (L 33)), (1, .int (nI a)), (2, .int (nI g))]) rfl ?_
    exact lp_X5_layErrands ho ha (by omega) (fun e σ2 hf2 hX2 hr2 => ht g hg rfl e σ2 (fE_trans hf1 hf2.1) hX2 hr2 hf2.2) (fun e σ2 hf2 hX2 => hf (by unfold glI; rw [ix_nI hg (by omega), decide_eq_true hg, e]; rfl) σ2 (fE_trans hf1 hf2.1) hX2) 6 (Nat.le_refl 6) σ1 ⟨fE_rfl, h39⟩ hX1 (fun p h1 h2 _ => absurd h1 (by omega))
  · refine t_ifne0 (tgt := 29) dX5_layErrands_24 (by decide) ?_
    refine g_iconst dX5_layErrands_27 ci_0 ?_
    exact g_zreturn dX5_layErrands_28 (Nat.le_refl _) (Nat.le_refl _) (Or.inl rfl) (hf (by unfold glI; rw [decide_eq_false (ix_no h21)]; rfl) _ hf1 hX1)
