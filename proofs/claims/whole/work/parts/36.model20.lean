/-! goesErrand, layRow, canAll, errands -/
def f3 (σ σ' : St) : Prop := (∀ q, q ≠ 54 → q ≠ 38 → q ≠ 40 → sA σ' q = sA σ q) ∧ sI σ' = sI σ ∧ sK σ' = sK σ ∧ sM σ' = sM σ
theorem f3_rfl {σ : St} : f3 σ σ := ⟨fun _ _ _ _ => rfl, rfl, rfl, rfl⟩
theorem f3_trans {a b c : St} (h : f3 a b) (g : f3 b c) : f3 a c := ⟨fun q h1 h2 h3 => (g.1 q h1 h2 h3).trans (h.1 q h1 h2 h3), g.2.1.trans h.2.1, g.2.2.1.trans h.2.2.1, g.2.2.2.trans h.2.2.2⟩
theorem f3_A {a b : St} (h : f3 a b) (q : Nat) (hq : q = 54 ∨ q = 38 ∨ q = 40) (f : Nat → Int32) : f3 a (setA b q f) := f3_trans h ⟨fun r h1 h2 h3 => if_neg (by omega), rfl, rfl, rfl⟩
theorem f3_fr {a b : St} (h : f3 a b) : fr a b := ⟨fun o _ => by rw [h.2.1], fun q hq => h.1 q (by omega) (by omega) (by omega), by rw [h.2.1], h.2.2.1, h.2.2.2⟩
theorem f3_kpt {σ0 a b : St} (h : f3 a b) (hk : kpt σ0 a) : kpt σ0 b := by
  refine ⟨fun p hp => ?_, fun k hq => ?_, ?_⟩
  · rw [h.1 50 (by omega) (by omega) (by omega), h.1 51 (by omega) (by omega) (by omega)]; exact hk.1 p hp
  · rw [h.1 52 (by omega) (by omega) (by omega), h.1 53 (by omega) (by omega) (by omega)]; exact hk.2.1 k hq
  · rw [h.2.1]; exact hk.2.2
theorem setA_idu (σ : St) (q i : Nat) : setA σ q (upd (sA σ q) i (sA σ q i)) = σ := by
  have e : upd (sA σ q) i (sA σ q i) = sA σ q := by
    funext j
    by_cases c : j = i
    · rw [c]; exact pk_us
    · exact pk_un c
  rw [e]; exact setA_id σ q
set_option maxHeartbeats 4000000 in
set_option maxRecDepth 20000 in
theorem lp_X5_goesErrand {l : Launch} {D : gE} {L : Nat → Nat} {σ : St} {Q : Option Value → va_W → Prop} {d : Nat} {X : XT} (ho : okX X) {p g : Nat} (hp : p < 6) (hg : g < 6) (hth : x_th X p = true) (h : ∀ σ', f3 σ σ' → rpM σ' (arX X p g) → Q (some (.int (nI 1))) (wsOf D L σ')) : ∀ n_ q, q + n_ = 6 → ∀ σ', f3 σ σ' → rpM σ' (arP X p g q) → G l D yX5_goesErrand cX5_goesErrand 4 (some .boolean) (rr (d + 5)) Q 0 0 25 [(3, .int (nI q)), (0, .ref (L 33)), (1, .int (nI p)), (2, .int (nI g))] [] (wsOf D L σ') := by
  intro n_
  induction n_ with
  | zero =>
    intro q hct σ' hf3 hX
    obtain rfl : q = 6 := by omega
    refine g_iload_n dX5_goesErrand_25 rfl 0 rfl ?_
    refine g_bipush dX5_goesErrand_26 bp_6 ?_
    refine n_icmpge 74 dX5_goesErrand_28 (by decide) (by omega) (by omega) (fun h28 => ?_) (fun h28 => absurd h28 (by omega))
    refine g_iconst dX5_goesErrand_74 ci_1 ?_
    exact g_zreturn dX5_goesErrand_75 (Nat.le_refl _) (Nat.le_refl _) (Or.inr rfl) (h _ hf3 (arP_6 hX))
  | succ n_ ih =>
    intro q hct σ' hf3 hX
    have hpq := ok_p ho (i := q) (by omega)
    have hul : updN (x_pl X) p g q < 6 := by unfold updN; split <;> omega
    refine g_iload_n dX5_goesErrand_25 rfl 0 rfl ?_
    refine g_bipush dX5_goesErrand_26 bp_6 ?_
    refine n_icmpge 74 dX5_goesErrand_28 (by decide) (by omega) (by omega) (fun h28 => absurd h28 (by omega)) (fun h28 => ?_)
    refine g_aload_n dX5_goesErrand_31 rfl 1 rfl ?_
    refine s_getM kf_X5_28 (by decide) rfl dX5_goesErrand_32 ?_
    refine g_iload_n dX5_goesErrand_35 rfl 0 rfl ?_
    refine g_dup2 dX5_goesErrand_36 rfl rfl ?_
    refine s_ald (q := 40) (n := 6) (at_ia (q := 40) rfl) (by omega) (by decide) dX5_goesErrand_37 ?_
    refine g_aload_n dX5_goesErrand_38 rfl 1 rfl ?_
    refine g_iload_n dX5_goesErrand_39 rfl 0 rfl ?_
    refine g_callV (As := [.int (nI q)]) km_X5_143 ky_X5_isThere ki_X5_isThere (by decide) 33 at_33 rfl rfl (Nat.le_of_ble_eq_true rfl) dX5_goesErrand_40 rfl (c_X5_isThereN hX (by omega) (fun h40 => ?_) (fun h40 => ?_))
    · rw [arP_th] at h40
      refine t_ifeq1 (tgt := 65) dX5_goesErrand_43 (by decide) ?_
      refine g_aload_n dX5_goesErrand_46 rfl 1 rfl ?_
      refine s_getM kf_X5_22 (by decide) rfl dX5_goesErrand_47 ?_
      refine g_iload_n dX5_goesErrand_50 rfl 0 rfl ?_
      refine s_ald (q := 38) (n := 6) (at_ia (q := 38) rfl) (by omega) (by decide) dX5_goesErrand_51 ?_
      refine g_tope (z := nI (updN (x_pl X) p g q)) ((rpM_pl hX (by omega)).trans (by rw [arP_pl])) ?_
      refine g_iload_n dX5_goesErrand_52 rfl 3 rfl ?_
      refine n_icmpne 65 dX5_goesErrand_53 (by decide) (by omega) (by omega) (fun h53 => ?_) (fun h53 => ?_)
      · refine g_iconst dX5_goesErrand_65 ci_0 ?_
        refine g_ior dX5_goesErrand_66 ?_
        refine g_tope (z := sA σ' 40 q) (or0 _) ?_
        refine s_ast (q := 40) (n := 6) (at_ia (q := 40) rfl) (by omega) (by decide) dX5_goesErrand_67 ?_
        rw [setA_idu]
        rw [arP_f (Or.inr h53)] at hX
        refine g_iinc (v := nI (q + 1)) (lv' := [(3, .int (nI (q + 1))), (0, .ref (L 33)), (1, .int (nI p)), (2, .int (nI g))]) dX5_goesErrand_68 0 rfl (inc_n _) (by decide) rfl ?_
        refine g_goto 25 dX5_goesErrand_71 (by decide) ?_
        refine g_pick [0, 1, 2, 3] (lv' := [(3, .int (nI (q + 1))), (0, .ref (L 33)), (1, .int (nI p)), (2, .int (nI g))]) rfl ?_
        exact ih (q + 1) (by omega) _ hf3 hX
      · refine g_aload_n dX5_goesErrand_56 rfl 1 rfl ?_
        refine s_getM kf_X5_28 (by decide) rfl dX5_goesErrand_57 ?_
        refine g_iload_n dX5_goesErrand_60 rfl 2 rfl ?_
        refine s_ald (q := 40) (n := 6) (at_ia (q := 40) rfl) (by omega) (by decide) dX5_goesErrand_61 ?_
        refine g_tope (z := nI (bitsN (x_kn X p) 8)) ((rpM_kn hX (by omega) (by rw [arP_th]; exact hth)).trans (by rw [arP_p])) ?_
        refine g_goto 66 dX5_goesErrand_62 (by decide) ?_
        refine g_ior dX5_goesErrand_66 ?_
        refine g_tope (z := nI (bitsN (fun i => x_kn X q i || x_kn X p i) 8)) (by rw [rpM_kn hX (by omega) (by rw [arP_th]; exact h40), arP_at]; exact or_bitsN) ?_
        refine s_ast (q := 40) (n := 6) (at_ia (q := 40) rfl) (by omega) (by decide) dX5_goesErrand_67 ?_
        have hX := rpM_skn hX q (fun i => x_kn X q i || x_kn X p i)
        rw [arP_t h40 h53] at hX
        have hf3 := f3_A hf3 40 (by omega) (upd (sA σ' 40) q (nI (bitsN (fun i => x_kn X q i || x_kn X p i) 8)))
        generalize setA σ' 40 (upd (sA σ' 40) q (nI (bitsN (fun i => x_kn X q i || x_kn X p i) 8))) = σ2 at hX hf3 ⊢
        refine g_iinc (v := nI (q + 1)) (lv' := [(3, .int (nI (q + 1))), (0, .ref (L 33)), (1, .int (nI p)), (2, .int (nI g))]) dX5_goesErrand_68 0 rfl (inc_n _) (by decide) rfl ?_
        refine g_goto 25 dX5_goesErrand_71 (by decide) ?_
        refine g_pick [0, 1, 2, 3] (lv' := [(3, .int (nI (q + 1))), (0, .ref (L 33)), (1, .int (nI p)), (2, .int (nI g))]) rfl ?_
        exact ih (q + 1) (by omega) _ hf3 hX
    · rw [arP_th] at h40
      refine t_ifeq0 65 dX5_goesErrand_43 (by decide) ?_
      refine g_iconst dX5_goesErrand_65 ci_0 ?_
      refine g_ior dX5_goesErrand_66 ?_
      refine g_tope (z := sA σ' 40 q) (or0 _) ?_
      refine s_ast (q := 40) (n := 6) (at_ia (q := 40) rfl) (by omega) (by decide) dX5_goesErrand_67 ?_
      rw [setA_idu]
      rw [arP_f (Or.inl h40)] at hX
      refine g_iinc (v := nI (q + 1)) (lv' := [(3, .int (nI (q + 1))), (0, .ref (L 33)), (1, .int (nI p)), (2, .int (nI g))]) dX5_goesErrand_68 0 rfl (inc_n _) (by decide) rfl ?_
      refine g_goto 25 dX5_goesErrand_71 (by decide) ?_
      refine g_pick [0, 1, 2, 3] (lv' := [(3, .int (nI (q + 1))), (0, .ref (L 33)), (1, .int (nI p)), (2, .int (nI g))]) rfl ?_
      exact ih (q + 1) (by omega) _ hf3 hX
set_option maxHeartbeats 4000000 in
set_option maxRecDepth 20000 in
theorem c_X5_goesErrand {l : Launch} {D : gE} {L : Nat → Nat} {σ : St} {Q : Option Value → va_W → Prop} {d : Nat} {X : XT} (hX : rpM σ X) (ho : okX X) {p g : Nat} (hp : p < 6) (hg : g < 6) (hth : x_th X p = true) (ht : goX X p g = true → ∀ σ', f3 σ σ' → rpM σ' (arX X p g) → Q (some (.int (nI 1))) (wsOf D L σ')) (hf : goX X p g = false → ∀ σ', f3 σ σ' → rpM σ' X → Q (some (.int (nI 0))) (wsOf D L σ')) : Ctr l D yX5_goesErrand cX5_goesErrand 4 (some .boolean) (rr (d + 5)) [.ref (L 33), .int (nI p), .int (nI g)] (wsOf D L σ) Q := by
  refine g_start ky_X5_goesErrand (Nat.le_of_ble_eq_true rfl) ?_
  refine g_pick [0, 1, 2] (lv' := [(0, .ref (L 33)), (1, .int (nI p)), (2, .int (nI g))]) rfl ?_
  refine g_aload_n dX5_goesErrand_0 rfl 0 rfl ?_
  refine g_iload_n dX5_goesErrand_1 rfl 1 rfl ?_
  refine g_iload_n dX5_goesErrand_2 rfl 2 rfl ?_
  refine g_aload_n dX5_goesErrand_3 rfl 0 rfl ?_
  refine g_iload_n dX5_goesErrand_4 rfl 1 rfl ?_
  refine g_callV (As := [.int (nI p)]) km_X5_206 ky_X5_carriedBy ki_X5_carriedBy (by decide) 33 at_33 rfl rfl (Nat.le_of_ble_eq_true rfl) dX5_goesErrand_5 rfl (c_X5_carriedBy hX ho (by omega) (by assumption) ?_)
  refine g_callV (As := [.int (nI p), .int (nI g), .int (nI (buX X p))]) km_X5_281 ky_X5_hasWay ki_X5_hasWay (by decide) 33 at_33 rfl rfl (Nat.le_of_ble_eq_true rfl) dX5_goesErrand_8 rfl (c_X5_hasWay hX ho hp hg (by have := bu_bd ho p; omega) (fun h8 f8 => ?_) (fun h8 f8 => ?_))
  · have hX := rpM_A hX 54 (by omega) f8
    have hf3 := f3_A (f3_rfl (σ := σ)) 54 (by omega) f8
    refine t_ifne1 16 dX5_goesErrand_11 (by decide) ?_
    refine g_aload_n dX5_goesErrand_16 rfl 0 rfl ?_
    refine s_getM kf_X5_22 (by decide) rfl dX5_goesErrand_17 ?_
    refine g_iload_n dX5_goesErrand_20 rfl 1 rfl ?_
    refine g_iload_n dX5_goesErrand_21 rfl 2 rfl ?_
    refine s_ast (q := 38) (n := 6) (at_ia (q := 38) rfl) (by omega) (by decide) dX5_goesErrand_22 ?_
    have hX := rpM_spl hX p g
    have hf3 := f3_A hf3 38 (by omega) (upd (sA (setA σ 54 f8) 38) p (nI g))
    refine g_iconst dX5_goesErrand_23 ci_0 ?_
    refine g_istore_n (lv' := [(3, .int (nI 0)), (0, .ref (L 33)), (1, .int (nI p)), (2, .int (nI g))]) dX5_goesErrand_24 rfl (by decide) rfl ?_
    refine g_pick [0, 1, 2, 3] (lv' := [(3, .int (nI 0)), (0, .ref (L 33)), (1, .int (nI p)), (2, .int (nI g))]) rfl ?_
    exact lp_X5_goesErrand ho hp hg hth (ht h8) 6 0 rfl _ hf3 (arP_0 hX)
  · have hX := rpM_A hX 54 (by omega) f8
    have hf3 := f3_A (f3_rfl (σ := σ)) 54 (by omega) f8
    refine t_ifne0 (tgt := 16) dX5_goesErrand_11 (by decide) ?_
    refine g_iconst dX5_goesErrand_14 ci_0 ?_
    exact g_zreturn dX5_goesErrand_15 (Nat.le_refl _) (Nat.le_refl _) (Or.inl rfl) (hf h8 _ hf3 hX)
def rwF (e n k d : Nat) : Bool := anyN (fun j => decide (k ≤ j) && rwN e n j == d) e
theorem rwN_lt {e n k : Nat} (he : 0 < e) : rwN e n k < e := Nat.mod_lt _ he
theorem rwF_s {e n i : Nat} (hi : i < e) (d : Nat) : (rwF e n (i + 1) d || d == rwN e n i) = rwF e n i d := by
  unfold rwF
  rw [Bool.eq_iff_iff, Bool.or_eq_true, anyN_iff, anyN_iff, beq_iff_eq]
  constructor
  · rintro (⟨j, hj, h⟩ | h)
    · simp at h; exact ⟨j, hj, by simp; omega⟩
    · exact ⟨i, hi, by simp [h]⟩
  · rintro ⟨j, hj, h⟩
    simp at h
    by_cases c : j = i
    · subst c; exact Or.inr h.2.symm
    · exact Or.inl ⟨j, hj, by simp; omega⟩
theorem rwF_e {e n d : Nat} : rwF e n e d = false := by
  unfold rwF
  cases h : anyN (fun j => decide (e ≤ j) && rwN e n j == d) e with
  | false => rfl
  | true =>
    obtain ⟨j, hj, h2⟩ := (anyN_iff _ e).mp h
    simp at h2; omega
theorem rwF_0 {e n d : Nat} : rwF e n 0 d = anyN (fun j => rwN e n j == d) e := by
  unfold rwF
  exact anyN_cong (fun j _ => by simp)
theorem pm_iff {e n : Nat} (he : e ≤ 6) : (∀ d, d < 6 → rwF e n 0 d = decide (d < e)) ↔ pmN e n = true := by
  unfold pmN
  rw [Bool.not_eq_true']
  constructor
  · intro h
    cases q : anyN (fun d => !anyN (fun k => rwN e n k == d) e) e with
    | false => rfl
    | true =>
      obtain ⟨d, hd, h2⟩ := (anyN_iff _ e).mp q
      have h3 := h d (by omega)
      rw [rwF_0, decide_eq_true hd] at h3
      rw [h3] at h2; cases h2
  · intro h d hd
    rw [rwF_0]
    by_cases c : d < e
    · rw [decide_eq_true c]
      cases q : anyN (fun k => rwN e n k == d) e with
      | true => rfl
      | false =>
        have : anyN (fun d => !anyN (fun k => rwN e n k == d) e) e = true := (anyN_iff _ e).mpr ⟨d, c, by rw [q]; rfl⟩
        rw [h] at this; cases this
    · rw [decide_eq_false c]
      cases q : anyN (fun k => rwN e n k == d) e with
      | false => rfl
      | true =>
        obtain ⟨j, hj, h2⟩ := (anyN_iff _ e).mp q
        rw [beq_iff_eq] at h2
        have := rwN_lt (e := e) (n := n) (k := j) (by omega)
        omega
theorem p2_bits : ∀ e, e < 7 → (nI 1 <<< (nI e &&& 31)) - nI 1 = nI (bitsN (fun d => decide (d < e)) 6) := by decide +kernel
theorem e_div {n e i : Nat} (hi : i < e) : n / e ^ (e - (i + 1)) / e = n / e ^ (e - i) := by
  rw [Nat.div_div_eq_div_mul, ← Nat.pow_succ, show (e - (i + 1)).succ = e - i by omega]
theorem rw_next {σ : St} {e n i : Nat} (h : ∀ k, i + 1 ≤ k → k < e → sA σ 57 k = nI (rwN e n k)) : ∀ k, i ≤ k → k < e → sA (setA σ 57 (upd (sA σ 57) i (nI (rwN e n i)))) 57 k = nI (rwN e n k) := by
  intro k h1 h2
  rw [sA_same]
  by_cases c : k = i
  · rw [c]; exact pk_us
  · rw [pk_un c]; exact h k (by omega) h2
set_option maxHeartbeats 4000000 in
set_option maxRecDepth 20000 in
theorem lp_X5_layRow {l : Launch} {D : gE} {L : Nat → Nat} {σ : St} {Q : Option Value → va_W → Prop} {d : Nat} {e N : Nat} (he : e ≤ 6) (hN : N < 2 ^ 31) (ht : pmN e N = true → ∀ σ', fA 57 σ σ' → (∀ k, k < e → sA σ' 57 k = nI (rwN e N k)) → Q (some (.int (nI 1))) (wsOf D L σ')) (hf : pmN e N = false → ∀ σ', fA 57 σ σ' → Q (some (.int (nI 0))) (wsOf D L σ')) : ∀ i, i ≤ e → ∀ σ', fA 57 σ σ' → sI σ' 33 39 = nI e → (∀ k, i ≤ k → k < e → sA σ' 57 k = nI (rwN e N k)) → G l D yX5_layRow cX5_layRow 5 (some .boolean) (rr d) Q 0 0 12 [(4, .int (dcr i)), (3, .int (nI (bitsN (rwF e N i) 6))), (2, .int (nI (N / e ^ (e - i)))), (0, .ref (L 33)), (1, .int (nI N))] [] (wsOf D L σ') := by
  intro i
  induction i with
  | zero =>
    intro hi σ' hfa h39 hr
    show G l D yX5_layRow cX5_layRow 5 (some .boolean) (rr d) Q 0 0 12 [(4, .int (-1)), (3, .int (nI (bitsN (rwF e N 0) 6))), (2, .int (nI (N / e ^ (e - 0)))), (0, .ref (L 33)), (1, .int (nI N))] [] (wsOf D L σ')
    refine g_iload dX5_layRow_12 0 rfl ?_
    refine g_iflt 55 dX5_layRow_14 (by decide) (fun h14 => ?_) (fun h14 => absurd h14 (by decide +kernel))
    refine g_iload_n dX5_layRow_55 rfl 1 rfl ?_
    refine g_iconst dX5_layRow_56 ci_1 ?_
    refine g_aload_n dX5_layRow_57 rfl 3 rfl ?_
    refine s_getM kf_X5_304 (by decide) rfl dX5_layRow_58 ?_
    refine g_tope (z := nI e) (h39) ?_
    refine g_ishl dX5_layRow_61 ?_
    refine g_iconst dX5_layRow_62 ci_1 ?_
    refine g_isub dX5_layRow_63 ?_
    refine g_tope (z := nI (bitsN (fun d => decide (d < e)) 6)) (p2_bits e (by omega)) ?_
    refine g_icmpne 71 dX5_layRow_64 (by decide) (fun h64 => ?_) (fun h64 => ?_)
    · refine g_iconst dX5_layRow_71 ci_0 ?_
      exact g_zreturn dX5_layRow_72 (Nat.le_refl _) (Nat.le_refl _) (Or.inl rfl) (hf ((Bool.not_eq_true _).mp (fun q => h64 ((bitsN_eq_iff (by decide)).mpr ((pm_iff he).mpr q)))) _ hfa)
    · refine g_iconst dX5_layRow_67 ci_1 ?_
      refine g_goto 72 dX5_layRow_68 (by decide) ?_
      exact g_zreturn dX5_layRow_72 (Nat.le_refl _) (Nat.le_refl _) (Or.inr rfl) (ht ((pm_iff he).mp ((bitsN_eq_iff (by decide)).mp h64)) _ hfa (fun k hk => hr k (Nat.zero_le k) hk))
  | succ i ih =>
    intro hi σ' hfa h39 hr
    have hdl := Nat.div_le_self N (e ^ (e - (i + 1)))
    have hrl : rwN e N i < e := rwN_lt (by omega)
    show G l D yX5_layRow cX5_layRow 5 (some .boolean) (rr d) Q 0 0 12 [(4, .int (nI i)), (3, .int (nI (bitsN (rwF e N (i + 1)) 6))), (2, .int (nI (N / e ^ (e - (i + 1))))), (0, .ref (L 33)), (1, .int (nI N))] [] (wsOf D L σ')
    refine g_iload dX5_layRow_12 0 rfl ?_
    refine n_iflt (tgt := 55) dX5_layRow_14 (by decide) (by omega) ?_
    refine g_aload_n dX5_layRow_17 rfl 3 rfl ?_
    refine s_getM kf_X5_79 (by decide) rfl dX5_layRow_18 ?_
    refine g_iload dX5_layRow_21 0 rfl ?_
    refine g_iload_n dX5_layRow_23 rfl 2 rfl ?_
    refine g_aload_n dX5_layRow_24 rfl 3 rfl ?_
    refine s_getM kf_X5_304 (by decide) rfl dX5_layRow_25 ?_
    refine g_tope (z := nI e) (h39) ?_
    refine g_irem dX5_layRow_28 (nI_ne0 (by omega) (by omega)) ?_
    refine g_tope (z := nI (rwN e N i)) ((pk_rem (by omega) (by omega) (by omega)).trans (by unfold rwN; rw [show e - 1 - i = e - (i + 1) by omega])) ?_
    refine s_ast (q := 57) (n := 6) (at_ia (q := 57) rfl) (by omega) (by decide) dX5_layRow_29 ?_
    have hr := rw_next hr
    have hfa := fA_A hfa (upd (sA σ' 57) i (nI (rwN e N i)))
    have h39 : sI (setA σ' 57 (upd (sA σ' 57) i (nI (rwN e N i)))) 33 39 = nI e := h39
    generalize setA σ' 57 (upd (sA σ' 57) i (nI (rwN e N i))) = σ2 at hr hfa h39 ⊢
    refine g_iload_n dX5_layRow_30 rfl 1 rfl ?_
    refine g_iconst dX5_layRow_31 ci_1 ?_
    refine g_aload_n dX5_layRow_32 rfl 3 rfl ?_
    refine s_getM kf_X5_79 (by decide) rfl dX5_layRow_33 ?_
    refine g_iload dX5_layRow_36 0 rfl ?_
    refine s_ald (q := 57) (n := 6) (at_ia (q := 57) rfl) (by omega) (by decide) dX5_layRow_38 ?_
    refine g_tope (z := nI (rwN e N i)) (hr _ (Nat.le_refl i) (by omega)) ?_
    refine g_ishl dX5_layRow_39 ?_
    refine g_ior dX5_layRow_40 ?_
    refine g_tope (z := nI (bitsN (rwF e N i) 6)) ((obB _ (by decide) (by omega)).trans (bcg (fun d _ => rwF_s (by omega) d))) ?_
    refine g_istore_n (lv' := [(3, .int (nI (bitsN (rwF e N i) 6))), (4, .int (nI i)), (2, .int (nI (N / e ^ (e - (i + 1))))), (0, .ref (L 33)), (1, .int (nI N))]) dX5_layRow_41 rfl (by decide) rfl ?_
    refine g_iload_n dX5_layRow_42 rfl 2 rfl ?_
    refine g_aload_n dX5_layRow_43 rfl 3 rfl ?_
    refine s_getM kf_X5_304 (by decide) rfl dX5_layRow_44 ?_
    refine g_tope (z := nI e) (h39) ?_
    refine g_idiv dX5_layRow_47 (nI_ne0 (by omega) (by omega)) ?_
    refine g_tope (z := nI (N / e ^ (e - i))) ((pk_div (by omega) (by omega) (by omega)).trans (by rw [e_div (by omega)])) ?_
    refine g_istore_n (lv' := [(2, .int (nI (N / e ^ (e - i)))), (3, .int (nI (bitsN (rwF e N i) 6))), (4, .int (nI i)), (0, .ref (L 33)), (1, .int (nI N))]) dX5_layRow_48 rfl (by decide) rfl ?_
    refine g_iinc (v := dcr i) (lv' := [(4, .int (dcr i)), (2, .int (nI (N / e ^ (e - i)))), (3, .int (nI (bitsN (rwF e N i) 6))), (0, .ref (L 33)), (1, .int (nI N))]) dX5_layRow_49 2 rfl (dcr_dec i) (by decide) rfl ?_
    refine g_goto 12 dX5_layRow_52 (by decide) ?_
    refine g_pick [0, 2, 1, 3, 4] (lv' := [(4, .int (dcr i)), (3, .int (nI (bitsN (rwF e N i) 6))), (2, .int (nI (N / e ^ (e - i)))), (0, .ref (L 33)), (1, .int (nI N))]) rfl ?_
    exact ih (by omega) _ hfa h39 hr
set_option maxHeartbeats 4000000 in
set_option maxRecDepth 20000 in
theorem c_X5_layRow {l : Launch} {D : gE} {L : Nat → Nat} {σ : St} {Q : Option Value → va_W → Prop} {d : Nat} {e N : Nat} (he : e ≤ 6) (hN : N < 2 ^ 31) (h39 : sI σ 33 39 = nI e) (ht : pmN e N = true → ∀ σ', fA 57 σ σ' → (∀ k, k < e → sA σ' 57 k = nI (rwN e N k)) → Q (some (.int (nI 1))) (wsOf D L σ')) (hf : pmN e N = false → ∀ σ', fA 57 σ σ' → Q (some (.int (nI 0))) (wsOf D L σ')) : Ctr l D yX5_layRow cX5_layRow 5 (some .boolean) (rr d) [.ref (L 33), .int (nI N)] (wsOf D L σ) Q := by
  refine g_start ky_X5_layRow (Nat.le_of_ble_eq_true rfl) ?_
  refine g_pick [0, 1] (lv' := [(0, .ref (L 33)), (1, .int (nI N))]) rfl ?_
  refine g_iload_n dX5_layRow_0 rfl 1 rfl ?_
  refine g_tope (z := nI (N / e ^ (e - e))) (by rw [Nat.sub_self, Nat.pow_zero, Nat.div_one]) ?_
  refine g_istore_n (lv' := [(2, .int (nI (N / e ^ (e - e)))), (0, .ref (L 33)), (1, .int (nI N))]) dX5_layRow_1 rfl (by decide) rfl ?_
  refine g_iconst dX5_layRow_2 ci_0 ?_
  refine g_tope (z := nI (bitsN (rwF e N e) 6)) (by rw [bitsN_cong (g := fun _ => false) (fun d _ => rwF_e)]; rfl) ?_
  refine g_istore_n (lv' := [(3, .int (nI (bitsN (rwF e N e) 6))), (2, .int (nI (N / e ^ (e - e)))), (0, .ref (L 33)), (1, .int (nI N))]) dX5_layRow_3 rfl (by decide) rfl ?_
  refine g_aload_n dX5_layRow_4 rfl 2 rfl ?_
  refine s_getM kf_X5_304 (by decide) rfl dX5_layRow_5 ?_
  refine g_tope (z := nI e) (h39) ?_
  refine g_iconst dX5_layRow_8 ci_1 ?_
  refine g_isub dX5_layRow_9 ?_
  refine g_tope (z := dcr e) (dcr_sub e) ?_
  refine g_istore (lv' := [(4, .int (dcr e)), (3, .int (nI (bitsN (rwF e N e) 6))), (2, .int (nI (N / e ^ (e - e)))), (0, .ref (L 33)), (1, .int (nI N))]) dX5_layRow_10 (by decide) rfl ?_
  refine g_pick [0, 1, 2, 3, 4] (lv' := [(4, .int (dcr e)), (3, .int (nI (bitsN (rwF e N e) 6))), (2, .int (nI (N / e ^ (e - e)))), (0, .ref (L 33)), (1, .int (nI N))]) rfl ?_
  exact lp_X5_layRow he hN ht hf e (Nat.le_refl e) _ fA_rfl h39 (fun k h1 h2 => absurd h1 (by omega))
/-- the rows of errands and of an order -/
def eAll (σ : St) (a g n : Nat) : Prop := sI σ 33 39 = nI (ecN a) ∧ (∀ j, j < ecN a → sA σ 55 j = nI (nthS a j) ∧ sA σ 56 j = nI (glN g (ecN a) j)) ∧ ∀ k, k < ecN a → sA σ 57 k = nI (rwN (ecN a) n k)
theorem eAll_f3 {σ σ' : St} {a g n : Nat} (h : eAll σ a g n) (hf : f3 σ σ') : eAll σ' a g n := by
  refine ⟨by rw [hf.2.1]; exact h.1, fun j hj => ?_, fun k hk => ?_⟩
  · rw [hf.1 55 (by omega) (by omega) (by omega), hf.1 56 (by omega) (by omega) (by omega)]; exact h.2.1 j hj
  · rw [hf.1 57 (by omega) (by omega) (by omega)]; exact h.2.2 k hk
theorem eAll_els {σ σ' : St} {as : List Nat} {k0 a g n : Nat} (h : eAll σ a g n) (hf : els as k0 σ σ') (h5 : 55 ∉ as ∧ 56 ∉ as ∧ 57 ∉ as) (hk : k0 ≠ 39) : eAll σ' a g n := by
  refine ⟨(hf.2.2.1 39 (Ne.symm hk)).trans h.1, fun j hj => ?_, fun k hk => ?_⟩
  · rw [hf.1 55 h5.1, hf.1 56 h5.2.1]; exact h.2.1 j hj
  · rw [hf.1 57 h5.2.2]; exact h.2.2 k hk
/-- the errands may be asked -/
def erH (X : XT) (a g : Nat) : Prop := a < 64 ∧ subB (x_th X) a = true ∧ glB (x_sz X) g (ecN a) 0 = true
theorem erH_th {X : XT} {a g : Nat} (h : erH X a g) {j : Nat} (hj : j < ecN a) : nthS a j < 6 ∧ x_th X (nthS a j) = true ∧ glN g (ecN a) j < x_sz X := by
  obtain ⟨h1, h2, _⟩ := nth_spec hj
  refine ⟨h1, subB_iff.mp h.2.1 _ (by omega) h2, ?_⟩
  apply Classical.byContradiction
  intro q
  have : anyN (fun j => decide (0 ≤ j) && !decide (glN g (ecN a) j < x_sz X)) (ecN a) = true := (anyN_iff _ _).mpr ⟨j, hj, by simp; omega⟩
  have h3 := h.2.2
  unfold glB at h3
  rw [this] at h3; cases h3
def erY (X : XT) (a g n k : Nat) : XT := erX X (nthS a) (glN g (ecN a)) (rwN (ecN a) n) k
def erC (X : XT) (a g n k : Nat) : Bool := erB X (nthS a) (glN g (ecN a)) (rwN (ecN a) n) k
theorem erY_s (X : XT) (a g n k : Nat) : erY X a g n (k + 1) = arX (erY X a g n k) (nthS a (rwN (ecN a) n k)) (glN g (ecN a) (rwN (ecN a) n k)) := rfl
theorem erC_s (X : XT) (a g n k : Nat) : erC X a g n (k + 1) = (erC X a g n k && goX (erY X a g n k) (nthS a (rwN (ecN a) n k)) (glN g (ecN a) (rwN (ecN a) n k))) := rfl
theorem er_ok {X : XT} {a g : Nat} (ho : okX X) (h : erH X a g) (n : Nat) : ∀ k, k ≤ ecN a → okX (erY X a g n k) ∧ smeX (erY X a g n k) X
  | 0, _ => ⟨ho, sme_rfl⟩
  | k + 1, hk => by
    obtain ⟨h1, h2⟩ := er_ok ho h n k (by omega)
    have hj := erH_th h (j := rwN (ecN a) n k) (rwN_lt (by omega))
    rw [erY_s]
    exact ⟨ok_ar h1 hj.1 (by rw [h2.2.2.2.2.2.1]; exact hj.2.1) (by rw [h2.1]; exact hj.2.2), sme_trans (sme_ar _ _ _) h2⟩
theorem erC_f {X : XT} {a g n k : Nat} (h : erC X a g n k = false) : ∀ c, erC X a g n (k + c) = false
  | 0 => h
  | c + 1 => by
    show erC X a g n ((k + c) + 1) = false
    rw [erC_s, erC_f h c]; rfl
set_option maxHeartbeats 4000000 in
set_option maxRecDepth 20000 in
theorem bd_X5_canAll {l : Launch} {D : gE} {L : Nat → Nat} {σ : St} {Q : Option Value → va_W → Prop} {d : Nat} {σ0 : St} {X : XT} (ho : okX X) {a g n : Nat} (hh : erH X a g) (h0 : rpM σ0 X) (ht : erC X a g n (ecN a) = true → ∀ σ', fr σ σ' → rpM σ' X → eAll σ' a g n → Q (some (.int (nI 1))) (wsOf D L σ')) (hf : erC X a g n (ecN a) = false → ∀ σ', fr σ σ' → rpM σ' X → eAll σ' a g n → Q (some (.int (nI 0))) (wsOf D L σ')) {k : Nat} (hc : erC X a g n (ecN a) = false) (hk7 : k ≤ 6) {Y : XT} (hsm : smeX Y X) {σ' : St} (hfr : fr σ σ') (hX : rpM σ' Y) (hk : kpt σ0 σ') (hE : eAll σ' a g n) : G l D yX5_canAll cX5_canAll 3 (some .boolean) (rr (d + 6)) Q 0 0 8 [(2, .int (nI k)), (1, .int (nI 0)), (0, .ref (L 33))] [] (wsOf D L σ') := by
  have hec := ec_le a
  refine g_iload_n dX5_canAll_8 rfl 0 rfl ?_
  refine g_aload_n dX5_canAll_9 rfl 2 rfl ?_
  refine s_getM kf_X5_304 (by decide) rfl dX5_canAll_10 ?_
  refine g_tope (z := nI (ecN a)) (hE.1) ?_
  refine n_icmpge 53 dX5_canAll_13 (by decide) (by omega) (by omega) (fun h13 => ?_) (fun h13 => ?_)
  · refine g_aload_n dX5_canAll_53 rfl 2 rfl ?_
    refine g_callV (As := []) km_X5_254 ky_X5_putBack ki_X5_putBack (by decide) 33 at_33 rfl rfl (Nat.le_of_ble_eq_true rfl) dX5_canAll_54 rfl (c_X5_putBack hk (fun σ9 he9 c38 c40 c41 c37 h3 => ?_))
    have hX9 := back_ok h0 hX hsm he9 c38 c40 c41 c37 h3
    have hE9 := eAll_els hE he9 (by decide) (by decide)
    have hf9 := fr_trans hfr (els_fr he9 (by decide) (by decide))
    refine g_iload_n dX5_canAll_57 rfl 1 rfl ?_
    exact g_zreturn dX5_canAll_58 (Nat.le_refl _) (Nat.le_refl _) (Or.inl rfl) (hf hc _ hf9 hX9 hE9)
  · refine g_iload_n dX5_canAll_16 rfl 1 rfl ?_
    refine t_ifeq0 53 dX5_canAll_17 (by decide) ?_
    refine g_aload_n dX5_canAll_53 rfl 2 rfl ?_
    refine g_callV (As := []) km_X5_254 ky_X5_putBack ki_X5_putBack (by decide) 33 at_33 rfl rfl (Nat.le_of_ble_eq_true rfl) dX5_canAll_54 rfl (c_X5_putBack hk (fun σ9 he9 c38 c40 c41 c37 h3 => ?_))
    have hX9 := back_ok h0 hX hsm he9 c38 c40 c41 c37 h3
    have hE9 := eAll_els hE he9 (by decide) (by decide)
    have hf9 := fr_trans hfr (els_fr he9 (by decide) (by decide))
    refine g_iload_n dX5_canAll_57 rfl 1 rfl ?_
    exact g_zreturn dX5_canAll_58 (Nat.le_refl _) (Nat.le_refl _) (Or.inl rfl) (hf hc _ hf9 hX9 hE9)
set_option maxHeartbeats 4000000 in
set_option maxRecDepth 20000 in
theorem lp_X5_canAll {l : Launch} {D : gE} {L : Nat → Nat} {σ : St} {Q : Option Value → va_W → Prop} {d : Nat} {σ0 : St} {X : XT} (ho : okX X) {a g n : Nat} (hh : erH X a g) (h0 : rpM σ0 X) (ht : erC X a g n (ecN a) = true → ∀ σ', fr σ σ' → rpM σ' X → eAll σ' a g n → Q (some (.int (nI 1))) (wsOf D L σ')) (hf : erC X a g n (ecN a) = false → ∀ σ', fr σ σ' → rpM σ' X → eAll σ' a g n → Q (some (.int (nI 0))) (wsOf D L σ')) : ∀ n_ k, k + n_ = ecN a → ∀ σ', fr σ σ' → rpM σ' (erY X a g n k) → kpt σ0 σ' → eAll σ' a g n → erC X a g n k = true → G l D yX5_canAll cX5_canAll 3 (some .boolean) (rr (d + 6)) Q 0 0 8 [(2, .int (nI k)), (1, .int (nI 1)), (0, .ref (L 33))] [] (wsOf D L σ') := by
  intro n_
  induction n_ with
  | zero =>
    intro k hct σ' hfr hX hk hE hc
    obtain rfl : k = ecN a := by omega
    have hec := ec_le a
    obtain ⟨hok, hsm⟩ := er_ok ho hh n (ecN a) (Nat.le_refl _)
    refine g_iload_n dX5_canAll_8 rfl 0 rfl ?_
    refine g_aload_n dX5_canAll_9 rfl 2 rfl ?_
    refine s_getM kf_X5_304 (by decide) rfl dX5_canAll_10 ?_
    refine g_tope (z := nI (ecN a)) (hE.1) ?_
    refine n_icmpge 53 dX5_canAll_13 (by decide) (by omega) (by omega) (fun h13 => ?_) (fun h13 => absurd h13 (by omega))
    refine g_aload_n dX5_canAll_53 rfl 2 rfl ?_
    refine g_callV (As := []) km_X5_254 ky_X5_putBack ki_X5_putBack (by decide) 33 at_33 rfl rfl (Nat.le_of_ble_eq_true rfl) dX5_canAll_54 rfl (c_X5_putBack hk (fun σ9 he9 c38 c40 c41 c37 h3 => ?_))
    have hX9 := back_ok h0 hX hsm he9 c38 c40 c41 c37 h3
    have hE9 := eAll_els hE he9 (by decide) (by decide)
    have hf9 := fr_trans hfr (els_fr he9 (by decide) (by decide))
    refine g_iload_n dX5_canAll_57 rfl 1 rfl ?_
    exact g_zreturn dX5_canAll_58 (Nat.le_refl _) (Nat.le_refl _) (Or.inr rfl) (ht hc _ hf9 hX9 hE9)
  | succ n_ ih =>
    intro k hct σ' hfr hX hk hE hc
    have hec := ec_le a
    have hrl : rwN (ecN a) n k < ecN a := rwN_lt (by omega)
    have hj := erH_th hh hrl
    have hsz := ok_sz ho
    obtain ⟨hok, hsm⟩ := er_ok ho hh n k (by omega)
    refine g_iload_n dX5_canAll_8 rfl 0 rfl ?_
    refine g_aload_n dX5_canAll_9 rfl 2 rfl ?_
    refine s_getM kf_X5_304 (by decide) rfl dX5_canAll_10 ?_
    refine g_tope (z := nI (ecN a)) (hE.1) ?_
    refine n_icmpge 53 dX5_canAll_13 (by decide) (by omega) (by omega) (fun h13 => absurd h13 (by omega)) (fun h13 => ?_)
    refine g_iload_n dX5_canAll_16 rfl 1 rfl ?_
    refine t_ifeq1 (tgt := 53) dX5_canAll_17 (by decide) ?_
    refine g_aload_n dX5_canAll_20 rfl 2 rfl ?_
    refine g_aload_n dX5_canAll_21 rfl 2 rfl ?_
    refine s_getM kf_X5_73 (by decide) rfl dX5_canAll_22 ?_
    refine g_aload_n dX5_canAll_25 rfl 2 rfl ?_
    refine s_getM kf_X5_79 (by decide) rfl dX5_canAll_26 ?_
    refine g_iload_n dX5_canAll_29 rfl 0 rfl ?_
    refine s_ald (q := 57) (n := 6) (at_ia (q := 57) rfl) (by omega) (by decide) dX5_canAll_30 ?_
    refine g_tope (z := nI (rwN (ecN a) n k)) (hE.2.2 _ (by omega)) ?_
    refine s_ald (q := 55) (n := 6) (at_ia (q := 55) rfl) (by omega) (by decide) dX5_canAll_31 ?_
    refine g_tope (z := nI (nthS a (rwN (ecN a) n k))) ((hE.2.1 _ (by omega)).1) ?_
    refine g_aload_n dX5_canAll_32 rfl 2 rfl ?_
    refine s_getM kf_X5_76 (by decide) rfl dX5_canAll_33 ?_
    refine g_aload_n dX5_canAll_36 rfl 2 rfl ?_
    refine s_getM kf_X5_79 (by decide) rfl dX5_canAll_37 ?_
    refine g_iload_n dX5_canAll_40 rfl 0 rfl ?_
    refine s_ald (q := 57) (n := 6) (at_ia (q := 57) rfl) (by omega) (by decide) dX5_canAll_41 ?_
    refine g_tope (z := nI (rwN (ecN a) n k)) (hE.2.2 _ (by omega)) ?_
    refine s_ald (q := 56) (n := 6) (at_ia (q := 56) rfl) (by omega) (by decide) dX5_canAll_42 ?_
    refine g_tope (z := nI (glN g (ecN a) (rwN (ecN a) n k))) ((hE.2.1 _ (by omega)).2) ?_
    refine g_callV (As := [.int (nI (nthS a (rwN (ecN a) n k))), .int (nI (glN g (ecN a) (rwN (ecN a) n k)))]) km_X5_310 ky_X5_goesErrand ki_X5_goesErrand (by decide) 33 at_33 rfl rfl (Nat.le_of_ble_eq_true rfl) dX5_canAll_43 rfl (c_X5_goesErrand hX hok hj.1 (by omega) (by rw [hsm.2.2.2.2.2.1]; exact hj.2.1) (fun h43 σ2 hf2 hX2 => ?_) (fun h43 σ2 hf2 hX2 => ?_))
    · refine g_istore_n (lv' := [(1, .int (nI 1)), (2, .int (nI k)), (0, .ref (L 33))]) dX5_canAll_46 rfl (by decide) rfl ?_
      refine g_iinc (v := nI (k + 1)) (lv' := [(2, .int (nI (k + 1))), (1, .int (nI 1)), (0, .ref (L 33))]) dX5_canAll_47 1 rfl (inc_n _) (by decide) rfl ?_
      refine g_goto 8 dX5_canAll_50 (by decide) ?_
      refine g_pick [0, 1, 2] (lv' := [(2, .int (nI (k + 1))), (1, .int (nI 1)), (0, .ref (L 33))]) rfl ?_
      exact ih (k + 1) (by omega) _ (fr_trans hfr (f3_fr hf2)) hX2 (f3_kpt hf2 hk) (eAll_f3 hE hf2) (by rw [erC_s, hc, h43]; rfl)
    · refine g_istore_n (lv' := [(1, .int (nI 0)), (2, .int (nI k)), (0, .ref (L 33))]) dX5_canAll_46 rfl (by decide) rfl ?_
      refine g_iinc (v := nI (k + 1)) (lv' := [(2, .int (nI (k + 1))), (1, .int (nI 0)), (0, .ref (L 33))]) dX5_canAll_47 1 rfl (inc_n _) (by decide) rfl ?_
      refine g_goto 8 dX5_canAll_50 (by decide) ?_
      refine g_pick [0, 1, 2] (lv' := [(2, .int (nI (k + 1))), (1, .int (nI 0)), (0, .ref (L 33))]) rfl ?_
      exact bd_X5_canAll ho hh h0 ht hf (by have h9 := erC_f (X := X) (a := a) (g := g) (n := n) (k := k + 1) (by rw [erC_s, hc, h43]; rfl) (ecN a - (k + 1)); rw [show k + 1 + (ecN a - (k + 1)) = ecN a by omega] at h9; exact h9) (by omega) hsm (fr_trans hfr (f3_fr hf2)) hX2 (f3_kpt hf2 hk) (eAll_f3 hE hf2)
set_option maxHeartbeats 4000000 in
set_option maxRecDepth 20000 in
theorem c_X5_canAll {l : Launch} {D : gE} {L : Nat → Nat} {σ : St} {Q : Option Value → va_W → Prop} {d : Nat} {X : XT} (hX : rpM σ X) (ho : okX X) {a g n : Nat} (hh : erH X a g) (hE : eAll σ a g n) (ht : erC X a g n (ecN a) = true → ∀ σ', fr σ σ' → rpM σ' X → eAll σ' a g n → Q (some (.int (nI 1))) (wsOf D L σ')) (hf : erC X a g n (ecN a) = false → ∀ σ', fr σ σ' → rpM σ' X → eAll σ' a g n → Q (some (.int (nI 0))) (wsOf D L σ')) : Ctr l D yX5_canAll cX5_canAll 3 (some .boolean) (rr (d + 6)) [.ref (L 33)] (wsOf D L σ) Q := by
  refine g_start ky_X5_canAll (Nat.le_of_ble_eq_true rfl) ?_
  refine g_pick [0] (lv' := [(0, .ref (L 33))]) rfl ?_
  refine g_aload_n dX5_canAll_0 rfl 0 rfl ?_
  refine g_callV (As := []) km_X5_248 ky_X5_keepNow ki_X5_keepNow (by decide) 33 at_33 rfl rfl (Nat.le_of_ble_eq_true rfl) dX5_canAll_1 rfl (c_X5_keepNow (fun σ2 he2 hk2 => ?_))
  have hX2 := rpM_els hX he2 (fun q h1 h2 => by simp; omega) (by decide)
  have hE2 := eAll_els hE he2 (by decide) (by decide)
  refine g_iconst dX5_canAll_4 ci_1 ?_
  refine g_istore_n (lv' := [(1, .int (nI 1)), (0, .ref (L 33))]) dX5_canAll_5 rfl (by decide) rfl ?_
  refine g_iconst dX5_canAll_6 ci_0 ?_
  refine g_istore_n (lv' := [(2, .int (nI 0)), (1, .int (nI 1)), (0, .ref (L 33))]) dX5_canAll_7 rfl (by decide) rfl ?_
  refine g_pick [0, 1, 2] (lv' := [(2, .int (nI 0)), (1, .int (nI 1)), (0, .ref (L 33))]) rfl ?_
  exact lp_X5_canAll ho hh hX ht hf (ecN a) 0 (by omega) _ (els_fr he2 (by decide) (by decide)) hX2 hk2 hE2 rfl
theorem ee_le {e k : Nat} (he : e ≤ 6) (hk : k ≤ 6) : e ^ k ≤ 46656 := Nat.le_trans (Nat.pow_le_pow_left he k) (six_le hk)
theorem erF_is {X : XT} {a g n : Nat} (hn : n < ecN a ^ ecN a) (h1 : pmN (ecN a) n = true) (h2 : erC X a g n (ecN a) = true) (h : ∀ j, j < n → erOK X a g j = false) : erF X a g = n := firstN_is hn (by unfold erOK; rw [h1, Bool.true_and]; exact h2) h
theorem erF_no {X : XT} {a g : Nat} (h : ∀ j, j < ecN a ^ ecN a → erOK X a g j = false) : erF X a g = ecN a ^ ecN a := firstN_none h
theorem erOK_1 {X : XT} {a g n : Nat} (h : pmN (ecN a) n = false) : erOK X a g n = false := by unfold erOK; rw [h]; rfl
theorem erOK_2 {X : XT} {a g n : Nat} (h : erC X a g n (ecN a) = false) : erOK X a g n = false := by
  unfold erOK
  rw [show erB X (nthS a) (glN g (ecN a)) (rwN (ecN a) n) (ecN a) = false from h, Bool.and_false]
/-- the rows of errands alone -/
def eTwo (σ : St) (a g : Nat) : Prop := sI σ 33 39 = nI (ecN a) ∧ ∀ j, j < ecN a → sA σ 55 j = nI (nthS a j) ∧ sA σ 56 j = nI (glN g (ecN a) j)
theorem eTwo_57 {σ σ' : St} {a g : Nat} (h : eTwo σ a g) (hf : fA 57 σ σ') : eTwo σ' a g := ⟨by rw [hf.2.1]; exact h.1, fun j hj => by rw [hf.1 55 (by decide), hf.1 56 (by decide)]; exact h.2 j hj⟩
theorem fA_X {σ σ' : St} {X : XT} {q0 : Nat} (h : fA q0 σ σ') (hq : 44 < q0) (hX : rpM σ X) : rpM σ' X := rpM_els (as := [q0]) (k0 := 99) hX ⟨fun q hq => h.1 q (by simpa using hq), fun o _ => by rw [h.2.1], fun k _ => by rw [h.2.1], h.2.2.1, h.2.2.2⟩ (fun q h1 h2 => by simp; omega) (by decide)
set_option maxHeartbeats 4000000 in
set_option maxRecDepth 20000 in
theorem l1_X5_errands {l : Launch} {D : gE} {L : Nat → Nat} {σ : St} {Q : Option Value → va_W → Prop} {d : Nat} {X : XT} (ho : okX X) {a g : Nat} (hh : erH X a g) {i : Int32} (h : ∀ σ', fr σ σ' → rpM σ' X → Q (some (.int (erN X a g i))) (wsOf D L σ')) : ∀ n_ N, N + n_ = ecN a ^ ecN a → ∀ σ', fr σ σ' → rpM σ' X → eTwo σ' a g → (∀ j, j < N → erOK X a g j = false) → G l D yX5_errands cX5_errands 6 (some .int) (rr (d + 7)) Q 0 0 68 [(5, .int (nI N)), (4, .int (nI (ecN a ^ ecN a))), (0, .ref (L 33)), (1, .int (nI a)), (2, .int (nI g)), (3, .int i)] [] (wsOf D L σ') := by
  intro n_
  induction n_ with
  | zero =>
    intro N hct σ' hfr hX hE hno
    obtain rfl : N = ecN a ^ ecN a := by omega
    have hec := ec_le a
    have hee := ee_le hec hec
    refine g_iload dX5_errands_68 0 rfl ?_
    refine g_iload dX5_errands_70 1 rfl ?_
    refine n_icmpge 130 dX5_errands_72 (by decide) (by omega) (by omega) (fun h72 => ?_) (fun h72 => absurd h72 (by omega))
    refine g_bipush dX5_errands_130 bp_m6 ?_
    exact g_ireturn dX5_errands_132 (Nat.le_refl _) (Nat.le_refl _) (qi (by unfold erN; rw [erF_no hno, if_neg (Nat.lt_irrefl _)]) (h _ hfr hX))
  | succ n_ ih =>
    intro N hct σ' hfr hX hE hno
    have hec := ec_le a
    have hee := ee_le hec hec
    refine g_iload dX5_errands_68 0 rfl ?_
    refine g_iload dX5_errands_70 1 rfl ?_
    refine n_icmpge 130 dX5_errands_72 (by decide) (by omega) (by omega) (fun h72 => absurd h72 (by omega)) (fun h72 => ?_)
    refine g_aload_n dX5_errands_75 rfl 2 rfl ?_
    refine g_iload dX5_errands_76 0 rfl ?_
    refine g_callV (As := [.int (nI N)]) km_X5_318 ky_X5_layRow ki_X5_layRow (by decide) 33 at_33 rfl rfl (Nat.le_of_ble_eq_true rfl) dX5_errands_78 rfl (c_X5_layRow (e := ecN a) (ec_le a) (by omega) hE.1 (fun h78 σ2 hf2 hr2 => ?_) (fun h78 σ2 hf2 => ?_))
    · have hX := fA_X hf2 (by decide) hX
      have hfr := fr_trans hfr (fA_fr hf2 (by decide))
      have hE := eTwo_57 hE hf2
      refine t_ifeq1 (tgt := 124) dX5_errands_81 (by decide) ?_
      refine g_aload_n dX5_errands_84 rfl 2 rfl ?_
      refine g_callV (As := []) km_X5_321 ky_X5_canAll ki_X5_canAll (by decide) 33 at_33 rfl rfl (Nat.le_of_ble_eq_true rfl) dX5_errands_85 rfl (c_X5_canAll hX ho hh ⟨hE.1, hE.2, hr2⟩ (fun h85 σ3 hf3 hX3 hE3 => ?_) (fun h85 σ3 hf3 hX3 hE3 => ?_))
      · have hX := hX3
        have hfr := fr_trans hfr hf3
        refine t_ifeq1 (tgt := 124) dX5_errands_88 (by decide) ?_
        refine g_iload_n dX5_errands_91 rfl 5 rfl ?_
        refine g_i2l dX5_errands_92 ?_
        refine g_lconst dX5_errands_93 lc_0 ?_
        refine g_aload_n dX5_errands_94 rfl 2 rfl ?_
        refine s_getM kf_X5_304 (by decide) rfl dX5_errands_95 ?_
        refine g_tope (z := nI (ecN a)) (hE3.1) ?_
        refine g_iconst dX5_errands_98 ci_1 ?_
        refine g_isub dX5_errands_99 ?_
        refine g_tope (z := nI (ecN a) - nI 1) (rfl) ?_
        refine g_i2l dX5_errands_100 ?_
        refine g_callS (As := [.long i.toInt64, .long ((nI 0).toInt64), .long ((nI (ecN a) - nI 1).toInt64)]) km_X5_118 ky_X5_in ks_X5_in (by decide) rfl (Nat.le_of_ble_eq_true rfl) dX5_errands_101 rfl (c_X5_inS (by omega) (fun p hp he => ?_) (fun h101 => ?_))
        · subst he
          have hrl : rwN (ecN a) N p < ecN a := rwN_lt (by omega)
          refine t_ifeq1 (tgt := 121) dX5_errands_104 (by decide) ?_
          refine g_aload_n dX5_errands_107 rfl 2 rfl ?_
          refine s_getM kf_X5_73 (by decide) rfl dX5_errands_108 ?_
          refine g_aload_n dX5_errands_111 rfl 2 rfl ?_
          refine s_getM kf_X5_79 (by decide) rfl dX5_errands_112 ?_
          refine g_iload_n dX5_errands_115 rfl 5 rfl ?_
          refine s_ald (q := 57) (n := 6) (at_ia (q := 57) rfl) (by omega) (by decide) dX5_errands_116 ?_
          refine g_tope (z := nI (rwN (ecN a) N p)) (hE3.2.2 _ (by omega)) ?_
          refine s_ald (q := 55) (n := 6) (at_ia (q := 55) rfl) (by omega) (by decide) dX5_errands_117 ?_
          refine g_tope (z := nI (nthS a (rwN (ecN a) N p))) ((hE3.2.1 _ (by omega)).1) ?_
          refine g_goto 123 dX5_errands_118 (by decide) ?_
          exact g_ireturn dX5_errands_123 (Nat.le_refl _) (Nat.le_refl _) (qi (by unfold erN; rw [erF_is (by omega) h78 h85 hno, if_pos (by omega), if_pos (by rw [ix_nI hp (by omega)]; exact hp), ix_nI hp (by omega)]) (h _ hfr hX))
        · refine t_ifeq0 121 dX5_errands_104 (by decide) ?_
          refine g_bipush dX5_errands_121 bp_m6 ?_
          exact g_ireturn dX5_errands_123 (Nat.le_refl _) (Nat.le_refl _) (qi (by unfold erN; rw [erF_is (by omega) h78 h85 hno, if_pos (by omega), if_neg (ix_no h101)]) (h _ hfr hX))
      · have hX := hX3
        have hfr := fr_trans hfr hf3
        refine t_ifeq0 124 dX5_errands_88 (by decide) ?_
        refine g_iinc (v := nI (N + 1)) (lv' := [(5, .int (nI (N + 1))), (4, .int (nI (ecN a ^ ecN a))), (0, .ref (L 33)), (1, .int (nI a)), (2, .int (nI g)), (3, .int i)]) dX5_errands_124 0 rfl (inc_n _) (by decide) rfl ?_
        refine g_goto 68 dX5_errands_127 (by decide) ?_
        refine g_pick [0, 1, 2, 3, 4, 5] (lv' := [(5, .int (nI (N + 1))), (4, .int (nI (ecN a ^ ecN a))), (0, .ref (L 33)), (1, .int (nI a)), (2, .int (nI g)), (3, .int i)]) rfl ?_
        exact ih (N + 1) (by omega) _ hfr hX ⟨hE3.1, hE3.2.1⟩ (fun j hj => by by_cases c : j = N; rw [c]; exact erOK_2 h85; exact hno j (by omega))
    · have hX := fA_X hf2 (by decide) hX
      have hfr := fr_trans hfr (fA_fr hf2 (by decide))
      have hE := eTwo_57 hE hf2
      refine t_ifeq0 124 dX5_errands_81 (by decide) ?_
      refine g_iinc (v := nI (N + 1)) (lv' := [(5, .int (nI (N + 1))), (4, .int (nI (ecN a ^ ecN a))), (0, .ref (L 33)), (1, .int (nI a)), (2, .int (nI g)), (3, .int i)]) dX5_errands_124 0 rfl (inc_n _) (by decide) rfl ?_
      refine g_goto 68 dX5_errands_127 (by decide) ?_
      refine g_pick [0, 1, 2, 3, 4, 5] (lv' := [(5, .int (nI (N + 1))), (4, .int (nI (ecN a ^ ecN a))), (0, .ref (L 33)), (1, .int (nI a)), (2, .int (nI g)), (3, .int i)]) rfl ?_
      exact ih (N + 1) (by omega) _ hfr hX hE (fun j hj => by by_cases c : j = N; rw [c]; exact erOK_1 h78; exact hno j (by omega))
set_option maxHeartbeats 4000000 in
set_option maxRecDepth 20000 in
theorem l2_X5_errands {l : Launch} {D : gE} {L : Nat → Nat} {σ : St} {Q : Option Value → va_W → Prop} {d : Nat} {X : XT} (ho : okX X) {a g : Nat} (hh : erH X a g) {i : Int32} (h : ∀ σ', fr σ σ' → rpM σ' X → Q (some (.int (erN X a g i))) (wsOf D L σ')) {σ' : St} (hfr : fr σ σ') (hX : rpM σ' X) (hE : eTwo σ' a g) : ∀ n_ k, k + n_ = ecN a → G l D yX5_errands cX5_errands 6 (some .int) (rr (d + 7)) Q 0 0 41 [(5, .int (nI k)), (4, .int (nI (ecN a ^ k))), (0, .ref (L 33)), (1, .int (nI a)), (2, .int (nI g)), (3, .int i)] [] (wsOf D L σ') := by
  intro n_
  induction n_ with
  | zero =>
    intro k hct
    obtain rfl : k = ecN a := by omega
    have hec := ec_le a
    refine g_iload dX5_errands_41 0 rfl ?_
    refine g_aload_n dX5_errands_43 rfl 2 rfl ?_
    refine s_getM kf_X5_304 (by decide) rfl dX5_errands_44 ?_
    refine g_tope (z := nI (ecN a)) (hE.1) ?_
    refine n_icmpge 65 dX5_errands_47 (by decide) (by omega) (by omega) (fun h47 => ?_) (fun h47 => absurd h47 (by omega))
    refine g_iconst dX5_errands_65 ci_0 ?_
    refine g_istore (lv' := [(5, .int (nI 0)), (4, .int (nI (ecN a ^ (ecN a)))), (0, .ref (L 33)), (1, .int (nI a)), (2, .int (nI g)), (3, .int i)]) dX5_errands_66 (by decide) rfl ?_
    refine g_pick [0, 1, 2, 3, 4, 5] (lv' := [(5, .int (nI 0)), (4, .int (nI (ecN a ^ (ecN a)))), (0, .ref (L 33)), (1, .int (nI a)), (2, .int (nI g)), (3, .int i)]) rfl ?_
    exact l1_X5_errands ho hh h (ecN a ^ ecN a) 0 (by omega) _ hfr hX hE (fun j hj => absurd hj (Nat.not_lt_zero j))
  | succ n_ ih =>
    intro k hct
    have hec := ec_le a
    refine g_iload dX5_errands_41 0 rfl ?_
    refine g_aload_n dX5_errands_43 rfl 2 rfl ?_
    refine s_getM kf_X5_304 (by decide) rfl dX5_errands_44 ?_
    refine g_tope (z := nI (ecN a)) (hE.1) ?_
    refine n_icmpge 65 dX5_errands_47 (by decide) (by omega) (by omega) (fun h47 => absurd h47 (by omega)) (fun h47 => ?_)
    refine g_iload dX5_errands_50 1 rfl ?_
    refine g_aload_n dX5_errands_52 rfl 2 rfl ?_
    refine s_getM kf_X5_304 (by decide) rfl dX5_errands_53 ?_
    refine g_tope (z := nI (ecN a)) (hE.1) ?_
    refine g_imul dX5_errands_56 ?_
    refine g_tope (z := nI (ecN a ^ (k + 1))) ((pk_mul _ _).trans (by rw [Nat.pow_succ])) ?_
    refine g_istore (lv' := [(4, .int (nI (ecN a ^ (k + 1)))), (5, .int (nI k)), (0, .ref (L 33)), (1, .int (nI a)), (2, .int (nI g)), (3, .int i)]) dX5_errands_57 (by decide) rfl ?_
    refine g_iinc (v := nI (k + 1)) (lv' := [(5, .int (nI (k + 1))), (4, .int (nI (ecN a ^ (k + 1)))), (0, .ref (L 33)), (1, .int (nI a)), (2, .int (nI g)), (3, .int i)]) dX5_errands_59 1 rfl (inc_n _) (by decide) rfl ?_
    refine g_goto 41 dX5_errands_62 (by decide) ?_
    refine g_pick [0, 1, 2, 3, 4, 5] (lv' := [(5, .int (nI (k + 1))), (4, .int (nI (ecN a ^ (k + 1)))), (0, .ref (L 33)), (1, .int (nI a)), (2, .int (nI g)), (3, .int i)]) rfl ?_
    exact ih (k + 1) (by omega)
theorem sub6 {f : Nat → Bool} {a : Nat} (ha : a < 64) (h : ∀ i, i < 6 → a.testBit i = true → f i = true) : subB f a = true := subB_iff.mpr (fun i hi h2 => h i (by
  apply Classical.byContradiction
  intro q
  have : a < 2 ^ i := Nat.lt_of_lt_of_le (show a < 2 ^ 6 from ha) (Nat.pow_le_pow_right (by decide) (by omega))
  rw [Nat.testBit_lt_two_pow this] at h2; cases h2) h2)
set_option maxHeartbeats 4000000 in
set_option maxRecDepth 20000 in
theorem c_X5_errands {l : Launch} {D : gE} {L : Nat → Nat} {σ : St} {Q : Option Value → va_W → Prop} {d : Nat} {X : XT} (hX : rpM σ X) (ho : okX X) {x y i : Int32} (h : ∀ σ', fr σ σ' → rpM σ' X → Q (some (.int (errandsR X x y i))) (wsOf D L σ')) : Ctr l D yX5_errands cX5_errands 6 (some .int) (rr (d + 7)) [.ref (L 33), .int x, .int y, .int i] (wsOf D L σ) Q := by
  refine g_start ky_X5_errands (Nat.le_of_ble_eq_true rfl) ?_
  refine g_pick [0, 1, 2, 3] (lv' := [(0, .ref (L 33)), (1, .int x), (2, .int y), (3, .int i)]) rfl ?_
  refine g_iload_n dX5_errands_0 rfl 1 rfl ?_
  refine g_i2l dX5_errands_1 ?_
  refine g_lconst dX5_errands_2 lc_0 ?_
  refine g_ldc2_w kk_X5_313 dX5_errands_3 ?_
  refine g_tople (z := (nI 63).toInt64) (by decide +kernel) ?_
  refine g_callS (As := [.long x.toInt64, .long ((nI 0).toInt64), .long ((nI 63).toInt64)]) km_X5_118 ky_X5_in ks_X5_in (by decide) rfl (Nat.le_of_ble_eq_true rfl) dX5_errands_6 rfl (c_X5_inN (by omega) (by omega) (fun p6 ha6 hb6 he6 => ?_) (fun h6 => ?_))
  · subst he6
    refine t_ifeq1 (tgt := 32) dX5_errands_9 (by decide) ?_
    refine g_iload_n dX5_errands_12 rfl 1 rfl ?_
    refine g_aload_n dX5_errands_13 rfl 0 rfl ?_
    refine s_getM kf_X5_109 (by decide) rfl dX5_errands_14 ?_
    refine g_tope (z := nI (bitsN (x_th X) 6)) (rpM_th hX) ?_
    refine g_iconst dX5_errands_17 ci_m1 ?_
    refine g_ixor dX5_errands_18 ?_
    refine g_iand dX5_errands_19 ?_
    refine g_ifne 32 dX5_errands_20 (by decide) (fun h20 => ?_) (fun h20 => ?_)
    · refine g_bipush dX5_errands_32 bp_m2 ?_
      exact g_ireturn dX5_errands_34 (Nat.le_refl _) (Nat.le_refl _) (qi (by unfold errandsR; rw [inN_t (a := 0) (b := 63) (by omega) (by omega) (by omega), ix_nI (by omega) (by omega), show subB (x_th X) p6 = false from (Bool.not_eq_true _).mp (fun q => h20 ((sbB (x_th X) (by decide) (by omega)).mpr (fun i hi => subB_iff.mp q i (by omega))))]; rfl) (h _ fr_rfl hX))
    · refine g_aload_n dX5_errands_23 rfl 0 rfl ?_
      refine g_iload_n dX5_errands_24 rfl 1 rfl ?_
      refine g_iload_n dX5_errands_25 rfl 2 rfl ?_
      refine g_callV (As := [.int (nI p6), .int y]) km_X5_315 ky_X5_layErrands ki_X5_layErrands (by decide) 33 at_33 rfl rfl (Nat.le_of_ble_eq_true rfl) dX5_errands_26 rfl (c_X5_layErrands hX ho (by omega) (fun g hg hy hgb σ2 hf2 hX2 hr2 h39 => ?_) (fun h26 σ2 hf2 hX2 => ?_))
      · subst hy
        refine t_ifne1 35 dX5_errands_29 (by decide) ?_
        refine g_iconst dX5_errands_35 ci_1 ?_
        refine g_istore (lv' := [(4, .int (nI 1)), (0, .ref (L 33)), (1, .int (nI p6)), (2, .int (nI g)), (3, .int i)]) dX5_errands_36 (by decide) rfl ?_
        refine g_iconst dX5_errands_38 ci_0 ?_
        refine g_istore (lv' := [(5, .int (nI 0)), (4, .int (nI 1)), (0, .ref (L 33)), (1, .int (nI p6)), (2, .int (nI g)), (3, .int i)]) dX5_errands_39 (by decide) rfl ?_
        refine g_pick [0, 1, 2, 3, 4, 5] (lv' := [(5, .int (nI 0)), (4, .int (nI 1)), (0, .ref (L 33)), (1, .int (nI p6)), (2, .int (nI g)), (3, .int i)]) rfl ?_
        have hsb : subB (x_th X) p6 = true := sub6 (by omega) ((sbB (x_th X) (by decide) (by omega)).mp h20)
        have h10 := ten_le (ec_le p6)
        exact l2_X5_errands ho ⟨by omega, hsb, hgb⟩ (fun σ9 hf9 hX9 => qi (by unfold errandsR; rw [inN_t (a := 0) (b := 63) (by omega) (by omega) (by omega), ix_nI (by omega) (by omega), hsb, show glI X p6 (nI g) = true by unfold glI; rw [ix_nI hg (by omega), decide_eq_true hg, hgb]; rfl, if_pos (by rfl), ix_nI hg (by omega)]) (h σ9 hf9 hX9)) (fE_fr hf2) hX2 ⟨h39, fun j hj => eRw_0 hr2 hj⟩ (ecN p6) 0 (by omega)
      · refine t_ifne0 (tgt := 35) dX5_errands_29 (by decide) ?_
        refine g_bipush dX5_errands_32 bp_m2 ?_
        exact g_ireturn dX5_errands_34 (Nat.le_refl _) (Nat.le_refl _) (qi (by unfold errandsR; rw [inN_t (a := 0) (b := 63) (by omega) (by omega) (by omega), ix_nI (by omega) (by omega), h26, Bool.and_false, if_neg (by decide)]) (h _ (fE_fr hf2) hX2))
  · refine t_ifeq0 32 dX5_errands_9 (by decide) ?_
    refine g_bipush dX5_errands_32 bp_m2 ?_
    exact g_ireturn dX5_errands_34 (Nat.le_refl _) (Nat.le_refl _) (qi (by unfold errandsR; rw [inN_f (a := 0) (b := 63) (by omega) h6]; rfl) (h _ fr_rfl hX))
