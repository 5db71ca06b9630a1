/-! RUMOUR -/
def rcX (X : XT) (k q : Nat) : Bool := x_th X q && anyN (fun p => x_th X p && x_kn X p k && wyX X (buX X p) (x_pl X p) (x_pl X q)) 6
def rnX (X : XT) (k : Nat) : XT := xs_kn X (fun p i => x_kn X p i || (i == k && rcX X k p))
def nwX (X : XT) (k : Nat) : Bool := anyN (fun q => rcX X k q && !x_kn X q k) 6
def rumF (X : XT) (k : Nat) : Nat → XT
  | 0 => X
  | n + 1 => if nwX X k then rumF (rnX X k) k n else X
def rumourR (X : XT) (x : Int32) : Int32 := if nwI x then nI (bitsN (fun p => x_kn (rumF X (ix 8 x) 7) p (ix 8 x)) 6) else -1
theorem rn_kn (X : XT) (k p i : Nat) : x_kn (rnX X k) p i = (x_kn X p i || (i == k && rcX X k p)) := by unfold rnX; rw [x_kn_kn]
theorem rn_th (X : XT) (k : Nat) : x_th (rnX X k) = x_th X := by unfold rnX; rw [x_th_kn]
theorem rn_sme (X : XT) (k : Nat) : smeX (rnX X k) X := sme_kn X _
theorem rn_more {X : XT} {k : Nat} (h : nwX X k = true) : cntN (fun p => x_kn X p k) 6 < cntN (fun p => x_kn (rnX X k) p k) 6 := by
  refine cntN_lt2 6 (fun t _ h1 => ?_) ?_
  · rw [rn_kn, h1]; rfl
  · obtain ⟨q, hq, h1⟩ := (anyN_iff _ 6).mp h
    simp at h1
    exact ⟨q, hq, h1.2, by rw [rn_kn, h1.1]; simp⟩
theorem ok_kn {X : XT} (h : okX X) {f : Nat → Nat → Bool} (hf : ∀ p, p < 6 → x_th X p = false → ∀ k, f p k = false) : okX (xs_kn X f) := by
  unfold okX at h ⊢
  simp only [x_sz_kn, x_lo_kn, x_hi_kn, x_ld_kn, x_bn_kn, x_br_kn, x_pl_kn, x_ki_kn, x_th_kn, x_kn_kn, x_wt_kn, x_ab_kn, x_fa_kn, x_sg_kn, x_sb_kn, x_sv_kn]
  exact ⟨h.1, h.2.1, h.2.2.1, h.2.2.2.1, h.2.2.2.2.1, hf, h.2.2.2.2.2.2⟩
theorem ok_rn {X : XT} (h : okX X) (k : Nat) : okX (rnX X k) := by
  refine ok_kn h (fun p hp ht i => ?_)
  rw [ok_no h hp ht]
  unfold rcX
  rw [ht]
  simp
theorem rn_same {X : XT} {k : Nat} (h : nwX X k = false) {p i : Nat} (hp : p < 6) : x_kn (rnX X k) p i = x_kn X p i := by
  rw [rn_kn]
  by_cases e : i = k
  · subst e
    cases h1 : x_kn X p i with
    | true => rfl
    | false =>
      cases h2 : rcX X i p with
      | false => simp
      | true =>
        have : nwX X i = true := (anyN_iff _ 6).mpr ⟨p, hp, by rw [h1, h2]; rfl⟩
        rw [h] at this; cases this
  · simp [e]
theorem rum_sme (k : Nat) : ∀ (n : Nat) (X : XT), smeX (rumF X k n) X
  | 0, X => sme_rfl
  | n + 1, X => by
    simp only [rumF]
    split
    · exact sme_trans (rum_sme k n _) (rn_sme X k)
    · exact sme_rfl
theorem anyN_or (f g : Nat → Bool) : ∀ n, anyN (fun i => f i || g i) n = (anyN f n || anyN g n)
  | 0 => rfl
  | n + 1 => by simp only [anyN]; rw [anyN_or f g n]; cases anyN f n <;> cases anyN g n <;> cases f n <;> cases g n <;> rfl
theorem anyN_cong {f g : Nat → Bool} : ∀ {n : Nat}, (∀ i, i < n → f i = g i) → anyN f n = anyN g n
  | 0, _ => rfl
  | n + 1, h => by
    simp only [anyN]
    rw [anyN_cong (fun i hi => h i (Nat.lt_succ_of_lt hi)), h n (Nat.lt_succ_self n)]
theorem or_bitsN {f g : Nat → Bool} {n : Nat} : nI (bitsN f n) ||| nI (bitsN g n) = nI (bitsN (fun i => f i || g i) n) := by
  rw [fa_or]
  congr 1
  refine bitsN_of_tb (Nat.or_lt_two_pow (bitsN_lt f n) (bitsN_lt g n)) (fun i hi => ?_)
  rw [Nat.testBit_or, bitsN_in f hi, bitsN_in g hi]
theorem bitsN_eq_iff {f g : Nat → Bool} {n : Nat} (hn : n ≤ 31) : nI (bitsN f n) = nI (bitsN g n) ↔ ∀ i, i < n → f i = g i := by
  rw [nI_eq (bitsN31 f hn) (bitsN31 g hn)]
  exact ⟨fun h i hi => bitsN_inj h hi, bitsN_cong⟩
theorem setA_upd_id (σ : St) (q p : Nat) : setA σ q (upd (sA σ q) p (sA σ q p)) = σ := by
  have e : upd (sA σ q) p (sA σ q p) = sA σ q := by
    funext j
    unfold upd
    split
    · rename_i h; rw [h]
    · rfl
  rw [e, setA_id]
/-- in the middle of a row of the reference's that accumulates bits -/
def rcP (X : XT) (k n q : Nat) : Bool := x_th X q && anyN (fun p => x_th X p && x_kn X p k && wyX X (buX X p) (x_pl X p) (x_pl X q)) n
set_option maxHeartbeats 4000000 in
set_option maxRecDepth 20000 in
theorem lp_X5_knowersOf {l : Launch} {D : gE} {L : Nat → Nat} {σ : St} {Q : Option Value → va_W → Prop} {d : Nat} {X : XT} (hX : rpM σ X) (ho : okX X) {k : Nat} (hk : k < 8) (h : Q (some (.int (nI (bitsN (fun p => x_kn X p k) 6)))) (wsOf D L σ)) : ∀ n p, p + n = 6 → G l D yX5_knowersOf cX5_knowersOf 4 (some .int) (rr (d + 2)) Q 0 0 4 [(3, .int (nI p)), (2, .int (nI (bitsN (fun p => x_kn X p k) p))), (0, .ref (L 33)), (1, .int (nI k))] [] (wsOf D L σ) := by
  intro n
  induction n with
  | zero =>
    intro p hct
    obtain rfl : p = 6 := by omega
    refine g_iload_n dX5_knowersOf_4 rfl 0 rfl ?_
    refine g_bipush dX5_knowersOf_5 bp_6 ?_
    refine n_icmpge 48 dX5_knowersOf_7 (by decide) (by omega) (by omega) (fun h7 => ?_) (fun h7 => absurd h7 (by omega))
    refine g_iload_n dX5_knowersOf_48 rfl 1 rfl ?_
    exact g_ireturn dX5_knowersOf_49 (Nat.le_refl _) (Nat.le_refl _) (h)
  | succ n ih =>
    intro p hct
    refine g_iload_n dX5_knowersOf_4 rfl 0 rfl ?_
    refine g_bipush dX5_knowersOf_5 bp_6 ?_
    refine n_icmpge 48 dX5_knowersOf_7 (by decide) (by omega) (by omega) (fun h7 => absurd h7 (by omega)) (fun h7 => ?_)
    refine g_iload_n dX5_knowersOf_10 rfl 1 rfl ?_
    refine g_aload_n dX5_knowersOf_11 rfl 2 rfl ?_
    refine g_iload_n dX5_knowersOf_12 rfl 0 rfl ?_
    refine g_callV (As := [.int (nI p)]) km_X5_143 ky_X5_isThere ki_X5_isThere (by decide) 33 at_33 rfl rfl (Nat.le_of_ble_eq_true rfl) dX5_knowersOf_13 rfl (c_X5_isThereN hX (by omega) (fun h13 => ?_) (fun h13 => ?_))
    · refine t_ifeq1 (tgt := 39) dX5_knowersOf_16 (by decide) ?_
      refine g_aload_n dX5_knowersOf_19 rfl 2 rfl ?_
      refine s_getM kf_X5_28 (by decide) rfl dX5_knowersOf_20 ?_
      refine g_iload_n dX5_knowersOf_23 rfl 0 rfl ?_
      refine s_ald (q := 40) (n := 6) (at_ia (q := 40) rfl) (by omega) (by decide) dX5_knowersOf_24 ?_
      refine g_tope (z := nI (bitsN (x_kn X p) 8)) (rpM_kn hX (by omega) (by assumption)) ?_
      refine g_iload_n dX5_knowersOf_25 rfl 3 rfl ?_
      refine g_ishr dX5_knowersOf_26 ?_
      refine g_iconst dX5_knowersOf_27 ci_1 ?_
      refine g_iand dX5_knowersOf_28 ?_
      refine g_tope (z := nI (b2n ((x_kn X p) k))) (gbB _ (by decide) (by omega)) ?_
      refine g_iconst dX5_knowersOf_29 ci_1 ?_
      refine b_icmpne 39 dX5_knowersOf_30 (by decide) (fun h30 => ?_) (fun h30 => ?_)
      · refine g_iconst dX5_knowersOf_39 ci_0 ?_
        refine g_ior dX5_knowersOf_40 ?_
        refine g_tope (z := nI (bitsN (fun p => x_kn X p k) (p + 1))) (by rw [or0]; exact obF (fun p => x_kn X p k) (h30)) ?_
        refine g_istore_n (lv' := [(2, .int (nI (bitsN (fun p => x_kn X p k) (p + 1)))), (3, .int (nI p)), (0, .ref (L 33)), (1, .int (nI k))]) dX5_knowersOf_41 rfl (by decide) rfl ?_
        refine g_iinc (v := nI (p + 1)) (lv' := [(3, .int (nI (p + 1))), (2, .int (nI (bitsN (fun p => x_kn X p k) (p + 1)))), (0, .ref (L 33)), (1, .int (nI k))]) dX5_knowersOf_42 1 rfl (inc_n _) (by decide) rfl ?_
        refine g_goto 4 dX5_knowersOf_45 (by decide) ?_
        refine g_pick [0, 1, 2, 3] (lv' := [(3, .int (nI (p + 1))), (2, .int (nI (bitsN (fun p => x_kn X p k) (p + 1)))), (0, .ref (L 33)), (1, .int (nI k))]) rfl ?_
        exact ih (p + 1) (by omega)
      · refine g_iconst dX5_knowersOf_33 ci_1 ?_
        refine g_iload_n dX5_knowersOf_34 rfl 0 rfl ?_
        refine g_ishl dX5_knowersOf_35 ?_
        refine g_goto 40 dX5_knowersOf_36 (by decide) ?_
        refine g_ior dX5_knowersOf_40 ?_
        refine g_tope (z := nI (bitsN (fun p => x_kn X p k) (p + 1))) (obT (fun p => x_kn X p k) (by omega) h30) ?_
        refine g_istore_n (lv' := [(2, .int (nI (bitsN (fun p => x_kn X p k) (p + 1)))), (3, .int (nI p)), (0, .ref (L 33)), (1, .int (nI k))]) dX5_knowersOf_41 rfl (by decide) rfl ?_
        refine g_iinc (v := nI (p + 1)) (lv' := [(3, .int (nI (p + 1))), (2, .int (nI (bitsN (fun p => x_kn X p k) (p + 1)))), (0, .ref (L 33)), (1, .int (nI k))]) dX5_knowersOf_42 1 rfl (inc_n _) (by decide) rfl ?_
        refine g_goto 4 dX5_knowersOf_45 (by decide) ?_
        refine g_pick [0, 1, 2, 3] (lv' := [(3, .int (nI (p + 1))), (2, .int (nI (bitsN (fun p => x_kn X p k) (p + 1)))), (0, .ref (L 33)), (1, .int (nI k))]) rfl ?_
        exact ih (p + 1) (by omega)
    · refine t_ifeq0 39 dX5_knowersOf_16 (by decide) ?_
      refine g_iconst dX5_knowersOf_39 ci_0 ?_
      refine g_ior dX5_knowersOf_40 ?_
      refine g_tope (z := nI (bitsN (fun p => x_kn X p k) (p + 1))) (by rw [or0]; exact obF (fun p => x_kn X p k) (ok_no ho (by omega) h13 k)) ?_
      refine g_istore_n (lv' := [(2, .int (nI (bitsN (fun p => x_kn X p k) (p + 1)))), (3, .int (nI p)), (0, .ref (L 33)), (1, .int (nI k))]) dX5_knowersOf_41 rfl (by decide) rfl ?_
      refine g_iinc (v := nI (p + 1)) (lv' := [(3, .int (nI (p + 1))), (2, .int (nI (bitsN (fun p => x_kn X p k) (p + 1)))), (0, .ref (L 33)), (1, .int (nI k))]) dX5_knowersOf_42 1 rfl (inc_n _) (by decide) rfl ?_
      refine g_goto 4 dX5_knowersOf_45 (by decide) ?_
      refine g_pick [0, 1, 2, 3] (lv' := [(3, .int (nI (p + 1))), (2, .int (nI (bitsN (fun p => x_kn X p k) (p + 1)))), (0, .ref (L 33)), (1, .int (nI k))]) rfl ?_
      exact ih (p + 1) (by omega)
set_option maxHeartbeats 4000000 in
set_option maxRecDepth 20000 in
theorem c_X5_knowersOf {l : Launch} {D : gE} {L : Nat → Nat} {σ : St} {Q : Option Value → va_W → Prop} {d : Nat} {X : XT} (hX : rpM σ X) (ho : okX X) {k : Nat} (hk : k < 8) (h : Q (some (.int (nI (bitsN (fun p => x_kn X p k) 6)))) (wsOf D L σ)) : Ctr l D yX5_knowersOf cX5_knowersOf 4 (some .int) (rr (d + 2)) [.ref (L 33), .int (nI k)] (wsOf D L σ) Q := by
  refine g_start ky_X5_knowersOf (Nat.le_of_ble_eq_true rfl) ?_
  refine g_pick [0, 1] (lv' := [(0, .ref (L 33)), (1, .int (nI k))]) rfl ?_
  refine g_iconst dX5_knowersOf_0 ci_0 ?_
  refine g_tope (z := nI (bitsN (fun p => x_kn X p k) 0)) rfl ?_
  refine g_istore_n (lv' := [(2, .int (nI (bitsN (fun p => x_kn X p k) 0))), (0, .ref (L 33)), (1, .int (nI k))]) dX5_knowersOf_1 rfl (by decide) rfl ?_
  refine g_iconst dX5_knowersOf_2 ci_0 ?_
  refine g_istore_n (lv' := [(3, .int (nI 0)), (2, .int (nI (bitsN (fun p => x_kn X p k) 0))), (0, .ref (L 33)), (1, .int (nI k))]) dX5_knowersOf_3 rfl (by decide) rfl ?_
  refine g_pick [0, 1, 2, 3] (lv' := [(3, .int (nI 0)), (2, .int (nI (bitsN (fun p => x_kn X p k) 0))), (0, .ref (L 33)), (1, .int (nI k))]) rfl ?_
  exact lp_X5_knowersOf hX ho hk h 6 0 rfl
def rcQ (X : XT) (k p q i : Nat) : Bool := rcP X k p i || (decide (i < q) && (x_th X i && wyX X (buX X p) (x_pl X p) (x_pl X i)))
theorem rcQ_t {X : XT} {k p q : Nat} (h1 : x_th X q = true) (h2 : wyX X (buX X p) (x_pl X p) (x_pl X q) = true) (i : Nat) : (rcQ X k p q i || i == q) = rcQ X k p (q + 1) i := by
  unfold rcQ
  by_cases e : i = q
  · subst e; simp [h1, h2]
  · by_cases e2 : i < q
    · simp [e, e2, Nat.lt_succ_of_lt e2]
    · simp [e, e2, show ¬ i < q + 1 by omega]
theorem rcQ_f {X : XT} {k p q : Nat} (h : x_th X q = false ∨ wyX X (buX X p) (x_pl X p) (x_pl X q) = false) (i : Nat) : rcQ X k p q i = rcQ X k p (q + 1) i := by
  unfold rcQ
  by_cases e : i = q
  · subst e; rcases h with h | h <;> simp [h]
  · by_cases e2 : i < q
    · simp [e2, Nat.lt_succ_of_lt e2]
    · simp [e2, show ¬ i < q + 1 by omega]
theorem rcQ_end {X : XT} {k p : Nat} (h1 : x_th X p = true) (h2 : x_kn X p k = true) {i : Nat} (hi : i < 6) : rcQ X k p 6 i = rcP X k (p + 1) i := by
  unfold rcQ rcP
  simp only [anyN]
  rw [h1, h2]
  simp [hi]
  cases x_th X i <;> simp
theorem rcP_no {X : XT} {k p : Nat} (h : x_th X p = false ∨ x_kn X p k = false) (i : Nat) : rcP X k p i = rcP X k (p + 1) i := by
  unfold rcP
  simp only [anyN]
  rcases h with h | h <;> simp [h]
theorem rcQ_0 {X : XT} {k p : Nat} (i : Nat) : rcP X k p i = rcQ X k p 0 i := by unfold rcQ; simp
theorem bcg {f g : Nat → Bool} {n : Nat} (h : ∀ i, i < n → f i = g i) : nI (bitsN f n) = nI (bitsN g n) := by rw [bitsN_cong h]
/-- all but the row of distances is as it was -/
def f54 (σ σ' : St) : Prop := (∀ q, q ≠ 54 → sA σ' q = sA σ q) ∧ sI σ' = sI σ ∧ sK σ' = sK σ ∧ sM σ' = sM σ
theorem f54_rfl {σ : St} : f54 σ σ := ⟨fun _ _ => rfl, rfl, rfl, rfl⟩
theorem f54_A {a b : St} (h : f54 a b) (f : Nat → Int32) : f54 a (setA b 54 f) := ⟨fun q hq => (if_neg hq).trans (h.1 q hq), h.2⟩
theorem f54_fr {a b : St} (h : f54 a b) : fr a b := ⟨fun o _ => by rw [h.2.1], fun q hq => h.1 q (by omega), by rw [h.2.1], h.2.2.1, h.2.2.2⟩
theorem f54_kpt {σ0 a b : St} (h : f54 a b) (hk : kpt σ0 a) : kpt σ0 b := by
  refine ⟨fun p hp => ?_, fun k hq => ?_, ?_⟩
  · rw [h.1 50 (by omega), h.1 51 (by omega)]; exact hk.1 p hp
  · rw [h.1 52 (by omega), h.1 53 (by omega)]; exact hk.2.1 k hq
  · rw [h.2.1]; exact hk.2.2
set_option maxHeartbeats 4000000 in
set_option maxRecDepth 20000 in
theorem l1_X5_reachedBy {l : Launch} {D : gE} {L : Nat → Nat} {σ : St} {Q : Option Value → va_W → Prop} {d : Nat} {X : XT} (ho : okX X) {k : Nat} (hk : k < 8) {p : Nat} (hp : p < 6) (hth : x_th X p = true) (kk : ∀ σ', f54 σ σ' → rpM σ' X → G l D yX5_reachedBy cX5_reachedBy 7 (some .int) (rr (d + 5)) Q 0 0 104 [(5, .int (nI 6)), (4, .int (nI (buX X p))), (3, .int (nI p)), (2, .int (nI (bitsN (rcQ X k p 6) 6))), (0, .ref (L 33)), (1, .int (nI k))] [] (wsOf D L σ')) : ∀ n q, q + n = 6 → ∀ σ', f54 σ σ' → rpM σ' X → G l D yX5_reachedBy cX5_reachedBy 7 (some .int) (rr (d + 5)) Q 0 0 42 [(5, .int (nI q)), (4, .int (nI (buX X p))), (3, .int (nI p)), (2, .int (nI (bitsN (rcQ X k p q) 6))), (0, .ref (L 33)), (1, .int (nI k))] [] (wsOf D L σ') := by
  intro n
  induction n with
  | zero =>
    intro q hct σ' hfr hX
    obtain rfl : q = 6 := by omega
    refine g_iload dX5_reachedBy_42 0 rfl ?_
    refine g_bipush dX5_reachedBy_44 bp_6 ?_
    refine n_icmpge 104 dX5_reachedBy_46 (by decide) (by omega) (by omega) (fun h46 => ?_) (fun h46 => absurd h46 (by omega))
    exact kk _ hfr hX
  | succ n ih =>
    intro q hct σ' hfr hX
    have hpq := ok_p ho (i := q) (by omega)
    have hbu := bu_bd ho p
    refine g_iload dX5_reachedBy_42 0 rfl ?_
    refine g_bipush dX5_reachedBy_44 bp_6 ?_
    refine n_icmpge 104 dX5_reachedBy_46 (by decide) (by omega) (by omega) (fun h46 => absurd h46 (by omega)) (fun h46 => ?_)
    refine g_aload_n dX5_reachedBy_49 rfl 4 rfl ?_
    refine g_iload dX5_reachedBy_50 0 rfl ?_
    refine g_callV (As := [.int (nI q)]) km_X5_143 ky_X5_isThere ki_X5_isThere (by decide) 33 at_33 rfl rfl (Nat.le_of_ble_eq_true rfl) dX5_reachedBy_52 rfl (c_X5_isThereN hX (by omega) (fun h52 => ?_) (fun h52 => ?_))
    · refine t_ifeq1 (tgt := 79) dX5_reachedBy_55 (by decide) ?_
      refine g_aload_n dX5_reachedBy_58 rfl 4 rfl ?_
      refine g_iload_n dX5_reachedBy_59 rfl 2 rfl ?_
      refine g_aload_n dX5_reachedBy_60 rfl 4 rfl ?_
      refine s_getM kf_X5_22 (by decide) rfl dX5_reachedBy_61 ?_
      refine g_iload dX5_reachedBy_64 0 rfl ?_
      refine s_ald (q := 38) (n := 6) (at_ia (q := 38) rfl) (by omega) (by decide) dX5_reachedBy_66 ?_
      refine g_tope (z := nI (x_pl X q)) (rpM_pl hX (by omega)) ?_
      refine g_iload dX5_reachedBy_67 1 rfl ?_
      refine g_callV (As := [.int (nI p), .int (nI (x_pl X q)), .int (nI (buX X p))]) km_X5_281 ky_X5_hasWay ki_X5_hasWay (by decide) 33 at_33 rfl rfl (Nat.le_of_ble_eq_true rfl) dX5_reachedBy_69 rfl (c_X5_hasWay hX ho (by omega) (by omega) (by omega) (fun h69 f69 => ?_) (fun h69 f69 => ?_))
      · have hX := rpM_A hX 54 (by omega) f69
        have hfr := f54_A hfr f69
        generalize setA σ' 54 f69 = σ69 at hX hfr ⊢
        refine t_ifeq1 (tgt := 79) dX5_reachedBy_72 (by decide) ?_
        refine g_iconst dX5_reachedBy_75 ci_1 ?_
        refine g_goto 80 dX5_reachedBy_76 (by decide) ?_
        refine g_istore (lv' := [(6, .int (nI 1)), (5, .int (nI q)), (4, .int (nI (buX X p))), (3, .int (nI p)), (2, .int (nI (bitsN (rcQ X k p q) 6))), (0, .ref (L 33)), (1, .int (nI k))]) dX5_reachedBy_80 (by decide) rfl ?_
        refine g_iload_n dX5_reachedBy_82 rfl 4 rfl ?_
        refine g_iload dX5_reachedBy_83 0 rfl ?_
        refine t_ifeq1 (tgt := 95) dX5_reachedBy_85 (by decide) ?_
        refine g_iconst dX5_reachedBy_88 ci_1 ?_
        refine g_iload dX5_reachedBy_89 1 rfl ?_
        refine g_ishl dX5_reachedBy_91 ?_
        refine g_goto 96 dX5_reachedBy_92 (by decide) ?_
        refine g_ior dX5_reachedBy_96 ?_
        refine g_tope (z := nI (bitsN (rcQ X k p (q + 1)) 6)) ((obB _ (by decide) (by omega)).trans (bcg (fun i _ => rcQ_t h52 h69 i))) ?_
        refine g_istore_n (lv' := [(2, .int (nI (bitsN (rcQ X k p (q + 1)) 6))), (6, .int (nI 1)), (5, .int (nI q)), (4, .int (nI (buX X p))), (3, .int (nI p)), (0, .ref (L 33)), (1, .int (nI k))]) dX5_reachedBy_97 rfl (by decide) rfl ?_
        refine g_iinc (v := nI (q + 1)) (lv' := [(5, .int (nI (q + 1))), (2, .int (nI (bitsN (rcQ X k p (q + 1)) 6))), (6, .int (nI 1)), (4, .int (nI (buX X p))), (3, .int (nI p)), (0, .ref (L 33)), (1, .int (nI k))]) dX5_reachedBy_98 2 rfl (inc_n _) (by decide) rfl ?_
        refine g_goto 42 dX5_reachedBy_101 (by decide) ?_
        refine g_pick [0, 3, 4, 1, 5, 6] (lv' := [(5, .int (nI (q + 1))), (4, .int (nI (buX X p))), (3, .int (nI p)), (2, .int (nI (bitsN (rcQ X k p (q + 1)) 6))), (0, .ref (L 33)), (1, .int (nI k))]) rfl ?_
        exact ih (q + 1) (by omega) _ hfr hX
      · have hX := rpM_A hX 54 (by omega) f69
        have hfr := f54_A hfr f69
        generalize setA σ' 54 f69 = σ69 at hX hfr ⊢
        refine t_ifeq0 79 dX5_reachedBy_72 (by decide) ?_
        refine g_iconst dX5_reachedBy_79 ci_0 ?_
        refine g_istore (lv' := [(6, .int (nI 0)), (5, .int (nI q)), (4, .int (nI (buX X p))), (3, .int (nI p)), (2, .int (nI (bitsN (rcQ X k p q) 6))), (0, .ref (L 33)), (1, .int (nI k))]) dX5_reachedBy_80 (by decide) rfl ?_
        refine g_iload_n dX5_reachedBy_82 rfl 4 rfl ?_
        refine g_iload dX5_reachedBy_83 0 rfl ?_
        refine t_ifeq0 95 dX5_reachedBy_85 (by decide) ?_
        refine g_iconst dX5_reachedBy_95 ci_0 ?_
        refine g_ior dX5_reachedBy_96 ?_
        refine g_tope (z := nI (bitsN (rcQ X k p (q + 1)) 6)) ((or0 _).trans (bcg (fun i _ => rcQ_f (Or.inr h69) i))) ?_
        refine g_istore_n (lv' := [(2, .int (nI (bitsN (rcQ X k p (q + 1)) 6))), (6, .int (nI 0)), (5, .int (nI q)), (4, .int (nI (buX X p))), (3, .int (nI p)), (0, .ref (L 33)), (1, .int (nI k))]) dX5_reachedBy_97 rfl (by decide) rfl ?_
        refine g_iinc (v := nI (q + 1)) (lv' := [(5, .int (nI (q + 1))), (2, .int (nI (bitsN (rcQ X k p (q + 1)) 6))), (6, .int (nI 0)), (4, .int (nI (buX X p))), (3, .int (nI p)), (0, .ref (L 33)), (1, .int (nI k))]) dX5_reachedBy_98 2 rfl (inc_n _) (by decide) rfl ?_
        refine g_goto 42 dX5_reachedBy_101 (by decide) ?_
        refine g_pick [0, 3, 4, 1, 5, 6] (lv' := [(5, .int (nI (q + 1))), (4, .int (nI (buX X p))), (3, .int (nI p)), (2, .int (nI (bitsN (rcQ X k p (q + 1)) 6))), (0, .ref (L 33)), (1, .int (nI k))]) rfl ?_
        exact ih (q + 1) (by omega) _ hfr hX
    · refine t_ifeq0 79 dX5_reachedBy_55 (by decide) ?_
      refine g_iconst dX5_reachedBy_79 ci_0 ?_
      refine g_istore (lv' := [(6, .int (nI 0)), (5, .int (nI q)), (4, .int (nI (buX X p))), (3, .int (nI p)), (2, .int (nI (bitsN (rcQ X k p q) 6))), (0, .ref (L 33)), (1, .int (nI k))]) dX5_reachedBy_80 (by decide) rfl ?_
      refine g_iload_n dX5_reachedBy_82 rfl 4 rfl ?_
      refine g_iload dX5_reachedBy_83 0 rfl ?_
      refine t_ifeq0 95 dX5_reachedBy_85 (by decide) ?_
      refine g_iconst dX5_reachedBy_95 ci_0 ?_
      refine g_ior dX5_reachedBy_96 ?_
      refine g_tope (z := nI (bitsN (rcQ X k p (q + 1)) 6)) ((or0 _).trans (bcg (fun i _ => rcQ_f (Or.inl h52) i))) ?_
      refine g_istore_n (lv' := [(2, .int (nI (bitsN (rcQ X k p (q + 1)) 6))), (6, .int (nI 0)), (5, .int (nI q)), (4, .int (nI (buX X p))), (3, .int (nI p)), (0, .ref (L 33)), (1, .int (nI k))]) dX5_reachedBy_97 rfl (by decide) rfl ?_
      refine g_iinc (v := nI (q + 1)) (lv' := [(5, .int (nI (q + 1))), (2, .int (nI (bitsN (rcQ X k p (q + 1)) 6))), (6, .int (nI 0)), (4, .int (nI (buX X p))), (3, .int (nI p)), (0, .ref (L 33)), (1, .int (nI k))]) dX5_reachedBy_98 2 rfl (inc_n _) (by decide) rfl ?_
      refine g_goto 42 dX5_reachedBy_101 (by decide) ?_
      refine g_pick [0, 3, 4, 1, 5, 6] (lv' := [(5, .int (nI (q + 1))), (4, .int (nI (buX X p))), (3, .int (nI p)), (2, .int (nI (bitsN (rcQ X k p (q + 1)) 6))), (0, .ref (L 33)), (1, .int (nI k))]) rfl ?_
      exact ih (q + 1) (by omega) _ hfr hX
set_option maxHeartbeats 4000000 in
set_option maxRecDepth 20000 in
theorem l2_X5_reachedBy {l : Launch} {D : gE} {L : Nat → Nat} {σ : St} {Q : Option Value → va_W → Prop} {d : Nat} {X : XT} (ho : okX X) {k : Nat} (hk : k < 8) (h : ∀ σ', f54 σ σ' → rpM σ' X → Q (some (.int (nI (bitsN (rcX X k) 6)))) (wsOf D L σ')) : ∀ n p, p + n = 6 → ∀ σ', f54 σ σ' → rpM σ' X → G l D yX5_reachedBy cX5_reachedBy 7 (some .int) (rr (d + 5)) Q 0 0 4 [(3, .int (nI p)), (2, .int (nI (bitsN (rcP X k p) 6))), (0, .ref (L 33)), (1, .int (nI k))] [] (wsOf D L σ') := by
  intro n
  induction n with
  | zero =>
    intro p hct σ' hfr hX
    obtain rfl : p = 6 := by omega
    refine g_iload_n dX5_reachedBy_4 rfl 0 rfl ?_
    refine g_bipush dX5_reachedBy_5 bp_6 ?_
    refine n_icmpge 110 dX5_reachedBy_7 (by decide) (by omega) (by omega) (fun h7 => ?_) (fun h7 => absurd h7 (by omega))
    refine g_iload_n dX5_reachedBy_110 rfl 1 rfl ?_
    exact g_ireturn dX5_reachedBy_111 (Nat.le_refl _) (Nat.le_refl _) (h _ hfr hX)
  | succ n ih =>
    intro p hct σ' hfr hX
    refine g_iload_n dX5_reachedBy_4 rfl 0 rfl ?_
    refine g_bipush dX5_reachedBy_5 bp_6 ?_
    refine n_icmpge 110 dX5_reachedBy_7 (by decide) (by omega) (by omega) (fun h7 => absurd h7 (by omega)) (fun h7 => ?_)
    refine g_aload_n dX5_reachedBy_10 rfl 2 rfl ?_
    refine g_iload_n dX5_reachedBy_11 rfl 0 rfl ?_
    refine g_callV (As := [.int (nI p)]) km_X5_143 ky_X5_isThere ki_X5_isThere (by decide) 33 at_33 rfl rfl (Nat.le_of_ble_eq_true rfl) dX5_reachedBy_12 rfl (c_X5_isThereN hX (by omega) (fun h12 => ?_) (fun h12 => ?_))
    · refine t_ifeq1 (tgt := 104) dX5_reachedBy_15 (by decide) ?_
      refine g_aload_n dX5_reachedBy_18 rfl 2 rfl ?_
      refine s_getM kf_X5_28 (by decide) rfl dX5_reachedBy_19 ?_
      refine g_iload_n dX5_reachedBy_22 rfl 0 rfl ?_
      refine s_ald (q := 40) (n := 6) (at_ia (q := 40) rfl) (by omega) (by decide) dX5_reachedBy_23 ?_
      refine g_tope (z := nI (bitsN (x_kn X p) 8)) (rpM_kn hX (by omega) (by assumption)) ?_
      refine g_iload_n dX5_reachedBy_24 rfl 3 rfl ?_
      refine g_ishr dX5_reachedBy_25 ?_
      refine g_iconst dX5_reachedBy_26 ci_1 ?_
      refine g_iand dX5_reachedBy_27 ?_
      refine g_tope (z := nI (b2n ((x_kn X p) k))) (gbB _ (by decide) (by omega)) ?_
      refine g_iconst dX5_reachedBy_28 ci_1 ?_
      refine b_icmpne 104 dX5_reachedBy_29 (by decide) (fun h29 => ?_) (fun h29 => ?_)
      · refine g_iinc (v := nI (p + 1)) (lv' := [(3, .int (nI (p + 1))), (2, .int (nI (bitsN (rcP X k p) 6))), (0, .ref (L 33)), (1, .int (nI k))]) dX5_reachedBy_104 0 rfl (inc_n _) (by decide) rfl ?_
        refine g_goto 4 dX5_reachedBy_107 (by decide) ?_
        refine g_pick [0, 1, 2, 3] (lv' := [(3, .int (nI (p + 1))), (2, .int (nI (bitsN (rcP X k p) 6))), (0, .ref (L 33)), (1, .int (nI k))]) rfl ?_
        have ih2 := ih (p + 1) (by omega) _ hfr hX
        rw [← bcg (fun i _ => rcP_no (Or.inr h29) i)] at ih2
        exact ih2
      · refine g_aload_n dX5_reachedBy_32 rfl 2 rfl ?_
        refine g_iload_n dX5_reachedBy_33 rfl 0 rfl ?_
        refine g_callV (As := [.int (nI p)]) km_X5_206 ky_X5_carriedBy ki_X5_carriedBy (by decide) 33 at_33 rfl rfl (Nat.le_of_ble_eq_true rfl) dX5_reachedBy_34 rfl (c_X5_carriedBy hX ho (by omega) (by assumption) ?_)
        refine g_istore (lv' := [(4, .int (nI (buX X p))), (3, .int (nI p)), (2, .int (nI (bitsN (rcP X k p) 6))), (0, .ref (L 33)), (1, .int (nI k))]) dX5_reachedBy_37 (by decide) rfl ?_
        refine g_iconst dX5_reachedBy_39 ci_0 ?_
        refine g_istore (lv' := [(5, .int (nI 0)), (4, .int (nI (buX X p))), (3, .int (nI p)), (2, .int (nI (bitsN (rcP X k p) 6))), (0, .ref (L 33)), (1, .int (nI k))]) dX5_reachedBy_40 (by decide) rfl ?_
        refine g_pick [0, 1, 2, 3, 4, 5] (lv' := [(5, .int (nI 0)), (4, .int (nI (buX X p))), (3, .int (nI p)), (2, .int (nI (bitsN (rcP X k p) 6))), (0, .ref (L 33)), (1, .int (nI k))]) rfl ?_
        refine (fun key => ?_) (l1_X5_reachedBy (σ := σ) (Q := Q) (d := d) (l := l) (D := D) (L := L) ho hk (by omega) h12 (fun σ2 hfr2 hX2 => ?_) 6 0 rfl _ hfr hX)
        · rw [← bcg (fun i _ => rcQ_0 i)] at key
          exact key
        · refine g_iinc (v := nI (p + 1)) (lv' := [(3, .int (nI (p + 1))), (5, .int (nI 6)), (4, .int (nI (buX X p))), (2, .int (nI (bitsN (rcQ X k p 6) 6))), (0, .ref (L 33)), (1, .int (nI k))]) dX5_reachedBy_104 2 rfl (inc_n _) (by decide) rfl ?_
          refine g_goto 4 dX5_reachedBy_107 (by decide) ?_
          refine g_pick [0, 3, 4, 5] (lv' := [(3, .int (nI (p + 1))), (2, .int (nI (bitsN (rcQ X k p 6) 6))), (0, .ref (L 33)), (1, .int (nI k))]) rfl ?_
          have ih2 := ih (p + 1) (by omega) _ hfr2 hX2
          rw [← bcg (fun i hi => rcQ_end h12 h29 hi)] at ih2
          exact ih2
    · refine t_ifeq0 104 dX5_reachedBy_15 (by decide) ?_
      refine g_iinc (v := nI (p + 1)) (lv' := [(3, .int (nI (p + 1))), (2, .int (nI (bitsN (rcP X k p) 6))), (0, .ref (L 33)), (1, .int (nI k))]) dX5_reachedBy_104 0 rfl (inc_n _) (by decide) rfl ?_
      refine g_goto 4 dX5_reachedBy_107 (by decide) ?_
      refine g_pick [0, 1, 2, 3] (lv' := [(3, .int (nI (p + 1))), (2, .int (nI (bitsN (rcP X k p) 6))), (0, .ref (L 33)), (1, .int (nI k))]) rfl ?_
      have ih2 := ih (p + 1) (by omega) _ hfr hX
      rw [← bcg (fun i _ => rcP_no (Or.inl h12) i)] at ih2
      exact ih2
set_option maxHeartbeats 4000000 in
set_option maxRecDepth 20000 in
theorem c_X5_reachedBy {l : Launch} {D : gE} {L : Nat → Nat} {σ : St} {Q : Option Value → va_W → Prop} {d : Nat} {X : XT} (hX : rpM σ X) (ho : okX X) {k : Nat} (hk : k < 8) (h : ∀ σ', f54 σ σ' → rpM σ' X → Q (some (.int (nI (bitsN (rcX X k) 6)))) (wsOf D L σ')) : Ctr l D yX5_reachedBy cX5_reachedBy 7 (some .int) (rr (d + 5)) [.ref (L 33), .int (nI k)] (wsOf D L σ) Q := by
  refine g_start ky_X5_reachedBy (Nat.le_of_ble_eq_true rfl) ?_
  refine g_pick [0, 1] (lv' := [(0, .ref (L 33)), (1, .int (nI k))]) rfl ?_
  refine g_iconst dX5_reachedBy_0 ci_0 ?_
  refine g_tope (z := nI (bitsN (rcP X k 0) 6)) (by rw [bitsN_cong (g := fun _ => false) (fun i _ => by unfold rcP; simp [anyN])]; rfl) ?_
  refine g_istore_n (lv' := [(2, .int (nI (bitsN (rcP X k 0) 6))), (0, .ref (L 33)), (1, .int (nI k))]) dX5_reachedBy_1 rfl (by decide) rfl ?_
  refine g_iconst dX5_reachedBy_2 ci_0 ?_
  refine g_istore_n (lv' := [(3, .int (nI 0)), (2, .int (nI (bitsN (rcP X k 0) 6))), (0, .ref (L 33)), (1, .int (nI k))]) dX5_reachedBy_3 rfl (by decide) rfl ?_
  refine g_pick [0, 1, 2, 3] (lv' := [(3, .int (nI 0)), (2, .int (nI (bitsN (rcP X k 0) 6))), (0, .ref (L 33)), (1, .int (nI k))]) rfl ?_
  exact l2_X5_reachedBy ho hk h 6 0 rfl _ f54_rfl hX
def rmP (X : XT) (k p : Nat) : XT := xs_kn X (fun q i => if q < p then x_kn X q i || (i == k && rcX X k q) else x_kn X q i)
theorem rmP_0 (X : XT) (k : Nat) : rmP X k 0 = X := by
  refine x_ext (by simp only [rmP, x_sz_kn]) (by simp only [rmP, x_br_kn]) (by simp only [rmP, x_lo_kn]) (by simp only [rmP, x_hi_kn]) (by simp only [rmP, x_ld_kn]) (by simp only [rmP, x_bn_kn]) (by simp only [rmP, x_th_kn]) (by simp only [rmP, x_pl_kn]) (by simp only [rmP, x_ki_kn]) ?_ (by simp only [rmP, x_wt_kn]) (by simp only [rmP, x_ab_kn]) (by simp only [rmP, x_pu_kn]) (by simp only [rmP, x_fa_kn]) (by simp only [rmP, x_sg_kn]) (by simp only [rmP, x_sb_kn]) (by simp only [rmP, x_sv_kn])
  funext q i
  simp only [rmP, x_kn_kn]
  simp
theorem rmP_6 {σ : St} {X : XT} {k : Nat} (h : rpM σ (rmP X k 6)) : rpM σ (rnX X k) := by
  refine rpM_cong h (by simp only [rmP, rnX, x_sz_kn]) (by simp only [rmP, rnX, x_br_kn]) (by simp only [rmP, rnX, x_th_kn]) (by simp only [rmP, rnX, x_pu_kn]) (by simp only [rmP, rnX, x_fa_kn]) (by simp only [rmP, rnX, x_sg_kn]) (fun i hi => by simp only [rmP, rnX, x_lo_kn, x_hi_kn, x_ld_kn, x_bn_kn, x_wt_kn, x_ab_kn, and_self]) (fun i hi => by simp only [rmP, rnX, x_pl_kn, x_ki_kn, x_sb_kn, x_sv_kn, and_self]) (fun i hi _ j hj => by simp only [rmP, rnX, x_kn_kn, hi, if_true])
theorem rmP_t {X : XT} {k p : Nat} (h : (x_kn X p k || rcX X k p) = true) : xs_kn (rmP X k p) (updF (x_kn (rmP X k p)) p (fun i => x_kn X p i || i == k)) = rmP X k (p + 1) := by
  refine x_ext (by simp only [rmP, x_sz_kn]) (by simp only [rmP, x_br_kn]) (by simp only [rmP, x_lo_kn]) (by simp only [rmP, x_hi_kn]) (by simp only [rmP, x_ld_kn]) (by simp only [rmP, x_bn_kn]) (by simp only [rmP, x_th_kn]) (by simp only [rmP, x_pl_kn]) (by simp only [rmP, x_ki_kn]) ?_ (by simp only [rmP, x_wt_kn]) (by simp only [rmP, x_ab_kn]) (by simp only [rmP, x_pu_kn]) (by simp only [rmP, x_fa_kn]) (by simp only [rmP, x_sg_kn]) (by simp only [rmP, x_sb_kn]) (by simp only [rmP, x_sv_kn])
  funext q i
  simp only [rmP, x_kn_kn, updF]
  by_cases e : q = p
  · subst e
    simp only [if_true, Nat.lt_succ_self]
    by_cases e2 : i = k
    · subst e2; cases h1 : x_kn X q i <;> simp_all
    · have e3 : (i == k) = false := by simp [e2]
      rw [e3]; simp
  · by_cases e2 : q < p
    · simp [e, e2, Nat.lt_succ_of_lt e2]
    · simp [e, e2, show ¬ q < p + 1 by omega]
theorem rmP_f {X : XT} {k p : Nat} (h : (x_kn X p k || rcX X k p) = false) : rmP X k p = rmP X k (p + 1) := by
  refine x_ext (by simp only [rmP, x_sz_kn]) (by simp only [rmP, x_br_kn]) (by simp only [rmP, x_lo_kn]) (by simp only [rmP, x_hi_kn]) (by simp only [rmP, x_ld_kn]) (by simp only [rmP, x_bn_kn]) (by simp only [rmP, x_th_kn]) (by simp only [rmP, x_pl_kn]) (by simp only [rmP, x_ki_kn]) ?_ (by simp only [rmP, x_wt_kn]) (by simp only [rmP, x_ab_kn]) (by simp only [rmP, x_pu_kn]) (by simp only [rmP, x_fa_kn]) (by simp only [rmP, x_sg_kn]) (by simp only [rmP, x_sb_kn]) (by simp only [rmP, x_sv_kn])
  funext q i
  simp only [rmP, x_kn_kn]
  have h2 : rcX X k p = false := by cases e : rcX X k p; rfl; rw [e] at h; simp at h
  by_cases e : q = p
  · subst e; simp [h2]
  · by_cases e2 : q < p
    · simp [e2, Nat.lt_succ_of_lt e2]
    · simp [e2, show ¬ q < p + 1 by omega]
theorem rmP_th (X : XT) (k p : Nat) : x_th (rmP X k p) = x_th X := by unfold rmP; rw [x_th_kn]
theorem rmP_at (X : XT) (k p : Nat) : x_kn (rmP X k p) p = x_kn X p := by unfold rmP; rw [x_kn_kn]; funext i; simp
theorem rc_th {X : XT} {k p : Nat} (ho : okX X) (hp : p < 6) (h : (x_kn X p k || rcX X k p) = true) : x_th X p = true := by
  cases e : x_th X p with
  | true => rfl
  | false => rw [ok_no ho hp e] at h; unfold rcX at h; rw [e] at h; simp at h
theorem nw_iff {X : XT} {k : Nat} : (∀ i, i < 6 → (x_kn X i k || rcX X k i) = x_kn X i k) ↔ nwX X k = false := by
  constructor
  · intro h
    cases e : nwX X k with
    | false => rfl
    | true =>
      obtain ⟨q, hq, h1⟩ := (anyN_iff _ 6).mp e
      simp at h1
      have := h q hq
      rw [h1.1, h1.2] at this; simp at this
  · intro h i hi
    cases h1 : x_kn X i k with
    | true => rfl
    | false =>
      cases h2 : rcX X k i with
      | false => rfl
      | true =>
        have : nwX X k = true := (anyN_iff _ 6).mpr ⟨i, hi, by rw [h1, h2]; rfl⟩
        rw [h] at this; cases this
theorem rum_step {X : XT} {k n : Nat} (h : nwX X k = true) : rumF X k (n + 1) = rumF (rnX X k) k n := by simp [rumF, h]
theorem rum_stop {X : XT} {k n : Nat} (h : nwX X k = false) : rumF X k n = X := by cases n <;> simp [rumF, h]
set_option maxHeartbeats 4000000 in
set_option maxRecDepth 20000 in
theorem l1_X5_rumour {l : Launch} {D : gE} {L : Nat → Nat} {σ : St} {Q : Option Value → va_W → Prop} {d : Nat} {σ0 : St} {X : XT} (ho : okX X) {k : Nat} (hk8 : k < 8) (kk : ∀ σ', fr σ σ' → rpM σ' (rnX X k) → kpt σ0 σ' → G l D yX5_rumour cX5_rumour 6 (some .int) (rr (d + 6)) Q 0 0 78 [(5, .int (nI 6)), (4, .int (nI (bitsN (fun i => x_kn X i k || rcX X k i) 6))), (3, .int (nI (bitsN (fun p => x_kn X p k) 6))), (2, .int (nI 1)), (0, .ref (L 33)), (1, .int (nI k))] [] (wsOf D L σ')) : ∀ n p, p + n = 6 → ∀ σ', fr σ σ' → rpM σ' (rmP X k p) → kpt σ0 σ' → G l D yX5_rumour cX5_rumour 6 (some .int) (rr (d + 6)) Q 0 0 37 [(5, .int (nI p)), (4, .int (nI (bitsN (fun i => x_kn X i k || rcX X k i) 6))), (3, .int (nI (bitsN (fun p => x_kn X p k) 6))), (2, .int (nI 1)), (0, .ref (L 33)), (1, .int (nI k))] [] (wsOf D L σ') := by
  intro n
  induction n with
  | zero =>
    intro p hct σ' hfr hX hk
    obtain rfl : p = 6 := by omega
    refine g_iload dX5_rumour_37 0 rfl ?_
    refine g_bipush dX5_rumour_39 bp_6 ?_
    refine n_icmpge 78 dX5_rumour_41 (by decide) (by omega) (by omega) (fun h41 => ?_) (fun h41 => absurd h41 (by omega))
    exact kk _ hfr (rmP_6 hX) hk
  | succ n ih =>
    intro p hct σ' hfr hX hk
    refine g_iload dX5_rumour_37 0 rfl ?_
    refine g_bipush dX5_rumour_39 bp_6 ?_
    refine n_icmpge 78 dX5_rumour_41 (by decide) (by omega) (by omega) (fun h41 => absurd h41 (by omega)) (fun h41 => ?_)
    refine g_aload_n dX5_rumour_44 rfl 4 rfl ?_
    refine s_getM kf_X5_28 (by decide) rfl dX5_rumour_45 ?_
    refine g_iload dX5_rumour_48 0 rfl ?_
    refine g_dup2 dX5_rumour_50 rfl rfl ?_
    refine s_ald (q := 40) (n := 6) (at_ia (q := 40) rfl) (by omega) (by decide) dX5_rumour_51 ?_
    refine g_iload dX5_rumour_52 1 rfl ?_
    refine g_iload dX5_rumour_54 0 rfl ?_
    refine g_ishr dX5_rumour_56 ?_
    refine g_iconst dX5_rumour_57 ci_1 ?_
    refine g_iand dX5_rumour_58 ?_
    refine g_tope (z := nI (b2n ((fun i => x_kn X i k || rcX X k i) p))) (gbB _ (by decide) (by omega)) ?_
    refine g_iconst dX5_rumour_59 ci_1 ?_
    refine b_icmpne 69 dX5_rumour_60 (by decide) (fun h60 => ?_) (fun h60 => ?_)
    · refine g_iconst dX5_rumour_69 ci_0 ?_
      refine g_ior dX5_rumour_70 ?_
      refine g_tope (z := sA σ' 40 p) (or0 _) ?_
      refine s_ast (q := 40) (n := 6) (at_ia (q := 40) rfl) (by omega) (by decide) dX5_rumour_71 ?_
      rw [setA_upd_id]
      rw [rmP_f h60] at hX
      refine g_iinc (v := nI (p + 1)) (lv' := [(5, .int (nI (p + 1))), (4, .int (nI (bitsN (fun i => x_kn X i k || rcX X k i) 6))), (3, .int (nI (bitsN (fun p => x_kn X p k) 6))), (2, .int (nI 1)), (0, .ref (L 33)), (1, .int (nI k))]) dX5_rumour_72 0 rfl (inc_n _) (by decide) rfl ?_
      refine g_goto 37 dX5_rumour_75 (by decide) ?_
      refine g_pick [0, 1, 2, 3, 4, 5] (lv' := [(5, .int (nI (p + 1))), (4, .int (nI (bitsN (fun i => x_kn X i k || rcX X k i) 6))), (3, .int (nI (bitsN (fun p => x_kn X p k) 6))), (2, .int (nI 1)), (0, .ref (L 33)), (1, .int (nI k))]) rfl ?_
      exact ih (p + 1) (by omega) _ hfr hX hk
    · refine g_iconst dX5_rumour_63 ci_1 ?_
      refine g_iload_n dX5_rumour_64 rfl 5 rfl ?_
      refine g_ishl dX5_rumour_65 ?_
      refine g_goto 70 dX5_rumour_66 (by decide) ?_
      refine g_ior dX5_rumour_70 ?_
      refine g_tope (z := nI (bitsN (fun i => x_kn X p i || i == k) 8)) (by rw [rpM_kn hX (by omega) (by rw [rmP_th]; exact rc_th ho (by omega) h60), rmP_at]; exact obB _ (by decide) (by omega)) ?_
      refine s_ast (q := 40) (n := 6) (at_ia (q := 40) rfl) (by omega) (by decide) dX5_rumour_71 ?_
      have hX := rpM_skn hX p (fun i => x_kn X p i || i == k)
      rw [rmP_t h60] at hX
      have hfr := fr_A hfr 40 (by omega) (upd (sA σ' 40) p (nI (bitsN (fun i => x_kn X p i || i == k) 8)))
      have hk := kpt_A hk 40 (by omega) (upd (sA σ' 40) p (nI (bitsN (fun i => x_kn X p i || i == k) 8)))
      generalize setA σ' 40 (upd (sA σ' 40) p (nI (bitsN (fun i => x_kn X p i || i == k) 8))) = σq at hX hfr hk ⊢
      refine g_iinc (v := nI (p + 1)) (lv' := [(5, .int (nI (p + 1))), (4, .int (nI (bitsN (fun i => x_kn X i k || rcX X k i) 6))), (3, .int (nI (bitsN (fun p => x_kn X p k) 6))), (2, .int (nI 1)), (0, .ref (L 33)), (1, .int (nI k))]) dX5_rumour_72 0 rfl (inc_n _) (by decide) rfl ?_
      refine g_goto 37 dX5_rumour_75 (by decide) ?_
      refine g_pick [0, 1, 2, 3, 4, 5] (lv' := [(5, .int (nI (p + 1))), (4, .int (nI (bitsN (fun i => x_kn X i k || rcX X k i) 6))), (3, .int (nI (bitsN (fun p => x_kn X p k) 6))), (2, .int (nI 1)), (0, .ref (L 33)), (1, .int (nI k))]) rfl ?_
      exact ih (p + 1) (by omega) _ hfr hX hk
set_option maxHeartbeats 4000000 in
theorem e_X5_rumour {l : Launch} {D : gE} {L : Nat → Nat} {σ : St} {Q : Option Value → va_W → Prop} {d : Nat} {σ0 : St} {X0 : XT} (h0 : rpM σ0 X0) {X : XT} (ho : okX X) {k : Nat} (hk8 : k < 8) (hsm : smeX (rnX X k) X0) (hnw : nwX X k = false) (h : ∀ σ', fr σ σ' → rpM σ' X0 → Q (some (.int (nI (bitsN (fun p => x_kn X p k) 6)))) (wsOf D L σ')) {σ' : St} (hfr : fr σ σ') (hX : rpM σ' (rnX X k)) (hk : kpt σ0 σ') : G l D yX5_rumour cX5_rumour 6 (some .int) (rr (d + 6)) Q 0 0 15 [(2, .int (nI 0)), (0, .ref (L 33)), (1, .int (nI k))] [] (wsOf D L σ') := by
  refine g_iload_n dX5_rumour_15 rfl 0 rfl ?_
  refine t_ifeq0 93 dX5_rumour_16 (by decide) ?_
  refine g_aload_n dX5_rumour_93 rfl 1 rfl ?_
  refine g_iload_n dX5_rumour_94 rfl 2 rfl ?_
  refine g_callV (As := [.int (nI k)]) km_X5_298 ky_X5_knowersOf ki_X5_knowersOf (by decide) 33 at_33 rfl rfl (Nat.le_of_ble_eq_true rfl) dX5_rumour_95 rfl (c_X5_knowersOf hX (ok_rn ho k) hk8 ?_)
  refine g_istore_n (lv' := [(3, .int (nI (bitsN (fun p => x_kn (rnX X k) p k) 6))), (2, .int (nI 0)), (0, .ref (L 33)), (1, .int (nI k))]) dX5_rumour_98 rfl (by decide) rfl ?_
  refine g_aload_n dX5_rumour_99 rfl 2 rfl ?_
  refine g_callV (As := []) km_X5_254 ky_X5_putBack ki_X5_putBack (by decide) 33 at_33 rfl rfl (Nat.le_of_ble_eq_true rfl) dX5_rumour_100 rfl (c_X5_backX hk h0 hX hsm (fun σ9 hf9 hX9 _ => ?_))
  refine g_iload_n dX5_rumour_103 rfl 0 rfl ?_
  exact g_ireturn dX5_rumour_104 (Nat.le_refl _) (Nat.le_refl _) (qi (bcg (fun p hp => rn_same hnw hp)) (h _ (fr_trans hfr hf9) hX9))
set_option maxHeartbeats 4000000 in
theorem b_X5_rumour {l : Launch} {D : gE} {L : Nat → Nat} {σ : St} {Q : Option Value → va_W → Prop} {d : Nat} {σ0 : St} {X : XT} (ho : okX X) {k : Nat} (hk8 : k < 8) (kk : ∀ σ', fr σ σ' → rpM σ' (rnX X k) → kpt σ0 σ' → G l D yX5_rumour cX5_rumour 6 (some .int) (rr (d + 6)) Q 0 0 78 [(5, .int (nI 6)), (4, .int (nI (bitsN (fun i => x_kn X i k || rcX X k i) 6))), (3, .int (nI (bitsN (fun p => x_kn X p k) 6))), (2, .int (nI 1)), (0, .ref (L 33)), (1, .int (nI k))] [] (wsOf D L σ')) {σ' : St} (hfr : fr σ σ') (hX : rpM σ' X) (hk : kpt σ0 σ') : G l D yX5_rumour cX5_rumour 6 (some .int) (rr (d + 6)) Q 0 0 15 [(2, .int (nI 1)), (0, .ref (L 33)), (1, .int (nI k))] [] (wsOf D L σ') := by
  refine g_iload_n dX5_rumour_15 rfl 0 rfl ?_
  refine t_ifeq1 (tgt := 93) dX5_rumour_16 (by decide) ?_
  refine g_aload_n dX5_rumour_19 rfl 1 rfl ?_
  refine g_iload_n dX5_rumour_20 rfl 2 rfl ?_
  refine g_callV (As := [.int (nI k)]) km_X5_298 ky_X5_knowersOf ki_X5_knowersOf (by decide) 33 at_33 rfl rfl (Nat.le_of_ble_eq_true rfl) dX5_rumour_21 rfl (c_X5_knowersOf hX ho hk8 ?_)
  refine g_istore_n (lv' := [(3, .int (nI (bitsN (fun p => x_kn X p k) 6))), (2, .int (nI 1)), (0, .ref (L 33)), (1, .int (nI k))]) dX5_rumour_24 rfl (by decide) rfl ?_
  refine g_iload_n dX5_rumour_25 rfl 0 rfl ?_
  refine g_aload_n dX5_rumour_26 rfl 2 rfl ?_
  refine g_iload_n dX5_rumour_27 rfl 3 rfl ?_
  refine g_callV (As := [.int (nI k)]) km_X5_301 ky_X5_reachedBy ki_X5_reachedBy (by decide) 33 at_33 rfl rfl (Nat.le_of_ble_eq_true rfl) dX5_rumour_28 rfl (c_X5_reachedBy hX ho hk8 (fun σ2 hf2 hX2 => ?_))
  refine g_ior dX5_rumour_31 ?_
  refine g_tope (z := nI (bitsN (fun i => x_kn X i k || rcX X k i) 6)) (or_bitsN) ?_
  refine g_istore (lv' := [(4, .int (nI (bitsN (fun i => x_kn X i k || rcX X k i) 6))), (3, .int (nI (bitsN (fun p => x_kn X p k) 6))), (2, .int (nI 1)), (0, .ref (L 33)), (1, .int (nI k))]) dX5_rumour_32 (by decide) rfl ?_
  refine g_iconst dX5_rumour_34 ci_0 ?_
  refine g_istore (lv' := [(5, .int (nI 0)), (4, .int (nI (bitsN (fun i => x_kn X i k || rcX X k i) 6))), (3, .int (nI (bitsN (fun p => x_kn X p k) 6))), (2, .int (nI 1)), (0, .ref (L 33)), (1, .int (nI k))]) dX5_rumour_35 (by decide) rfl ?_
  refine g_pick [0, 1, 2, 3, 4, 5] (lv' := [(5, .int (nI 0)), (4, .int (nI (bitsN (fun i => x_kn X i k || rcX X k i) 6))), (3, .int (nI (bitsN (fun p => x_kn X p k) 6))), (2, .int (nI 1)), (0, .ref (L 33)), (1, .int (nI k))]) rfl ?_
  exact l1_X5_rumour ho hk8 (fun σ3 hf3 hX3 hk3 => kk σ3 hf3 hX3 hk3) 6 0 rfl σ2 (fr_trans hfr (f54_fr hf2)) (by rw [rmP_0]; exact hX2) (f54_kpt hf2 hk)
set_option maxHeartbeats 4000000 in
theorem l2_X5_rumour {l : Launch} {D : gE} {L : Nat → Nat} {σ : St} {Q : Option Value → va_W → Prop} {d : Nat} {σ0 : St} {X0 : XT} (h0 : rpM σ0 X0) {k : Nat} (hk8 : k < 8) : ∀ n, ∀ X, okX X → smeX X X0 → 7 ≤ cntN (fun p => x_kn X p k) 6 + n → (∀ σ', fr σ σ' → rpM σ' X0 → Q (some (.int (nI (bitsN (fun p => x_kn (rumF X k n) p k) 6)))) (wsOf D L σ')) → ∀ σ', fr σ σ' → rpM σ' X → kpt σ0 σ' → G l D yX5_rumour cX5_rumour 6 (some .int) (rr (d + 6)) Q 0 0 15 [(2, .int (nI 1)), (0, .ref (L 33)), (1, .int (nI k))] [] (wsOf D L σ') := by
  intro n
  induction n with
  | zero =>
    intro X ho hs hc h σ' hfr hX hk
    refine b_X5_rumour ho hk8 (fun σ3 hf3 hX3 hk3 => ?_) hfr hX hk
    refine g_iload dX5_rumour_78 1 rfl ?_
    refine g_iload_n dX5_rumour_80 rfl 2 rfl ?_
    refine g_icmpeq 88 dX5_rumour_81 (by decide) (fun h81 => ?_) (fun h81 => ?_)
    · refine g_iconst dX5_rumour_88 ci_0 ?_
      refine g_istore_n (lv' := [(2, .int (nI 0)), (5, .int (nI 6)), (4, .int (nI (bitsN (fun i => x_kn X i k || rcX X k i) 6))), (3, .int (nI (bitsN (fun p => x_kn X p k) 6))), (0, .ref (L 33)), (1, .int (nI k))]) dX5_rumour_89 rfl (by decide) rfl ?_
      refine g_goto 15 dX5_rumour_90 (by decide) ?_
      refine g_pick [0, 4, 5] (lv' := [(2, .int (nI 0)), (0, .ref (L 33)), (1, .int (nI k))]) rfl ?_
      exact e_X5_rumour h0 ho hk8 (sme_trans (rn_sme X k) hs) (nw_iff.mp ((bitsN_eq_iff (by decide)).mp h81)) (fun σ9 hf9 hX9 => qi (by rw [rum_stop (nw_iff.mp ((bitsN_eq_iff (by decide)).mp h81))]) (h σ9 hf9 hX9)) hf3 hX3 hk3
    · refine g_iconst dX5_rumour_84 ci_1 ?_
      refine g_goto 89 dX5_rumour_85 (by decide) ?_
      refine g_istore_n (lv' := [(2, .int (nI 1)), (5, .int (nI 6)), (4, .int (nI (bitsN (fun i => x_kn X i k || rcX X k i) 6))), (3, .int (nI (bitsN (fun p => x_kn X p k) 6))), (0, .ref (L 33)), (1, .int (nI k))]) dX5_rumour_89 rfl (by decide) rfl ?_
      refine g_goto 15 dX5_rumour_90 (by decide) ?_
      have hnw : nwX X k = true := by cases e : nwX X k; exact absurd ((bitsN_eq_iff (by decide)).mpr (nw_iff.mpr e)) h81; rfl
      have := rn_more hnw
      have := cntN_le (fun p => x_kn (rnX X k) p k) 6
      exact absurd hc (by omega)
  | succ n ih =>
    intro X ho hs hc h σ' hfr hX hk
    refine b_X5_rumour ho hk8 (fun σ3 hf3 hX3 hk3 => ?_) hfr hX hk
    refine g_iload dX5_rumour_78 1 rfl ?_
    refine g_iload_n dX5_rumour_80 rfl 2 rfl ?_
    refine g_icmpeq 88 dX5_rumour_81 (by decide) (fun h81 => ?_) (fun h81 => ?_)
    · refine g_iconst dX5_rumour_88 ci_0 ?_
      refine g_istore_n (lv' := [(2, .int (nI 0)), (5, .int (nI 6)), (4, .int (nI (bitsN (fun i => x_kn X i k || rcX X k i) 6))), (3, .int (nI (bitsN (fun p => x_kn X p k) 6))), (0, .ref (L 33)), (1, .int (nI k))]) dX5_rumour_89 rfl (by decide) rfl ?_
      refine g_goto 15 dX5_rumour_90 (by decide) ?_
      refine g_pick [0, 4, 5] (lv' := [(2, .int (nI 0)), (0, .ref (L 33)), (1, .int (nI k))]) rfl ?_
      exact e_X5_rumour h0 ho hk8 (sme_trans (rn_sme X k) hs) (nw_iff.mp ((bitsN_eq_iff (by decide)).mp h81)) (fun σ9 hf9 hX9 => qi (by rw [rum_stop (nw_iff.mp ((bitsN_eq_iff (by decide)).mp h81))]) (h σ9 hf9 hX9)) hf3 hX3 hk3
    · refine g_iconst dX5_rumour_84 ci_1 ?_
      refine g_goto 89 dX5_rumour_85 (by decide) ?_
      refine g_istore_n (lv' := [(2, .int (nI 1)), (5, .int (nI 6)), (4, .int (nI (bitsN (fun i => x_kn X i k || rcX X k i) 6))), (3, .int (nI (bitsN (fun p => x_kn X p k) 6))), (0, .ref (L 33)), (1, .int (nI k))]) dX5_rumour_89 rfl (by decide) rfl ?_
      refine g_goto 15 dX5_rumour_90 (by decide) ?_
      refine g_pick [0, 4, 5] (lv' := [(2, .int (nI 1)), (0, .ref (L 33)), (1, .int (nI k))]) rfl ?_
      have hnw : nwX X k = true := by cases e : nwX X k; exact absurd ((bitsN_eq_iff (by decide)).mpr (nw_iff.mpr e)) h81; rfl
      have hm := rn_more hnw
      exact ih (rnX X k) (ok_rn ho k) (sme_trans (rn_sme X k) hs) (by omega) (by rw [← rum_step hnw]; exact h) σ3 hf3 hX3 hk3
set_option maxHeartbeats 4000000 in
set_option maxRecDepth 20000 in
theorem c_X5_rumour {l : Launch} {D : gE} {L : Nat → Nat} {σ : St} {Q : Option Value → va_W → Prop} {d : Nat} {X : XT} (hX : rpM σ X) (ho : okX X) {x : Int32} (h : ∀ σ', fr σ σ' → rpM σ' X → Q (some (.int (rumourR X x))) (wsOf D L σ')) : Ctr l D yX5_rumour cX5_rumour 6 (some .int) (rr (d + 6)) [.ref (L 33), .int x] (wsOf D L σ) Q := by
  refine g_start ky_X5_rumour (Nat.le_of_ble_eq_true rfl) ?_
  refine g_pick [0, 1] (lv' := [(0, .ref (L 33)), (1, .int x)]) rfl ?_
  refine g_iload_n dX5_rumour_0 rfl 1 rfl ?_
  refine g_callS (As := [.int x]) km_X5_146 ky_X5_isNews ks_X5_isNews (by decide) rfl (Nat.le_of_ble_eq_true rfl) dX5_rumour_1 rfl (c_X5_isNews (fun k1 hk1 he1 => ?_) (fun h1 => ?_))
  · subst he1
    refine t_ifne1 9 dX5_rumour_4 (by decide) ?_
    refine g_aload_n dX5_rumour_9 rfl 0 rfl ?_
    refine g_callV (As := []) km_X5_248 ky_X5_keepNow ki_X5_keepNow (by decide) 33 at_33 rfl rfl (Nat.le_of_ble_eq_true rfl) dX5_rumour_10 rfl (c_X5_keepX hX (fun σ2 hf2 hX2 hk2 => ?_))
    refine g_iconst dX5_rumour_13 ci_1 ?_
    refine g_istore_n (lv' := [(2, .int (nI 1)), (0, .ref (L 33)), (1, .int (nI k1))]) dX5_rumour_14 rfl (by decide) rfl ?_
    refine g_pick [0, 1, 2] (lv' := [(2, .int (nI 1)), (0, .ref (L 33)), (1, .int (nI k1))]) rfl ?_
    exact l2_X5_rumour hX hk1 7 X ho sme_rfl (by omega) (fun σ9 hf9 hX9 => qi (by unfold rumourR; rw [nwI_t hk1, if_pos rfl, ix8 hk1]) (h σ9 hf9 hX9)) σ2 hf2 hX2 hk2
  · refine t_ifne0 (tgt := 9) dX5_rumour_4 (by decide) ?_
    refine g_iconst dX5_rumour_7 ci_m1 ?_
    exact g_ireturn dX5_rumour_8 (Nat.le_refl _) (Nat.le_refl _) (qi (by unfold rumourR; rw [nwI_f h1]; rfl) (h _ fr_rfl hX))
