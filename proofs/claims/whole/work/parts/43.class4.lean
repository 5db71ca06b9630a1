set_option maxHeartbeats 4000000 in
set_option maxRecDepth 20000 in
theorem lp_X3_neighbours {l : Launch} {D : gE} {L : Nat → Nat} {σ : St} {Q : Option Value → va_W → Prop} {d : Nat} {b : Nat} (hb : tn σ b) {X : XT} (hX : rzT σ b X) (ho : okX X) {m : Nat → Bool} {a : Nat} (ha : a < 6) (h : Q (some (.int (nI (bitsN (fun p => x_th X p && decide (dN X m a (x_pl X p) < 6)) 6)))) (wsOf D L σ)) : ∀ n_ p, p + n_ = 6 → G l D yX3_neighbours cX3_neighbours 5 (some .int) (rr (d + 3)) Q 0 0 5 [(4, .int (nI p)), (3, .int (nI (bitsN (fun p => x_th X p && decide (dN X m a (x_pl X p) < 6)) p))), (0, .ref (L b)), (1, .int (nI a)), (2, .int (nI (bitsN m 8)))] [] (wsOf D L σ) := by
  intro n_
  induction n_ with
  | zero =>
    intro p hct
    obtain rfl : p = 6 := by omega
    refine g_iload dX3_neighbours_5 0 rfl ?_
    refine g_bipush dX3_neighbours_7 bp_6 ?_
    refine n_icmpge 55 dX3_neighbours_9 (by decide) (by omega) (by omega) (fun h9 => ?_) (fun h9 => absurd h9 (by omega))
    refine g_iload_n dX3_neighbours_55 rfl 1 rfl ?_
    exact g_ireturn dX3_neighbours_56 (Nat.le_refl _) (Nat.le_refl _) (h)
  | succ n_ ih =>
    intro p hct
    have hpp := ok_p ho (i := p) (by omega)
    have hdl := @dN_le X m a (x_pl X p)
    refine g_iload dX3_neighbours_5 0 rfl ?_
    refine g_bipush dX3_neighbours_7 bp_6 ?_
    refine n_icmpge 55 dX3_neighbours_9 (by decide) (by omega) (by omega) (fun h9 => absurd h9 (by omega)) (fun h9 => ?_)
    refine g_aload_n dX3_neighbours_12 rfl 2 rfl ?_
    refine s_getT (b := b) hb kf_X3_59 (by decide) rfl dX3_neighbours_13 ?_
    refine g_tope (z := nI (bitsN (x_th X) 6)) (rpT_th hX.1) ?_
    refine g_iload dX3_neighbours_16 0 rfl ?_
    refine g_callN2 (C := RX3) (As := [.int (nI (bitsN (x_th X) 6)), .int (nI p)]) rfl kn_X3_84 ky_X4_has ks_X4_has (by decide) rfl (Nat.le_of_ble_eq_true rfl) dX3_neighbours_18 rfl (c_X4_has (n := 6) (by decide) (by omega) (fun h18 => ?_) (fun h18 => ?_))
    · refine t_ifeq1 (tgt := 49) dX3_neighbours_21 (by decide) ?_
      refine g_aload_n dX3_neighbours_24 rfl 2 rfl ?_
      refine g_iload_n dX3_neighbours_25 rfl 3 rfl ?_
      refine g_aload_n dX3_neighbours_26 rfl 2 rfl ?_
      refine s_getT (b := b) hb kf_X3_24 (by decide) rfl dX3_neighbours_27 ?_
      refine g_iload dX3_neighbours_30 0 rfl ?_
      refine s_ald (q := (b + 5)) (n := 6) (at_ta hb 5 (by decide) (by decide)) (by omega) (by decide) dX3_neighbours_32 ?_
      refine g_tope (z := nI (x_pl X p)) (rpT_pl hX.1 (by omega)) ?_
      refine g_iload_n dX3_neighbours_33 rfl 4 rfl ?_
      refine g_callV (As := [.int (nI a), .int (nI (x_pl X p)), .int (nI (bitsN m 8))]) km_X3_118 ky_X3_distance ki_X3_distance (by decide) b (at_tn hb) rfl rfl (Nat.le_of_ble_eq_true rfl) dX3_neighbours_34 rfl (c_X3_distance hb hX ho (by omega) (by omega) (fun h34 => ?_) (fun h34 => ?_))
      · refine g_bipush dX3_neighbours_37 bp_m6 ?_
        refine g_icmpeq 49 dX3_neighbours_39 (by decide) (fun h39 => absurd h39 (nI_n6 (by omega))) (fun h39 => ?_)
        refine g_iload_n dX3_neighbours_42 rfl 1 rfl ?_
        refine g_iconst dX3_neighbours_43 ci_1 ?_
        refine g_iload dX3_neighbours_44 0 rfl ?_
        refine g_ishl dX3_neighbours_46 ?_
        refine g_ior dX3_neighbours_47 ?_
        refine g_tope (z := nI (bitsN (fun p => x_th X p && decide (dN X m a (x_pl X p) < 6)) (p + 1))) (obT _ (by omega) (by (try dsimp only); rw [h18, decide_eq_true h34]; rfl)) ?_
        refine g_istore_n (lv' := [(3, .int (nI (bitsN (fun p => x_th X p && decide (dN X m a (x_pl X p) < 6)) (p + 1)))), (4, .int (nI p)), (0, .ref (L b)), (1, .int (nI a)), (2, .int (nI (bitsN m 8)))]) dX3_neighbours_48 rfl (by decide) rfl ?_
        refine g_iinc (v := nI (p + 1)) (lv' := [(4, .int (nI (p + 1))), (3, .int (nI (bitsN (fun p => x_th X p && decide (dN X m a (x_pl X p) < 6)) (p + 1)))), (0, .ref (L b)), (1, .int (nI a)), (2, .int (nI (bitsN m 8)))]) dX3_neighbours_49 1 rfl (inc_n _) (by decide) rfl ?_
        refine g_goto 5 dX3_neighbours_52 (by decide) ?_
        refine g_pick [0, 1, 2, 3, 4] (lv' := [(4, .int (nI (p + 1))), (3, .int (nI (bitsN (fun p => x_th X p && decide (dN X m a (x_pl X p) < 6)) (p + 1)))), (0, .ref (L b)), (1, .int (nI a)), (2, .int (nI (bitsN m 8)))]) rfl ?_
        exact ih (p + 1) (by omega)
      · refine g_bipush dX3_neighbours_37 bp_m6 ?_
        refine g_icmpeq 49 dX3_neighbours_39 (by decide) (fun h39 => ?_) (fun h39 => absurd h39 (by decide +kernel))
        refine g_iinc (v := nI (p + 1)) (lv' := [(4, .int (nI (p + 1))), (3, .int (nI (bitsN (fun p => x_th X p && decide (dN X m a (x_pl X p) < 6)) p))), (0, .ref (L b)), (1, .int (nI a)), (2, .int (nI (bitsN m 8)))]) dX3_neighbours_49 0 rfl (inc_n _) (by decide) rfl ?_
        refine g_goto 5 dX3_neighbours_52 (by decide) ?_
        refine g_pick [0, 1, 2, 3, 4] (lv' := [(4, .int (nI (p + 1))), (3, .int (nI (bitsN (fun p => x_th X p && decide (dN X m a (x_pl X p) < 6)) p))), (0, .ref (L b)), (1, .int (nI a)), (2, .int (nI (bitsN m 8)))]) rfl ?_
        have ih2 := ih (p + 1) (by omega)
        rw [← obF (fun p => x_th X p && decide (dN X m a (x_pl X p) < 6)) (by (try dsimp only); rw [decide_eq_false h34, Bool.and_false])] at ih2
        exact ih2
    · refine t_ifeq0 49 dX3_neighbours_21 (by decide) ?_
      refine g_iinc (v := nI (p + 1)) (lv' := [(4, .int (nI (p + 1))), (3, .int (nI (bitsN (fun p => x_th X p && decide (dN X m a (x_pl X p) < 6)) p))), (0, .ref (L b)), (1, .int (nI a)), (2, .int (nI (bitsN m 8)))]) dX3_neighbours_49 0 rfl (inc_n _) (by decide) rfl ?_
      refine g_goto 5 dX3_neighbours_52 (by decide) ?_
      refine g_pick [0, 1, 2, 3, 4] (lv' := [(4, .int (nI (p + 1))), (3, .int (nI (bitsN (fun p => x_th X p && decide (dN X m a (x_pl X p) < 6)) p))), (0, .ref (L b)), (1, .int (nI a)), (2, .int (nI (bitsN m 8)))]) rfl ?_
      have ih2 := ih (p + 1) (by omega)
      rw [← obF (fun p => x_th X p && decide (dN X m a (x_pl X p) < 6)) (by (try dsimp only); rw [h18]; rfl)] at ih2
      exact ih2
set_option maxHeartbeats 4000000 in
set_option maxRecDepth 20000 in
theorem c_X3_neighbours {l : Launch} {D : gE} {L : Nat → Nat} {σ : St} {Q : Option Value → va_W → Prop} {d : Nat} {b : Nat} (hb : tn σ b) {X : XT} (hX : rzT σ b X) (ho : okX X) {m : Nat → Bool} {a : Nat} (ha : a < 6) (h : Q (some (.int (nI (bitsN (fun p => x_th X p && decide (dN X m a (x_pl X p) < 6)) 6)))) (wsOf D L σ)) : Ctr l D yX3_neighbours cX3_neighbours 5 (some .int) (rr (d + 3)) [.ref (L b), .int (nI a), .int (nI (bitsN m 8))] (wsOf D L σ) Q := by
  refine g_start ky_X3_neighbours (Nat.le_of_ble_eq_true rfl) ?_
  refine g_pick [0, 1, 2] (lv' := [(0, .ref (L b)), (1, .int (nI a)), (2, .int (nI (bitsN m 8)))]) rfl ?_
  refine g_iconst dX3_neighbours_0 ci_0 ?_
  refine g_tope (z := nI (bitsN (fun p => x_th X p && decide (dN X m a (x_pl X p) < 6)) 0)) (rfl) ?_
  refine g_istore_n (lv' := [(3, .int (nI (bitsN (fun p => x_th X p && decide (dN X m a (x_pl X p) < 6)) 0))), (0, .ref (L b)), (1, .int (nI a)), (2, .int (nI (bitsN m 8)))]) dX3_neighbours_1 rfl (by decide) rfl ?_
  refine g_iconst dX3_neighbours_2 ci_0 ?_
  refine g_istore (lv' := [(4, .int (nI 0)), (3, .int (nI (bitsN (fun p => x_th X p && decide (dN X m a (x_pl X p) < 6)) 0))), (0, .ref (L b)), (1, .int (nI a)), (2, .int (nI (bitsN m 8)))]) dX3_neighbours_3 (by decide) rfl ?_
  refine g_pick [0, 1, 2, 3, 4] (lv' := [(4, .int (nI 0)), (3, .int (nI (bitsN (fun p => x_th X p && decide (dN X m a (x_pl X p) < 6)) 0))), (0, .ref (L b)), (1, .int (nI a)), (2, .int (nI (bitsN m 8)))]) rfl ?_
  exact lp_X3_neighbours hb hX ho ha h 6 0 rfl
theorem dN_none0 {X : XT} {a t : Nat} (ho : okX X) (ha : a < 6) (ht : t < 6) : decide (dN X (fun _ => false) a t < 6) = decide (t = a) := by
  have h0 : ∀ k t, bl X (fun _ => false) a k t = decide (t = a) := by
    intro k
    induction k with
    | zero => intro t; by_cases c : t = a <;> simp [bl, c]
    | succ k ih =>
      intro t
      show (bl X (fun _ => false) a k t || anyN (fun b => false && _) 8) = _
      rw [ih t]
      simp [anyN]
  by_cases c : t = a
  · have : dN X (fun _ => false) a t = 0 := firstN_is (by decide) (by rw [h0]; simp [c]) (fun j hj => absurd hj (Nat.not_lt_zero j))
    rw [this, decide_eq_true c]; rfl
  · have : dN X (fun _ => false) a t = 6 := firstN_none (fun j _ => by rw [h0]; simp [c])
    rw [this, decide_eq_false c]; rfl
theorem c_X3_neighbours0 {l : Launch} {D : gE} {L : Nat → Nat} {σ : St} {Q : Option Value → va_W → Prop} {d : Nat} {b : Nat} (hb : tn σ b) {X : XT} (hX : rzT σ b X) (ho : okX X) {a : Nat} (ha : a < 6) (h : Q (some (.int (nI (bitsN (fun p => x_th X p && decide (x_pl X p = a)) 6)))) (wsOf D L σ)) : Ctr l D yX3_neighbours cX3_neighbours 5 (some .int) (rr (d + 3)) [.ref (L b), .int (nI a), .int (nI 0)] (wsOf D L σ) Q := by
  have e := c_X3_neighbours (l := l) (D := D) (L := L) (d := d) (Q := Q) hb hX ho (m := fun _ => false) ha (qi (bcg (fun p hp => by rw [dN_none0 ho ha (ok_p ho hp).1])) h)
  exact e
theorem rcP_kn {X : XT} (ho : okX X) {k n : Nat} (hn : n ≤ 6) (q : Nat) : rcP X k n q = (x_th X q && anyN (fun p => x_kn X p k && wyX X (buX X p) (x_pl X p) (x_pl X q)) n) := by
  unfold rcP
  rw [anyN_cong (n := n) (g := fun p => x_kn X p k && wyX X (buX X p) (x_pl X p) (x_pl X q)) (fun p hp => by
    cases e : x_th X p with
    | true => rfl
    | false => rw [ok_no ho (by omega) e]; rfl)]
theorem he_step {X : XT} (ho : okX X) {k t : Nat} (ht : t < 6) (hk : x_kn X t k = true) {q : Nat} : (rcP X k t q || (x_th X q && decide (dN X (beX X (buX X t)) (x_pl X t) (x_pl X q) < 6))) = rcP X k (t + 1) q := by
  rw [rcP_kn ho (by omega), rcP_kn ho (by omega), anyN_s, hk, Bool.true_and]
  unfold wyX
  rw [dN_sym X _ (x_pl X q) (x_pl X t)]
  generalize decide (dN X (beX X (buX X t)) (x_pl X t) (x_pl X q) < 6) = u
  generalize anyN (fun p => x_kn X p k && decide (dN X (beX X (buX X p)) (x_pl X q) (x_pl X p) < 6)) t = v
  cases x_th X q <;> simp
theorem he_no {X : XT} (ho : okX X) {k t : Nat} (ht : t < 6) (hk : x_kn X t k = false) {q : Nat} : rcP X k t q = rcP X k (t + 1) q := by
  rw [rcP_kn ho (by omega), rcP_kn ho (by omega), anyN_s, hk, Bool.false_and, Bool.or_false]
theorem and_nbits (f g : Nat → Bool) : nI (bitsN f 6) &&& (nI (bitsN g 6) ^^^ (-1)) = nI (bitsN (fun i => f i && !g i) 6) := by
  rw [nb0]
  refine congrArg nI (bitsN_of_tb ?_ (fun i hi => ?_))
  · have h1 := bitsN_lt f 6
    exact Nat.xor_lt_two_pow h1 (Nat.lt_of_le_of_lt Nat.and_le_left h1)
  · rw [Nat.testBit_xor, Nat.testBit_and, bitsN_in f hi, bitsN_in g hi]
    cases f i <;> cases g i <;> rfl
set_option maxHeartbeats 4000000 in
set_option maxRecDepth 20000 in
theorem lp_X3_hearers {l : Launch} {D : gE} {L : Nat → Nat} {σ : St} {Q : Option Value → va_W → Prop} {d : Nat} {b : Nat} (hb : tn σ b) {X : XT} (hX : rzT σ b X) (ho : okX X) {k : Nat} (hk : k < 8) (h : Q (some (.int (nI (bitsN (fun p => rcX X k p && !x_kn X p k) 6)))) (wsOf D L σ)) : ∀ n_ t, t + n_ = 6 → G l D yX3_hearers cX3_hearers 4 (some .int) (rr (d + 4)) Q 0 0 4 [(3, .int (nI t)), (2, .int (nI (bitsN (rcP X k t) 6))), (0, .ref (L b)), (1, .int (nI k))] [] (wsOf D L σ) := by
  intro n_
  induction n_ with
  | zero =>
    intro t hct
    obtain rfl : t = 6 := by omega
    refine g_iload_n dX3_hearers_4 rfl 0 rfl ?_
    refine g_bipush dX3_hearers_5 bp_6 ?_
    refine n_icmpge 51 dX3_hearers_7 (by decide) (by omega) (by omega) (fun h7 => ?_) (fun h7 => absurd h7 (by omega))
    refine g_iload_n dX3_hearers_51 rfl 1 rfl ?_
    refine g_aload_n dX3_hearers_52 rfl 2 rfl ?_
    refine g_iload_n dX3_hearers_53 rfl 3 rfl ?_
    refine g_callV (As := [.int (nI k)]) km_X3_104 ky_X3_knowersOf ki_X3_knowersOf (by decide) b (at_tn hb) rfl rfl (Nat.le_of_ble_eq_true rfl) dX3_hearers_54 rfl (c_X3_knowersOf hb hX ho (by omega) ?_)
    refine g_iconst dX3_hearers_57 ci_m1 ?_
    refine g_ixor dX3_hearers_58 ?_
    refine g_iand dX3_hearers_59 ?_
    refine g_tope (z := nI (bitsN (fun p => rcX X k p && !x_kn X p k) 6)) (and_nbits _ _) ?_
    exact g_ireturn dX3_hearers_60 (Nat.le_refl _) (Nat.le_refl _) (h)
  | succ n_ ih =>
    intro t hct
    have hpp := ok_p ho (i := t) (by omega)
    have hbu := bu_bd ho t
    refine g_iload_n dX3_hearers_4 rfl 0 rfl ?_
    refine g_bipush dX3_hearers_5 bp_6 ?_
    refine n_icmpge 51 dX3_hearers_7 (by decide) (by omega) (by omega) (fun h7 => absurd h7 (by omega)) (fun h7 => ?_)
    refine g_aload_n dX3_hearers_10 rfl 2 rfl ?_
    refine s_getT (b := b) hb kf_X3_30 (by decide) rfl dX3_hearers_11 ?_
    refine g_iload_n dX3_hearers_14 rfl 0 rfl ?_
    refine s_ald (q := (b + 7)) (n := 6) (at_ta hb 7 (by decide) (by decide)) (by omega) (by decide) dX3_hearers_15 ?_
    refine g_tope (z := nI (bitsN (x_kn X t) 8)) (rzT_kn hX (by omega)) ?_
    refine g_iload_n dX3_hearers_16 rfl 3 rfl ?_
    refine g_callN2 (C := RX3) (As := [.int (nI (bitsN (x_kn X t) 8)), .int (nI k)]) rfl kn_X3_84 ky_X4_has ks_X4_has (by decide) rfl (Nat.le_of_ble_eq_true rfl) dX3_hearers_17 rfl (c_X4_has (n := 8) (by decide) (by omega) (fun h17 => ?_) (fun h17 => ?_))
    · refine t_ifeq1 (tgt := 45) dX3_hearers_20 (by decide) ?_
      refine g_iload_n dX3_hearers_23 rfl 1 rfl ?_
      refine g_aload_n dX3_hearers_24 rfl 2 rfl ?_
      refine g_aload_n dX3_hearers_25 rfl 2 rfl ?_
      refine s_getT (b := b) hb kf_X3_24 (by decide) rfl dX3_hearers_26 ?_
      refine g_iload_n dX3_hearers_29 rfl 0 rfl ?_
      refine s_ald (q := (b + 5)) (n := 6) (at_ta hb 5 (by decide) (by decide)) (by omega) (by decide) dX3_hearers_30 ?_
      refine g_tope (z := nI (x_pl X t)) (rpT_pl hX.1 (by omega)) ?_
      refine g_aload_n dX3_hearers_31 rfl 2 rfl ?_
      refine g_aload_n dX3_hearers_32 rfl 2 rfl ?_
      refine g_iload_n dX3_hearers_33 rfl 0 rfl ?_
      refine g_callV (As := [.int (nI t)]) km_X3_100 ky_X3_burden ki_X3_burden (by decide) b (at_tn hb) rfl rfl (Nat.le_of_ble_eq_true rfl) dX3_hearers_34 rfl (c_X3_burden hb hX ho (by omega) ?_)
      refine g_callV (As := [.int (nI (buX X t))]) km_X3_115 ky_X3_bearing ki_X3_bearing (by decide) b (at_tn hb) rfl rfl (Nat.le_of_ble_eq_true rfl) dX3_hearers_37 rfl (c_X3_bearing hb hX ho (by omega) ?_)
      refine g_callV (As := [.int (nI (x_pl X t)), .int (nI (bitsN (beX X (buX X t)) 8))]) km_X3_138 ky_X3_neighbours ki_X3_neighbours (by decide) b (at_tn hb) rfl rfl (Nat.le_of_ble_eq_true rfl) dX3_hearers_40 rfl (c_X3_neighbours hb hX ho (by omega) ?_)
      refine g_ior dX3_hearers_43 ?_
      refine g_tope (z := nI (bitsN (rcP X k (t + 1)) 6)) (or_bitsN.trans (bcg (fun q _ => he_step ho (by omega) h17))) ?_
      refine g_istore_n (lv' := [(2, .int (nI (bitsN (rcP X k (t + 1)) 6))), (3, .int (nI t)), (0, .ref (L b)), (1, .int (nI k))]) dX3_hearers_44 rfl (by decide) rfl ?_
      refine g_iinc (v := nI (t + 1)) (lv' := [(3, .int (nI (t + 1))), (2, .int (nI (bitsN (rcP X k (t + 1)) 6))), (0, .ref (L b)), (1, .int (nI k))]) dX3_hearers_45 1 rfl (inc_n _) (by decide) rfl ?_
      refine g_goto 4 dX3_hearers_48 (by decide) ?_
      refine g_pick [0, 1, 2, 3] (lv' := [(3, .int (nI (t + 1))), (2, .int (nI (bitsN (rcP X k (t + 1)) 6))), (0, .ref (L b)), (1, .int (nI k))]) rfl ?_
      exact ih (t + 1) (by omega)
    · refine t_ifeq0 45 dX3_hearers_20 (by decide) ?_
      refine g_iinc (v := nI (t + 1)) (lv' := [(3, .int (nI (t + 1))), (2, .int (nI (bitsN (rcP X k t) 6))), (0, .ref (L b)), (1, .int (nI k))]) dX3_hearers_45 0 rfl (inc_n _) (by decide) rfl ?_
      refine g_goto 4 dX3_hearers_48 (by decide) ?_
      refine g_pick [0, 1, 2, 3] (lv' := [(3, .int (nI (t + 1))), (2, .int (nI (bitsN (rcP X k t) 6))), (0, .ref (L b)), (1, .int (nI k))]) rfl ?_
      have ih2 := ih (t + 1) (by omega)
      rw [← bcg (f := rcP X k t) (g := rcP X k (t + 1)) (n := 6) (fun q _ => he_no ho (by omega) h17)] at ih2
      exact ih2
set_option maxHeartbeats 4000000 in
set_option maxRecDepth 20000 in
theorem c_X3_hearers {l : Launch} {D : gE} {L : Nat → Nat} {σ : St} {Q : Option Value → va_W → Prop} {d : Nat} {b : Nat} (hb : tn σ b) {X : XT} (hX : rzT σ b X) (ho : okX X) {k : Nat} (hk : k < 8) (h : Q (some (.int (nI (bitsN (fun p => rcX X k p && !x_kn X p k) 6)))) (wsOf D L σ)) : Ctr l D yX3_hearers cX3_hearers 4 (some .int) (rr (d + 4)) [.ref (L b), .int (nI k)] (wsOf D L σ) Q := by
  refine g_start ky_X3_hearers (Nat.le_of_ble_eq_true rfl) ?_
  refine g_pick [0, 1] (lv' := [(0, .ref (L b)), (1, .int (nI k))]) rfl ?_
  refine g_iconst dX3_hearers_0 ci_0 ?_
  refine g_tope (z := nI (bitsN (rcP X k 0) 6)) (by rw [bitsN_cong (g := fun _ => false) (fun i _ => by unfold rcP; simp [anyN])]; rfl) ?_
  refine g_istore_n (lv' := [(2, .int (nI (bitsN (rcP X k 0) 6))), (0, .ref (L b)), (1, .int (nI k))]) dX3_hearers_1 rfl (by decide) rfl ?_
  refine g_iconst dX3_hearers_2 ci_0 ?_
  refine g_istore_n (lv' := [(3, .int (nI 0)), (2, .int (nI (bitsN (rcP X k 0) 6))), (0, .ref (L b)), (1, .int (nI k))]) dX3_hearers_3 rfl (by decide) rfl ?_
  refine g_pick [0, 1, 2, 3] (lv' := [(3, .int (nI 0)), (2, .int (nI (bitsN (rcP X k 0) 6))), (0, .ref (L b)), (1, .int (nI k))]) rfl ?_
  exact lp_X3_hearers hb hX ho hk h 6 0 rfl
/-! what a Town's calls change: that Town alone -/
def ft (b : Nat) (σ σ' : St) : Prop := (∀ q, q < b ∨ b + 11 < q → sA σ' q = sA σ q) ∧ (∀ o, o ≠ b → sI σ' o = sI σ o) ∧ sK σ' = sK σ ∧ sM σ' = sM σ
theorem ft_rfl {b : Nat} {σ : St} : ft b σ σ := ⟨fun _ _ => rfl, fun _ _ => rfl, rfl, rfl⟩
theorem ft_trans {b : Nat} {x y z : St} (h : ft b x y) (g : ft b y z) : ft b x z := ⟨fun q hq => (g.1 q hq).trans (h.1 q hq), fun o ho => (g.2.1 o ho).trans (h.2.1 o ho), g.2.2.1.trans h.2.2.1, g.2.2.2.trans h.2.2.2⟩
theorem ft_A {b : Nat} {x y : St} (h : ft b x y) (j : Nat) (hj : j ≤ 11) (f : Nat → Int32) : ft b x (setA y (b + j) f) := ft_trans h ⟨fun q hq => if_neg (by omega), fun _ _ => rfl, rfl, rfl⟩
theorem ft_I {b : Nat} {x y : St} (h : ft b x y) (k : Nat) (v : Int32) : ft b x (setI y b k v) := ft_trans h ⟨fun _ _ => rfl, fun o ho => if_neg ho, rfl, rfl⟩
theorem ft_tn {b c : Nat} {x y : St} (h : ft b x y) (ht : tn x c) : tn y c := by unfold tn at ht ⊢; rw [h.2.2.1]; exact ht
theorem rz_cong {σ : St} {b : Nat} {X Y : XT} (h : rzT σ b X) (e : X = Y) : rzT σ b Y := e ▸ h
/-- another Town stays -/
theorem rz_ft {b c : Nat} {x y : St} {X : XT} (h : ft b x y) (hc : c + 11 < b ∨ b + 11 < c) (hX : rzT x c X) : rzT y c X := by
  have hA : ∀ j, j ≤ 11 → sA y (c + j) = sA x (c + j) := fun j hj => h.1 (c + j) (by omega)
  have hI : sI y c = sI x c := h.2.1 c (by omega)
  obtain ⟨⟨h0, h1, h2, h3, h4, h5, a1, a2, a3, a4, a5, a6, a7, a8, a9, a10, a11⟩, k⟩ := hX
  refine ⟨⟨?_, ?_, ?_, ?_, ?_, ?_, ?_, ?_, ?_, ?_, ?_, ?_, ?_, ?_, ?_, ?_, ?_⟩, ?_⟩
  all_goals first | (rw [hI]; assumption) | skip
  · exact fun i hi => by show sA y (c + 1) i = _; rw [hA 1 (by decide)]; exact a1 i hi
  · exact fun i hi => by show sA y (c + 2) i = _; rw [hA 2 (by decide)]; exact a2 i hi
  · exact fun i hi => by show sA y (c + 3) i = _; rw [hA 3 (by decide)]; exact a3 i hi
  · exact fun i hi => by show sA y (c + 4) i = _; rw [hA 4 (by decide)]; exact a4 i hi
  · exact fun i hi => by show sA y (c + 5) i = _; rw [hA 5 (by decide)]; exact a5 i hi
  · exact fun i hi => by show sA y (c + 6) i = _; rw [hA 6 (by decide)]; exact a6 i hi
  · exact fun i hi ht => by show sA y (c + 7) i = _; rw [hA 7 (by decide)]; exact a7 i hi ht
  · exact fun i hi => by show sA y (c + 8) i = _; rw [hA 8 (by decide)]; exact a8 i hi
  · exact fun i hi => by show sA y (c + 9) i = _; rw [hA 9 (by decide)]; exact a9 i hi
  · exact fun i hi => by show sA y (c + 10) i = _; rw [hA 10 (by decide)]; exact a10 i hi
  · exact fun i hi => by show sA y (c + 11) i = _; rw [hA 11 (by decide)]; exact a11 i hi
  · exact fun i hi => by rw [hA 7 (by decide)]; exact k i hi
theorem rz_ssz {σ : St} {b : Nat} {X : XT} (h : rzT σ b X) (f : Nat) : rzT (setI σ b 0 (nI f)) b (xs_sz X f) := by
  obtain ⟨⟨h0, h1, h2, h3, h4, h5, a1, a2, a3, a4, a5, a6, a7, a8, a9, a10, a11⟩, kk⟩ := h
  exact ⟨⟨sI_same _ _ _ _, (sI_ne _ b 0 1 (by decide) _).trans h1, (sI_ne _ b 0 6 (by decide) _).trans h2, (sI_ne _ b 0 12 (by decide) _).trans h3, (sI_ne _ b 0 13 (by decide) _).trans h4, (sI_ne _ b 0 14 (by decide) _).trans h5, a1, a2, a3, a4, a5, a6, a7, a8, a9, a10, a11⟩, kk⟩
theorem rz_sbr {σ : St} {b : Nat} {X : XT} (h : rzT σ b X) (f : Nat → Bool) : rzT (setI σ b 1 (nI (bitsN f 8))) b (xs_br X f) := by
  obtain ⟨⟨h0, h1, h2, h3, h4, h5, a1, a2, a3, a4, a5, a6, a7, a8, a9, a10, a11⟩, kk⟩ := h
  exact ⟨⟨(sI_ne _ b 1 0 (by decide) _).trans h0, sI_same _ _ _ _, (sI_ne _ b 1 6 (by decide) _).trans h2, (sI_ne _ b 1 12 (by decide) _).trans h3, (sI_ne _ b 1 13 (by decide) _).trans h4, (sI_ne _ b 1 14 (by decide) _).trans h5, a1, a2, a3, a4, a5, a6, a7, a8, a9, a10, a11⟩, kk⟩
theorem rz_sth {σ : St} {b : Nat} {X : XT} (h : rzT σ b X) (f : Nat → Bool) : rzT (setI σ b 6 (nI (bitsN f 6))) b (xs_th X f) := by
  obtain ⟨⟨h0, h1, h2, h3, h4, h5, a1, a2, a3, a4, a5, a6, a7, a8, a9, a10, a11⟩, kk⟩ := h
  exact ⟨⟨(sI_ne _ b 6 0 (by decide) _).trans h0, (sI_ne _ b 6 1 (by decide) _).trans h1, sI_same _ _ _ _, (sI_ne _ b 6 12 (by decide) _).trans h3, (sI_ne _ b 6 13 (by decide) _).trans h4, (sI_ne _ b 6 14 (by decide) _).trans h5, a1, a2, a3, a4, a5, a6, fun i hi _ => kk i hi, a8, a9, a10, a11⟩, kk⟩
theorem rz_spu {σ : St} {b : Nat} {X : XT} (h : rzT σ b X) (f : Nat → Bool) : rzT (setI σ b 12 (nI (bitsN f 8))) b (xs_pu X f) := by
  obtain ⟨⟨h0, h1, h2, h3, h4, h5, a1, a2, a3, a4, a5, a6, a7, a8, a9, a10, a11⟩, kk⟩ := h
  exact ⟨⟨(sI_ne _ b 12 0 (by decide) _).trans h0, (sI_ne _ b 12 1 (by decide) _).trans h1, (sI_ne _ b 12 6 (by decide) _).trans h2, sI_same _ _ _ _, (sI_ne _ b 12 13 (by decide) _).trans h4, (sI_ne _ b 12 14 (by decide) _).trans h5, a1, a2, a3, a4, a5, a6, a7, a8, a9, a10, a11⟩, kk⟩
theorem rz_sfa {σ : St} {b : Nat} {X : XT} (h : rzT σ b X) (f : Nat) : rzT (setI σ b 13 (nI f)) b (xs_fa X f) := by
  obtain ⟨⟨h0, h1, h2, h3, h4, h5, a1, a2, a3, a4, a5, a6, a7, a8, a9, a10, a11⟩, kk⟩ := h
  exact ⟨⟨(sI_ne _ b 13 0 (by decide) _).trans h0, (sI_ne _ b 13 1 (by decide) _).trans h1, (sI_ne _ b 13 6 (by decide) _).trans h2, (sI_ne _ b 13 12 (by decide) _).trans h3, sI_same _ _ _ _, (sI_ne _ b 13 14 (by decide) _).trans h5, a1, a2, a3, a4, a5, a6, a7, a8, a9, a10, a11⟩, kk⟩
theorem rz_ssg {σ : St} {b : Nat} {X : XT} (h : rzT σ b X) (f : Nat) : rzT (setI σ b 14 (nI f)) b (xs_sg X f) := by
  obtain ⟨⟨h0, h1, h2, h3, h4, h5, a1, a2, a3, a4, a5, a6, a7, a8, a9, a10, a11⟩, kk⟩ := h
  exact ⟨⟨(sI_ne _ b 14 0 (by decide) _).trans h0, (sI_ne _ b 14 1 (by decide) _).trans h1, (sI_ne _ b 14 6 (by decide) _).trans h2, (sI_ne _ b 14 12 (by decide) _).trans h3, (sI_ne _ b 14 13 (by decide) _).trans h4, sI_same _ _ _ _, a1, a2, a3, a4, a5, a6, a7, a8, a9, a10, a11⟩, kk⟩
theorem rz_slo {σ : St} {b : Nat} {X : XT} (h : rzT σ b X) (p v : Nat) : rzT (setA σ (b + 1) (upd (sA σ (b + 1)) p (nI v))) b (xs_lo X (updN (x_lo X) p v)) := by
  obtain ⟨⟨h0, h1, h2, h3, h4, h5, a1, a2, a3, a4, a5, a6, a7, a8, a9, a10, a11⟩, kk⟩ := h
  refine ⟨⟨h0, h1, h2, h3, h4, h5, ?_, (fun i hi => (congrFun (sA_ne _ (b + 1) (b + 2) (by omega) _) i).trans (a2 i hi)), (fun i hi => (congrFun (sA_ne _ (b + 1) (b + 3) (by omega) _) i).trans (a3 i hi)), (fun i hi => (congrFun (sA_ne _ (b + 1) (b + 4) (by omega) _) i).trans (a4 i hi)), (fun i hi => (congrFun (sA_ne _ (b + 1) (b + 5) (by omega) _) i).trans (a5 i hi)), (fun i hi => (congrFun (sA_ne _ (b + 1) (b + 6) (by omega) _) i).trans (a6 i hi)), (fun i hi ht => (congrFun (sA_ne _ (b + 1) (b + 7) (by omega) _) i).trans (a7 i hi ht)), (fun i hi => (congrFun (sA_ne _ (b + 1) (b + 8) (by omega) _) i).trans (a8 i hi)), (fun i hi => (congrFun (sA_ne _ (b + 1) (b + 9) (by omega) _) i).trans (a9 i hi)), (fun i hi => (congrFun (sA_ne _ (b + 1) (b + 10) (by omega) _) i).trans (a10 i hi)), (fun i hi => (congrFun (sA_ne _ (b + 1) (b + 11) (by omega) _) i).trans (a11 i hi))⟩, (fun i hi => (congrFun (sA_ne _ (b + 1) (b + 7) (by omega) _) i).trans (kk i hi))⟩
  · intro i hi
    show sA (setA σ (b + 1) (upd (sA σ (b + 1)) p (nI v))) (b + 1) i = nI (if i = p then v else x_lo X i)
    rw [sA_same]
    by_cases c : i = p
    · rw [c, pk_us, if_pos rfl]
    · rw [pk_un c, if_neg c]; exact a1 i hi
theorem rz_shi {σ : St} {b : Nat} {X : XT} (h : rzT σ b X) (p v : Nat) : rzT (setA σ (b + 2) (upd (sA σ (b + 2)) p (nI v))) b (xs_hi X (updN (x_hi X) p v)) := by
  obtain ⟨⟨h0, h1, h2, h3, h4, h5, a1, a2, a3, a4, a5, a6, a7, a8, a9, a10, a11⟩, kk⟩ := h
  refine ⟨⟨h0, h1, h2, h3, h4, h5, (fun i hi => (congrFun (sA_ne _ (b + 2) (b + 1) (by omega) _) i).trans (a1 i hi)), ?_, (fun i hi => (congrFun (sA_ne _ (b + 2) (b + 3) (by omega) _) i).trans (a3 i hi)), (fun i hi => (congrFun (sA_ne _ (b + 2) (b + 4) (by omega) _) i).trans (a4 i hi)), (fun i hi => (congrFun (sA_ne _ (b + 2) (b + 5) (by omega) _) i).trans (a5 i hi)), (fun i hi => (congrFun (sA_ne _ (b + 2) (b + 6) (by omega) _) i).trans (a6 i hi)), (fun i hi ht => (congrFun (sA_ne _ (b + 2) (b + 7) (by omega) _) i).trans (a7 i hi ht)), (fun i hi => (congrFun (sA_ne _ (b + 2) (b + 8) (by omega) _) i).trans (a8 i hi)), (fun i hi => (congrFun (sA_ne _ (b + 2) (b + 9) (by omega) _) i).trans (a9 i hi)), (fun i hi => (congrFun (sA_ne _ (b + 2) (b + 10) (by omega) _) i).trans (a10 i hi)), (fun i hi => (congrFun (sA_ne _ (b + 2) (b + 11) (by omega) _) i).trans (a11 i hi))⟩, (fun i hi => (congrFun (sA_ne _ (b + 2) (b + 7) (by omega) _) i).trans (kk i hi))⟩
  · intro i hi
    show sA (setA σ (b + 2) (upd (sA σ (b + 2)) p (nI v))) (b + 2) i = nI (if i = p then v else x_hi X i)
    rw [sA_same]
    by_cases c : i = p
    · rw [c, pk_us, if_pos rfl]
    · rw [pk_un c, if_neg c]; exact a2 i hi
theorem rz_sld {σ : St} {b : Nat} {X : XT} (h : rzT σ b X) (p v : Nat) : rzT (setA σ (b + 3) (upd (sA σ (b + 3)) p (nI v))) b (xs_ld X (updN (x_ld X) p v)) := by
  obtain ⟨⟨h0, h1, h2, h3, h4, h5, a1, a2, a3, a4, a5, a6, a7, a8, a9, a10, a11⟩, kk⟩ := h
  refine ⟨⟨h0, h1, h2, h3, h4, h5, (fun i hi => (congrFun (sA_ne _ (b + 3) (b + 1) (by omega) _) i).trans (a1 i hi)), (fun i hi => (congrFun (sA_ne _ (b + 3) (b + 2) (by omega) _) i).trans (a2 i hi)), ?_, (fun i hi => (congrFun (sA_ne _ (b + 3) (b + 4) (by omega) _) i).trans (a4 i hi)), (fun i hi => (congrFun (sA_ne _ (b + 3) (b + 5) (by omega) _) i).trans (a5 i hi)), (fun i hi => (congrFun (sA_ne _ (b + 3) (b + 6) (by omega) _) i).trans (a6 i hi)), (fun i hi ht => (congrFun (sA_ne _ (b + 3) (b + 7) (by omega) _) i).trans (a7 i hi ht)), (fun i hi => (congrFun (sA_ne _ (b + 3) (b + 8) (by omega) _) i).trans (a8 i hi)), (fun i hi => (congrFun (sA_ne _ (b + 3) (b + 9) (by omega) _) i).trans (a9 i hi)), (fun i hi => (congrFun (sA_ne _ (b + 3) (b + 10) (by omega) _) i).trans (a10 i hi)), (fun i hi => (congrFun (sA_ne _ (b + 3) (b + 11) (by omega) _) i).trans (a11 i hi))⟩, (fun i hi => (congrFun (sA_ne _ (b + 3) (b + 7) (by omega) _) i).trans (kk i hi))⟩
  · intro i hi
    show sA (setA σ (b + 3) (upd (sA σ (b + 3)) p (nI v))) (b + 3) i = nI (if i = p then v else x_ld X i)
    rw [sA_same]
    by_cases c : i = p
    · rw [c, pk_us, if_pos rfl]
    · rw [pk_un c, if_neg c]; exact a3 i hi
theorem rz_sbn {σ : St} {b : Nat} {X : XT} (h : rzT σ b X) (p v : Nat) : rzT (setA σ (b + 4) (upd (sA σ (b + 4)) p (nI v))) b (xs_bn X (updN (x_bn X) p v)) := by
  obtain ⟨⟨h0, h1, h2, h3, h4, h5, a1, a2, a3, a4, a5, a6, a7, a8, a9, a10, a11⟩, kk⟩ := h
  refine ⟨⟨h0, h1, h2, h3, h4, h5, (fun i hi => (congrFun (sA_ne _ (b + 4) (b + 1) (by omega) _) i).trans (a1 i hi)), (fun i hi => (congrFun (sA_ne _ (b + 4) (b + 2) (by omega) _) i).trans (a2 i hi)), (fun i hi => (congrFun (sA_ne _ (b + 4) (b + 3) (by omega) _) i).trans (a3 i hi)), ?_, (fun i hi => (congrFun (sA_ne _ (b + 4) (b + 5) (by omega) _) i).trans (a5 i hi)), (fun i hi => (congrFun (sA_ne _ (b + 4) (b + 6) (by omega) _) i).trans (a6 i hi)), (fun i hi ht => (congrFun (sA_ne _ (b + 4) (b + 7) (by omega) _) i).trans (a7 i hi ht)), (fun i hi => (congrFun (sA_ne _ (b + 4) (b + 8) (by omega) _) i).trans (a8 i hi)), (fun i hi => (congrFun (sA_ne _ (b + 4) (b + 9) (by omega) _) i).trans (a9 i hi)), (fun i hi => (congrFun (sA_ne _ (b + 4) (b + 10) (by omega) _) i).trans (a10 i hi)), (fun i hi => (congrFun (sA_ne _ (b + 4) (b + 11) (by omega) _) i).trans (a11 i hi))⟩, (fun i hi => (congrFun (sA_ne _ (b + 4) (b + 7) (by omega) _) i).trans (kk i hi))⟩
  · intro i hi
    show sA (setA σ (b + 4) (upd (sA σ (b + 4)) p (nI v))) (b + 4) i = nI (if i = p then v else x_bn X i)
    rw [sA_same]
    by_cases c : i = p
    · rw [c, pk_us, if_pos rfl]
    · rw [pk_un c, if_neg c]; exact a4 i hi
theorem rz_spl {σ : St} {b : Nat} {X : XT} (h : rzT σ b X) (p v : Nat) : rzT (setA σ (b + 5) (upd (sA σ (b + 5)) p (nI v))) b (xs_pl X (updN (x_pl X) p v)) := by
  obtain ⟨⟨h0, h1, h2, h3, h4, h5, a1, a2, a3, a4, a5, a6, a7, a8, a9, a10, a11⟩, kk⟩ := h
  refine ⟨⟨h0, h1, h2, h3, h4, h5, (fun i hi => (congrFun (sA_ne _ (b + 5) (b + 1) (by omega) _) i).trans (a1 i hi)), (fun i hi => (congrFun (sA_ne _ (b + 5) (b + 2) (by omega) _) i).trans (a2 i hi)), (fun i hi => (congrFun (sA_ne _ (b + 5) (b + 3) (by omega) _) i).trans (a3 i hi)), (fun i hi => (congrFun (sA_ne _ (b + 5) (b + 4) (by omega) _) i).trans (a4 i hi)), ?_, (fun i hi => (congrFun (sA_ne _ (b + 5) (b + 6) (by omega) _) i).trans (a6 i hi)), (fun i hi ht => (congrFun (sA_ne _ (b + 5) (b + 7) (by omega) _) i).trans (a7 i hi ht)), (fun i hi => (congrFun (sA_ne _ (b + 5) (b + 8) (by omega) _) i).trans (a8 i hi)), (fun i hi => (congrFun (sA_ne _ (b + 5) (b + 9) (by omega) _) i).trans (a9 i hi)), (fun i hi => (congrFun (sA_ne _ (b + 5) (b + 10) (by omega) _) i).trans (a10 i hi)), (fun i hi => (congrFun (sA_ne _ (b + 5) (b + 11) (by omega) _) i).trans (a11 i hi))⟩, (fun i hi => (congrFun (sA_ne _ (b + 5) (b + 7) (by omega) _) i).trans (kk i hi))⟩
  · intro i hi
    show sA (setA σ (b + 5) (upd (sA σ (b + 5)) p (nI v))) (b + 5) i = nI (if i = p then v else x_pl X i)
    rw [sA_same]
    by_cases c : i = p
    · rw [c, pk_us, if_pos rfl]
    · rw [pk_un c, if_neg c]; exact a5 i hi
theorem rz_ski {σ : St} {b : Nat} {X : XT} (h : rzT σ b X) (p v : Nat) : rzT (setA σ (b + 6) (upd (sA σ (b + 6)) p (nI v))) b (xs_ki X (updN (x_ki X) p v)) := by
  obtain ⟨⟨h0, h1, h2, h3, h4, h5, a1, a2, a3, a4, a5, a6, a7, a8, a9, a10, a11⟩, kk⟩ := h
  refine ⟨⟨h0, h1, h2, h3, h4, h5, (fun i hi => (congrFun (sA_ne _ (b + 6) (b + 1) (by omega) _) i).trans (a1 i hi)), (fun i hi => (congrFun (sA_ne _ (b + 6) (b + 2) (by omega) _) i).trans (a2 i hi)), (fun i hi => (congrFun (sA_ne _ (b + 6) (b + 3) (by omega) _) i).trans (a3 i hi)), (fun i hi => (congrFun (sA_ne _ (b + 6) (b + 4) (by omega) _) i).trans (a4 i hi)), (fun i hi => (congrFun (sA_ne _ (b + 6) (b + 5) (by omega) _) i).trans (a5 i hi)), ?_, (fun i hi ht => (congrFun (sA_ne _ (b + 6) (b + 7) (by omega) _) i).trans (a7 i hi ht)), (fun i hi => (congrFun (sA_ne _ (b + 6) (b + 8) (by omega) _) i).trans (a8 i hi)), (fun i hi => (congrFun (sA_ne _ (b + 6) (b + 9) (by omega) _) i).trans (a9 i hi)), (fun i hi => (congrFun (sA_ne _ (b + 6) (b + 10) (by omega) _) i).trans (a10 i hi)), (fun i hi => (congrFun (sA_ne _ (b + 6) (b + 11) (by omega) _) i).trans (a11 i hi))⟩, (fun i hi => (congrFun (sA_ne _ (b + 6) (b + 7) (by omega) _) i).trans (kk i hi))⟩
  · intro i hi
    show sA (setA σ (b + 6) (upd (sA σ (b + 6)) p (nI v))) (b + 6) i = nI (if i = p then v else x_ki X i)
    rw [sA_same]
    by_cases c : i = p
    · rw [c, pk_us, if_pos rfl]
    · rw [pk_un c, if_neg c]; exact a6 i hi
theorem rz_skn {σ : St} {b : Nat} {X : XT} (h : rzT σ b X) (p : Nat) (f : Nat → Bool) : rzT (setA σ (b + 7) (upd (sA σ (b + 7)) p (nI (bitsN f 8)))) b (xs_kn X (updF (x_kn X) p f)) := by
  obtain ⟨⟨h0, h1, h2, h3, h4, h5, a1, a2, a3, a4, a5, a6, a7, a8, a9, a10, a11⟩, kk⟩ := h
  refine ⟨⟨h0, h1, h2, h3, h4, h5, (fun i hi => (congrFun (sA_ne _ (b + 7) (b + 1) (by omega) _) i).trans (a1 i hi)), (fun i hi => (congrFun (sA_ne _ (b + 7) (b + 2) (by omega) _) i).trans (a2 i hi)), (fun i hi => (congrFun (sA_ne _ (b + 7) (b + 3) (by omega) _) i).trans (a3 i hi)), (fun i hi => (congrFun (sA_ne _ (b + 7) (b + 4) (by omega) _) i).trans (a4 i hi)), (fun i hi => (congrFun (sA_ne _ (b + 7) (b + 5) (by omega) _) i).trans (a5 i hi)), (fun i hi => (congrFun (sA_ne _ (b + 7) (b + 6) (by omega) _) i).trans (a6 i hi)), ?_, (fun i hi => (congrFun (sA_ne _ (b + 7) (b + 8) (by omega) _) i).trans (a8 i hi)), (fun i hi => (congrFun (sA_ne _ (b + 7) (b + 9) (by omega) _) i).trans (a9 i hi)), (fun i hi => (congrFun (sA_ne _ (b + 7) (b + 10) (by omega) _) i).trans (a10 i hi)), (fun i hi => (congrFun (sA_ne _ (b + 7) (b + 11) (by omega) _) i).trans (a11 i hi))⟩, ?_⟩
  · intro i hi _
    show sA (setA σ (b + 7) (upd (sA σ (b + 7)) p (nI (bitsN f 8)))) (b + 7) i = nI (bitsN (if i = p then f else x_kn X i) 8)
    rw [sA_same]
    by_cases c : i = p
    · rw [c, pk_us, if_pos rfl]
    · rw [pk_un c, if_neg c]; exact kk i hi
  · intro i hi
    show sA (setA σ (b + 7) (upd (sA σ (b + 7)) p (nI (bitsN f 8)))) (b + 7) i = nI (bitsN (if i = p then f else x_kn X i) 8)
    rw [sA_same]
    by_cases c : i = p
    · rw [c, pk_us, if_pos rfl]
    · rw [pk_un c, if_neg c]; exact kk i hi
theorem rz_swt {σ : St} {b : Nat} {X : XT} (h : rzT σ b X) (p : Nat) (v : Int) : rzT (setA σ (b + 8) (upd (sA σ (b + 8)) p (zI v))) b (xs_wt X (updF (x_wt X) p v)) := by
  obtain ⟨⟨h0, h1, h2, h3, h4, h5, a1, a2, a3, a4, a5, a6, a7, a8, a9, a10, a11⟩, kk⟩ := h
  refine ⟨⟨h0, h1, h2, h3, h4, h5, (fun i hi => (congrFun (sA_ne _ (b + 8) (b + 1) (by omega) _) i).trans (a1 i hi)), (fun i hi => (congrFun (sA_ne _ (b + 8) (b + 2) (by omega) _) i).trans (a2 i hi)), (fun i hi => (congrFun (sA_ne _ (b + 8) (b + 3) (by omega) _) i).trans (a3 i hi)), (fun i hi => (congrFun (sA_ne _ (b + 8) (b + 4) (by omega) _) i).trans (a4 i hi)), (fun i hi => (congrFun (sA_ne _ (b + 8) (b + 5) (by omega) _) i).trans (a5 i hi)), (fun i hi => (congrFun (sA_ne _ (b + 8) (b + 6) (by omega) _) i).trans (a6 i hi)), (fun i hi ht => (congrFun (sA_ne _ (b + 8) (b + 7) (by omega) _) i).trans (a7 i hi ht)), ?_, (fun i hi => (congrFun (sA_ne _ (b + 8) (b + 9) (by omega) _) i).trans (a9 i hi)), (fun i hi => (congrFun (sA_ne _ (b + 8) (b + 10) (by omega) _) i).trans (a10 i hi)), (fun i hi => (congrFun (sA_ne _ (b + 8) (b + 11) (by omega) _) i).trans (a11 i hi))⟩, (fun i hi => (congrFun (sA_ne _ (b + 8) (b + 7) (by omega) _) i).trans (kk i hi))⟩
  · intro i hi
    show sA (setA σ (b + 8) (upd (sA σ (b + 8)) p (zI v))) (b + 8) i = zI (if i = p then v else x_wt X i)
    rw [sA_same]
    by_cases c : i = p
    · rw [c, pk_us, if_pos rfl]
    · rw [pk_un c, if_neg c]; exact a8 i hi
theorem rz_sab {σ : St} {b : Nat} {X : XT} (h : rzT σ b X) (p v : Nat) : rzT (setA σ (b + 9) (upd (sA σ (b + 9)) p (nI v))) b (xs_ab X (updN (x_ab X) p v)) := by
  obtain ⟨⟨h0, h1, h2, h3, h4, h5, a1, a2, a3, a4, a5, a6, a7, a8, a9, a10, a11⟩, kk⟩ := h
  refine ⟨⟨h0, h1, h2, h3, h4, h5, (fun i hi => (congrFun (sA_ne _ (b + 9) (b + 1) (by omega) _) i).trans (a1 i hi)), (fun i hi => (congrFun (sA_ne _ (b + 9) (b + 2) (by omega) _) i).trans (a2 i hi)), (fun i hi => (congrFun (sA_ne _ (b + 9) (b + 3) (by omega) _) i).trans (a3 i hi)), (fun i hi => (congrFun (sA_ne _ (b + 9) (b + 4) (by omega) _) i).trans (a4 i hi)), (fun i hi => (congrFun (sA_ne _ (b + 9) (b + 5) (by omega) _) i).trans (a5 i hi)), (fun i hi => (congrFun (sA_ne _ (b + 9) (b + 6) (by omega) _) i).trans (a6 i hi)), (fun i hi ht => (congrFun (sA_ne _ (b + 9) (b + 7) (by omega) _) i).trans (a7 i hi ht)), (fun i hi => (congrFun (sA_ne _ (b + 9) (b + 8) (by omega) _) i).trans (a8 i hi)), ?_, (fun i hi => (congrFun (sA_ne _ (b + 9) (b + 10) (by omega) _) i).trans (a10 i hi)), (fun i hi => (congrFun (sA_ne _ (b + 9) (b + 11) (by omega) _) i).trans (a11 i hi))⟩, (fun i hi => (congrFun (sA_ne _ (b + 9) (b + 7) (by omega) _) i).trans (kk i hi))⟩
  · intro i hi
    show sA (setA σ (b + 9) (upd (sA σ (b + 9)) p (nI v))) (b + 9) i = nI (if i = p then v else x_ab X i)
    rw [sA_same]
    by_cases c : i = p
    · rw [c, pk_us, if_pos rfl]
    · rw [pk_un c, if_neg c]; exact a9 i hi
theorem rz_ssb {σ : St} {b : Nat} {X : XT} (h : rzT σ b X) (p v : Nat) : rzT (setA σ (b + 10) (upd (sA σ (b + 10)) p (nI v))) b (xs_sb X (updN (x_sb X) p v)) := by
  obtain ⟨⟨h0, h1, h2, h3, h4, h5, a1, a2, a3, a4, a5, a6, a7, a8, a9, a10, a11⟩, kk⟩ := h
  refine ⟨⟨h0, h1, h2, h3, h4, h5, (fun i hi => (congrFun (sA_ne _ (b + 10) (b + 1) (by omega) _) i).trans (a1 i hi)), (fun i hi => (congrFun (sA_ne _ (b + 10) (b + 2) (by omega) _) i).trans (a2 i hi)), (fun i hi => (congrFun (sA_ne _ (b + 10) (b + 3) (by omega) _) i).trans (a3 i hi)), (fun i hi => (congrFun (sA_ne _ (b + 10) (b + 4) (by omega) _) i).trans (a4 i hi)), (fun i hi => (congrFun (sA_ne _ (b + 10) (b + 5) (by omega) _) i).trans (a5 i hi)), (fun i hi => (congrFun (sA_ne _ (b + 10) (b + 6) (by omega) _) i).trans (a6 i hi)), (fun i hi ht => (congrFun (sA_ne _ (b + 10) (b + 7) (by omega) _) i).trans (a7 i hi ht)), (fun i hi => (congrFun (sA_ne _ (b + 10) (b + 8) (by omega) _) i).trans (a8 i hi)), (fun i hi => (congrFun (sA_ne _ (b + 10) (b + 9) (by omega) _) i).trans (a9 i hi)), ?_, (fun i hi => (congrFun (sA_ne _ (b + 10) (b + 11) (by omega) _) i).trans (a11 i hi))⟩, (fun i hi => (congrFun (sA_ne _ (b + 10) (b + 7) (by omega) _) i).trans (kk i hi))⟩
  · intro i hi
    show sA (setA σ (b + 10) (upd (sA σ (b + 10)) p (nI v))) (b + 10) i = nI (if i = p then v else x_sb X i)
    rw [sA_same]
    by_cases c : i = p
    · rw [c, pk_us, if_pos rfl]
    · rw [pk_un c, if_neg c]; exact a10 i hi
theorem rz_ssv {σ : St} {b : Nat} {X : XT} (h : rzT σ b X) (p v : Nat) : rzT (setA σ (b + 11) (upd (sA σ (b + 11)) p (nI v))) b (xs_sv X (updN (x_sv X) p v)) := by
  obtain ⟨⟨h0, h1, h2, h3, h4, h5, a1, a2, a3, a4, a5, a6, a7, a8, a9, a10, a11⟩, kk⟩ := h
  refine ⟨⟨h0, h1, h2, h3, h4, h5, (fun i hi => (congrFun (sA_ne _ (b + 11) (b + 1) (by omega) _) i).trans (a1 i hi)), (fun i hi => (congrFun (sA_ne _ (b + 11) (b + 2) (by omega) _) i).trans (a2 i hi)), (fun i hi => (congrFun (sA_ne _ (b + 11) (b + 3) (by omega) _) i).trans (a3 i hi)), (fun i hi => (congrFun (sA_ne _ (b + 11) (b + 4) (by omega) _) i).trans (a4 i hi)), (fun i hi => (congrFun (sA_ne _ (b + 11) (b + 5) (by omega) _) i).trans (a5 i hi)), (fun i hi => (congrFun (sA_ne _ (b + 11) (b + 6) (by omega) _) i).trans (a6 i hi)), (fun i hi ht => (congrFun (sA_ne _ (b + 11) (b + 7) (by omega) _) i).trans (a7 i hi ht)), (fun i hi => (congrFun (sA_ne _ (b + 11) (b + 8) (by omega) _) i).trans (a8 i hi)), (fun i hi => (congrFun (sA_ne _ (b + 11) (b + 9) (by omega) _) i).trans (a9 i hi)), (fun i hi => (congrFun (sA_ne _ (b + 11) (b + 10) (by omega) _) i).trans (a10 i hi)), ?_⟩, (fun i hi => (congrFun (sA_ne _ (b + 11) (b + 7) (by omega) _) i).trans (kk i hi))⟩
  · intro i hi
    show sA (setA σ (b + 11) (upd (sA σ (b + 11)) p (nI v))) (b + 11) i = nI (if i = p then v else x_sv X i)
    rw [sA_same]
    by_cases c : i = p
    · rw [c, pk_us, if_pos rfl]
    · rw [pk_un c, if_neg c]; exact a11 i hi
