theorem nI_n6 {a : Nat} (ha : a < 2 ^ 31) : ¬ nI a = -6 := fun e => by
  have h := congrArg Int32.toInt e
  rw [nI_toInt ha] at h
  have e2 : (-6 : Int32).toInt = -6 := by decide +kernel
  omega
/-! ways in a Town -/
def spF (X : XT) (f m : Nat → Bool) (n t : Nat) : Bool := f t || anyN (fun b => m b && ((x_lo X b == t && f (x_hi X b)) || (x_hi X b == t && f (x_lo X b)))) n
theorem spF_s (X : XT) (f m : Nat → Bool) (n t : Nat) : spF X f m (n + 1) t = (spF X f m n t || (m n && ((x_lo X n == t && f (x_hi X n)) || (x_hi X n == t && f (x_lo X n))))) := by
  unfold spF
  rw [anyN_s, Bool.or_assoc]
theorem spF_0 (X : XT) (f m : Nat → Bool) (t : Nat) : f t = spF X f m 0 t := by unfold spF; simp [anyN]
theorem spF_bl (X : XT) (m : Nat → Bool) (s k t : Nat) : spF X (bl X m s k) m 8 t = bl X m s (k + 1) t := rfl
theorem sh_bits (X : XT) (m : Nat → Bool) {a : Nat} (ha : a < 6) : nI 1 <<< (nI a &&& 31) = nI (bitsN (bl X m a 0) 6) := by
  have h : ∀ a, a < 6 → nI 1 <<< (nI a &&& 31) = nI (bitsN (fun t => t == a) 6) := by decide +kernel
  exact h a ha
set_option maxHeartbeats 4000000 in
set_option maxRecDepth 20000 in
theorem lp_X3_spread {l : Launch} {D : gE} {L : Nat → Nat} {σ : St} {Q : Option Value → va_W → Prop} {d : Nat} {b : Nat} (hb : tn σ b) {X : XT} (hX : rzT σ b X) (ho : okX X) {f m : Nat → Bool} (h : Q (some (.int (nI (bitsN (spF X f m 8) 6)))) (wsOf D L σ)) : ∀ n_ k, k + n_ = 8 → G l D yX3_spread cX3_spread 5 (some .int) (rr (d + 1)) Q 0 0 5 [(4, .int (nI k)), (3, .int (nI (bitsN (spF X f m k) 6))), (0, .ref (L b)), (1, .int (nI (bitsN f 6))), (2, .int (nI (bitsN m 8)))] [] (wsOf D L σ) := by
  intro n_
  induction n_ with
  | zero =>
    intro k hct
    obtain rfl : k = 8 := by omega
    refine g_iload dX3_spread_5 0 rfl ?_
    refine g_bipush dX3_spread_7 bp_8 ?_
    refine n_icmpge 79 dX3_spread_9 (by decide) (by omega) (by omega) (fun h9 => ?_) (fun h9 => absurd h9 (by omega))
    refine g_iload_n dX3_spread_79 rfl 1 rfl ?_
    exact g_ireturn dX3_spread_80 (Nat.le_refl _) (Nat.le_refl _) (h)
  | succ n_ ih =>
    intro k hct
    have hbb := ok_b ho (i := k) (by omega)
    refine g_iload dX3_spread_5 0 rfl ?_
    refine g_bipush dX3_spread_7 bp_8 ?_
    refine n_icmpge 79 dX3_spread_9 (by decide) (by omega) (by omega) (fun h9 => absurd h9 (by omega)) (fun h9 => ?_)
    refine g_iload_n dX3_spread_12 rfl 4 rfl ?_
    refine g_iload dX3_spread_13 0 rfl ?_
    refine g_callN2 (C := RX3) (As := [.int (nI (bitsN m 8)), .int (nI k)]) rfl kn_X3_84 ky_X4_has ks_X4_has (by decide) rfl (Nat.le_of_ble_eq_true rfl) dX3_spread_15 rfl (c_X4_has (n := 8) (by decide) (by omega) (fun h15 => ?_) (fun h15 => ?_))
    · refine t_ifeq1 (tgt := 73) dX3_spread_18 (by decide) ?_
      refine g_iload_n dX3_spread_21 rfl 3 rfl ?_
      refine g_aload_n dX3_spread_22 rfl 2 rfl ?_
      refine s_getT (b := b) hb kf_X3_9 (by decide) rfl dX3_spread_23 ?_
      refine g_iload dX3_spread_26 0 rfl ?_
      refine s_ald (q := (b + 1)) (n := 8) (at_ta hb 1 (by decide) (by decide)) (by omega) (by decide) dX3_spread_28 ?_
      refine g_tope (z := nI (x_lo X k)) (rpT_lo hX.1 (by omega)) ?_
      refine g_callN2 (C := RX3) (As := [.int (nI (bitsN f 6)), .int (nI (x_lo X k))]) rfl kn_X3_84 ky_X4_has ks_X4_has (by decide) rfl (Nat.le_of_ble_eq_true rfl) dX3_spread_29 rfl (c_X4_has (n := 6) (by decide) (by omega) (fun h29 => ?_) (fun h29 => ?_))
      · refine t_ifeq1 (tgt := 47) dX3_spread_32 (by decide) ?_
        refine g_iload_n dX3_spread_35 rfl 1 rfl ?_
        refine g_iconst dX3_spread_36 ci_1 ?_
        refine g_aload_n dX3_spread_37 rfl 2 rfl ?_
        refine s_getT (b := b) hb kf_X3_15 (by decide) rfl dX3_spread_38 ?_
        refine g_iload dX3_spread_41 0 rfl ?_
        refine s_ald (q := (b + 2)) (n := 8) (at_ta hb 2 (by decide) (by decide)) (by omega) (by decide) dX3_spread_43 ?_
        refine g_tope (z := nI (x_hi X k)) (rpT_hi hX.1 (by omega)) ?_
        refine g_ishl dX3_spread_44 ?_
        refine g_ior dX3_spread_45 ?_
        refine g_tope (z := nI (bitsN (fun i => (spF X f m k) i || i == x_hi X k) 6)) (obB _ (by decide) (by omega)) ?_
        refine g_istore_n (lv' := [(3, .int (nI (bitsN (fun i => (spF X f m k) i || i == x_hi X k) 6))), (4, .int (nI k)), (0, .ref (L b)), (1, .int (nI (bitsN f 6))), (2, .int (nI (bitsN m 8)))]) dX3_spread_46 rfl (by decide) rfl ?_
        refine g_iload_n dX3_spread_47 rfl 3 rfl ?_
        refine g_aload_n dX3_spread_48 rfl 2 rfl ?_
        refine s_getT (b := b) hb kf_X3_15 (by decide) rfl dX3_spread_49 ?_
        refine g_iload dX3_spread_52 1 rfl ?_
        refine s_ald (q := (b + 2)) (n := 8) (at_ta hb 2 (by decide) (by decide)) (by omega) (by decide) dX3_spread_54 ?_
        refine g_tope (z := nI (x_hi X k)) (rpT_hi hX.1 (by omega)) ?_
        refine g_callN2 (C := RX3) (As := [.int (nI (bitsN f 6)), .int (nI (x_hi X k))]) rfl kn_X3_84 ky_X4_has ks_X4_has (by decide) rfl (Nat.le_of_ble_eq_true rfl) dX3_spread_55 rfl (c_X4_has (n := 6) (by decide) (by omega) (fun h55 => ?_) (fun h55 => ?_))
        · refine t_ifeq1 (tgt := 73) dX3_spread_58 (by decide) ?_
          refine g_iload_n dX3_spread_61 rfl 0 rfl ?_
          refine g_iconst dX3_spread_62 ci_1 ?_
          refine g_aload_n dX3_spread_63 rfl 2 rfl ?_
          refine s_getT (b := b) hb kf_X3_9 (by decide) rfl dX3_spread_64 ?_
          refine g_iload dX3_spread_67 1 rfl ?_
          refine s_ald (q := (b + 1)) (n := 8) (at_ta hb 1 (by decide) (by decide)) (by omega) (by decide) dX3_spread_69 ?_
          refine g_tope (z := nI (x_lo X k)) (rpT_lo hX.1 (by omega)) ?_
          refine g_ishl dX3_spread_70 ?_
          refine g_ior dX3_spread_71 ?_
          refine g_tope (z := nI (bitsN (fun i => (fun i => (spF X f m k) i || i == x_hi X k) i || i == x_lo X k) 6)) (obB _ (by decide) (by omega)) ?_
          refine g_istore_n (lv' := [(3, .int (nI (bitsN (fun i => (fun i => (spF X f m k) i || i == x_hi X k) i || i == x_lo X k) 6))), (4, .int (nI k)), (0, .ref (L b)), (1, .int (nI (bitsN f 6))), (2, .int (nI (bitsN m 8)))]) dX3_spread_72 rfl (by decide) rfl ?_
          refine g_iinc (v := nI (k + 1)) (lv' := [(4, .int (nI (k + 1))), (3, .int (nI (bitsN (fun i => (fun i => (spF X f m k) i || i == x_hi X k) i || i == x_lo X k) 6))), (0, .ref (L b)), (1, .int (nI (bitsN f 6))), (2, .int (nI (bitsN m 8)))]) dX3_spread_73 1 rfl (inc_n _) (by decide) rfl ?_
          refine g_goto 5 dX3_spread_76 (by decide) ?_
          refine g_pick [0, 1, 2, 3, 4] (lv' := [(4, .int (nI (k + 1))), (3, .int (nI (bitsN (fun i => (fun i => (spF X f m k) i || i == x_hi X k) i || i == x_lo X k) 6))), (0, .ref (L b)), (1, .int (nI (bitsN f 6))), (2, .int (nI (bitsN m 8)))]) rfl ?_
          have ih2 := ih (k + 1) (by omega)
          rw [← bcg (f := (fun i => (fun i => (spF X f m k) i || i == x_hi X k) i || i == x_lo X k)) (g := (spF X f m (k + 1))) (n := 6) (fun i _ => by rw [spF_s, h15, h29, h55, BEq.comm (a := x_lo X k), BEq.comm (a := x_hi X k)]; (try dsimp only); generalize (i == x_lo X k) = p; generalize (i == x_hi X k) = q; generalize spF X f m k i = r; cases p <;> cases q <;> cases r <;> rfl)] at ih2
          exact ih2
        · refine t_ifeq0 73 dX3_spread_58 (by decide) ?_
          refine g_iinc (v := nI (k + 1)) (lv' := [(4, .int (nI (k + 1))), (3, .int (nI (bitsN (fun i => (spF X f m k) i || i == x_hi X k) 6))), (0, .ref (L b)), (1, .int (nI (bitsN f 6))), (2, .int (nI (bitsN m 8)))]) dX3_spread_73 1 rfl (inc_n _) (by decide) rfl ?_
          refine g_goto 5 dX3_spread_76 (by decide) ?_
          refine g_pick [0, 1, 2, 3, 4] (lv' := [(4, .int (nI (k + 1))), (3, .int (nI (bitsN (fun i => (spF X f m k) i || i == x_hi X k) 6))), (0, .ref (L b)), (1, .int (nI (bitsN f 6))), (2, .int (nI (bitsN m 8)))]) rfl ?_
          have ih2 := ih (k + 1) (by omega)
          rw [← bcg (f := (fun i => (spF X f m k) i || i == x_hi X k)) (g := (spF X f m (k + 1))) (n := 6) (fun i _ => by rw [spF_s, h15, h29, h55, BEq.comm (a := x_lo X k), BEq.comm (a := x_hi X k)]; (try dsimp only); generalize (i == x_lo X k) = p; generalize (i == x_hi X k) = q; generalize spF X f m k i = r; cases p <;> cases q <;> cases r <;> rfl)] at ih2
          exact ih2
      · refine t_ifeq0 47 dX3_spread_32 (by decide) ?_
        refine g_iload_n dX3_spread_47 rfl 3 rfl ?_
        refine g_aload_n dX3_spread_48 rfl 2 rfl ?_
        refine s_getT (b := b) hb kf_X3_15 (by decide) rfl dX3_spread_49 ?_
        refine g_iload dX3_spread_52 0 rfl ?_
        refine s_ald (q := (b + 2)) (n := 8) (at_ta hb 2 (by decide) (by decide)) (by omega) (by decide) dX3_spread_54 ?_
        refine g_tope (z := nI (x_hi X k)) (rpT_hi hX.1 (by omega)) ?_
        refine g_callN2 (C := RX3) (As := [.int (nI (bitsN f 6)), .int (nI (x_hi X k))]) rfl kn_X3_84 ky_X4_has ks_X4_has (by decide) rfl (Nat.le_of_ble_eq_true rfl) dX3_spread_55 rfl (c_X4_has (n := 6) (by decide) (by omega) (fun h55 => ?_) (fun h55 => ?_))
        · refine t_ifeq1 (tgt := 73) dX3_spread_58 (by decide) ?_
          refine g_iload_n dX3_spread_61 rfl 1 rfl ?_
          refine g_iconst dX3_spread_62 ci_1 ?_
          refine g_aload_n dX3_spread_63 rfl 2 rfl ?_
          refine s_getT (b := b) hb kf_X3_9 (by decide) rfl dX3_spread_64 ?_
          refine g_iload dX3_spread_67 0 rfl ?_
          refine s_ald (q := (b + 1)) (n := 8) (at_ta hb 1 (by decide) (by decide)) (by omega) (by decide) dX3_spread_69 ?_
          refine g_tope (z := nI (x_lo X k)) (rpT_lo hX.1 (by omega)) ?_
          refine g_ishl dX3_spread_70 ?_
          refine g_ior dX3_spread_71 ?_
          refine g_tope (z := nI (bitsN (fun i => (spF X f m k) i || i == x_lo X k) 6)) (obB _ (by decide) (by omega)) ?_
          refine g_istore_n (lv' := [(3, .int (nI (bitsN (fun i => (spF X f m k) i || i == x_lo X k) 6))), (4, .int (nI k)), (0, .ref (L b)), (1, .int (nI (bitsN f 6))), (2, .int (nI (bitsN m 8)))]) dX3_spread_72 rfl (by decide) rfl ?_
          refine g_iinc (v := nI (k + 1)) (lv' := [(4, .int (nI (k + 1))), (3, .int (nI (bitsN (fun i => (spF X f m k) i || i == x_lo X k) 6))), (0, .ref (L b)), (1, .int (nI (bitsN f 6))), (2, .int (nI (bitsN m 8)))]) dX3_spread_73 1 rfl (inc_n _) (by decide) rfl ?_
          refine g_goto 5 dX3_spread_76 (by decide) ?_
          refine g_pick [0, 1, 2, 3, 4] (lv' := [(4, .int (nI (k + 1))), (3, .int (nI (bitsN (fun i => (spF X f m k) i || i == x_lo X k) 6))), (0, .ref (L b)), (1, .int (nI (bitsN f 6))), (2, .int (nI (bitsN m 8)))]) rfl ?_
          have ih2 := ih (k + 1) (by omega)
          rw [← bcg (f := (fun i => (spF X f m k) i || i == x_lo X k)) (g := (spF X f m (k + 1))) (n := 6) (fun i _ => by rw [spF_s, h15, h29, h55, BEq.comm (a := x_lo X k), BEq.comm (a := x_hi X k)]; (try dsimp only); generalize (i == x_lo X k) = p; generalize (i == x_hi X k) = q; generalize spF X f m k i = r; cases p <;> cases q <;> cases r <;> rfl)] at ih2
          exact ih2
        · refine t_ifeq0 73 dX3_spread_58 (by decide) ?_
          refine g_iinc (v := nI (k + 1)) (lv' := [(4, .int (nI (k + 1))), (3, .int (nI (bitsN (spF X f m k) 6))), (0, .ref (L b)), (1, .int (nI (bitsN f 6))), (2, .int (nI (bitsN m 8)))]) dX3_spread_73 0 rfl (inc_n _) (by decide) rfl ?_
          refine g_goto 5 dX3_spread_76 (by decide) ?_
          refine g_pick [0, 1, 2, 3, 4] (lv' := [(4, .int (nI (k + 1))), (3, .int (nI (bitsN (spF X f m k) 6))), (0, .ref (L b)), (1, .int (nI (bitsN f 6))), (2, .int (nI (bitsN m 8)))]) rfl ?_
          have ih2 := ih (k + 1) (by omega)
          rw [← bcg (f := (spF X f m k)) (g := (spF X f m (k + 1))) (n := 6) (fun i _ => by rw [spF_s, h15, h29, h55]; simp)] at ih2
          exact ih2
    · refine t_ifeq0 73 dX3_spread_18 (by decide) ?_
      refine g_iinc (v := nI (k + 1)) (lv' := [(4, .int (nI (k + 1))), (3, .int (nI (bitsN (spF X f m k) 6))), (0, .ref (L b)), (1, .int (nI (bitsN f 6))), (2, .int (nI (bitsN m 8)))]) dX3_spread_73 0 rfl (inc_n _) (by decide) rfl ?_
      refine g_goto 5 dX3_spread_76 (by decide) ?_
      refine g_pick [0, 1, 2, 3, 4] (lv' := [(4, .int (nI (k + 1))), (3, .int (nI (bitsN (spF X f m k) 6))), (0, .ref (L b)), (1, .int (nI (bitsN f 6))), (2, .int (nI (bitsN m 8)))]) rfl ?_
      have ih2 := ih (k + 1) (by omega)
      rw [← bcg (f := (spF X f m k)) (g := (spF X f m (k + 1))) (n := 6) (fun i _ => by rw [spF_s, h15]; simp)] at ih2
      exact ih2
set_option maxHeartbeats 4000000 in
set_option maxRecDepth 20000 in
theorem c_X3_spread {l : Launch} {D : gE} {L : Nat → Nat} {σ : St} {Q : Option Value → va_W → Prop} {d : Nat} {b : Nat} (hb : tn σ b) {X : XT} (hX : rzT σ b X) (ho : okX X) {f m : Nat → Bool} (h : Q (some (.int (nI (bitsN (spF X f m 8) 6)))) (wsOf D L σ)) : Ctr l D yX3_spread cX3_spread 5 (some .int) (rr (d + 1)) [.ref (L b), .int (nI (bitsN f 6)), .int (nI (bitsN m 8))] (wsOf D L σ) Q := by
  refine g_start ky_X3_spread (Nat.le_of_ble_eq_true rfl) ?_
  refine g_pick [0, 1, 2] (lv' := [(0, .ref (L b)), (1, .int (nI (bitsN f 6))), (2, .int (nI (bitsN m 8)))]) rfl ?_
  refine g_iload_n dX3_spread_0 rfl 1 rfl ?_
  refine g_tope (z := nI (bitsN (spF X f m 0) 6)) (bcg (fun i _ => spF_0 X f m i)) ?_
  refine g_istore_n (lv' := [(3, .int (nI (bitsN (spF X f m 0) 6))), (0, .ref (L b)), (1, .int (nI (bitsN f 6))), (2, .int (nI (bitsN m 8)))]) dX3_spread_1 rfl (by decide) rfl ?_
  refine g_iconst dX3_spread_2 ci_0 ?_
  refine g_istore (lv' := [(4, .int (nI 0)), (3, .int (nI (bitsN (spF X f m 0) 6))), (0, .ref (L b)), (1, .int (nI (bitsN f 6))), (2, .int (nI (bitsN m 8)))]) dX3_spread_3 (by decide) rfl ?_
  refine g_pick [0, 1, 2, 3, 4] (lv' := [(4, .int (nI 0)), (3, .int (nI (bitsN (spF X f m 0) 6))), (0, .ref (L b)), (1, .int (nI (bitsN f 6))), (2, .int (nI (bitsN m 8)))]) rfl ?_
  exact lp_X3_spread hb hX ho h 8 0 rfl
theorem dist_is {X : XT} {m : Nat → Bool} {a g k : Nat} {P : Int32 → Prop} (hno : ∀ j, j < k → bl X m a j g = false) (h : bl X m a k g = true) (hk : k < 6) (ht : dN X m a g < 6 → P (nI (dN X m a g))) : P (nI k) := by
  have e : dN X m a g = k := firstN_is hk h hno
  have := ht (by omega)
  rw [e] at this; exact this
theorem dist_stb {X : XT} {m : Nat → Bool} {a g k : Nat} (ho : okX X) (ha : a < 6) (hg : g < 6) (hno : ∀ j, j < k → bl X m a j g = false) (h : bl X m a k g = false) (hs : ∀ t, t < 6 → bl X m a (k + 1) t = bl X m a k t) : ¬ dN X m a g < 6 := by
  have : dN X m a g = 6 := firstN_none (fun j hj => by
    rcases Nat.lt_or_ge j k with c | c
    · exact hno j c
    · have := stb_on ho ha hs (j - k) g hg
      rw [show k + (j - k) = j by omega, h] at this
      exact this)
  omega
theorem dist_no {X : XT} {m : Nat → Bool} {a g : Nat} (hno : ∀ j, j < 6 → bl X m a j g = false) : ¬ dN X m a g < 6 := by
  have : dN X m a g = 6 := firstN_none hno
  omega
set_option maxHeartbeats 4000000 in
set_option maxRecDepth 20000 in
theorem lp_X3_distance {l : Launch} {D : gE} {L : Nat → Nat} {σ : St} {Q : Option Value → va_W → Prop} {d : Nat} {b : Nat} (hb : tn σ b) {X : XT} (hX : rzT σ b X) (ho : okX X) {m : Nat → Bool} {a g : Nat} (ha : a < 6) (hg : g < 6) (ht : dN X m a g < 6 → Q (some (.int (nI (dN X m a g)))) (wsOf D L σ)) (hf : ¬ dN X m a g < 6 → Q (some (.int (-6))) (wsOf D L σ)) : ∀ n_ k, k + n_ = 6 → (∀ j, j < k → bl X m a j g = false) → G l D yX3_distance cX3_distance 7 (some .int) (rr (d + 2)) Q 0 0 8 [(5, .int (nI k)), (4, .int (nI (bitsN (bl X m a k) 6))), (0, .ref (L b)), (1, .int (nI a)), (2, .int (nI g)), (3, .int (nI (bitsN m 8)))] [] (wsOf D L σ) := by
  intro n_
  induction n_ with
  | zero =>
    intro k hct hno
    obtain rfl : k = 6 := by omega
    refine g_iload dX3_distance_8 0 rfl ?_
    refine g_bipush dX3_distance_10 bp_6 ?_
    refine n_icmpge 56 dX3_distance_12 (by decide) (by omega) (by omega) (fun h12 => ?_) (fun h12 => absurd h12 (by omega))
    refine g_bipush dX3_distance_56 bp_m6 ?_
    exact g_ireturn dX3_distance_58 (Nat.le_refl _) (Nat.le_refl _) (hf (dist_no hno))
  | succ n_ ih =>
    intro k hct hno
    refine g_iload dX3_distance_8 0 rfl ?_
    refine g_bipush dX3_distance_10 bp_6 ?_
    refine n_icmpge 56 dX3_distance_12 (by decide) (by omega) (by omega) (fun h12 => absurd h12 (by omega)) (fun h12 => ?_)
    refine g_iload dX3_distance_15 1 rfl ?_
    refine g_iload_n dX3_distance_17 rfl 4 rfl ?_
    refine g_callN2 (C := RX3) (As := [.int (nI (bitsN (bl X m a k) 6)), .int (nI g)]) rfl kn_X3_84 ky_X4_has ks_X4_has (by decide) rfl (Nat.le_of_ble_eq_true rfl) dX3_distance_18 rfl (c_X4_has (n := 6) (by decide) (by omega) (fun h18 => ?_) (fun h18 => ?_))
    · refine t_ifeq1 (tgt := 27) dX3_distance_21 (by decide) ?_
      refine g_iload dX3_distance_24 0 rfl ?_
      exact g_ireturn dX3_distance_26 (Nat.le_refl _) (Nat.le_refl _) (dist_is (P := fun v => Q (some (.int v)) (wsOf D L σ)) hno h18 (by omega) ht)
    · refine t_ifeq0 27 dX3_distance_21 (by decide) ?_
      refine g_aload_n dX3_distance_27 rfl 2 rfl ?_
      refine g_iload dX3_distance_28 1 rfl ?_
      refine g_iload_n dX3_distance_30 rfl 5 rfl ?_
      refine g_callV (As := [.int (nI (bitsN (bl X m a k) 6)), .int (nI (bitsN m 8))]) km_X3_112 ky_X3_spread ki_X3_spread (by decide) b (at_tn hb) rfl rfl (Nat.le_of_ble_eq_true rfl) dX3_distance_31 rfl (c_X3_spread hb hX ho ?_)
      refine g_istore (lv' := [(6, .int (nI (bitsN (bl X m a (k + 1)) 6))), (5, .int (nI k)), (4, .int (nI (bitsN (bl X m a k) 6))), (0, .ref (L b)), (1, .int (nI a)), (2, .int (nI g)), (3, .int (nI (bitsN m 8)))]) dX3_distance_34 (by decide) rfl ?_
      refine g_iload dX3_distance_36 0 rfl ?_
      refine g_iload dX3_distance_38 2 rfl ?_
      refine g_icmpne 46 dX3_distance_40 (by decide) (fun h40 => ?_) (fun h40 => ?_)
      · refine g_iload dX3_distance_46 0 rfl ?_
        refine g_istore (lv' := [(4, .int (nI (bitsN (bl X m a (k + 1)) 6))), (6, .int (nI (bitsN (bl X m a (k + 1)) 6))), (5, .int (nI k)), (0, .ref (L b)), (1, .int (nI a)), (2, .int (nI g)), (3, .int (nI (bitsN m 8)))]) dX3_distance_48 (by decide) rfl ?_
        refine g_iinc (v := nI (k + 1)) (lv' := [(5, .int (nI (k + 1))), (4, .int (nI (bitsN (bl X m a (k + 1)) 6))), (6, .int (nI (bitsN (bl X m a (k + 1)) 6))), (0, .ref (L b)), (1, .int (nI a)), (2, .int (nI g)), (3, .int (nI (bitsN m 8)))]) dX3_distance_50 2 rfl (inc_n _) (by decide) rfl ?_
        refine g_goto 8 dX3_distance_53 (by decide) ?_
        refine g_pick [0, 1, 3, 4, 5, 6] (lv' := [(5, .int (nI (k + 1))), (4, .int (nI (bitsN (bl X m a (k + 1)) 6))), (0, .ref (L b)), (1, .int (nI a)), (2, .int (nI g)), (3, .int (nI (bitsN m 8)))]) rfl ?_
        exact ih (k + 1) (by omega) (fun j hj => by by_cases c : j = k; rw [c]; exact h18; exact hno j (by omega))
      · refine g_bipush dX3_distance_43 bp_m6 ?_
        exact g_ireturn dX3_distance_45 (Nat.le_refl _) (Nat.le_refl _) (hf (dist_stb ho ha hg hno h18 ((bitsN_eq_iff (by decide)).mp h40)))
set_option maxHeartbeats 4000000 in
set_option maxRecDepth 20000 in
theorem c_X3_distance {l : Launch} {D : gE} {L : Nat → Nat} {σ : St} {Q : Option Value → va_W → Prop} {d : Nat} {b : Nat} (hb : tn σ b) {X : XT} (hX : rzT σ b X) (ho : okX X) {m : Nat → Bool} {a g : Nat} (ha : a < 6) (hg : g < 6) (ht : dN X m a g < 6 → Q (some (.int (nI (dN X m a g)))) (wsOf D L σ)) (hf : ¬ dN X m a g < 6 → Q (some (.int (-6))) (wsOf D L σ)) : Ctr l D yX3_distance cX3_distance 7 (some .int) (rr (d + 2)) [.ref (L b), .int (nI a), .int (nI g), .int (nI (bitsN m 8))] (wsOf D L σ) Q := by
  refine g_start ky_X3_distance (Nat.le_of_ble_eq_true rfl) ?_
  refine g_pick [0, 1, 2, 3] (lv' := [(0, .ref (L b)), (1, .int (nI a)), (2, .int (nI g)), (3, .int (nI (bitsN m 8)))]) rfl ?_
  refine g_iconst dX3_distance_0 ci_1 ?_
  refine g_iload_n dX3_distance_1 rfl 1 rfl ?_
  refine g_ishl dX3_distance_2 ?_
  refine g_tope (z := nI (bitsN (bl X m a 0) 6)) (sh_bits X m ha) ?_
  refine g_istore (lv' := [(4, .int (nI (bitsN (bl X m a 0) 6))), (0, .ref (L b)), (1, .int (nI a)), (2, .int (nI g)), (3, .int (nI (bitsN m 8)))]) dX3_distance_3 (by decide) rfl ?_
  refine g_iconst dX3_distance_5 ci_0 ?_
  refine g_istore (lv' := [(5, .int (nI 0)), (4, .int (nI (bitsN (bl X m a 0) 6))), (0, .ref (L b)), (1, .int (nI a)), (2, .int (nI g)), (3, .int (nI (bitsN m 8)))]) dX3_distance_6 (by decide) rfl ?_
  refine g_pick [0, 1, 2, 3, 4, 5] (lv' := [(5, .int (nI 0)), (4, .int (nI (bitsN (bl X m a 0) 6))), (0, .ref (L b)), (1, .int (nI a)), (2, .int (nI g)), (3, .int (nI (bitsN m 8)))]) rfl ?_
  exact lp_X3_distance hb hX ho ha hg ht hf 6 0 rfl (fun j hj => absurd hj (Nat.not_lt_zero j))
theorem c_X3_distanceN {l : Launch} {D : gE} {L : Nat → Nat} {σ : St} {Q : Option Value → va_W → Prop} {d : Nat} {b : Nat} (hb : tn σ b) {X : XT} (hX : rzT σ b X) (ho : okX X) {c a g : Nat} (ha : a < 6) (hg : g < 6) (hc : c < 256) (ht : dN X c.testBit a g < 6 → Q (some (.int (nI (dN X c.testBit a g)))) (wsOf D L σ)) (hf : ¬ dN X c.testBit a g < 6 → Q (some (.int (-6))) (wsOf D L σ)) : Ctr l D yX3_distance cX3_distance 7 (some .int) (rr (d + 2)) [.ref (L b), .int (nI a), .int (nI g), .int (nI c)] (wsOf D L σ) Q := by
  have e := c_X3_distance (l := l) (D := D) (L := L) (d := d) (Q := Q) hb hX ho (m := c.testBit) ha hg ht hf
  rw [bitsN_of (show c < 2 ^ 8 from hc)] at e
  exact e
set_option maxHeartbeats 4000000 in
set_option maxRecDepth 20000 in
theorem c_X3_hasWay {l : Launch} {D : gE} {L : Nat → Nat} {σ : St} {Q : Option Value → va_W → Prop} {d : Nat} {b : Nat} (hb : tn σ b) {X : XT} (hX : rzT σ b X) (ho : okX X) {p g : Nat} (hp : p < 6) (hg : g < 6) (ht : wyX X (buX X p) (x_pl X p) g = true → Q (some (.int (nI 1))) (wsOf D L σ)) (hf : wyX X (buX X p) (x_pl X p) g = false → Q (some (.int (nI 0))) (wsOf D L σ)) : Ctr l D yX3_hasWay cX3_hasWay 3 (some .boolean) (rr (d + 3)) [.ref (L b), .int (nI p), .int (nI g)] (wsOf D L σ) Q := by
  refine g_start ky_X3_hasWay (Nat.le_of_ble_eq_true rfl) ?_
  refine g_pick [0, 1, 2] (lv' := [(0, .ref (L b)), (1, .int (nI p)), (2, .int (nI g))]) rfl ?_
  have hpp := ok_p ho hp
  have hbu := bu_bd ho p
  have hdl := @dN_le X (beX X (buX X p)) (x_pl X p) g
  refine g_aload_n dX3_hasWay_0 rfl 0 rfl ?_
  refine g_aload_n dX3_hasWay_1 rfl 0 rfl ?_
  refine s_getT (b := b) hb kf_X3_24 (by decide) rfl dX3_hasWay_2 ?_
  refine g_iload_n dX3_hasWay_5 rfl 1 rfl ?_
  refine s_ald (q := (b + 5)) (n := 6) (at_ta hb 5 (by decide) (by decide)) (by omega) (by decide) dX3_hasWay_6 ?_
  refine g_tope (z := nI (x_pl X p)) (rpT_pl hX.1 (by omega)) ?_
  refine g_iload_n dX3_hasWay_7 rfl 2 rfl ?_
  refine g_aload_n dX3_hasWay_8 rfl 0 rfl ?_
  refine g_aload_n dX3_hasWay_9 rfl 0 rfl ?_
  refine g_iload_n dX3_hasWay_10 rfl 1 rfl ?_
  refine g_callV (As := [.int (nI p)]) km_X3_100 ky_X3_burden ki_X3_burden (by decide) b (at_tn hb) rfl rfl (Nat.le_of_ble_eq_true rfl) dX3_hasWay_11 rfl (c_X3_burden hb hX ho (by omega) ?_)
  refine g_callV (As := [.int (nI (buX X p))]) km_X3_115 ky_X3_bearing ki_X3_bearing (by decide) b (at_tn hb) rfl rfl (Nat.le_of_ble_eq_true rfl) dX3_hasWay_14 rfl (c_X3_bearing hb hX ho (by omega) ?_)
  refine g_callV (As := [.int (nI (x_pl X p)), .int (nI g), .int (nI (bitsN (beX X (buX X p)) 8))]) km_X3_118 ky_X3_distance ki_X3_distance (by decide) b (at_tn hb) rfl rfl (Nat.le_of_ble_eq_true rfl) dX3_hasWay_17 rfl (c_X3_distance hb hX ho (by omega) (by omega) (fun h17 => ?_) (fun h17 => ?_))
  · refine g_bipush dX3_hasWay_20 bp_m6 ?_
    refine g_icmpeq 29 dX3_hasWay_22 (by decide) (fun h22 => absurd h22 (nI_n6 (by omega))) (fun h22 => ?_)
    refine g_iconst dX3_hasWay_25 ci_1 ?_
    refine g_goto 30 dX3_hasWay_26 (by decide) ?_
    exact g_zreturn dX3_hasWay_30 (Nat.le_refl _) (Nat.le_refl _) (Or.inr rfl) (ht (by unfold wyX; rw [dN_sym, decide_eq_true_eq]; exact h17))
  · refine g_bipush dX3_hasWay_20 bp_m6 ?_
    refine g_icmpeq 29 dX3_hasWay_22 (by decide) (fun h22 => ?_) (fun h22 => absurd h22 (by decide +kernel))
    refine g_iconst dX3_hasWay_29 ci_0 ?_
    exact g_zreturn dX3_hasWay_30 (Nat.le_refl _) (Nat.le_refl _) (Or.inl rfl) (hf (by unfold wyX; rw [dN_sym, decide_eq_false_iff_not]; exact h17))
def oeX (X : XT) (b t : Nat) : Nat := if x_lo X b = t then x_hi X b else x_lo X b
theorem oe_is {X : XT} {b t : Nat} (h : x_lo X b = t ∨ x_hi X b = t) : oeX X b t = x_lo X b + x_hi X b - t := by
  unfold oeX
  split
  · omega
  · omega
theorem oeX_lt {X : XT} (ho : okX X) {b : Nat} (hb : b < 8) (t : Nat) : oeX X b t < 6 := by
  have := ok_b ho hb
  unfold oeX; split <;> omega
set_option maxHeartbeats 4000000 in
set_option maxRecDepth 20000 in
theorem c_X3_otherEnd {l : Launch} {D : gE} {L : Nat → Nat} {σ : St} {Q : Option Value → va_W → Prop} {d : Nat} {b : Nat} (hb : tn σ b) {X : XT} (hX : rzT σ b X) (ho : okX X) {c t : Nat} (hc : c < 8) (ht : t < 6) (h : Q (some (.int (nI (oeX X c t)))) (wsOf D L σ)) : Ctr l D yX3_otherEnd cX3_otherEnd 3 (some .int) (rr d) [.ref (L b), .int (nI c), .int (nI t)] (wsOf D L σ) Q := by
  refine g_start ky_X3_otherEnd (Nat.le_of_ble_eq_true rfl) ?_
  refine g_pick [0, 1, 2] (lv' := [(0, .ref (L b)), (1, .int (nI c)), (2, .int (nI t))]) rfl ?_
  have hbb := ok_b ho hc
  refine g_aload_n dX3_otherEnd_0 rfl 0 rfl ?_
  refine s_getT (b := b) hb kf_X3_9 (by decide) rfl dX3_otherEnd_1 ?_
  refine g_iload_n dX3_otherEnd_4 rfl 1 rfl ?_
  refine s_ald (q := (b + 1)) (n := 8) (at_ta hb 1 (by decide) (by decide)) (by omega) (by decide) dX3_otherEnd_5 ?_
  refine g_tope (z := nI (x_lo X c)) (rpT_lo hX.1 (by omega)) ?_
  refine g_iload_n dX3_otherEnd_6 rfl 2 rfl ?_
  refine n_icmpne 19 dX3_otherEnd_7 (by decide) (by omega) (by omega) (fun h7 => ?_) (fun h7 => ?_)
  · refine g_aload_n dX3_otherEnd_19 rfl 0 rfl ?_
    refine s_getT (b := b) hb kf_X3_9 (by decide) rfl dX3_otherEnd_20 ?_
    refine g_iload_n dX3_otherEnd_23 rfl 1 rfl ?_
    refine s_ald (q := (b + 1)) (n := 8) (at_ta hb 1 (by decide) (by decide)) (by omega) (by decide) dX3_otherEnd_24 ?_
    refine g_tope (z := nI (x_lo X c)) (rpT_lo hX.1 (by omega)) ?_
    exact g_ireturn dX3_otherEnd_25 (Nat.le_refl _) (Nat.le_refl _) (qi (by unfold oeX; rw [if_neg h7]) h)
  · refine g_aload_n dX3_otherEnd_10 rfl 0 rfl ?_
    refine s_getT (b := b) hb kf_X3_15 (by decide) rfl dX3_otherEnd_11 ?_
    refine g_iload_n dX3_otherEnd_14 rfl 1 rfl ?_
    refine s_ald (q := (b + 2)) (n := 8) (at_ta hb 2 (by decide) (by decide)) (by omega) (by decide) dX3_otherEnd_15 ?_
    refine g_tope (z := nI (x_hi X c)) (rpT_hi hX.1 (by omega)) ?_
    refine g_goto 25 dX3_otherEnd_16 (by decide) ?_
    exact g_ireturn dX3_otherEnd_25 (Nat.le_refl _) (Nat.le_refl _) (qi (by unfold oeX; rw [if_pos h7]) h)
set_option maxHeartbeats 4000000 in
set_option maxRecDepth 20000 in
theorem c_X3_isAtEnd {l : Launch} {D : gE} {L : Nat → Nat} {σ : St} {Q : Option Value → va_W → Prop} {d : Nat} {b : Nat} (hb : tn σ b) {X : XT} (hX : rzT σ b X) (ho : okX X) {c t : Nat} (hc : c < 8) (ht0 : t < 6) (ht : (x_lo X c = t ∨ x_hi X c = t) → Q (some (.int (nI 1))) (wsOf D L σ)) (hf : ¬ (x_lo X c = t ∨ x_hi X c = t) → Q (some (.int (nI 0))) (wsOf D L σ)) : Ctr l D yX3_isAtEnd cX3_isAtEnd 3 (some .boolean) (rr d) [.ref (L b), .int (nI c), .int (nI t)] (wsOf D L σ) Q := by
  refine g_start ky_X3_isAtEnd (Nat.le_of_ble_eq_true rfl) ?_
  refine g_pick [0, 1, 2] (lv' := [(0, .ref (L b)), (1, .int (nI c)), (2, .int (nI t))]) rfl ?_
  have hbb := ok_b ho hc
  refine g_aload_n dX3_isAtEnd_0 rfl 0 rfl ?_
  refine s_getT (b := b) hb kf_X3_9 (by decide) rfl dX3_isAtEnd_1 ?_
  refine g_iload_n dX3_isAtEnd_4 rfl 1 rfl ?_
  refine s_ald (q := (b + 1)) (n := 8) (at_ta hb 1 (by decide) (by decide)) (by omega) (by decide) dX3_isAtEnd_5 ?_
  refine g_tope (z := nI (x_lo X c)) (rpT_lo hX.1 (by omega)) ?_
  refine g_iload_n dX3_isAtEnd_6 rfl 2 rfl ?_
  refine n_icmpeq 20 dX3_isAtEnd_7 (by decide) (by omega) (by omega) (fun h7 => ?_) (fun h7 => ?_)
  · refine g_iconst dX3_isAtEnd_20 ci_1 ?_
    refine g_goto 25 dX3_isAtEnd_21 (by decide) ?_
    exact g_zreturn dX3_isAtEnd_25 (Nat.le_refl _) (Nat.le_refl _) (Or.inr rfl) (ht (Or.inl h7))
  · refine g_aload_n dX3_isAtEnd_10 rfl 0 rfl ?_
    refine s_getT (b := b) hb kf_X3_15 (by decide) rfl dX3_isAtEnd_11 ?_
    refine g_iload_n dX3_isAtEnd_14 rfl 1 rfl ?_
    refine s_ald (q := (b + 2)) (n := 8) (at_ta hb 2 (by decide) (by decide)) (by omega) (by decide) dX3_isAtEnd_15 ?_
    refine g_tope (z := nI (x_hi X c)) (rpT_hi hX.1 (by omega)) ?_
    refine g_iload_n dX3_isAtEnd_16 rfl 2 rfl ?_
    refine n_icmpne 24 dX3_isAtEnd_17 (by decide) (by omega) (by omega) (fun h17 => ?_) (fun h17 => ?_)
    · refine g_iconst dX3_isAtEnd_24 ci_0 ?_
      exact g_zreturn dX3_isAtEnd_25 (Nat.le_refl _) (Nat.le_refl _) (Or.inl rfl) (hf (fun q => q.elim h7 h17))
    · refine g_iconst dX3_isAtEnd_20 ci_1 ?_
      refine g_goto 25 dX3_isAtEnd_21 (by decide) ?_
      exact g_zreturn dX3_isAtEnd_25 (Nat.le_refl _) (Nat.le_refl _) (Or.inr rfl) (ht (Or.inr h17))
def nxP (X : XT) (m : Nat → Bool) (a g dd b : Nat) : Bool := (m b && decide (x_lo X b = a ∨ x_hi X b = a)) && (decide (dN X m (oeX X b a) g < 6) && (dN X m (oeX X b a) g + 1 == dd))
def nxR (X : XT) (m : Nat → Bool) (a g : Nat) : Int32 := if 0 < dN X m g a ∧ dN X m g a < 6 then nI (nbX X m g a) else -6
theorem nxP_lds {X : XT} {m : Nat → Bool} {a g b : Nat} (hd : dN X m g a < 6) : nxP X m a g (dN X m g a) b = ldsX X m g a b := by
  unfold nxP ldsX
  by_cases h : x_lo X b = a ∨ x_hi X b = a
  · rw [oe_is h, dN_sym X m _ g, decide_eq_true h]
    have : (x_lo X b == a || x_hi X b == a) = true := by simpa using h
    rw [this]
    by_cases c : dN X m g (x_lo X b + x_hi X b - a) + 1 = dN X m g a
    · simp [c]; intro _; omega
    · rw [show (dN X m g (x_lo X b + x_hi X b - a) + 1 == dN X m g a) = false from by simpa using c]; simp
  · have : (x_lo X b == a || x_hi X b == a) = false := by simpa using h
    rw [this, decide_eq_false h, Bool.and_false, Bool.false_and, Bool.false_and]
theorem nx_is {X : XT} {m : Nat → Bool} {a g : Nat} (ho : okX X) (hg : g < 6) (hd : dN X m g a < 6) (h0 : 0 < dN X m g a) : firstN (nxP X m a g (dN X m g a)) 8 = nbX X m g a := firstN_cong (fun b _ => nxP_lds hd)
theorem nx_bad {X : XT} {m : Nat → Bool} {a g dd : Nat} (h : ∀ v, v < 6 → ¬ v + 1 = dd) : firstN (nxP X m a g dd) 8 = 8 := firstN_none (fun b _ => by
  unfold nxP
  by_cases c : dN X m (oeX X b a) g < 6
  · have : (dN X m (oeX X b a) g + 1 == dd) = false := by simpa using h _ c
    rw [this, Bool.and_false, Bool.and_false]
  · rw [decide_eq_false c, Bool.false_and, Bool.and_false])
theorem nx_ne {v w : Nat} (hw : w < 6) (hv : v < 6) : nI v = nI w - nI 1 ↔ v + 1 = w := by
  have : ∀ v, v < 6 → ∀ w, w < 6 → (nI v = nI w - nI 1 ↔ v + 1 = w) := by decide +kernel
  exact this v hv w hw
theorem nx_n6 : ∀ w, w < 6 → ¬ (-6 : Int32) = nI w - nI 1 := by decide +kernel
theorem nx_67 : (∀ v, v < 6 → ¬ nI v = (-6 : Int32) - nI 1) ∧ ¬ (-6 : Int32) = (-6 : Int32) - nI 1 := by decide +kernel
set_option maxHeartbeats 4000000 in
set_option maxRecDepth 20000 in
theorem lp_X3_nextBridge {l : Launch} {D : gE} {L : Nat → Nat} {σ : St} {Q : Option Value → va_W → Prop} {d : Nat} {b : Nat} (hb : tn σ b) {X : XT} (hX : rzT σ b X) (ho : okX X) {m : Nat → Bool} {a g dd : Nat} {Lv : Int32} (ha : a < 6) (hg : g < 6) (hE : ∀ v, v < 6 → (nI v = Lv - nI 1 ↔ v + 1 = dd)) (hN : ¬ (-6 : Int32) = Lv - nI 1) (h : Q (some (.int (if firstN (nxP X m a g dd) 8 < 8 then nI (firstN (nxP X m a g dd) 8) else -6))) (wsOf D L σ)) : ∀ n_ k, k + n_ = 8 → (∀ j, j < k → nxP X m a g dd j = false) → G l D yX3_nextBridge cX3_nextBridge 6 (some .int) (rr (d + 3)) Q 0 0 12 [(5, .int (nI k)), (4, .int Lv), (0, .ref (L b)), (1, .int (nI a)), (2, .int (nI g)), (3, .int (nI (bitsN m 8)))] [] (wsOf D L σ) := by
  intro n_
  induction n_ with
  | zero =>
    intro k hct hno
    obtain rfl : k = 8 := by omega
    refine g_iload dX3_nextBridge_12 0 rfl ?_
    refine g_bipush dX3_nextBridge_14 bp_8 ?_
    refine n_icmpge 67 dX3_nextBridge_16 (by decide) (by omega) (by omega) (fun h16 => ?_) (fun h16 => absurd h16 (by omega))
    refine g_bipush dX3_nextBridge_67 bp_m6 ?_
    exact g_ireturn dX3_nextBridge_69 (Nat.le_refl _) (Nat.le_refl _) (qi (by rw [firstN_none hno, if_neg (by omega)]) h)
  | succ n_ ih =>
    intro k hct hno
    have hol := oeX_lt ho (show k < 8 by omega) a
    refine g_iload dX3_nextBridge_12 0 rfl ?_
    refine g_bipush dX3_nextBridge_14 bp_8 ?_
    refine n_icmpge 67 dX3_nextBridge_16 (by decide) (by omega) (by omega) (fun h16 => absurd h16 (by omega)) (fun h16 => ?_)
    refine g_iload_n dX3_nextBridge_19 rfl 5 rfl ?_
    refine g_iload dX3_nextBridge_20 0 rfl ?_
    refine g_callN2 (C := RX3) (As := [.int (nI (bitsN m 8)), .int (nI k)]) rfl kn_X3_84 ky_X4_has ks_X4_has (by decide) rfl (Nat.le_of_ble_eq_true rfl) dX3_nextBridge_22 rfl (c_X4_has (n := 8) (by decide) (by omega) (fun h22 => ?_) (fun h22 => ?_))
    · refine t_ifeq1 (tgt := 61) dX3_nextBridge_25 (by decide) ?_
      refine g_aload_n dX3_nextBridge_28 rfl 2 rfl ?_
      refine g_iload dX3_nextBridge_29 0 rfl ?_
      refine g_iload_n dX3_nextBridge_31 rfl 3 rfl ?_
      refine g_callV (As := [.int (nI k), .int (nI a)]) km_X3_128 ky_X3_isAtEnd ki_X3_isAtEnd (by decide) b (at_tn hb) rfl rfl (Nat.le_of_ble_eq_true rfl) dX3_nextBridge_32 rfl (c_X3_isAtEnd hb hX ho (by omega) (by omega) (fun h32 => ?_) (fun h32 => ?_))
      · refine t_ifeq1 (tgt := 61) dX3_nextBridge_35 (by decide) ?_
        refine g_aload_n dX3_nextBridge_38 rfl 2 rfl ?_
        refine g_aload_n dX3_nextBridge_39 rfl 2 rfl ?_
        refine g_iload dX3_nextBridge_40 0 rfl ?_
        refine g_iload_n dX3_nextBridge_42 rfl 3 rfl ?_
        refine g_callV (As := [.int (nI k), .int (nI a)]) km_X3_125 ky_X3_otherEnd ki_X3_otherEnd (by decide) b (at_tn hb) rfl rfl (Nat.le_of_ble_eq_true rfl) dX3_nextBridge_43 rfl (c_X3_otherEnd hb hX ho (by omega) (by omega) ?_)
        refine g_iload_n dX3_nextBridge_46 rfl 4 rfl ?_
        refine g_iload_n dX3_nextBridge_47 rfl 5 rfl ?_
        refine g_callV (As := [.int (nI (oeX X k a)), .int (nI g), .int (nI (bitsN m 8))]) km_X3_118 ky_X3_distance ki_X3_distance (by decide) b (at_tn hb) rfl rfl (Nat.le_of_ble_eq_true rfl) dX3_nextBridge_48 rfl (c_X3_distance hb hX ho (by omega) (by omega) (fun h48 => ?_) (fun h48 => ?_))
        · refine g_iload dX3_nextBridge_51 1 rfl ?_
          refine g_iconst dX3_nextBridge_53 ci_1 ?_
          refine g_isub dX3_nextBridge_54 ?_
          refine g_icmpne 61 dX3_nextBridge_55 (by decide) (fun h55 => ?_) (fun h55 => ?_)
          · refine g_iinc (v := nI (k + 1)) (lv' := [(5, .int (nI (k + 1))), (4, .int Lv), (0, .ref (L b)), (1, .int (nI a)), (2, .int (nI g)), (3, .int (nI (bitsN m 8)))]) dX3_nextBridge_61 0 rfl (inc_n _) (by decide) rfl ?_
            refine g_goto 12 dX3_nextBridge_64 (by decide) ?_
            refine g_pick [0, 1, 2, 3, 4, 5] (lv' := [(5, .int (nI (k + 1))), (4, .int Lv), (0, .ref (L b)), (1, .int (nI a)), (2, .int (nI g)), (3, .int (nI (bitsN m 8)))]) rfl ?_
            exact ih (k + 1) (by omega) (fun j hj => by by_cases c : j = k; rw [c]; exact (by unfold nxP; rw [show (dN X m (oeX X k a) g + 1 == dd) = false from by simpa using (fun q => h55 ((hE _ h48).mpr q)), Bool.and_false, Bool.and_false]); exact hno j (by omega))
          · refine g_iload dX3_nextBridge_58 0 rfl ?_
            exact g_ireturn dX3_nextBridge_60 (Nat.le_refl _) (Nat.le_refl _) (qi (by rw [firstN_is (k := k) (by omega) (by unfold nxP; rw [h22, decide_eq_true h32, decide_eq_true h48, beq_iff_eq.mpr ((hE _ h48).mp h55)]; rfl) hno, if_pos (by omega)]) h)
        · refine g_iload dX3_nextBridge_51 1 rfl ?_
          refine g_iconst dX3_nextBridge_53 ci_1 ?_
          refine g_isub dX3_nextBridge_54 ?_
          refine g_icmpne 61 dX3_nextBridge_55 (by decide) (fun h55 => ?_) (fun h55 => absurd h55 (hN))
          refine g_iinc (v := nI (k + 1)) (lv' := [(5, .int (nI (k + 1))), (4, .int Lv), (0, .ref (L b)), (1, .int (nI a)), (2, .int (nI g)), (3, .int (nI (bitsN m 8)))]) dX3_nextBridge_61 0 rfl (inc_n _) (by decide) rfl ?_
          refine g_goto 12 dX3_nextBridge_64 (by decide) ?_
          refine g_pick [0, 1, 2, 3, 4, 5] (lv' := [(5, .int (nI (k + 1))), (4, .int Lv), (0, .ref (L b)), (1, .int (nI a)), (2, .int (nI g)), (3, .int (nI (bitsN m 8)))]) rfl ?_
          exact ih (k + 1) (by omega) (fun j hj => by by_cases c : j = k; rw [c]; exact (by unfold nxP; rw [decide_eq_false h48, Bool.false_and, Bool.and_false]); exact hno j (by omega))
      · refine t_ifeq0 61 dX3_nextBridge_35 (by decide) ?_
        refine g_iinc (v := nI (k + 1)) (lv' := [(5, .int (nI (k + 1))), (4, .int Lv), (0, .ref (L b)), (1, .int (nI a)), (2, .int (nI g)), (3, .int (nI (bitsN m 8)))]) dX3_nextBridge_61 0 rfl (inc_n _) (by decide) rfl ?_
        refine g_goto 12 dX3_nextBridge_64 (by decide) ?_
        refine g_pick [0, 1, 2, 3, 4, 5] (lv' := [(5, .int (nI (k + 1))), (4, .int Lv), (0, .ref (L b)), (1, .int (nI a)), (2, .int (nI g)), (3, .int (nI (bitsN m 8)))]) rfl ?_
        exact ih (k + 1) (by omega) (fun j hj => by by_cases c : j = k; rw [c]; exact (by unfold nxP; rw [decide_eq_false h32, Bool.and_false, Bool.false_and]); exact hno j (by omega))
    · refine t_ifeq0 61 dX3_nextBridge_25 (by decide) ?_
      refine g_iinc (v := nI (k + 1)) (lv' := [(5, .int (nI (k + 1))), (4, .int Lv), (0, .ref (L b)), (1, .int (nI a)), (2, .int (nI g)), (3, .int (nI (bitsN m 8)))]) dX3_nextBridge_61 0 rfl (inc_n _) (by decide) rfl ?_
      refine g_goto 12 dX3_nextBridge_64 (by decide) ?_
      refine g_pick [0, 1, 2, 3, 4, 5] (lv' := [(5, .int (nI (k + 1))), (4, .int Lv), (0, .ref (L b)), (1, .int (nI a)), (2, .int (nI g)), (3, .int (nI (bitsN m 8)))]) rfl ?_
      exact ih (k + 1) (by omega) (fun j hj => by by_cases c : j = k; rw [c]; exact (by unfold nxP; rw [h22]; rfl); exact hno j (by omega))
set_option maxHeartbeats 4000000 in
set_option maxRecDepth 20000 in
theorem c_X3_nextBridge {l : Launch} {D : gE} {L : Nat → Nat} {σ : St} {Q : Option Value → va_W → Prop} {d : Nat} {b : Nat} (hb : tn σ b) {X : XT} (hX : rzT σ b X) (ho : okX X) {m : Nat → Bool} {a g : Nat} (ha : a < 6) (hg : g < 6) (h : Q (some (.int (nxR X m a g))) (wsOf D L σ)) : Ctr l D yX3_nextBridge cX3_nextBridge 6 (some .int) (rr (d + 3)) [.ref (L b), .int (nI a), .int (nI g), .int (nI (bitsN m 8))] (wsOf D L σ) Q := by
  refine g_start ky_X3_nextBridge (Nat.le_of_ble_eq_true rfl) ?_
  refine g_pick [0, 1, 2, 3] (lv' := [(0, .ref (L b)), (1, .int (nI a)), (2, .int (nI g)), (3, .int (nI (bitsN m 8)))]) rfl ?_
  refine g_aload_n dX3_nextBridge_0 rfl 0 rfl ?_
  refine g_iload_n dX3_nextBridge_1 rfl 1 rfl ?_
  refine g_iload_n dX3_nextBridge_2 rfl 2 rfl ?_
  refine g_iload_n dX3_nextBridge_3 rfl 3 rfl ?_
  refine g_callV (As := [.int (nI a), .int (nI g), .int (nI (bitsN m 8))]) km_X3_118 ky_X3_distance ki_X3_distance (by decide) b (at_tn hb) rfl rfl (Nat.le_of_ble_eq_true rfl) dX3_nextBridge_4 rfl (c_X3_distance hb hX ho (by omega) (by omega) (fun h4 => ?_) (fun h4 => ?_))
  · refine g_istore (lv' := [(4, .int (nI (dN X m a g))), (0, .ref (L b)), (1, .int (nI a)), (2, .int (nI g)), (3, .int (nI (bitsN m 8)))]) dX3_nextBridge_7 (by decide) rfl ?_
    refine g_iconst dX3_nextBridge_9 ci_0 ?_
    refine g_istore (lv' := [(5, .int (nI 0)), (4, .int (nI (dN X m a g))), (0, .ref (L b)), (1, .int (nI a)), (2, .int (nI g)), (3, .int (nI (bitsN m 8)))]) dX3_nextBridge_10 (by decide) rfl ?_
    refine g_pick [0, 1, 2, 3, 4, 5] (lv' := [(5, .int (nI 0)), (4, .int (nI (dN X m a g))), (0, .ref (L b)), (1, .int (nI a)), (2, .int (nI g)), (3, .int (nI (bitsN m 8)))]) rfl ?_
    refine lp_X3_nextBridge hb hX ho (dd := dN X m a g) ha hg (fun v hv => nx_ne h4 hv) (nx_n6 _ h4) (qi ?_ h) 8 0 rfl (fun j hj => absurd hj (Nat.not_lt_zero j))
    unfold nxR
    rw [dN_sym X m a g] at h4 ⊢
    by_cases h0 : 0 < dN X m g a
    · rw [nx_is ho hg h4 h0, if_pos (nb_ex ho hg h4 h0).1, if_pos ⟨h0, h4⟩]
    · rw [nx_bad (fun v _ => by omega), if_neg (by omega), if_neg (fun q => h0 q.1)]
  · refine g_istore (lv' := [(4, .int (-6)), (0, .ref (L b)), (1, .int (nI a)), (2, .int (nI g)), (3, .int (nI (bitsN m 8)))]) dX3_nextBridge_7 (by decide) rfl ?_
    refine g_iconst dX3_nextBridge_9 ci_0 ?_
    refine g_istore (lv' := [(5, .int (nI 0)), (4, .int (-6)), (0, .ref (L b)), (1, .int (nI a)), (2, .int (nI g)), (3, .int (nI (bitsN m 8)))]) dX3_nextBridge_10 (by decide) rfl ?_
    refine g_pick [0, 1, 2, 3, 4, 5] (lv' := [(5, .int (nI 0)), (4, .int (-6)), (0, .ref (L b)), (1, .int (nI a)), (2, .int (nI g)), (3, .int (nI (bitsN m 8)))]) rfl ?_
    refine lp_X3_nextBridge hb hX ho (dd := 99) ha hg (fun v hv => ⟨fun q => absurd q (nx_67.1 v hv), fun q => by omega⟩) nx_67.2 (qi ?_ h) 8 0 rfl (fun j hj => absurd hj (Nat.not_lt_zero j))
    unfold nxR
    rw [dN_sym X m a g] at h4
    rw [nx_bad (fun v _ => by omega), if_neg (by omega), if_neg (fun q => h4 q.2)]
def bwR (X : XT) (m : Nat → Bool) (a g : Nat) (i : Int32) : Int32 := if dN X m g a < 6 then (if ix (dN X m g a) i < dN X m g a then nI (nbX X m g (atX X m g a (ix (dN X m g a) i))) else -6) else -6
theorem nx_two {X : XT} {m : Nat → Bool} {a g : Nat} {P : Int32 → Prop} (ho : okX X) (hg : g < 6) (ht : 0 < dN X m g a → dN X m g a < 6 → nbX X m g a < 8 → P (nI (nbX X m g a))) (hf : ¬ (0 < dN X m g a ∧ dN X m g a < 6) → P (-6)) : P (nxR X m a g) := by
  unfold nxR
  by_cases h : 0 < dN X m g a ∧ dN X m g a < 6
  · rw [if_pos h]; exact ht h.1 h.2 (nb_ex ho hg h.2 h.1).1
  · rw [if_neg h]; exact hf h
theorem at_s (X : XT) (m : Nat → Bool) (g a k : Nat) : atX X m g a (k + 1) = x_lo X (nbX X m g (atX X m g a k)) + x_hi X (nbX X m g (atX X m g a k)) - atX X m g a k := rfl
/-- an int against a small number -/
theorem i_cmp (i : Int32) {k : Nat} (hk : k < 7) : (nI k ≤ i → ∃ j, j < 2 ^ 31 ∧ k ≤ j ∧ i = nI j) ∧ (¬ nI k ≤ i → i.toInt < (k : Int)) := by
  have e : (nI k).toInt = (k : Int) := nI_toInt (by omega)
  refine ⟨fun h => ?_, fun h => ?_⟩
  · rw [fa_le, e] at h
    have h0 : (0 : Int32).toInt = 0 := by decide +kernel
    obtain ⟨j, hj, rfl⟩ := nI_of (x := i) (fun q => by rw [fa_lt, h0] at q; omega)
    rw [nI_toInt hj] at h
    exact ⟨j, hj, by omega, rfl⟩
  · rw [fa_le, e] at h; omega
theorem ix_small {n : Nat} {i : Int32} {k : Nat} (h : i.toInt < (k : Int)) (hk : k ≤ n) (hx : ix n i < n) : ix n i < k := by
  unfold ix at hx ⊢
  split at hx
  · rename_i c; rw [if_pos c]; omega
  · omega
theorem bw_lt {X : XT} {m : Nat → Bool} {a g k : Nat} {i : Int32} (hd : dN X m g a < 6) (hk : k ≤ dN X m g a) (hs : ∀ j, j < k → nI j ≤ i) (hi : ¬ nI k ≤ i) : tdX X m g a k = bwR X m a g i := by
  have h1 := (i_cmp i (show k < 7 by omega)).2 hi
  unfold bwR
  rw [if_pos hd]
  cases k with
  | zero =>
    rw [if_neg (fun q => by have := ix_small h1 (Nat.zero_le _) q; omega)]; rfl
  | succ k =>
    obtain ⟨j, hj, h2, rfl⟩ := (i_cmp i (show k < 7 by omega)).1 (hs k (by omega))
    rw [nI_toInt hj] at h1
    have : j = k := by omega
    subst this
    rw [ix_nI (by omega) (by omega), if_pos (by omega)]
    rfl
theorem bw_end {X : XT} {m : Nat → Bool} {a g : Nat} {i : Int32} (h : ¬ dN X m g a < 6 ∨ nI (dN X m g a) ≤ i) : (-6 : Int32) = bwR X m a g i := by
  unfold bwR
  by_cases hd : dN X m g a < 6
  · rw [if_pos hd]
    rcases h with h | h
    · exact absurd hd h
    · obtain ⟨j, hj, h2, rfl⟩ := (i_cmp i (show dN X m g a < 7 by omega)).1 h
      rw [if_neg (ix_no (fun p hp e => by
        have := (nI_eq hj (by omega)).mp e
        omega))]
  · rw [if_neg hd]
set_option maxHeartbeats 4000000 in
set_option maxRecDepth 20000 in
theorem lp_X3_bridgeOfWay {l : Launch} {D : gE} {L : Nat → Nat} {σ : St} {Q : Option Value → va_W → Prop} {d : Nat} {b : Nat} (hb : tn σ b) {X : XT} (hX : rzT σ b X) (ho : okX X) {m : Nat → Bool} {a g : Nat} {i : Int32} (ha : a < 6) (hg : g < 6) (hd : dN X m g a < 6) (h : Q (some (.int (bwR X m a g i))) (wsOf D L σ)) : ∀ n_ k, k + n_ = 6 → k ≤ dN X m g a → (∀ j, j < k → nI j ≤ i) → G l D yX3_bridgeOfWay cX3_bridgeOfWay 8 (some .int) (rr (d + 4)) Q 0 0 10 [(7, .int (nI k)), (6, .int (tdX X m g a k)), (5, .int (nI (atX X m g a k))), (0, .ref (L b)), (1, .int (nI a)), (2, .int (nI g)), (3, .int (nI (bitsN m 8))), (4, .int i)] [] (wsOf D L σ) := by
  intro n_
  induction n_ with
  | zero =>
    intro k hct hk hs
    obtain rfl : k = 6 := by omega
    refine g_iload dX3_bridgeOfWay_10 0 rfl ?_
    refine g_iload dX3_bridgeOfWay_12 7 rfl ?_
    refine g_icmpgt 60 dX3_bridgeOfWay_14 (by decide) (fun h14 => ?_) (fun h14 => ?_)
    · refine g_iload dX3_bridgeOfWay_60 1 rfl ?_
      exact g_ireturn dX3_bridgeOfWay_62 (Nat.le_refl _) (Nat.le_refl _) (absurd hk (by omega))
    · refine g_iload dX3_bridgeOfWay_17 0 rfl ?_
      refine g_bipush dX3_bridgeOfWay_19 bp_6 ?_
      refine n_icmpge 60 dX3_bridgeOfWay_21 (by decide) (by omega) (by omega) (fun h21 => ?_) (fun h21 => absurd h21 (by omega))
      refine g_iload dX3_bridgeOfWay_60 1 rfl ?_
      exact g_ireturn dX3_bridgeOfWay_62 (Nat.le_refl _) (Nat.le_refl _) (absurd hk (by omega))
  | succ n_ ih =>
    intro k hct hk hs
    have hat := at_ok ho hg ha hd k hk
    refine g_iload dX3_bridgeOfWay_10 0 rfl ?_
    refine g_iload dX3_bridgeOfWay_12 7 rfl ?_
    refine g_icmpgt 60 dX3_bridgeOfWay_14 (by decide) (fun h14 => ?_) (fun h14 => ?_)
    · refine g_iload dX3_bridgeOfWay_60 1 rfl ?_
      exact g_ireturn dX3_bridgeOfWay_62 (Nat.le_refl _) (Nat.le_refl _) (qi (bw_lt hd hk hs (fun q => absurd h14 (Int32.not_lt.mpr q))) h)
    · refine g_iload dX3_bridgeOfWay_17 0 rfl ?_
      refine g_bipush dX3_bridgeOfWay_19 bp_6 ?_
      refine n_icmpge 60 dX3_bridgeOfWay_21 (by decide) (by omega) (by omega) (fun h21 => absurd h21 (by omega)) (fun h21 => ?_)
      refine g_aload_n dX3_bridgeOfWay_24 rfl 3 rfl ?_
      refine g_iload dX3_bridgeOfWay_25 2 rfl ?_
      refine g_iload_n dX3_bridgeOfWay_27 rfl 5 rfl ?_
      refine g_iload_n dX3_bridgeOfWay_28 rfl 6 rfl ?_
      refine g_callV (As := [.int (nI (atX X m g a k)), .int (nI g), .int (nI (bitsN m 8))]) km_X3_122 ky_X3_nextBridge ki_X3_nextBridge (by decide) b (at_tn hb) rfl rfl (Nat.le_of_ble_eq_true rfl) dX3_bridgeOfWay_29 rfl (c_X3_nextBridge hb hX ho hat.1 hg (nx_two (P := fun v => G l D yX3_bridgeOfWay cX3_bridgeOfWay 8 (some .int) (rr (d + 4)) Q 0 0 32 [(7, .int (nI k)), (6, .int (tdX X m g a k)), (5, .int (nI (atX X m g a k))), (0, .ref (L b)), (1, .int (nI a)), (2, .int (nI g)), (3, .int (nI (bitsN m 8))), (4, .int i)] (.int v :: []) (wsOf D L σ)) ho hg (fun h0 h6 h8 => ?_) (fun h0 => ?_)))
      · refine g_istore (lv' := [(6, .int (nI (nbX X m g (atX X m g a k)))), (7, .int (nI k)), (5, .int (nI (atX X m g a k))), (0, .ref (L b)), (1, .int (nI a)), (2, .int (nI g)), (3, .int (nI (bitsN m 8))), (4, .int i)]) dX3_bridgeOfWay_32 (by decide) rfl ?_
        refine g_iload dX3_bridgeOfWay_34 0 rfl ?_
        refine g_bipush dX3_bridgeOfWay_36 bp_m6 ?_
        refine g_icmpne 44 dX3_bridgeOfWay_38 (by decide) (fun h38 => ?_) (fun h38 => absurd h38 (nI_n6 (by omega)))
        refine g_aload_n dX3_bridgeOfWay_44 rfl 3 rfl ?_
        refine g_iload dX3_bridgeOfWay_45 0 rfl ?_
        refine g_iload dX3_bridgeOfWay_47 2 rfl ?_
        refine g_callV (As := [.int (nI (nbX X m g (atX X m g a k))), .int (nI (atX X m g a k))]) km_X3_125 ky_X3_otherEnd ki_X3_otherEnd (by decide) b (at_tn hb) rfl rfl (Nat.le_of_ble_eq_true rfl) dX3_bridgeOfWay_49 rfl (c_X3_otherEnd hb hX ho (by omega) hat.1 ?_)
        refine g_tope (z := nI (atX X m g a (k + 1))) (by rw [oe_is (lds_at (nb_ex ho hg h6 h0).2).2.1, at_s]) ?_
        refine g_istore (lv' := [(5, .int (nI (atX X m g a (k + 1)))), (6, .int (nI (nbX X m g (atX X m g a k)))), (7, .int (nI k)), (0, .ref (L b)), (1, .int (nI a)), (2, .int (nI g)), (3, .int (nI (bitsN m 8))), (4, .int i)]) dX3_bridgeOfWay_52 (by decide) rfl ?_
        refine g_iinc (v := nI (k + 1)) (lv' := [(7, .int (nI (k + 1))), (5, .int (nI (atX X m g a (k + 1)))), (6, .int (nI (nbX X m g (atX X m g a k)))), (0, .ref (L b)), (1, .int (nI a)), (2, .int (nI g)), (3, .int (nI (bitsN m 8))), (4, .int i)]) dX3_bridgeOfWay_54 2 rfl (inc_n _) (by decide) rfl ?_
        refine g_goto 10 dX3_bridgeOfWay_57 (by decide) ?_
        refine g_pick [0, 2, 1, 3, 4, 5, 6, 7] (lv' := [(7, .int (nI (k + 1))), (6, .int (nI (nbX X m g (atX X m g a k)))), (5, .int (nI (atX X m g a (k + 1)))), (0, .ref (L b)), (1, .int (nI a)), (2, .int (nI g)), (3, .int (nI (bitsN m 8))), (4, .int i)]) rfl ?_
        exact ih (k + 1) (by omega) (by omega) (fun j hj => by by_cases c : j = k; rw [c]; exact Int32.not_lt.mp h14; exact hs j (by omega))
      · refine g_istore (lv' := [(6, .int (-6)), (7, .int (nI k)), (5, .int (nI (atX X m g a k))), (0, .ref (L b)), (1, .int (nI a)), (2, .int (nI g)), (3, .int (nI (bitsN m 8))), (4, .int i)]) dX3_bridgeOfWay_32 (by decide) rfl ?_
        refine g_iload dX3_bridgeOfWay_34 0 rfl ?_
        refine g_bipush dX3_bridgeOfWay_36 bp_m6 ?_
        refine g_icmpne 44 dX3_bridgeOfWay_38 (by decide) (fun h38 => absurd h38 (by decide +kernel)) (fun h38 => ?_)
        refine g_bipush dX3_bridgeOfWay_41 bp_m6 ?_
        exact g_ireturn dX3_bridgeOfWay_43 (Nat.le_refl _) (Nat.le_refl _) (qi (bw_end (Or.inr (by rw [show dN X m g a = k by omega]; exact Int32.not_lt.mp h14))) h)
set_option maxHeartbeats 4000000 in
set_option maxRecDepth 20000 in
theorem c_X3_bridgeOfWay {l : Launch} {D : gE} {L : Nat → Nat} {σ : St} {Q : Option Value → va_W → Prop} {d : Nat} {b : Nat} (hb : tn σ b) {X : XT} (hX : rzT σ b X) (ho : okX X) {m : Nat → Bool} {a g : Nat} {i : Int32} (ha : a < 6) (hg : g < 6) (hd : dN X m g a < 6) (h : Q (some (.int (bwR X m a g i))) (wsOf D L σ)) : Ctr l D yX3_bridgeOfWay cX3_bridgeOfWay 8 (some .int) (rr (d + 4)) [.ref (L b), .int (nI a), .int (nI g), .int (nI (bitsN m 8)), .int i] (wsOf D L σ) Q := by
  refine g_start ky_X3_bridgeOfWay (Nat.le_of_ble_eq_true rfl) ?_
  refine g_pick [0, 1, 2, 3, 4] (lv' := [(0, .ref (L b)), (1, .int (nI a)), (2, .int (nI g)), (3, .int (nI (bitsN m 8))), (4, .int i)]) rfl ?_
  refine g_iload_n dX3_bridgeOfWay_0 rfl 1 rfl ?_
  refine g_tope (z := nI (atX X m g a 0)) (rfl) ?_
  refine g_istore (lv' := [(5, .int (nI (atX X m g a 0))), (0, .ref (L b)), (1, .int (nI a)), (2, .int (nI g)), (3, .int (nI (bitsN m 8))), (4, .int i)]) dX3_bridgeOfWay_1 (by decide) rfl ?_
  refine g_bipush dX3_bridgeOfWay_3 bp_m6 ?_
  refine g_tope (z := tdX X m g a 0) (rfl) ?_
  refine g_istore (lv' := [(6, .int (tdX X m g a 0)), (5, .int (nI (atX X m g a 0))), (0, .ref (L b)), (1, .int (nI a)), (2, .int (nI g)), (3, .int (nI (bitsN m 8))), (4, .int i)]) dX3_bridgeOfWay_5 (by decide) rfl ?_
  refine g_iconst dX3_bridgeOfWay_7 ci_0 ?_
  refine g_istore (lv' := [(7, .int (nI 0)), (6, .int (tdX X m g a 0)), (5, .int (nI (atX X m g a 0))), (0, .ref (L b)), (1, .int (nI a)), (2, .int (nI g)), (3, .int (nI (bitsN m 8))), (4, .int i)]) dX3_bridgeOfWay_8 (by decide) rfl ?_
  refine g_pick [0, 1, 2, 3, 4, 5, 6, 7] (lv' := [(7, .int (nI 0)), (6, .int (tdX X m g a 0)), (5, .int (nI (atX X m g a 0))), (0, .ref (L b)), (1, .int (nI a)), (2, .int (nI g)), (3, .int (nI (bitsN m 8))), (4, .int i)]) rfl ?_
  exact lp_X3_bridgeOfWay hb hX ho ha hg hd h 6 0 rfl (Nat.zero_le _) (fun j hj => absurd hj (Nat.not_lt_zero j))
