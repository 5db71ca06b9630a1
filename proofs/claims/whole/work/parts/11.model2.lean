theorem pop_step : ∀ a, a < 256 → a ≠ 0 → pop (a &&& (a - 1)) + 1 = pop a ∧ a &&& (a - 1) < 256 := by decide +kernel
theorem pop_zero : ∀ a, a < 256 → pop a = 0 → a = 0 := by decide +kernel
theorem pop_le (a : Nat) : pop a ≤ 8 := cntN_le _ 8
def beX (X : XT) (w : Nat) (b : Nat) : Bool := x_br X b && decide (w ≤ x_ld X b)
theorem be_t {X : XT} {w b : Nat} (h : x_br X b = true) (h2 : w ≤ x_ld X b) : beX X w b = true := by simp [beX, h, h2]
theorem be_f1 {X : XT} {w b : Nat} (h : x_br X b = false) : beX X w b = false := by simp [beX, h]
theorem be_f2 {X : XT} {w b : Nat} (h2 : x_ld X b < w) : beX X w b = false := by simp [beX]; intro _; omega
theorem sm_t {X : XT} {p k : Nat} {f : Nat → Bool} (h : f k = true) (h2 : x_kn X p k = true) : smX X p f k + hvX X p k (kcX X k) = smX X p f (k + 1) := by
  simp only [smX, sumN, h, if_true, hwX, h2, Bool.not_true, b2n_f, Nat.add_zero]
theorem sm_f {X : XT} {p k : Nat} {f : Nat → Bool} (h : f k = false) : smX X p f k = smX X p f (k + 1) := by
  simp [smX, sumN, h]
theorem zI_toNat {z : Int} (h : 0 ≤ z) : zI z = nI z.toNat := by rw [← zI_nat, Int.toNat_of_nonneg h]
theorem zI_toNat0 {z : Int} (h : z ≤ 0) : nI 0 = nI z.toNat := by rw [Int.toNat_eq_zero.mpr h]
theorem qi {Q : Option Value → va_W → Prop} {ws : va_W} {a b : Int32} (e : a = b) (h : Q (some (.int b)) ws) : Q (some (.int a)) ws := e ▸ h
theorem ql {Q : Option Value → va_W → Prop} {ws : va_W} {a b : Int64} (e : a = b) (h : Q (some (.long b)) ws) : Q (some (.long a)) ws := e ▸ h
theorem nI_zI (n : Nat) : nI n = zI (n : Int) := (zI_nat n).symm
set_option maxHeartbeats 4000000 in
theorem lp_X5_ones {l : Launch} {D : gE} {L : Nat → Nat} {σ : St} {Q : Option Value → va_W → Prop} {d : Nat} {tot : Nat} (h : Q (some (.int (nI tot))) (wsOf D L σ)) : ∀ m a c, a < 256 → pop a = m → c + m = tot → G l D yX5_ones cX5_ones 3 (some .int) (rr d) Q 0 0 4 [(2, .int (nI a)), (1, .int (nI c))] [] (wsOf D L σ) := by
  intro m
  induction m with
  | zero =>
    intro a c ha hp hc
    refine g_iload_n dX5_ones_4 rfl 0 rfl ?_
    refine n_ifeq 20 dX5_ones_5 (by decide) (by omega) (fun h5 => ?_) (fun h5 => absurd (pop_zero a ha hp) h5)
    refine g_iload_n dX5_ones_20 rfl 1 rfl ?_
    exact g_ireturn dX5_ones_21 (Nat.le_refl _) (Nat.le_refl _) (by rw [show c = tot by omega]; exact h)
  | succ m ih =>
    intro a c ha hp hc
    refine g_iload_n dX5_ones_4 rfl 0 rfl ?_
    refine n_ifeq 20 dX5_ones_5 (by decide) (by omega) (fun h5 => absurd hp (by rw [h5, show pop 0 = 0 from by decide +kernel]; omega)) (fun h5 => ?_)
    refine g_iinc (v := nI (c + 1)) (lv' := [(1, .int (nI (c + 1))), (2, .int (nI a))]) dX5_ones_8 1 rfl (inc_n _) (by decide) rfl ?_
    refine g_iload_n dX5_ones_11 rfl 1 rfl ?_
    refine g_iload_n dX5_ones_12 rfl 1 rfl ?_
    refine g_iconst dX5_ones_13 ci_1 ?_
    refine g_isub dX5_ones_14 ?_
    refine g_tope (z := nI (a - 1)) (pk_sub (by omega)) ?_
    refine g_iand dX5_ones_15 ?_
    refine g_tope (z := nI (a &&& (a - 1))) (fa_and _ _) ?_
    refine g_istore_n (lv' := [(2, .int (nI (a &&& (a - 1)))), (1, .int (nI (c + 1)))]) dX5_ones_16 rfl (by decide) rfl ?_
    refine g_goto 4 dX5_ones_17 (by decide) ?_
    have hs := pop_step a ha (by assumption)
    refine g_pick [0, 1] (lv' := [(2, .int (nI (a &&& (a - 1)))), (1, .int (nI (c + 1)))]) rfl ?_
    exact ih _ (c + 1) hs.2 (by omega) (by omega)
set_option maxHeartbeats 4000000 in
set_option maxRecDepth 20000 in
theorem c_X5_ones {l : Launch} {D : gE} {L : Nat → Nat} {σ : St} {Q : Option Value → va_W → Prop} {d : Nat} {a : Nat} (ha : a < 256) (h : Q (some (.int (nI (pop a)))) (wsOf D L σ)) : Ctr l D yX5_ones cX5_ones 3 (some .int) (rr d) [.int (nI a)] (wsOf D L σ) Q := by
  refine g_start ky_X5_ones (Nat.le_of_ble_eq_true rfl) ?_
  refine g_pick [0] (lv' := [(0, .int (nI a))]) rfl ?_
  refine g_iconst dX5_ones_0 ci_0 ?_
  refine g_istore_n (lv' := [(1, .int (nI 0)), (0, .int (nI a))]) dX5_ones_1 rfl (by decide) rfl ?_
  refine g_iload_n dX5_ones_2 rfl 1 rfl ?_
  refine g_istore_n (lv' := [(2, .int (nI a)), (1, .int (nI 0)), (0, .int (nI a))]) dX5_ones_3 rfl (by decide) rfl ?_
  refine g_pick [0, 1] (lv' := [(2, .int (nI a)), (1, .int (nI 0))]) rfl ?_
  exact lp_X5_ones h (pop a) a 0 ha rfl (by omega)
set_option maxHeartbeats 4000000 in
set_option maxRecDepth 20000 in
theorem c_X5_heavyBy {l : Launch} {D : gE} {L : Nat → Nat} {σ : St} {Q : Option Value → va_W → Prop} {d : Nat} {X : XT} (hX : rpM σ X) (ho : okX X) {p k n : Nat} (hp : p < 6) (hk : k < 8) (hn : 0 < n) (hn2 : n < 2 ^ 31) (h : Q (some (.int (zI (hvX X p k n)))) (wsOf D L σ)) : Ctr l D yX5_heavyBy cX5_heavyBy 5 (some .int) (rr d) [.ref (L 33), .int (nI p), .int (nI k), .int (nI n)] (wsOf D L σ) Q := by
  refine g_start ky_X5_heavyBy (Nat.le_of_ble_eq_true rfl) ?_
  refine g_pick [0, 1, 2, 3] (lv' := [(0, .ref (L 33)), (1, .int (nI p)), (2, .int (nI k)), (3, .int (nI n))]) rfl ?_
  have hw := ok_wt ho hk
  have hp2 := ok_p ho hp
  refine g_aload_n dX5_heavyBy_0 rfl 0 rfl ?_
  refine s_getM kf_X5_34 (by decide) rfl dX5_heavyBy_1 ?_
  refine g_iload_n dX5_heavyBy_4 rfl 2 rfl ?_
  refine s_ald (q := 42) (n := 8) (at_ia (q := 42) rfl) (by omega) (by decide) dX5_heavyBy_5 ?_
  refine g_tope (z := nI (x_ab X k)) (rpM_ab hX (by omega)) ?_
  refine g_aload_n dX5_heavyBy_6 rfl 0 rfl ?_
  refine s_getM kf_X5_25 (by decide) rfl dX5_heavyBy_7 ?_
  refine g_iload_n dX5_heavyBy_10 rfl 1 rfl ?_
  refine s_ald (q := 39) (n := 6) (at_ia (q := 39) rfl) (by omega) (by decide) dX5_heavyBy_11 ?_
  refine g_tope (z := nI (x_ki X p)) (rpM_ki hX (by omega)) ?_
  refine n_icmpne 19 dX5_heavyBy_12 (by decide) (by omega) (by omega) (fun h12 => ?_) (fun h12 => ?_)
  · refine g_iconst dX5_heavyBy_19 ci_1 ?_
    refine g_istore (lv' := [(4, .int (nI 1)), (0, .ref (L 33)), (1, .int (nI p)), (2, .int (nI k)), (3, .int (nI n))]) dX5_heavyBy_20 (by decide) rfl ?_
    refine g_aload_n dX5_heavyBy_22 rfl 1 rfl ?_
    refine s_getM kf_X5_112 (by decide) rfl dX5_heavyBy_23 ?_
    refine g_tope (z := nI (bitsN (x_pu X) 8)) (rpM_pu hX) ?_
    refine g_iload_n dX5_heavyBy_26 rfl 3 rfl ?_
    refine g_ishr dX5_heavyBy_27 ?_
    refine g_iconst dX5_heavyBy_28 ci_1 ?_
    refine g_iand dX5_heavyBy_29 ?_
    refine g_tope (z := nI (b2n ((x_pu X) k))) (gbB _ (by decide) (by omega)) ?_
    refine g_iconst dX5_heavyBy_30 ci_1 ?_
    refine b_icmpne 38 dX5_heavyBy_31 (by decide) (fun h31 => ?_) (fun h31 => ?_)
    · refine g_aload_n dX5_heavyBy_38 rfl 1 rfl ?_
      refine s_getM kf_X5_31 (by decide) rfl dX5_heavyBy_39 ?_
      refine g_iload_n dX5_heavyBy_42 rfl 3 rfl ?_
      refine s_ald (q := 41) (n := 8) (at_ia (q := 41) rfl) (by omega) (by decide) dX5_heavyBy_43 ?_
      refine g_tope (z := zI (x_wt X k)) (rpM_wt hX (by omega)) ?_
      refine g_iload dX5_heavyBy_44 0 rfl ?_
      refine g_imul dX5_heavyBy_46 ?_
      refine g_tope (z := zI ((x_wt X k) * 1)) (by rw [show nI 1 = zI 1 from by decide +kernel]; exact zI_mul _ _) ?_
      refine g_iload_n dX5_heavyBy_47 rfl 4 rfl ?_
      refine g_idiv dX5_heavyBy_48 (nI_ne0 (by omega) (by omega)) ?_
      refine g_tope (z := zI (((x_wt X k) * 1).tdiv (n : Int))) (by rw [nI_zI n]; exact zI_div (by omega) (by omega) (by omega)) ?_
      exact g_ireturn dX5_heavyBy_49 (Nat.le_refl _) (Nat.le_refl _) (qi (by unfold hvX; rw [if_neg (by rw [h31]; decide), if_neg h12]) h)
    · refine g_iconst dX5_heavyBy_34 ci_0 ?_
      refine g_goto 49 dX5_heavyBy_35 (by decide) ?_
      exact g_ireturn dX5_heavyBy_49 (Nat.le_refl _) (Nat.le_refl _) (qi (by unfold hvX; rw [if_pos h31]; rfl) h)
  · refine g_iconst dX5_heavyBy_15 ci_2 ?_
    refine g_goto 20 dX5_heavyBy_16 (by decide) ?_
    refine g_istore (lv' := [(4, .int (nI 2)), (0, .ref (L 33)), (1, .int (nI p)), (2, .int (nI k)), (3, .int (nI n))]) dX5_heavyBy_20 (by decide) rfl ?_
    refine g_aload_n dX5_heavyBy_22 rfl 1 rfl ?_
    refine s_getM kf_X5_112 (by decide) rfl dX5_heavyBy_23 ?_
    refine g_tope (z := nI (bitsN (x_pu X) 8)) (rpM_pu hX) ?_
    refine g_iload_n dX5_heavyBy_26 rfl 3 rfl ?_
    refine g_ishr dX5_heavyBy_27 ?_
    refine g_iconst dX5_heavyBy_28 ci_1 ?_
    refine g_iand dX5_heavyBy_29 ?_
    refine g_tope (z := nI (b2n ((x_pu X) k))) (gbB _ (by decide) (by omega)) ?_
    refine g_iconst dX5_heavyBy_30 ci_1 ?_
    refine b_icmpne 38 dX5_heavyBy_31 (by decide) (fun h31 => ?_) (fun h31 => ?_)
    · refine g_aload_n dX5_heavyBy_38 rfl 1 rfl ?_
      refine s_getM kf_X5_31 (by decide) rfl dX5_heavyBy_39 ?_
      refine g_iload_n dX5_heavyBy_42 rfl 3 rfl ?_
      refine s_ald (q := 41) (n := 8) (at_ia (q := 41) rfl) (by omega) (by decide) dX5_heavyBy_43 ?_
      refine g_tope (z := zI (x_wt X k)) (rpM_wt hX (by omega)) ?_
      refine g_iload dX5_heavyBy_44 0 rfl ?_
      refine g_imul dX5_heavyBy_46 ?_
      refine g_tope (z := zI ((x_wt X k) * 2)) (by rw [show nI 2 = zI 2 from by decide +kernel]; exact zI_mul _ _) ?_
      refine g_iload_n dX5_heavyBy_47 rfl 4 rfl ?_
      refine g_idiv dX5_heavyBy_48 (nI_ne0 (by omega) (by omega)) ?_
      refine g_tope (z := zI (((x_wt X k) * 2).tdiv (n : Int))) (by rw [nI_zI n]; exact zI_div (by omega) (by omega) (by omega)) ?_
      exact g_ireturn dX5_heavyBy_49 (Nat.le_refl _) (Nat.le_refl _) (qi (by unfold hvX; rw [if_neg (by rw [h31]; decide), if_pos h12]) h)
    · refine g_iconst dX5_heavyBy_34 ci_0 ?_
      refine g_goto 49 dX5_heavyBy_35 (by decide) ?_
      exact g_ireturn dX5_heavyBy_49 (Nat.le_refl _) (Nat.le_refl _) (qi (by unfold hvX; rw [if_pos h31]; rfl) h)
set_option maxHeartbeats 4000000 in
set_option maxRecDepth 20000 in
theorem lp_X5_sumOf {l : Launch} {D : gE} {L : Nat → Nat} {σ : St} {Q : Option Value → va_W → Prop} {d : Nat} {X : XT} (hX : rpM σ X) (ho : okX X) {p : Nat} (hp : p < 6) {f : Nat → Bool} (hf : ∀ k, k < 8 → f k = true → x_kn X p k = true) (h : Q (some (.int (zI (smX X p f 8)))) (wsOf D L σ)) : ∀ n k, k + n = 8 → G l D yX5_sumOf cX5_sumOf 5 (some .int) (rr (d + 3)) Q 0 0 5 [(4, .int (nI k)), (3, .int (zI (smX X p f k))), (0, .ref (L 33)), (1, .int (nI p)), (2, .int (nI (bitsN f 8)))] [] (wsOf D L σ) := by
  intro n
  induction n with
  | zero =>
    intro k hct
    obtain rfl : k = 8 := by omega
    refine g_iload dX5_sumOf_5 0 rfl ?_
    refine g_bipush dX5_sumOf_7 bp_8 ?_
    refine n_icmpge 48 dX5_sumOf_9 (by decide) (by omega) (by omega) (fun h9 => ?_) (fun h9 => absurd h9 (by omega))
    refine g_iload_n dX5_sumOf_48 rfl 1 rfl ?_
    exact g_ireturn dX5_sumOf_49 (Nat.le_refl _) (Nat.le_refl _) (h)
  | succ n ih =>
    intro k hct
    refine g_iload dX5_sumOf_5 0 rfl ?_
    refine g_bipush dX5_sumOf_7 bp_8 ?_
    refine n_icmpge 48 dX5_sumOf_9 (by decide) (by omega) (by omega) (fun h9 => absurd h9 (by omega)) (fun h9 => ?_)
    refine g_iload_n dX5_sumOf_12 rfl 1 rfl ?_
    refine g_iload_n dX5_sumOf_13 rfl 4 rfl ?_
    refine g_iload dX5_sumOf_14 0 rfl ?_
    refine g_ishr dX5_sumOf_16 ?_
    refine g_iconst dX5_sumOf_17 ci_1 ?_
    refine g_iand dX5_sumOf_18 ?_
    refine g_tope (z := nI (b2n (f k))) (gbB _ (by decide) (by omega)) ?_
    refine g_iconst dX5_sumOf_19 ci_1 ?_
    refine b_icmpne 39 dX5_sumOf_20 (by decide) (fun h20 => ?_) (fun h20 => ?_)
    · refine g_iconst dX5_sumOf_39 ci_0 ?_
      refine g_iadd dX5_sumOf_40 ?_
      refine g_tope (z := zI (smX X p f (k + 1))) (by rw [show nI 0 = zI 0 from rfl, zI_add, Int.add_zero, sm_f h20]) ?_
      refine g_istore_n (lv' := [(3, .int (zI (smX X p f (k + 1)))), (4, .int (nI k)), (0, .ref (L 33)), (1, .int (nI p)), (2, .int (nI (bitsN f 8)))]) dX5_sumOf_41 rfl (by decide) rfl ?_
      refine g_iinc (v := nI (k + 1)) (lv' := [(4, .int (nI (k + 1))), (3, .int (zI (smX X p f (k + 1)))), (0, .ref (L 33)), (1, .int (nI p)), (2, .int (nI (bitsN f 8)))]) dX5_sumOf_42 1 rfl (inc_n _) (by decide) rfl ?_
      refine g_goto 5 dX5_sumOf_45 (by decide) ?_
      refine g_pick [0, 1, 2, 3, 4] (lv' := [(4, .int (nI (k + 1))), (3, .int (zI (smX X p f (k + 1)))), (0, .ref (L 33)), (1, .int (nI p)), (2, .int (nI (bitsN f 8)))]) rfl ?_
      exact ih (k + 1) (by omega)
    · refine g_aload_n dX5_sumOf_23 rfl 2 rfl ?_
      refine g_iload_n dX5_sumOf_24 rfl 3 rfl ?_
      refine g_iload dX5_sumOf_25 0 rfl ?_
      refine g_aload_n dX5_sumOf_27 rfl 2 rfl ?_
      refine g_iload dX5_sumOf_28 0 rfl ?_
      have hkp := kc_pos (X := X) hp (hf k (by omega) h20)
      have hkl := kc_le X k
      refine g_callV (As := [.int (nI k)]) km_X5_195 ky_X5_knowers ki_X5_knowers (by decide) 33 at_33 rfl rfl (Nat.le_of_ble_eq_true rfl) dX5_sumOf_30 rfl (c_X5_knowers hX ho (by omega) ?_)
      refine g_callV (As := [.int (nI p), .int (nI k), .int (nI (kcX X k))]) km_X5_198 ky_X5_heavyBy ki_X5_heavyBy (by decide) 33 at_33 rfl rfl (Nat.le_of_ble_eq_true rfl) dX5_sumOf_33 rfl (c_X5_heavyBy hX ho (by omega) (by omega) (by omega) (by omega) ?_)
      refine g_goto 40 dX5_sumOf_36 (by decide) ?_
      refine g_iadd dX5_sumOf_40 ?_
      refine g_tope (z := zI (smX X p f (k + 1))) (by rw [zI_add, sm_t h20 (hf k (by omega) h20)]) ?_
      refine g_istore_n (lv' := [(3, .int (zI (smX X p f (k + 1)))), (4, .int (nI k)), (0, .ref (L 33)), (1, .int (nI p)), (2, .int (nI (bitsN f 8)))]) dX5_sumOf_41 rfl (by decide) rfl ?_
      refine g_iinc (v := nI (k + 1)) (lv' := [(4, .int (nI (k + 1))), (3, .int (zI (smX X p f (k + 1)))), (0, .ref (L 33)), (1, .int (nI p)), (2, .int (nI (bitsN f 8)))]) dX5_sumOf_42 1 rfl (inc_n _) (by decide) rfl ?_
      refine g_goto 5 dX5_sumOf_45 (by decide) ?_
      refine g_pick [0, 1, 2, 3, 4] (lv' := [(4, .int (nI (k + 1))), (3, .int (zI (smX X p f (k + 1)))), (0, .ref (L 33)), (1, .int (nI p)), (2, .int (nI (bitsN f 8)))]) rfl ?_
      exact ih (k + 1) (by omega)
set_option maxHeartbeats 4000000 in
set_option maxRecDepth 20000 in
theorem c_X5_sumOf {l : Launch} {D : gE} {L : Nat → Nat} {σ : St} {Q : Option Value → va_W → Prop} {d : Nat} {X : XT} (hX : rpM σ X) (ho : okX X) {p : Nat} (hp : p < 6) {f : Nat → Bool} (hf : ∀ k, k < 8 → f k = true → x_kn X p k = true) (h : Q (some (.int (zI (smX X p f 8)))) (wsOf D L σ)) : Ctr l D yX5_sumOf cX5_sumOf 5 (some .int) (rr (d + 3)) [.ref (L 33), .int (nI p), .int (nI (bitsN f 8))] (wsOf D L σ) Q := by
  refine g_start ky_X5_sumOf (Nat.le_of_ble_eq_true rfl) ?_
  refine g_pick [0, 1, 2] (lv' := [(0, .ref (L 33)), (1, .int (nI p)), (2, .int (nI (bitsN f 8)))]) rfl ?_
  refine g_iconst dX5_sumOf_0 ci_0 ?_
  refine g_tope (z := zI (smX X p f 0)) rfl ?_
  refine g_istore_n (lv' := [(3, .int (zI (smX X p f 0))), (0, .ref (L 33)), (1, .int (nI p)), (2, .int (nI (bitsN f 8)))]) dX5_sumOf_1 rfl (by decide) rfl ?_
  refine g_iconst dX5_sumOf_2 ci_0 ?_
  refine g_istore (lv' := [(4, .int (nI 0)), (3, .int (zI (smX X p f 0))), (0, .ref (L 33)), (1, .int (nI p)), (2, .int (nI (bitsN f 8)))]) dX5_sumOf_3 (by decide) rfl ?_
  refine g_pick [0, 1, 2, 3, 4] (lv' := [(4, .int (nI 0)), (3, .int (zI (smX X p f 0))), (0, .ref (L 33)), (1, .int (nI p)), (2, .int (nI (bitsN f 8)))]) rfl ?_
  exact lp_X5_sumOf hX ho hp hf h 8 0 rfl
set_option maxHeartbeats 4000000 in
set_option maxRecDepth 20000 in
theorem c_X5_carriedBy {l : Launch} {D : gE} {L : Nat → Nat} {σ : St} {Q : Option Value → va_W → Prop} {d : Nat} {X : XT} (hX : rpM σ X) (ho : okX X) {p : Nat} (hp : p < 6) (hth : x_th X p = true) (h : Q (some (.int (nI (buX X p)))) (wsOf D L σ)) : Ctr l D yX5_carriedBy cX5_carriedBy 3 (some .int) (rr (d + 4)) [.ref (L 33), .int (nI p)] (wsOf D L σ) Q := by
  refine g_start ky_X5_carriedBy (Nat.le_of_ble_eq_true rfl) ?_
  refine g_pick [0, 1] (lv' := [(0, .ref (L 33)), (1, .int (nI p))]) rfl ?_
  have hs := sm_bd ho (p := p) (s := x_kn X p) (n := 8) (Nat.le_refl 8)
  refine g_aload_n dX5_carriedBy_0 rfl 0 rfl ?_
  refine g_iload_n dX5_carriedBy_1 rfl 1 rfl ?_
  refine g_aload_n dX5_carriedBy_2 rfl 0 rfl ?_
  refine s_getM kf_X5_28 (by decide) rfl dX5_carriedBy_3 ?_
  refine g_iload_n dX5_carriedBy_6 rfl 1 rfl ?_
  refine s_ald (q := 40) (n := 6) (at_ia (q := 40) rfl) (by omega) (by decide) dX5_carriedBy_7 ?_
  refine g_tope (z := nI (bitsN (x_kn X p) 8)) (rpM_kn hX (by omega) (by assumption)) ?_
  refine g_callV (As := [.int (nI p), .int (nI (bitsN (x_kn X p) 8))]) km_X5_202 ky_X5_sumOf ki_X5_sumOf (by decide) 33 at_33 rfl rfl (Nat.le_of_ble_eq_true rfl) dX5_carriedBy_8 rfl (c_X5_sumOf hX ho (by omega) (fun _ _ h => h) ?_)
  refine g_istore_n (lv' := [(2, .int (zI (smX X p (x_kn X p) 8))), (0, .ref (L 33)), (1, .int (nI p))]) dX5_carriedBy_11 rfl (by decide) rfl ?_
  refine g_iload_n dX5_carriedBy_12 rfl 0 rfl ?_
  refine z_ifle 20 dX5_carriedBy_13 (by decide) (by omega) (fun h13 => ?_) (fun h13 => ?_)
  · refine g_iconst dX5_carriedBy_20 ci_0 ?_
    exact g_ireturn dX5_carriedBy_21 (Nat.le_refl _) (Nat.le_refl _) (by rw [zI_toNat0 h13]; exact h)
  · refine g_iload_n dX5_carriedBy_16 rfl 0 rfl ?_
    refine g_goto 21 dX5_carriedBy_17 (by decide) ?_
    exact g_ireturn dX5_carriedBy_21 (Nat.le_refl _) (Nat.le_refl _) (by rw [zI_toNat (by omega)]; exact h)
set_option maxHeartbeats 4000000 in
set_option maxRecDepth 20000 in
theorem c_X5_least0 {l : Launch} {D : gE} {L : Nat → Nat} {σ : St} {Q : Option Value → va_W → Prop} {d : Nat} {z : Int} (hz : -2147483648 ≤ z ∧ z < 2147483648) (h : Q (some (.int (nI z.toNat))) (wsOf D L σ)) : Ctr l D yX5_least0 cX5_least0 1 (some .int) (rr d) [.int (zI z)] (wsOf D L σ) Q := by
  refine g_start ky_X5_least0 (Nat.le_of_ble_eq_true rfl) ?_
  refine g_pick [0] (lv' := [(0, .int (zI z))]) rfl ?_
  refine g_iload_n dX5_least0_0 rfl 0 rfl ?_
  refine z_ifle 8 dX5_least0_1 (by decide) (by omega) (fun h1 => ?_) (fun h1 => ?_)
  · refine g_iconst dX5_least0_8 ci_0 ?_
    exact g_ireturn dX5_least0_9 (Nat.le_refl _) (Nat.le_refl _) (by rw [zI_toNat0 h1]; exact h)
  · refine g_iload_n dX5_least0_4 rfl 0 rfl ?_
    refine g_goto 9 dX5_least0_5 (by decide) ?_
    exact g_ireturn dX5_least0_9 (Nat.le_refl _) (Nat.le_refl _) (by rw [zI_toNat (by omega)]; exact h)
set_option maxHeartbeats 4000000 in
set_option maxRecDepth 20000 in
theorem lp_X5_bearing {l : Launch} {D : gE} {L : Nat → Nat} {σ : St} {Q : Option Value → va_W → Prop} {d : Nat} {X : XT} (hX : rpM σ X) (ho : okX X) {w : Nat} (hw : w < 2 ^ 31) (h : Q (some (.int (nI (bitsN (beX X w) 8)))) (wsOf D L σ)) : ∀ n b, b + n = 8 → G l D yX5_bearing cX5_bearing 4 (some .int) (rr (d + 2)) Q 0 0 4 [(3, .int (nI b)), (2, .int (nI (bitsN (beX X w) b))), (0, .ref (L 33)), (1, .int (nI w))] [] (wsOf D L σ) := by
  intro n
  induction n with
  | zero =>
    intro b hct
    obtain rfl : b = 8 := by omega
    refine g_iload_n dX5_bearing_4 rfl 0 rfl ?_
    refine g_bipush dX5_bearing_5 bp_8 ?_
    refine n_icmpge 44 dX5_bearing_7 (by decide) (by omega) (by omega) (fun h7 => ?_) (fun h7 => absurd h7 (by omega))
    refine g_iload_n dX5_bearing_44 rfl 1 rfl ?_
    exact g_ireturn dX5_bearing_45 (Nat.le_refl _) (Nat.le_refl _) (h)
  | succ n ih =>
    intro b hct
    have hbb := ok_b ho (i := b) (by omega)
    refine g_iload_n dX5_bearing_4 rfl 0 rfl ?_
    refine g_bipush dX5_bearing_5 bp_8 ?_
    refine n_icmpge 44 dX5_bearing_7 (by decide) (by omega) (by omega) (fun h7 => absurd h7 (by omega)) (fun h7 => ?_)
    refine g_iload_n dX5_bearing_10 rfl 1 rfl ?_
    refine g_aload_n dX5_bearing_11 rfl 2 rfl ?_
    refine g_iload_n dX5_bearing_12 rfl 0 rfl ?_
    refine g_callV (As := [.int (nI b)]) km_X5_140 ky_X5_isBridge ki_X5_isBridge (by decide) 33 at_33 rfl rfl (Nat.le_of_ble_eq_true rfl) dX5_bearing_13 rfl (c_X5_isBridgeN hX (by omega) (fun h13 => ?_) (fun h13 => ?_))
    · refine t_ifeq1 (tgt := 35) dX5_bearing_16 (by decide) ?_
      refine g_aload_n dX5_bearing_19 rfl 2 rfl ?_
      refine s_getM kf_X5_16 (by decide) rfl dX5_bearing_20 ?_
      refine g_iload_n dX5_bearing_23 rfl 0 rfl ?_
      refine s_ald (q := 36) (n := 8) (at_ia (q := 36) rfl) (by omega) (by decide) dX5_bearing_24 ?_
      refine g_tope (z := nI (x_ld X b)) (rpM_ld hX (by omega)) ?_
      refine g_iload_n dX5_bearing_25 rfl 3 rfl ?_
      refine n_icmplt 35 dX5_bearing_26 (by decide) (by omega) (by omega) (fun h26 => ?_) (fun h26 => ?_)
      · refine g_iconst dX5_bearing_35 ci_0 ?_
        refine g_ior dX5_bearing_36 ?_
        refine g_tope (z := nI (bitsN (beX X w) (b + 1))) (by rw [or0]; exact obF _ (be_f2 h26)) ?_
        refine g_istore_n (lv' := [(2, .int (nI (bitsN (beX X w) (b + 1)))), (3, .int (nI b)), (0, .ref (L 33)), (1, .int (nI w))]) dX5_bearing_37 rfl (by decide) rfl ?_
        refine g_iinc (v := nI (b + 1)) (lv' := [(3, .int (nI (b + 1))), (2, .int (nI (bitsN (beX X w) (b + 1)))), (0, .ref (L 33)), (1, .int (nI w))]) dX5_bearing_38 1 rfl (inc_n _) (by decide) rfl ?_
        refine g_goto 4 dX5_bearing_41 (by decide) ?_
        refine g_pick [0, 1, 2, 3] (lv' := [(3, .int (nI (b + 1))), (2, .int (nI (bitsN (beX X w) (b + 1)))), (0, .ref (L 33)), (1, .int (nI w))]) rfl ?_
        exact ih (b + 1) (by omega)
      · refine g_iconst dX5_bearing_29 ci_1 ?_
        refine g_iload_n dX5_bearing_30 rfl 0 rfl ?_
        refine g_ishl dX5_bearing_31 ?_
        refine g_goto 36 dX5_bearing_32 (by decide) ?_
        refine g_ior dX5_bearing_36 ?_
        refine g_tope (z := nI (bitsN (beX X w) (b + 1))) (obT _ (by omega) (be_t h13 h26)) ?_
        refine g_istore_n (lv' := [(2, .int (nI (bitsN (beX X w) (b + 1)))), (3, .int (nI b)), (0, .ref (L 33)), (1, .int (nI w))]) dX5_bearing_37 rfl (by decide) rfl ?_
        refine g_iinc (v := nI (b + 1)) (lv' := [(3, .int (nI (b + 1))), (2, .int (nI (bitsN (beX X w) (b + 1)))), (0, .ref (L 33)), (1, .int (nI w))]) dX5_bearing_38 1 rfl (inc_n _) (by decide) rfl ?_
        refine g_goto 4 dX5_bearing_41 (by decide) ?_
        refine g_pick [0, 1, 2, 3] (lv' := [(3, .int (nI (b + 1))), (2, .int (nI (bitsN (beX X w) (b + 1)))), (0, .ref (L 33)), (1, .int (nI w))]) rfl ?_
        exact ih (b + 1) (by omega)
    · refine t_ifeq0 35 dX5_bearing_16 (by decide) ?_
      refine g_iconst dX5_bearing_35 ci_0 ?_
      refine g_ior dX5_bearing_36 ?_
      refine g_tope (z := nI (bitsN (beX X w) (b + 1))) (by rw [or0]; exact obF _ (be_f1 h13)) ?_
      refine g_istore_n (lv' := [(2, .int (nI (bitsN (beX X w) (b + 1)))), (3, .int (nI b)), (0, .ref (L 33)), (1, .int (nI w))]) dX5_bearing_37 rfl (by decide) rfl ?_
      refine g_iinc (v := nI (b + 1)) (lv' := [(3, .int (nI (b + 1))), (2, .int (nI (bitsN (beX X w) (b + 1)))), (0, .ref (L 33)), (1, .int (nI w))]) dX5_bearing_38 1 rfl (inc_n _) (by decide) rfl ?_
      refine g_goto 4 dX5_bearing_41 (by decide) ?_
      refine g_pick [0, 1, 2, 3] (lv' := [(3, .int (nI (b + 1))), (2, .int (nI (bitsN (beX X w) (b + 1)))), (0, .ref (L 33)), (1, .int (nI w))]) rfl ?_
      exact ih (b + 1) (by omega)
set_option maxHeartbeats 4000000 in
set_option maxRecDepth 20000 in
theorem c_X5_bearing {l : Launch} {D : gE} {L : Nat → Nat} {σ : St} {Q : Option Value → va_W → Prop} {d : Nat} {X : XT} (hX : rpM σ X) (ho : okX X) {w : Nat} (hw : w < 2 ^ 31) (h : Q (some (.int (nI (bitsN (beX X w) 8)))) (wsOf D L σ)) : Ctr l D yX5_bearing cX5_bearing 4 (some .int) (rr (d + 2)) [.ref (L 33), .int (nI w)] (wsOf D L σ) Q := by
  refine g_start ky_X5_bearing (Nat.le_of_ble_eq_true rfl) ?_
  refine g_pick [0, 1] (lv' := [(0, .ref (L 33)), (1, .int (nI w))]) rfl ?_
  refine g_iconst dX5_bearing_0 ci_0 ?_
  refine g_tope (z := nI (bitsN (beX X w) 0)) rfl ?_
  refine g_istore_n (lv' := [(2, .int (nI (bitsN (beX X w) 0))), (0, .ref (L 33)), (1, .int (nI w))]) dX5_bearing_1 rfl (by decide) rfl ?_
  refine g_iconst dX5_bearing_2 ci_0 ?_
  refine g_istore_n (lv' := [(3, .int (nI 0)), (2, .int (nI (bitsN (beX X w) 0))), (0, .ref (L 33)), (1, .int (nI w))]) dX5_bearing_3 rfl (by decide) rfl ?_
  refine g_pick [0, 1, 2, 3] (lv' := [(3, .int (nI 0)), (2, .int (nI (bitsN (beX X w) 0))), (0, .ref (L 33)), (1, .int (nI w))]) rfl ?_
  exact lp_X5_bearing hX ho hw h 8 0 rfl
