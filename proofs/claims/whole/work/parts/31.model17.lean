/-! CHANCE of the reference -/
theorem lcmp_eq (x z : Int64) : lg_cmp x z = 0 ↔ x = z := by
  constructor
  · intro h
    rcases Int.lt_trichotomy x.toInt z.toInt with h1 | h1 | h1
    · have := (lcmp_lt x z).mpr ((fa_lt64 x z).mpr h1)
      rw [h] at this; exact absurd this (by decide)
    · exact (fa_eq64 x z).mpr h1
    · have := (lcmp_gt x z).mpr ((fa_lt64 z x).mpr h1)
      rw [h] at this; exact absurd this (by decide)
  · rintro rfl
    unfold lg_cmp
    rw [if_neg Int64.lt_irrefl, if_pos rfl]
theorem lN_ne0 {b : Nat} (hb : b < 2 ^ 31) (h : 0 < b) : ¬ lN b = 0 := fun e => by
  have := (lN_eq hb (by decide : 0 < 2 ^ 31)).mp e
  omega
def lowR (u l w : Nat) : Int64 := lN (if w = 0 then u / Nat.gcd l u else l / Nat.gcd l u)
theorem qlg {Q : Option Value → va_W → Prop} {ws : va_W} {a b : Int64} (e : a = b) (h : Q (some (.long b)) ws) : Q (some (.long a)) ws := e ▸ h
set_option maxHeartbeats 4000000 in
theorem lp_X5_lowest {l : Launch} {D : gE} {L : Nat → Nat} {σ : St} {Q : Option Value → va_W → Prop} {d : Nat} {u lw : Nat} {w g : Nat} (hu : u < 2 ^ 31) (hl : lw < 2 ^ 31) (hw : w < 2 ^ 31) (h0 : 0 < g) (h : Q (some (.long (lN (if w = 0 then u / g else lw / g)))) (wsOf D L σ)) : ∀ n b, b < n → ∀ a, a < 2 ^ 31 → b < 2 ^ 31 → Nat.gcd a b = g → G l D yX5_lowest cX5_lowest 11 (some .long) (rr d) Q 0 0 6 [(7, .long (lN b)), (5, .long (lN a)), (0, .long (lN u)), (2, .long (lN lw)), (4, .int (nI w))] [] (wsOf D L σ) := by
  intro n
  induction n with
  | zero => intro b hb; exact absurd hb (Nat.not_lt_zero b)
  | succ n ih =>
    intro b hb a ha hb31 hg
    by_cases hb0 : b = 0
    · subst hb0
      obtain rfl : a = g := by rw [Nat.gcd_zero_right] at hg; exact hg
      refine g_lload dX5_lowest_6 0 rfl ?_
      refine g_lconst dX5_lowest_8 lc_0 ?_
      refine g_lcmp dX5_lowest_9 ?_
      refine g_ifeq 31 dX5_lowest_10 (by decide) (fun h10 => ?_) (fun h10 => absurd h10 (fun q => q ((lcmp_eq _ _).mpr rfl)))
      refine g_iload dX5_lowest_31 4 rfl ?_
      refine n_ifne 43 dX5_lowest_33 (by decide) (by omega) (fun h33 => ?_) (fun h33 => ?_)
      · refine g_lload_n dX5_lowest_43 rfl 3 rfl ?_
        refine g_lload dX5_lowest_44 1 rfl ?_
        refine g_ldiv dX5_lowest_46 (lN_ne0 (by omega) (by omega)) ?_
        refine g_tople (z := lN (lw / a)) (pk_lDiv (by omega) (by omega) (by omega)) ?_
        exact g_lreturn dX5_lowest_47 (Nat.le_refl _) (Nat.le_refl _) (qlg (by rw [if_neg h33]) h)
      · refine g_lload_n dX5_lowest_36 rfl 2 rfl ?_
        refine g_lload dX5_lowest_37 1 rfl ?_
        refine g_ldiv dX5_lowest_39 (lN_ne0 (by omega) (by omega)) ?_
        refine g_tople (z := lN (u / a)) (pk_lDiv (by omega) (by omega) (by omega)) ?_
        refine g_goto 47 dX5_lowest_40 (by decide) ?_
        exact g_lreturn dX5_lowest_47 (Nat.le_refl _) (Nat.le_refl _) (qlg (by rw [if_pos h33]) h)
    · skip
      refine g_lload dX5_lowest_6 0 rfl ?_
      refine g_lconst dX5_lowest_8 lc_0 ?_
      refine g_lcmp dX5_lowest_9 ?_
      refine g_ifeq 31 dX5_lowest_10 (by decide) (fun h10 => absurd h10 (fun q => hb0 ((lN_eq hb31 (by decide)).mp ((lcmp_eq _ _).mp q)))) (fun h10 => ?_)
      refine g_lload dX5_lowest_13 1 rfl ?_
      refine g_lload dX5_lowest_15 0 rfl ?_
      refine g_lrem dX5_lowest_17 (lN_ne0 (by omega) (by omega)) ?_
      refine g_tople (z := lN (a % b)) (pk_lRem (by omega) (by omega) (by omega)) ?_
      refine g_lstore (lv' := [(9, .long (lN (a % b))), (7, .long (lN b)), (5, .long (lN a)), (0, .long (lN u)), (2, .long (lN lw)), (4, .int (nI w))]) dX5_lowest_18 (by decide) rfl ?_
      refine g_lload dX5_lowest_20 1 rfl ?_
      refine g_lstore (lv' := [(5, .long (lN b)), (9, .long (lN (a % b))), (7, .long (lN b)), (0, .long (lN u)), (2, .long (lN lw)), (4, .int (nI w))]) dX5_lowest_22 (by decide) rfl ?_
      refine g_lload dX5_lowest_24 1 rfl ?_
      refine g_lstore (lv' := [(7, .long (lN (a % b))), (5, .long (lN b)), (9, .long (lN (a % b))), (0, .long (lN u)), (2, .long (lN lw)), (4, .int (nI w))]) dX5_lowest_26 (by decide) rfl ?_
      refine g_goto 6 dX5_lowest_28 (by decide) ?_
      refine g_pick [0, 1, 3, 4, 5] (lv' := [(7, .long (lN (a % b))), (5, .long (lN b)), (0, .long (lN u)), (2, .long (lN lw)), (4, .int (nI w))]) rfl ?_
      exact ih (a % b) (by have := Nat.mod_lt a (show b > 0 by omega); omega) b (by omega) (by have := Nat.mod_lt a (show b > 0 by omega); omega) (by rw [Nat.gcd_comm b, ← Nat.gcd_rec, Nat.gcd_comm]; exact hg)
set_option maxHeartbeats 4000000 in
set_option maxRecDepth 20000 in
theorem c_X5_lowest {l : Launch} {D : gE} {L : Nat → Nat} {σ : St} {Q : Option Value → va_W → Prop} {d : Nat} {u lw w : Nat} (hu : u < 2 ^ 31) (hl : lw < 2 ^ 31) (hl0 : 0 < lw) (hw : w < 2 ^ 31) (h : Q (some (.long (lowR u lw w))) (wsOf D L σ)) : Ctr l D yX5_lowest cX5_lowest 11 (some .long) (rr d) [.long (lN u), .long (lN lw), .int (nI w)] (wsOf D L σ) Q := by
  refine g_start ky_X5_lowest (Nat.le_of_ble_eq_true rfl) ?_
  refine g_pick [0, 1, 2] (lv' := [(0, .long (lN u)), (2, .long (lN lw)), (4, .int (nI w))]) rfl ?_
  refine g_lload_n dX5_lowest_0 rfl 1 rfl ?_
  refine g_lstore (lv' := [(5, .long (lN lw)), (0, .long (lN u)), (2, .long (lN lw)), (4, .int (nI w))]) dX5_lowest_1 (by decide) rfl ?_
  refine g_lload_n dX5_lowest_3 rfl 1 rfl ?_
  refine g_lstore (lv' := [(7, .long (lN u)), (5, .long (lN lw)), (0, .long (lN u)), (2, .long (lN lw)), (4, .int (nI w))]) dX5_lowest_4 (by decide) rfl ?_
  refine g_pick [0, 1, 2, 3, 4] (lv' := [(7, .long (lN u)), (5, .long (lN lw)), (0, .long (lN u)), (2, .long (lN lw)), (4, .int (nI w))]) rfl ?_
  exact lp_X5_lowest hu hl hw (Nat.gcd_pos_of_pos_left u hl0) h (u + 1) u (by omega) lw hl hu rfl
theorem and_bits (f : Nat → Bool) {a : Nat} (ha : a < 256) : nI (bitsN f 8) &&& nI a = nI (bitsN (fun i => f i && a.testBit i) 8) := by
  rw [fa_and]
  refine congrArg nI (bitsN_of_tb (Nat.lt_of_le_of_lt Nat.and_le_right (show a < 2 ^ 8 from ha)) (fun i hi => ?_))
  rw [Nat.testBit_and, bitsN_in f hi]
theorem fa_1000 {X : XT} {m : Nat → Bool} {g t : Nat} : faX X m g t < 1000 ↔ dN X m g t < 6 := by
  unfold faX
  split
  · rename_i h; exact ⟨fun _ => h, fun _ => by omega⟩
  · rename_i h; exact ⟨fun q => absurd q (Nat.lt_irrefl _), fun q => absurd q h⟩
theorem chQ_rel {X : XT} (p g : Nat) {t : Nat} (ht : t ≤ 10) : chT t (x_br X) (chQ X p g) 8 = 10 ^ (cntN (x_br X) 8 - cntN (beX X (buX X p)) 8) * chU X p g t := by
  refine chT_rel ht 8 (chR X p g) (chQ X p g) (fun a c _ _ hb => ?_) (fun i _ h => by unfold beX at h; rw [Bool.and_eq_true] at h; exact h.1)
  unfold chQ chR
  rw [dN_cong (fun i hi => (hb i hi).symm)]
def chanceR (X : XT) (x y t w : Int32) : Int64 := if thI X x && teI X y then (if inN 0 10 t && inN 0 1 w then lowR (chU X (ix 6 x) (ix (x_sz X) y) (ix 11 t)) (chL X (ix 6 x)) (ix 2 w) else -1000000000000000002) else -1000000000000000001
theorem chance_eq {X : XT} {p g t w : Nat} (ht : t ≤ 10) : lowR (chT t (x_br X) (chQ X p g) 8) (chT t (x_br X) (fun _ => 1) 8) w = lowR (chU X p g t) (chL X p) w := by
  have hle : cntN (beX X (buX X p)) 8 ≤ cntN (x_br X) 8 := cntN_le2 8 (fun i _ h => by unfold beX at h; rw [Bool.and_eq_true] at h; exact h.1)
  have e2 : chT t (x_br X) (fun _ => 1) 8 = 10 ^ (cntN (x_br X) 8 - cntN (beX X (buX X p)) 8) * chL X p := by
    unfold chL
    rw [chT_one ht, ← Nat.pow_add, Nat.sub_add_cancel hle]
  have hc : 0 < 10 ^ (cntN (x_br X) 8 - cntN (beX X (buX X p)) 8) := Nat.pow_pos (by decide)
  unfold lowR
  rw [chQ_rel p g ht, e2]
  rw [low_up hc, low_lo hc]
theorem chE_t {t : Nat} {B : Nat → Bool} {F : Nat → Nat} {a : Nat} (h : subB B a = true) : chE t B F 8 a = F a * chW t B a 8 := if_pos h
theorem chE_f {t : Nat} {B : Nat → Bool} {F : Nat → Nat} {a : Nat} (h : subB B a = false) : chE t B F 8 a = 0 := if_neg (by rw [sbN_8, h]; decide)
set_option maxHeartbeats 4000000 in
set_option maxRecDepth 20000 in
theorem l1_X5_chance {l : Launch} {D : gE} {L : Nat → Nat} {σ : St} {Q : Option Value → va_W → Prop} {d : Nat} {X : XT} (hX : rpM σ X) (ho : okX X) {p g t w a : Nat} (ht : t ≤ 10) (ha : a < 256) (kk : G l D yX5_chance cX5_chance 14 (some .long) (rr (d + 6)) Q 0 0 138 [(13, .int (nI 8)), (11, .long (lN (chW t (x_br X) a 8))), (10, .int (nI a)), (8, .long (lN (sumNN (chE t (x_br X) (fun _ => 1) 8) a))), (6, .long (lN (sumNN (chE t (x_br X) (chQ X p g) 8) a))), (0, .ref (L 33)), (1, .int (nI p)), (2, .int (nI g)), (3, .int (nI t)), (4, .int (nI w)), (5, .int (nI (bitsN (beX X (buX X p)) 8)))] [] (wsOf D L σ)) : ∀ n_ b, b + n_ = 8 → G l D yX5_chance cX5_chance 14 (some .long) (rr (d + 6)) Q 0 0 86 [(13, .int (nI b)), (11, .long (lN (chW t (x_br X) a b))), (10, .int (nI a)), (8, .long (lN (sumNN (chE t (x_br X) (fun _ => 1) 8) a))), (6, .long (lN (sumNN (chE t (x_br X) (chQ X p g) 8) a))), (0, .ref (L 33)), (1, .int (nI p)), (2, .int (nI g)), (3, .int (nI t)), (4, .int (nI w)), (5, .int (nI (bitsN (beX X (buX X p)) 8)))] [] (wsOf D L σ) := by
  intro n_
  induction n_ with
  | zero =>
    intro b hct
    obtain rfl : b = 8 := by omega
    refine g_iload dX5_chance_86 0 rfl ?_
    refine g_bipush dX5_chance_88 bp_8 ?_
    refine n_icmpge 138 dX5_chance_90 (by decide) (by omega) (by omega) (fun h90 => ?_) (fun h90 => absurd h90 (by omega))
    refine g_pick [0, 1, 2, 3, 4, 5, 6, 7, 8, 9, 10] (lv' := [(13, .int (nI 8)), (11, .long (lN (chW t (x_br X) a 8))), (10, .int (nI a)), (8, .long (lN (sumNN (chE t (x_br X) (fun _ => 1) 8) a))), (6, .long (lN (sumNN (chE t (x_br X) (chQ X p g) 8) a))), (0, .ref (L 33)), (1, .int (nI p)), (2, .int (nI g)), (3, .int (nI t)), (4, .int (nI w)), (5, .int (nI (bitsN (beX X (buX X p)) 8)))]) rfl ?_
    exact kk
  | succ n_ ih =>
    intro b hct
    refine g_iload dX5_chance_86 0 rfl ?_
    refine g_bipush dX5_chance_88 bp_8 ?_
    refine n_icmpge 138 dX5_chance_90 (by decide) (by omega) (by omega) (fun h90 => absurd h90 (by omega)) (fun h90 => ?_)
    refine g_lload dX5_chance_93 1 rfl ?_
    refine g_aload_n dX5_chance_95 rfl 5 rfl ?_
    refine g_iload dX5_chance_96 0 rfl ?_
    refine g_callV (As := [.int (nI b)]) km_X5_140 ky_X5_isBridge ki_X5_isBridge (by decide) 33 at_33 rfl rfl (Nat.le_of_ble_eq_true rfl) dX5_chance_98 rfl (c_X5_isBridgeN hX (by omega) (fun h98 => ?_) (fun h98 => ?_))
    · refine t_ifne1 108 dX5_chance_101 (by decide) ?_
      refine g_iload dX5_chance_108 2 rfl ?_
      refine g_iload dX5_chance_110 0 rfl ?_
      refine g_ishr dX5_chance_112 ?_
      refine g_iconst dX5_chance_113 ci_1 ?_
      refine g_iand dX5_chance_114 ?_
      refine g_tope (z := nI (b2n (a.testBit b))) (gb (by omega) (by omega)) ?_
      refine g_iconst dX5_chance_115 ci_1 ?_
      refine b_icmpne 124 dX5_chance_116 (by decide) (fun h116 => ?_) (fun h116 => ?_)
      · refine g_bipush dX5_chance_124 bp_10 ?_
        refine g_iload_n dX5_chance_126 rfl 8 rfl ?_
        refine g_isub dX5_chance_127 ?_
        refine g_tope (z := nI (10 - t)) (pk_sub (by omega)) ?_
        refine g_i2l dX5_chance_128 ?_
        refine g_lmul dX5_chance_129 ?_
        refine g_tople (z := lN (chW t (x_br X) a (b + 1))) (by rw [chW_s, if_pos h98, if_neg (by rw [h116]; decide), nI_l (by omega)]; exact lN_mul _ _) ?_
        refine g_lstore (lv' := [(11, .long (lN (chW t (x_br X) a (b + 1)))), (13, .int (nI b)), (10, .int (nI a)), (8, .long (lN (sumNN (chE t (x_br X) (fun _ => 1) 8) a))), (6, .long (lN (sumNN (chE t (x_br X) (chQ X p g) 8) a))), (0, .ref (L 33)), (1, .int (nI p)), (2, .int (nI g)), (3, .int (nI t)), (4, .int (nI w)), (5, .int (nI (bitsN (beX X (buX X p)) 8)))]) dX5_chance_130 (by decide) rfl ?_
        refine g_iinc (v := nI (b + 1)) (lv' := [(13, .int (nI (b + 1))), (11, .long (lN (chW t (x_br X) a (b + 1)))), (10, .int (nI a)), (8, .long (lN (sumNN (chE t (x_br X) (fun _ => 1) 8) a))), (6, .long (lN (sumNN (chE t (x_br X) (chQ X p g) 8) a))), (0, .ref (L 33)), (1, .int (nI p)), (2, .int (nI g)), (3, .int (nI t)), (4, .int (nI w)), (5, .int (nI (bitsN (beX X (buX X p)) 8)))]) dX5_chance_132 1 rfl (inc_n _) (by decide) rfl ?_
        refine g_goto 86 dX5_chance_135 (by decide) ?_
        refine g_pick [0, 1, 2, 3, 4, 5, 6, 7, 8, 9, 10] (lv' := [(13, .int (nI (b + 1))), (11, .long (lN (chW t (x_br X) a (b + 1)))), (10, .int (nI a)), (8, .long (lN (sumNN (chE t (x_br X) (fun _ => 1) 8) a))), (6, .long (lN (sumNN (chE t (x_br X) (chQ X p g) 8) a))), (0, .ref (L 33)), (1, .int (nI p)), (2, .int (nI g)), (3, .int (nI t)), (4, .int (nI w)), (5, .int (nI (bitsN (beX X (buX X p)) 8)))]) rfl ?_
        exact ih (b + 1) (by omega)
      · refine g_iload_n dX5_chance_119 rfl 8 rfl ?_
        refine g_i2l dX5_chance_120 ?_
        refine g_goto 129 dX5_chance_121 (by decide) ?_
        refine g_lmul dX5_chance_129 ?_
        refine g_tople (z := lN (chW t (x_br X) a (b + 1))) (by rw [chW_s, if_pos h98, if_pos h116, nI_l (by omega)]; exact lN_mul _ _) ?_
        refine g_lstore (lv' := [(11, .long (lN (chW t (x_br X) a (b + 1)))), (13, .int (nI b)), (10, .int (nI a)), (8, .long (lN (sumNN (chE t (x_br X) (fun _ => 1) 8) a))), (6, .long (lN (sumNN (chE t (x_br X) (chQ X p g) 8) a))), (0, .ref (L 33)), (1, .int (nI p)), (2, .int (nI g)), (3, .int (nI t)), (4, .int (nI w)), (5, .int (nI (bitsN (beX X (buX X p)) 8)))]) dX5_chance_130 (by decide) rfl ?_
        refine g_iinc (v := nI (b + 1)) (lv' := [(13, .int (nI (b + 1))), (11, .long (lN (chW t (x_br X) a (b + 1)))), (10, .int (nI a)), (8, .long (lN (sumNN (chE t (x_br X) (fun _ => 1) 8) a))), (6, .long (lN (sumNN (chE t (x_br X) (chQ X p g) 8) a))), (0, .ref (L 33)), (1, .int (nI p)), (2, .int (nI g)), (3, .int (nI t)), (4, .int (nI w)), (5, .int (nI (bitsN (beX X (buX X p)) 8)))]) dX5_chance_132 1 rfl (inc_n _) (by decide) rfl ?_
        refine g_goto 86 dX5_chance_135 (by decide) ?_
        refine g_pick [0, 1, 2, 3, 4, 5, 6, 7, 8, 9, 10] (lv' := [(13, .int (nI (b + 1))), (11, .long (lN (chW t (x_br X) a (b + 1)))), (10, .int (nI a)), (8, .long (lN (sumNN (chE t (x_br X) (fun _ => 1) 8) a))), (6, .long (lN (sumNN (chE t (x_br X) (chQ X p g) 8) a))), (0, .ref (L 33)), (1, .int (nI p)), (2, .int (nI g)), (3, .int (nI t)), (4, .int (nI w)), (5, .int (nI (bitsN (beX X (buX X p)) 8)))]) rfl ?_
        exact ih (b + 1) (by omega)
    · refine t_ifne0 (tgt := 108) dX5_chance_101 (by decide) ?_
      refine g_lconst dX5_chance_104 lc_1 ?_
      refine g_goto 129 dX5_chance_105 (by decide) ?_
      refine g_lmul dX5_chance_129 ?_
      refine g_tople (z := lN (chW t (x_br X) a (b + 1))) (by rw [chW_s, if_neg (by rw [h98]; decide)]; exact lN_mul _ _) ?_
      refine g_lstore (lv' := [(11, .long (lN (chW t (x_br X) a (b + 1)))), (13, .int (nI b)), (10, .int (nI a)), (8, .long (lN (sumNN (chE t (x_br X) (fun _ => 1) 8) a))), (6, .long (lN (sumNN (chE t (x_br X) (chQ X p g) 8) a))), (0, .ref (L 33)), (1, .int (nI p)), (2, .int (nI g)), (3, .int (nI t)), (4, .int (nI w)), (5, .int (nI (bitsN (beX X (buX X p)) 8)))]) dX5_chance_130 (by decide) rfl ?_
      refine g_iinc (v := nI (b + 1)) (lv' := [(13, .int (nI (b + 1))), (11, .long (lN (chW t (x_br X) a (b + 1)))), (10, .int (nI a)), (8, .long (lN (sumNN (chE t (x_br X) (fun _ => 1) 8) a))), (6, .long (lN (sumNN (chE t (x_br X) (chQ X p g) 8) a))), (0, .ref (L 33)), (1, .int (nI p)), (2, .int (nI g)), (3, .int (nI t)), (4, .int (nI w)), (5, .int (nI (bitsN (beX X (buX X p)) 8)))]) dX5_chance_132 1 rfl (inc_n _) (by decide) rfl ?_
      refine g_goto 86 dX5_chance_135 (by decide) ?_
      refine g_pick [0, 1, 2, 3, 4, 5, 6, 7, 8, 9, 10] (lv' := [(13, .int (nI (b + 1))), (11, .long (lN (chW t (x_br X) a (b + 1)))), (10, .int (nI a)), (8, .long (lN (sumNN (chE t (x_br X) (fun _ => 1) 8) a))), (6, .long (lN (sumNN (chE t (x_br X) (chQ X p g) 8) a))), (0, .ref (L 33)), (1, .int (nI p)), (2, .int (nI g)), (3, .int (nI t)), (4, .int (nI w)), (5, .int (nI (bitsN (beX X (buX X p)) 8)))]) rfl ?_
      exact ih (b + 1) (by omega)
set_option maxHeartbeats 4000000 in
set_option maxRecDepth 20000 in
theorem l2_X5_chance {l : Launch} {D : gE} {L : Nat → Nat} {σ : St} {Q : Option Value → va_W → Prop} {d : Nat} {X : XT} (ho : okX X) {p g t w : Nat} (hp : p < 6) (hg : g < 6) (ht : t ≤ 10) (hw : w ≤ 1) (h : ∀ σ', fr σ σ' → rpM σ' X → Q (some (.long (lowR (chU X p g t) (chL X p) w))) (wsOf D L σ')) : ∀ n_ a, a + n_ = 256 → ∀ σ', fr σ σ' → rpM σ' X → G l D yX5_chance cX5_chance 14 (some .long) (rr (d + 6)) Q 0 0 60 [(10, .int (nI a)), (8, .long (lN (sumNN (chE t (x_br X) (fun _ => 1) 8) a))), (6, .long (lN (sumNN (chE t (x_br X) (chQ X p g) 8) a))), (0, .ref (L 33)), (1, .int (nI p)), (2, .int (nI g)), (3, .int (nI t)), (4, .int (nI w)), (5, .int (nI (bitsN (beX X (buX X p)) 8)))] [] (wsOf D L σ') := by
  intro n_
  induction n_ with
  | zero =>
    intro a hct σ' hfr hX
    obtain rfl : a = 256 := by omega
    refine g_iload dX5_chance_60 0 rfl ?_
    refine g_sipush dX5_chance_62 sp_256 ?_
    refine n_icmpge 189 dX5_chance_65 (by decide) (by omega) (by omega) (fun h65 => ?_) (fun h65 => absurd h65 (by omega))
    refine g_lload dX5_chance_189 2 rfl ?_
    refine g_lload dX5_chance_191 1 rfl ?_
    refine g_iload dX5_chance_193 7 rfl ?_
    refine g_callS (As := [.long (lN (sumNN (chE t (x_br X) (chQ X p g) 8) 256)), .long (lN (sumNN (chE t (x_br X) (fun _ => 1) 8) 256)), .int (nI w)]) km_X5_348 ky_X5_lowest ks_X5_lowest (by decide) rfl (Nat.le_of_ble_eq_true rfl) dX5_chance_195 rfl (c_X5_lowest (by have := chS_le ht (x_br X) (F := chQ X p g) (fun a => by unfold chQ; have := b2n_lt (decide (dN X (fun i => beX X (buX X p) i && a.testBit i) g (x_pl X p) < 6)); omega) (Nat.le_refl 256); omega) (by have := chS_le ht (x_br X) (F := fun _ => 1) (fun _ => Nat.le_refl 1) (Nat.le_refl 256); omega) (by show 0 < chT t (x_br X) (fun _ => 1) 8; rw [chT_one ht]; exact Nat.pow_pos (by decide)) (by omega) ?_)
    exact g_lreturn dX5_chance_198 (Nat.le_refl _) (Nat.le_refl _) (qlg (chance_eq ht) (h _ hfr hX))
  | succ n_ ih =>
    intro a hct σ' hfr hX
    have hpp := ok_p ho hp
    have hfl := @fa_le2 X (fun i => beX X (buX X p) i && a.testBit i) g (x_pl X p)
    refine g_iload dX5_chance_60 0 rfl ?_
    refine g_sipush dX5_chance_62 sp_256 ?_
    refine n_icmpge 189 dX5_chance_65 (by decide) (by omega) (by omega) (fun h65 => absurd h65 (by omega)) (fun h65 => ?_)
    refine g_iload dX5_chance_68 0 rfl ?_
    refine g_aload_n dX5_chance_70 rfl 3 rfl ?_
    refine s_getM kf_X5_106 (by decide) rfl dX5_chance_71 ?_
    refine g_tope (z := nI (bitsN (x_br X) 8)) (rpM_br hX) ?_
    refine g_iconst dX5_chance_74 ci_m1 ?_
    refine g_ixor dX5_chance_75 ?_
    refine g_iand dX5_chance_76 ?_
    refine sb_ifne 183 dX5_chance_77 (by decide) (by omega) (fun h77 => ?_) (fun h77 => ?_)
    · refine g_pick [0, 1, 2, 3, 4, 5, 6, 7, 8] (lv' := [(10, .int (nI a)), (8, .long (lN (sumNN (chE t (x_br X) (fun _ => 1) 8) a))), (6, .long (lN (sumNN (chE t (x_br X) (chQ X p g) 8) a))), (0, .ref (L 33)), (1, .int (nI p)), (2, .int (nI g)), (3, .int (nI t)), (4, .int (nI w)), (5, .int (nI (bitsN (beX X (buX X p)) 8)))]) rfl ?_
      have e1 : sumNN (chE t (x_br X) (fun _ => 1) 8) (a + 1) = sumNN (chE t (x_br X) (fun _ => 1) 8) a := by rw [sumNN_s, chE_f h77, Nat.add_zero]
      have e2 : sumNN (chE t (x_br X) (chQ X p g) 8) (a + 1) = sumNN (chE t (x_br X) (chQ X p g) 8) a := by rw [sumNN_s, chE_f h77, Nat.add_zero]
      rw [← e1, ← e2]
      refine g_iinc (v := nI (a + 1)) (lv' := [(10, .int (nI (a + 1))), (8, .long (lN (sumNN (chE t (x_br X) (fun _ => 1) 8) (a + 1)))), (6, .long (lN (sumNN (chE t (x_br X) (chQ X p g) 8) (a + 1)))), (0, .ref (L 33)), (1, .int (nI p)), (2, .int (nI g)), (3, .int (nI t)), (4, .int (nI w)), (5, .int (nI (bitsN (beX X (buX X p)) 8)))]) dX5_chance_183 0 rfl (inc_n _) (by decide) rfl ?_
      refine g_goto 60 dX5_chance_186 (by decide) ?_
      refine g_pick [0, 1, 2, 3, 4, 5, 6, 7, 8] (lv' := [(10, .int (nI (a + 1))), (8, .long (lN (sumNN (chE t (x_br X) (fun _ => 1) 8) (a + 1)))), (6, .long (lN (sumNN (chE t (x_br X) (chQ X p g) 8) (a + 1)))), (0, .ref (L 33)), (1, .int (nI p)), (2, .int (nI g)), (3, .int (nI t)), (4, .int (nI w)), (5, .int (nI (bitsN (beX X (buX X p)) 8)))]) rfl ?_
      exact ih (a + 1) (by omega) _ hfr hX
    · refine g_lconst dX5_chance_80 lc_1 ?_
      refine g_tople (z := lN (chW t (x_br X) a 0)) (rfl) ?_
      refine g_lstore (lv' := [(11, .long (lN (chW t (x_br X) a 0))), (10, .int (nI a)), (8, .long (lN (sumNN (chE t (x_br X) (fun _ => 1) 8) a))), (6, .long (lN (sumNN (chE t (x_br X) (chQ X p g) 8) a))), (0, .ref (L 33)), (1, .int (nI p)), (2, .int (nI g)), (3, .int (nI t)), (4, .int (nI w)), (5, .int (nI (bitsN (beX X (buX X p)) 8)))]) dX5_chance_81 (by decide) rfl ?_
      refine g_iconst dX5_chance_83 ci_0 ?_
      refine g_istore (lv' := [(13, .int (nI 0)), (11, .long (lN (chW t (x_br X) a 0))), (10, .int (nI a)), (8, .long (lN (sumNN (chE t (x_br X) (fun _ => 1) 8) a))), (6, .long (lN (sumNN (chE t (x_br X) (chQ X p g) 8) a))), (0, .ref (L 33)), (1, .int (nI p)), (2, .int (nI g)), (3, .int (nI t)), (4, .int (nI w)), (5, .int (nI (bitsN (beX X (buX X p)) 8)))]) dX5_chance_84 (by decide) rfl ?_
      refine g_pick [0, 1, 2, 3, 4, 5, 6, 7, 8, 9, 10] (lv' := [(13, .int (nI 0)), (11, .long (lN (chW t (x_br X) a 0))), (10, .int (nI a)), (8, .long (lN (sumNN (chE t (x_br X) (fun _ => 1) 8) a))), (6, .long (lN (sumNN (chE t (x_br X) (chQ X p g) 8) a))), (0, .ref (L 33)), (1, .int (nI p)), (2, .int (nI g)), (3, .int (nI t)), (4, .int (nI w)), (5, .int (nI (bitsN (beX X (buX X p)) 8)))]) rfl ?_
      refine l1_X5_chance hX ho ht (by omega) ?_ 8 0 rfl
      refine g_aload_n dX5_chance_138 rfl 5 rfl ?_
      refine g_iload_n dX5_chance_139 rfl 7 rfl ?_
      refine g_iload dX5_chance_140 10 rfl ?_
      refine g_iload dX5_chance_142 2 rfl ?_
      refine g_iand dX5_chance_144 ?_
      refine g_tope (z := nI (bitsN (fun i => beX X (buX X p) i && a.testBit i) 8)) (and_bits _ (by omega)) ?_
      refine g_callV (As := [.int (nI g), .int (nI (bitsN (fun i => beX X (buX X p) i && a.testBit i) 8))]) km_X5_260 ky_X5_findFar ki_X5_findFar (by decide) 33 at_33 rfl rfl (Nat.le_of_ble_eq_true rfl) dX5_chance_145 rfl (c_X5_findFar (m := fun i => beX X (buX X p) i && a.testBit i) hX ho (by omega) (fun f145 hf145 => ?_))
      have hX := rpM_A hX 54 (by omega) f145
      have hfr := fr_A hfr 54 (by omega) f145
      refine g_lload dX5_chance_148 3 rfl ?_
      refine g_lload dX5_chance_150 1 rfl ?_
      refine g_ladd dX5_chance_152 ?_
      refine g_tople (z := lN (sumNN (chE t (x_br X) (fun _ => 1) 8) (a + 1))) ((lN_add _ _).trans (by rw [sumNN_s, chE_t h77, Nat.one_mul])) ?_
      refine g_lstore (lv' := [(8, .long (lN (sumNN (chE t (x_br X) (fun _ => 1) 8) (a + 1)))), (13, .int (nI 8)), (11, .long (lN (chW t (x_br X) a 8))), (10, .int (nI a)), (6, .long (lN (sumNN (chE t (x_br X) (chQ X p g) 8) a))), (0, .ref (L 33)), (1, .int (nI p)), (2, .int (nI g)), (3, .int (nI t)), (4, .int (nI w)), (5, .int (nI (bitsN (beX X (buX X p)) 8)))]) dX5_chance_153 (by decide) rfl ?_
      refine g_lload dX5_chance_155 4 rfl ?_
      refine g_aload_n dX5_chance_157 rfl 5 rfl ?_
      refine s_getM kf_X5_70 (by decide) rfl dX5_chance_158 ?_
      refine g_aload_n dX5_chance_161 rfl 5 rfl ?_
      refine s_getM kf_X5_22 (by decide) rfl dX5_chance_162 ?_
      refine g_iload_n dX5_chance_165 rfl 6 rfl ?_
      refine s_ald (q := 38) (n := 6) (at_ia (q := 38) rfl) (by omega) (by decide) dX5_chance_166 ?_
      refine g_tope (z := nI (x_pl X p)) (rpM_pl hX (by omega)) ?_
      refine s_ald (q := 54) (n := 6) (at_ia (q := 54) rfl) (by omega) (by decide) dX5_chance_167 ?_
      refine g_tope (z := nI (faX X (fun i => beX X (buX X p) i && a.testBit i) g (x_pl X p))) (hf145 _ (by omega)) ?_
      refine g_sipush dX5_chance_168 sp_1000 ?_
      refine n_icmpge 179 dX5_chance_171 (by decide) (by omega) (by omega) (fun h171 => ?_) (fun h171 => ?_)
      · refine g_lconst dX5_chance_179 lc_0 ?_
        refine g_ladd dX5_chance_180 ?_
        refine g_tople (z := lN (sumNN (chE t (x_br X) (chQ X p g) 8) (a + 1))) ((lN_add _ 0).trans (by rw [sumNN_s, chE_t h77, show chQ X p g a = 0 by unfold chQ; rw [decide_eq_false (fun q => absurd (fa_1000.mpr q) (by omega))]; rfl, Nat.zero_mul])) ?_
        refine g_lstore (lv' := [(6, .long (lN (sumNN (chE t (x_br X) (chQ X p g) 8) (a + 1)))), (8, .long (lN (sumNN (chE t (x_br X) (fun _ => 1) 8) (a + 1)))), (13, .int (nI 8)), (11, .long (lN (chW t (x_br X) a 8))), (10, .int (nI a)), (0, .ref (L 33)), (1, .int (nI p)), (2, .int (nI g)), (3, .int (nI t)), (4, .int (nI w)), (5, .int (nI (bitsN (beX X (buX X p)) 8)))]) dX5_chance_181 (by decide) rfl ?_
        refine g_iinc (v := nI (a + 1)) (lv' := [(10, .int (nI (a + 1))), (6, .long (lN (sumNN (chE t (x_br X) (chQ X p g) 8) (a + 1)))), (8, .long (lN (sumNN (chE t (x_br X) (fun _ => 1) 8) (a + 1)))), (13, .int (nI 8)), (11, .long (lN (chW t (x_br X) a 8))), (0, .ref (L 33)), (1, .int (nI p)), (2, .int (nI g)), (3, .int (nI t)), (4, .int (nI w)), (5, .int (nI (bitsN (beX X (buX X p)) 8)))]) dX5_chance_183 4 rfl (inc_n _) (by decide) rfl ?_
        refine g_goto 60 dX5_chance_186 (by decide) ?_
        refine g_pick [0, 2, 1, 5, 6, 7, 8, 9, 10] (lv' := [(10, .int (nI (a + 1))), (8, .long (lN (sumNN (chE t (x_br X) (fun _ => 1) 8) (a + 1)))), (6, .long (lN (sumNN (chE t (x_br X) (chQ X p g) 8) (a + 1)))), (0, .ref (L 33)), (1, .int (nI p)), (2, .int (nI g)), (3, .int (nI t)), (4, .int (nI w)), (5, .int (nI (bitsN (beX X (buX X p)) 8)))]) rfl ?_
        exact ih (a + 1) (by omega) _ hfr hX
      · refine g_lload dX5_chance_174 2 rfl ?_
        refine g_goto 180 dX5_chance_176 (by decide) ?_
        refine g_ladd dX5_chance_180 ?_
        refine g_tople (z := lN (sumNN (chE t (x_br X) (chQ X p g) 8) (a + 1))) ((lN_add _ _).trans (by rw [sumNN_s, chE_t h77, show chQ X p g a = 1 by unfold chQ; rw [decide_eq_true (fa_1000.mp (by omega))]; rfl, Nat.one_mul])) ?_
        refine g_lstore (lv' := [(6, .long (lN (sumNN (chE t (x_br X) (chQ X p g) 8) (a + 1)))), (8, .long (lN (sumNN (chE t (x_br X) (fun _ => 1) 8) (a + 1)))), (13, .int (nI 8)), (11, .long (lN (chW t (x_br X) a 8))), (10, .int (nI a)), (0, .ref (L 33)), (1, .int (nI p)), (2, .int (nI g)), (3, .int (nI t)), (4, .int (nI w)), (5, .int (nI (bitsN (beX X (buX X p)) 8)))]) dX5_chance_181 (by decide) rfl ?_
        refine g_iinc (v := nI (a + 1)) (lv' := [(10, .int (nI (a + 1))), (6, .long (lN (sumNN (chE t (x_br X) (chQ X p g) 8) (a + 1)))), (8, .long (lN (sumNN (chE t (x_br X) (fun _ => 1) 8) (a + 1)))), (13, .int (nI 8)), (11, .long (lN (chW t (x_br X) a 8))), (0, .ref (L 33)), (1, .int (nI p)), (2, .int (nI g)), (3, .int (nI t)), (4, .int (nI w)), (5, .int (nI (bitsN (beX X (buX X p)) 8)))]) dX5_chance_183 4 rfl (inc_n _) (by decide) rfl ?_
        refine g_goto 60 dX5_chance_186 (by decide) ?_
        refine g_pick [0, 2, 1, 5, 6, 7, 8, 9, 10] (lv' := [(10, .int (nI (a + 1))), (8, .long (lN (sumNN (chE t (x_br X) (fun _ => 1) 8) (a + 1)))), (6, .long (lN (sumNN (chE t (x_br X) (chQ X p g) 8) (a + 1)))), (0, .ref (L 33)), (1, .int (nI p)), (2, .int (nI g)), (3, .int (nI t)), (4, .int (nI w)), (5, .int (nI (bitsN (beX X (buX X p)) 8)))]) rfl ?_
        exact ih (a + 1) (by omega) _ hfr hX
set_option maxHeartbeats 4000000 in
set_option maxRecDepth 20000 in
theorem c_X5_chance {l : Launch} {D : gE} {L : Nat → Nat} {σ : St} {Q : Option Value → va_W → Prop} {d : Nat} {X : XT} (hX : rpM σ X) (ho : okX X) {x y t w : Int32} (h : ∀ σ', fr σ σ' → rpM σ' X → Q (some (.long (chanceR X x y t w))) (wsOf D L σ')) : Ctr l D yX5_chance cX5_chance 14 (some .long) (rr (d + 6)) [.ref (L 33), .int x, .int y, .int t, .int w] (wsOf D L σ) Q := by
  refine g_start ky_X5_chance (Nat.le_of_ble_eq_true rfl) ?_
  refine g_pick [0, 1, 2, 3, 4] (lv' := [(0, .ref (L 33)), (1, .int x), (2, .int y), (3, .int t), (4, .int w)]) rfl ?_
  have hsz := ok_sz ho
  refine g_aload_n dX5_chance_0 rfl 0 rfl ?_
  refine g_iload_n dX5_chance_1 rfl 1 rfl ?_
  refine g_iload_n dX5_chance_2 rfl 2 rfl ?_
  refine g_callV (As := [.int x, .int y]) km_X5_267 ky_X5_isAsked ki_X5_isAsked (by decide) 33 at_33 rfl rfl (Nat.le_of_ble_eq_true rfl) dX5_chance_3 rfl (c_X5_isAsked hX ho (fun p3 t3 hp3 ht3 he3 hf3 h3 => ?_) (fun h3 => ?_))
  · subst he3
    subst hf3
    have hsz := ok_sz ho
    refine t_ifne1 13 dX5_chance_6 (by decide) ?_
    refine g_iload_n dX5_chance_13 rfl 3 rfl ?_
    refine g_i2l dX5_chance_14 ?_
    refine g_lconst dX5_chance_15 lc_0 ?_
    refine g_ldc2_w kk_X5_344 dX5_chance_16 ?_
    refine g_tople (z := (nI 10).toInt64) (by decide +kernel) ?_
    refine g_callS (As := [.long t.toInt64, .long ((nI 0).toInt64), .long ((nI 10).toInt64)]) km_X5_118 ky_X5_in ks_X5_in (by decide) rfl (Nat.le_of_ble_eq_true rfl) dX5_chance_19 rfl (c_X5_inN (by omega) (by omega) (fun p19 ha19 hb19 he19 => ?_) (fun h19 => ?_))
    · subst he19
      refine t_ifeq1 (tgt := 36) dX5_chance_22 (by decide) ?_
      refine g_iload dX5_chance_25 4 rfl ?_
      refine g_i2l dX5_chance_27 ?_
      refine g_lconst dX5_chance_28 lc_0 ?_
      refine g_lconst dX5_chance_29 lc_1 ?_
      refine g_callS (As := [.long w.toInt64, .long ((nI 0).toInt64), .long ((nI 1).toInt64)]) km_X5_118 ky_X5_in ks_X5_in (by decide) rfl (Nat.le_of_ble_eq_true rfl) dX5_chance_30 rfl (c_X5_inN (by omega) (by omega) (fun p30 ha30 hb30 he30 => ?_) (fun h30 => ?_))
      · subst he30
        refine t_ifne1 40 dX5_chance_33 (by decide) ?_
        have hbu := bu_bd ho p3
        refine g_aload_n dX5_chance_40 rfl 0 rfl ?_
        refine g_aload_n dX5_chance_41 rfl 0 rfl ?_
        refine g_iload_n dX5_chance_42 rfl 1 rfl ?_
        refine g_callV (As := [.int (nI p3)]) km_X5_206 ky_X5_carriedBy ki_X5_carriedBy (by decide) 33 at_33 rfl rfl (Nat.le_of_ble_eq_true rfl) dX5_chance_43 rfl (c_X5_carriedBy hX ho (by omega) (by assumption) ?_)
        refine g_callV (As := [.int (nI (buX X p3))]) km_X5_257 ky_X5_bearing ki_X5_bearing (by decide) 33 at_33 rfl rfl (Nat.le_of_ble_eq_true rfl) dX5_chance_46 rfl (c_X5_bearing hX ho (by omega) ?_)
        refine g_istore (lv' := [(5, .int (nI (bitsN (beX X (buX X p3)) 8))), (0, .ref (L 33)), (1, .int (nI p3)), (2, .int (nI t3)), (3, .int (nI p19)), (4, .int (nI p30))]) dX5_chance_49 (by decide) rfl ?_
        refine g_lconst dX5_chance_51 lc_0 ?_
        refine g_tople (z := lN (sumNN (chE p19 (x_br X) (chQ X p3 t3) 8) 0)) (rfl) ?_
        refine g_lstore (lv' := [(6, .long (lN (sumNN (chE p19 (x_br X) (chQ X p3 t3) 8) 0))), (5, .int (nI (bitsN (beX X (buX X p3)) 8))), (0, .ref (L 33)), (1, .int (nI p3)), (2, .int (nI t3)), (3, .int (nI p19)), (4, .int (nI p30))]) dX5_chance_52 (by decide) rfl ?_
        refine g_lconst dX5_chance_54 lc_0 ?_
        refine g_tople (z := lN (sumNN (chE p19 (x_br X) (fun _ => 1) 8) 0)) (rfl) ?_
        refine g_lstore (lv' := [(8, .long (lN (sumNN (chE p19 (x_br X) (fun _ => 1) 8) 0))), (6, .long (lN (sumNN (chE p19 (x_br X) (chQ X p3 t3) 8) 0))), (5, .int (nI (bitsN (beX X (buX X p3)) 8))), (0, .ref (L 33)), (1, .int (nI p3)), (2, .int (nI t3)), (3, .int (nI p19)), (4, .int (nI p30))]) dX5_chance_55 (by decide) rfl ?_
        refine g_iconst dX5_chance_57 ci_0 ?_
        refine g_istore (lv' := [(10, .int (nI 0)), (8, .long (lN (sumNN (chE p19 (x_br X) (fun _ => 1) 8) 0))), (6, .long (lN (sumNN (chE p19 (x_br X) (chQ X p3 t3) 8) 0))), (5, .int (nI (bitsN (beX X (buX X p3)) 8))), (0, .ref (L 33)), (1, .int (nI p3)), (2, .int (nI t3)), (3, .int (nI p19)), (4, .int (nI p30))]) dX5_chance_58 (by decide) rfl ?_
        refine g_pick [0, 1, 2, 4, 5, 6, 7, 8, 3] (lv' := [(10, .int (nI 0)), (8, .long (lN (sumNN (chE p19 (x_br X) (fun _ => 1) 8) 0))), (6, .long (lN (sumNN (chE p19 (x_br X) (chQ X p3 t3) 8) 0))), (0, .ref (L 33)), (1, .int (nI p3)), (2, .int (nI t3)), (3, .int (nI p19)), (4, .int (nI p30)), (5, .int (nI (bitsN (beX X (buX X p3)) 8)))]) rfl ?_
        exact l2_X5_chance ho hp3 (by omega) (by omega) (by omega) (fun σ2 hf2 hX2 => qlg (by unfold chanceR; rw [thI_t hp3 h3, teI_t ho ht3, if_pos (by rfl), inN_t (a := 0) (b := 10) (by omega) (by omega) (by omega), inN_t (a := 0) (b := 1) (by omega) (by omega) (by omega), if_pos (by rfl), ix6 hp3, ixt ho ht3, ix_nI (by omega) (by omega), ix_nI (by omega) (by omega)]) (h σ2 hf2 hX2)) 256 0 rfl _ fr_rfl hX
      · refine t_ifne0 (tgt := 40) dX5_chance_33 (by decide) ?_
        refine g_ldc2_w kk_X5_346 dX5_chance_36 ?_
        exact g_lreturn dX5_chance_39 (Nat.le_refl _) (Nat.le_refl _) (qlg (by unfold chanceR; rw [thI_t hp3 h3, teI_t ho ht3, if_pos (by rfl), inN_t (a := 0) (b := 10) (by omega) (by omega) (by omega), inN_f (a := 0) (b := 1) (by omega) h30]; rfl) (h _ fr_rfl hX))
    · refine t_ifeq0 36 dX5_chance_22 (by decide) ?_
      refine g_ldc2_w kk_X5_346 dX5_chance_36 ?_
      exact g_lreturn dX5_chance_39 (Nat.le_refl _) (Nat.le_refl _) (qlg (by unfold chanceR; rw [thI_t hp3 h3, teI_t ho ht3, if_pos (by rfl), inN_f (a := 0) (b := 10) (by omega) h19]; rfl) (h _ fr_rfl hX))
  · refine t_ifne0 (tgt := 13) dX5_chance_6 (by decide) ?_
    refine g_ldc2_w kk_X5_342 dX5_chance_9 ?_
    exact g_lreturn dX5_chance_12 (Nat.le_refl _) (Nat.le_refl _) (qlg (by unfold chanceR; rw [h3]; rfl) (h _ fr_rfl hX))
/-! A YEAR -/
def yxN (s : Nat) : Nat → Nat
  | 0 => s
  | k + 1 => (75 * yxN s k + 74) % 65537
def yrE (X : XT) (x : Nat) : Nat × XT := tellE X (x % 6) (x / 6 % 6) (x / 36 % 8)
def yrX (X : XT) (s : Nat) : Nat → XT
  | 0 => X
  | k + 1 => if (k + 1) % 7 = 0 then nightE (yrE (yrX X s k) (yxN s (k + 1))).2 else (yrE (yrX X s k) (yxN s (k + 1))).2
def yrT (X : XT) (s : Nat) (k : Nat) : Nat := cntN (fun j => (yrE (yrX X s j) (yxN s (j + 1))).1 == 0) k
def mxN (f : Nat → Nat) : Nat → Nat
  | 0 => 0
  | n + 1 => if mxN f n < f n then f n else mxN f n
def ybX (X : XT) (p : Nat) : Nat := if x_th X p = true then buX X p else 0
def yearN (X : XT) (s m w : Nat) : Int32 := if w = 0 then nI (yrT X s m) else if w = 1 then nI (mxN (ybX (yrX X s m)) 6) else nI (mxN (kcX (yrX X s m)) 8)
def yearR (X : XT) (x y z : Int32) : Int32 := if inN 0 9999 x && inN 1 99 y && inN 0 2 z then yearN X (ix 10000 x) (ix 100 y) (ix 3 z) else -2
theorem yx_lt {s : Nat} (hs : s ≤ 9999) : ∀ k, yxN s k < 65537
  | 0 => by show s < 65537; omega
  | k + 1 => Nat.mod_lt _ (by decide)
theorem yrX_s (X : XT) (s k : Nat) : yrX X s (k + 1) = if (k + 1) % 7 = 0 then nightE (yrE (yrX X s k) (yxN s (k + 1))).2 else (yrE (yrX X s k) (yxN s (k + 1))).2 := rfl
theorem mxN_s (f : Nat → Nat) (n : Nat) : mxN f (n + 1) = if mxN f n < f n then f n else mxN f n := rfl
theorem mxN_le {f : Nat → Nat} {c : Nat} (h : ∀ i, f i ≤ c) : ∀ n, mxN f n ≤ c
  | 0 => Nat.zero_le _
  | n + 1 => by
    have := mxN_le h n; have := h n
    rw [mxN_s]; split <;> omega
theorem ok_yrE {X : XT} (ho : okX X) {x : Nat} : okX (yrE X x).2 := ok_tell ho (Nat.mod_lt _ (by decide))
theorem ok_yr {X : XT} (ho : okX X) (s : Nat) : ∀ k, okX (yrX X s k)
  | 0 => ho
  | k + 1 => by
    rw [yrX_s]
    split
    · exact ok_night (ok_yrE (ok_yr ho s k))
    · exact ok_yrE (ok_yr ho s k)
theorem sme_yr (X : XT) (s : Nat) : ∀ k, smeX (yrX X s k) X
  | 0 => sme_rfl
  | k + 1 => by
    rw [yrX_s]
    split
    · exact sme_trans (night_sme _) (sme_trans (tell_sme _ _ _ _) (sme_yr X s k))
    · exact sme_trans (tell_sme _ _ _ _) (sme_yr X s k)
theorem ybX_le {X : XT} (ho : okX X) (p : Nat) : ybX X p ≤ 1584 := by
  have := bu_bd ho p
  unfold ybX; split <;> omega
theorem yr_tell {X : XT} {s k : Nat} {w : Nat} {X' : XT} (e : yrE (yrX X s k) (yxN s (k + 1)) = (w, X')) : (if (k + 1) % 7 = 0 then nightE X' else X') = yrX X s (k + 1) := by rw [yrX_s, e]
theorem yr_t0 {X : XT} {s k : Nat} {X' : XT} (e : yrE (yrX X s k) (yxN s (k + 1)) = (0, X')) : yrT X s k + 1 = yrT X s (k + 1) := by
  unfold yrT; rw [cntN_s, e]; rfl
theorem yr_t1 {X : XT} {s k w : Nat} {X' : XT} (e : yrE (yrX X s k) (yxN s (k + 1)) = (w + 1, X')) : yrT X s k = yrT X s (k + 1) := by
  unfold yrT; rw [cntN_s, e]; rfl
set_option maxHeartbeats 4000000 in
set_option maxRecDepth 20000 in
theorem c_X5_tellT {l : Launch} {D : gE} {L : Nat → Nat} {σ : St} {Q : Option Value → va_W → Prop} {d : Nat} {X : XT} (hX : rpM σ X) (ho : okX X) {a b k : Nat} (ha : a < 6) (hb : b < 6) (hk : k < 8) {t : Nat} (c27 : sI σ 33 27 = nI t) (hb9 : t < 1000000) (ht : ∀ {w : Nat}, tellE X a b k = (w + 1, X) → ∀ σ', fd σ σ' → rpM σ' X → sI σ' 33 27 = nI t → Q (some (.int (nI (w + 1)))) (wsOf D L σ')) (ht0 : ∀ {X' : XT}, tellE X a b k = (0, X') → ∀ σ', fd σ σ' → rpM σ' X' → sI σ' 33 27 = nI (t + 1) → Q (some (.int (nI 0))) (wsOf D L σ')) : Ctr l D yX5_tell cX5_tell 4 (some .int) (rr (d + 2)) [.ref (L 33), .int (nI a), .int (nI b), .int (nI k)] (wsOf D L σ) Q := by
  refine g_start ky_X5_tell (Nat.le_of_ble_eq_true rfl) ?_
  refine g_pick [0, 1, 2, 3] (lv' := [(0, .ref (L 33)), (1, .int (nI a)), (2, .int (nI b)), (3, .int (nI k))]) rfl ?_
  have hfd : fd σ σ := fd_rfl
  have hpa := ok_p ho ha
  have hpb := ok_p ho hb
  refine g_aload_n dX5_tell_0 rfl 0 rfl ?_
  refine g_iload_n dX5_tell_1 rfl 1 rfl ?_
  refine g_callV (As := [.int (nI a)]) km_X5_143 ky_X5_isThere ki_X5_isThere (by decide) 33 at_33 rfl rfl (Nat.le_of_ble_eq_true rfl) dX5_tell_2 rfl (c_X5_isThereN hX (by omega) (fun h2 => ?_) (fun h2 => ?_))
  · refine t_ifeq1 (tgt := 16) dX5_tell_5 (by decide) ?_
    refine g_aload_n dX5_tell_8 rfl 0 rfl ?_
    refine g_iload_n dX5_tell_9 rfl 2 rfl ?_
    refine g_callV (As := [.int (nI b)]) km_X5_143 ky_X5_isThere ki_X5_isThere (by decide) 33 at_33 rfl rfl (Nat.le_of_ble_eq_true rfl) dX5_tell_10 rfl (c_X5_isThereN hX (by omega) (fun h10 => ?_) (fun h10 => ?_))
    · refine t_ifne1 18 dX5_tell_13 (by decide) ?_
      refine g_iload_n dX5_tell_18 rfl 1 rfl ?_
      refine g_iload_n dX5_tell_19 rfl 2 rfl ?_
      refine n_icmpeq 38 dX5_tell_20 (by decide) (by omega) (by omega) (fun h20 => ?_) (fun h20 => ?_)
      · refine g_iconst dX5_tell_38 ci_2 ?_
        exact g_ireturn dX5_tell_39 (Nat.le_refl _) (Nat.le_refl _) (ht (by unfold tellE; rw [if_neg (fun q => q ⟨h2, h10⟩), if_pos (Or.inl h20)]) _ hfd hX c27)
      · refine g_aload_n dX5_tell_23 rfl 0 rfl ?_
        refine s_getM kf_X5_22 (by decide) rfl dX5_tell_24 ?_
        refine g_iload_n dX5_tell_27 rfl 1 rfl ?_
        refine s_ald (q := 38) (n := 6) (at_ia (q := 38) rfl) (by omega) (by decide) dX5_tell_28 ?_
        refine g_tope (z := nI (x_pl X a)) (rpM_pl hX (by omega)) ?_
        refine g_aload_n dX5_tell_29 rfl 0 rfl ?_
        refine s_getM kf_X5_22 (by decide) rfl dX5_tell_30 ?_
        refine g_iload_n dX5_tell_33 rfl 2 rfl ?_
        refine s_ald (q := 38) (n := 6) (at_ia (q := 38) rfl) (by omega) (by decide) dX5_tell_34 ?_
        refine g_tope (z := nI (x_pl X b)) (rpM_pl hX (by omega)) ?_
        refine n_icmpeq 40 dX5_tell_35 (by decide) (by omega) (by omega) (fun h35 => ?_) (fun h35 => ?_)
        · refine g_aload_n dX5_tell_40 rfl 0 rfl ?_
          refine s_getM kf_X5_28 (by decide) rfl dX5_tell_41 ?_
          refine g_iload_n dX5_tell_44 rfl 1 rfl ?_
          refine s_ald (q := 40) (n := 6) (at_ia (q := 40) rfl) (by omega) (by decide) dX5_tell_45 ?_
          refine g_tope (z := nI (bitsN (x_kn X a) 8)) (rpM_kn hX (by omega) (by assumption)) ?_
          refine g_iload_n dX5_tell_46 rfl 3 rfl ?_
          refine g_ishr dX5_tell_47 ?_
          refine g_iconst dX5_tell_48 ci_1 ?_
          refine g_iand dX5_tell_49 ?_
          refine g_tope (z := nI (b2n ((x_kn X a) k))) (gbB _ (by decide) (by omega)) ?_
          refine b_ifne 55 dX5_tell_50 (by decide) (fun h50 => ?_) (fun h50 => ?_)
          · refine g_aload_n dX5_tell_55 rfl 0 rfl ?_
            refine s_getM kf_X5_28 (by decide) rfl dX5_tell_56 ?_
            refine g_iload_n dX5_tell_59 rfl 2 rfl ?_
            refine s_ald (q := 40) (n := 6) (at_ia (q := 40) rfl) (by omega) (by decide) dX5_tell_60 ?_
            refine g_tope (z := nI (bitsN (x_kn X b) 8)) (rpM_kn hX (by omega) (by assumption)) ?_
            refine g_iload_n dX5_tell_61 rfl 3 rfl ?_
            refine g_ishr dX5_tell_62 ?_
            refine g_iconst dX5_tell_63 ci_1 ?_
            refine g_iand dX5_tell_64 ?_
            refine g_tope (z := nI (b2n ((x_kn X b) k))) (gbB _ (by decide) (by omega)) ?_
            refine g_iconst dX5_tell_65 ci_1 ?_
            refine b_icmpne 71 dX5_tell_66 (by decide) (fun h66 => ?_) (fun h66 => ?_)
            · refine g_aload_n dX5_tell_71 rfl 0 rfl ?_
              refine s_getM kf_X5_28 (by decide) rfl dX5_tell_72 ?_
              refine g_iload_n dX5_tell_75 rfl 2 rfl ?_
              refine g_dup2 dX5_tell_76 rfl rfl ?_
              refine s_ald (q := 40) (n := 6) (at_ia (q := 40) rfl) (by omega) (by decide) dX5_tell_77 ?_
              refine g_tope (z := nI (bitsN (x_kn X b) 8)) (rpM_kn hX (by omega) (by assumption)) ?_
              refine g_iconst dX5_tell_78 ci_1 ?_
              refine g_iload_n dX5_tell_79 rfl 3 rfl ?_
              refine g_ishl dX5_tell_80 ?_
              refine g_ior dX5_tell_81 ?_
              refine g_tope (z := nI (bitsN (fun i => (x_kn X b) i || i == k) 8)) (obB _ (by decide) (by omega)) ?_
              refine s_ast (q := 40) (n := 6) (at_ia (q := 40) rfl) (by omega) (by decide) dX5_tell_82 ?_
              have hX := rpM_skn hX b (fun i => (x_kn X b) i || i == k)
              have hfd := fd_A hfd 40 (by omega) (upd (sA σ 40) b (nI (bitsN (fun i => (x_kn X b) i || i == k) 8)))
              have c27 : sI (setA σ 40 (upd (sA σ 40) b (nI (bitsN (fun i => (x_kn X b) i || i == k) 8)))) 33 27 = _ := c27
              generalize setA σ 40 (upd (sA σ 40) b (nI (bitsN (fun i => (x_kn X b) i || i == k) 8))) = σw89 at hX hfd c27 ⊢
              refine g_aload_n dX5_tell_83 rfl 0 rfl ?_
              refine g_dup dX5_tell_84 rfl ?_
              refine s_getM kf_X5_209 (by decide) rfl dX5_tell_85 ?_
              refine g_tope (z := nI t) (c27) ?_
              refine g_iconst dX5_tell_88 ci_1 ?_
              refine g_iadd dX5_tell_89 ?_
              refine g_tope (z := nI (t + 1)) (nI_add _ _) ?_
              refine s_putM kf_X5_209 (by decide) dX5_tell_90 ?_
              have hX := rpM_I hX 27 (by omega) (nI (t + 1))
              have hfd := fd_I hfd 27 (by omega) (nI (t + 1))
              have c27 : sI (setI σw89 33 27 (nI (t + 1))) 33 27 = nI (t + 1) := sI_same _ _ _ _
              generalize setI σw89 33 27 (nI (t + 1)) = σw90 at hX hfd c27 ⊢
              refine g_iconst dX5_tell_93 ci_0 ?_
              exact g_ireturn dX5_tell_94 (Nat.le_refl _) (Nat.le_refl _) (ht0 (by unfold tellE; rw [if_neg (fun q => q ⟨h2, h10⟩), if_neg (by rintro (q | q); exact h20 q; exact q h35), if_neg (by rw [h50]; decide), if_neg (by rw [h66]; decide)]) _ hfd hX c27)
            · refine g_iconst dX5_tell_69 ci_4 ?_
              exact g_ireturn dX5_tell_70 (Nat.le_refl _) (Nat.le_refl _) (ht (by unfold tellE; rw [if_neg (fun q => q ⟨h2, h10⟩), if_neg (by rintro (q | q); exact h20 q; exact q h35), if_neg (by rw [h50]; decide), if_pos h66]) _ hfd hX c27)
          · refine g_iconst dX5_tell_53 ci_3 ?_
            exact g_ireturn dX5_tell_54 (Nat.le_refl _) (Nat.le_refl _) (ht (by unfold tellE; rw [if_neg (fun q => q ⟨h2, h10⟩), if_neg (by rintro (q | q); exact h20 q; exact q h35), if_pos h50]) _ hfd hX c27)
        · refine g_iconst dX5_tell_38 ci_2 ?_
          exact g_ireturn dX5_tell_39 (Nat.le_refl _) (Nat.le_refl _) (ht (by unfold tellE; rw [if_neg (fun q => q ⟨h2, h10⟩), if_pos (Or.inr h35)]) _ hfd hX c27)
    · refine t_ifne0 (tgt := 18) dX5_tell_13 (by decide) ?_
      refine g_iconst dX5_tell_16 ci_1 ?_
      exact g_ireturn dX5_tell_17 (Nat.le_refl _) (Nat.le_refl _) (ht (by unfold tellE; rw [if_pos (by rw [h10]; simp)]) _ hfd hX c27)
  · refine t_ifeq0 16 dX5_tell_5 (by decide) ?_
    refine g_iconst dX5_tell_16 ci_1 ?_
    exact g_ireturn dX5_tell_17 (Nat.le_refl _) (Nat.le_refl _) (ht (by unfold tellE; rw [if_pos (by rw [h2]; simp)]) _ hfd hX c27)
set_option maxHeartbeats 4000000 in
set_option maxRecDepth 20000 in
theorem lp_X5_nightT {l : Launch} {D : gE} {L : Nat → Nat} {σ : St} {Q : Option Value → va_W → Prop} {d : Nat} {X : XT} (ho : okX X) {t : Nat} (h : ∀ σ', fd σ σ' → rpM σ' (nightE X) → sI σ' 33 27 = nI t → Q none (wsOf D L σ')) : ∀ n k, k + n = 8 → ∀ σ', fd σ σ' → rpM σ' (ntP X k) → sI σ' 33 27 = nI t → G l D yX5_passNight cX5_passNight 3 none (rr d) Q 0 0 2 [(1, .int (nI k)), (0, .ref (L 33))] [] (wsOf D L σ') := by
  intro n
  induction n with
  | zero =>
    intro k hct σ' hfd hX c27
    obtain rfl : k = 8 := by omega
    refine g_iload_n dX5_passNight_2 rfl 0 rfl ?_
    refine g_bipush dX5_passNight_3 bp_8 ?_
    refine n_icmpge 59 dX5_passNight_5 (by decide) (by omega) (by omega) (fun h5 => ?_) (fun h5 => absurd h5 (by omega))
    exact g_return dX5_passNight_59 (Nat.le_refl _) (Nat.le_refl _) (h _ hfd hX c27)
  | succ n ih =>
    intro k hct σ' hfd hX c27
    have hwt := ok_wt ho (k := k) (by omega)
    have hfa := ok_fa ho
    refine g_iload_n dX5_passNight_2 rfl 0 rfl ?_
    refine g_bipush dX5_passNight_3 bp_8 ?_
    refine n_icmpge 59 dX5_passNight_5 (by decide) (by omega) (by omega) (fun h5 => absurd h5 (by omega)) (fun h5 => ?_)
    refine g_aload_n dX5_passNight_8 rfl 1 rfl ?_
    refine s_getM kf_X5_31 (by decide) rfl dX5_passNight_9 ?_
    refine g_iload_n dX5_passNight_12 rfl 0 rfl ?_
    refine s_ald (q := 41) (n := 8) (at_ia (q := 41) rfl) (by omega) (by decide) dX5_passNight_13 ?_
    refine g_tope (z := zI (x_wt X k)) ((rpM_wt hX (by omega)).trans (by rw [ntP_at])) ?_
    refine g_aload_n dX5_passNight_14 rfl 1 rfl ?_
    refine s_getM kf_X5_95 (by decide) rfl dX5_passNight_15 ?_
    refine g_tope (z := nI (x_fa X)) ((rpM_fa hX).trans (by rw [ntP_fa])) ?_
    refine g_isub dX5_passNight_18 ?_
    refine g_tope (z := zI (x_wt X k - (x_fa X : Int))) (by rw [nI_zI]; exact zI_sub _ _) ?_
    refine g_istore_n (lv' := [(2, .int (zI (x_wt X k - (x_fa X : Int)))), (1, .int (nI k)), (0, .ref (L 33))]) dX5_passNight_19 rfl (by decide) rfl ?_
    refine g_aload_n dX5_passNight_20 rfl 2 rfl ?_
    refine s_getM kf_X5_31 (by decide) rfl dX5_passNight_21 ?_
    refine g_iload_n dX5_passNight_24 rfl 1 rfl ?_
    refine g_aload_n dX5_passNight_25 rfl 2 rfl ?_
    refine s_getM kf_X5_31 (by decide) rfl dX5_passNight_26 ?_
    refine g_iload_n dX5_passNight_29 rfl 1 rfl ?_
    refine s_ald (q := 41) (n := 8) (at_ia (q := 41) rfl) (by omega) (by decide) dX5_passNight_30 ?_
    refine g_tope (z := zI (x_wt X k)) ((rpM_wt hX (by omega)).trans (by rw [ntP_at])) ?_
    refine z_ifgt 43 dX5_passNight_31 (by decide) (by omega) (fun h31 => ?_) (fun h31 => ?_)
    · refine g_iload_n dX5_passNight_43 rfl 0 rfl ?_
      refine z_ifle 51 dX5_passNight_44 (by decide) (by omega) (fun h44 => ?_) (fun h44 => ?_)
      · refine g_iconst dX5_passNight_51 ci_0 ?_
        refine s_ast (q := 41) (n := 8) (at_ia (q := 41) rfl) (by omega) (by decide) dX5_passNight_52 ?_
        have hX := rpM_swtn hX k 0
        rw [ntP_s X k ((0 : Nat) : Int) (by unfold ngt; rw [if_neg (show ¬ x_wt X k ≤ 0 by omega), if_neg (show ¬ 0 < x_wt X k - (x_fa X : Int) by omega)]; rfl)] at hX
        have hfd := fd_A hfd 41 (by omega) (upd (sA σ' 41) k (nI 0))
        have c27 : sI (setA σ' 41 (upd (sA σ' 41) k (nI 0))) 33 27 = _ := c27
        generalize setA σ' 41 (upd (sA σ' 41) k (nI 0)) = σq at hX hfd c27 ⊢
        refine g_iinc (v := nI (k + 1)) (lv' := [(1, .int (nI (k + 1))), (2, .int (zI (x_wt X k - (x_fa X : Int)))), (0, .ref (L 33))]) dX5_passNight_53 1 rfl (inc_n _) (by decide) rfl ?_
        refine g_goto 2 dX5_passNight_56 (by decide) ?_
        refine g_pick [0, 2] (lv' := [(1, .int (nI (k + 1))), (0, .ref (L 33))]) rfl ?_
        exact ih (k + 1) (by omega) _ hfd hX c27
      · refine g_iload_n dX5_passNight_47 rfl 0 rfl ?_
        refine g_goto 52 dX5_passNight_48 (by decide) ?_
        refine s_ast (q := 41) (n := 8) (at_ia (q := 41) rfl) (by omega) (by decide) dX5_passNight_52 ?_
        have hX := rpM_swt hX k (x_wt X k - (x_fa X : Int))
        rw [ntP_s X k (x_wt X k - (x_fa X : Int)) (by unfold ngt; rw [if_neg (show ¬ x_wt X k ≤ 0 by omega), if_pos (show 0 < x_wt X k - (x_fa X : Int) by omega)])] at hX
        have hfd := fd_A hfd 41 (by omega) (upd (sA σ' 41) k (zI (x_wt X k - (x_fa X : Int))))
        have c27 : sI (setA σ' 41 (upd (sA σ' 41) k (zI (x_wt X k - (x_fa X : Int))))) 33 27 = _ := c27
        generalize setA σ' 41 (upd (sA σ' 41) k (zI (x_wt X k - (x_fa X : Int)))) = σq at hX hfd c27 ⊢
        refine g_iinc (v := nI (k + 1)) (lv' := [(1, .int (nI (k + 1))), (2, .int (zI (x_wt X k - (x_fa X : Int)))), (0, .ref (L 33))]) dX5_passNight_53 1 rfl (inc_n _) (by decide) rfl ?_
        refine g_goto 2 dX5_passNight_56 (by decide) ?_
        refine g_pick [0, 2] (lv' := [(1, .int (nI (k + 1))), (0, .ref (L 33))]) rfl ?_
        exact ih (k + 1) (by omega) _ hfd hX c27
    · refine g_aload_n dX5_passNight_34 rfl 2 rfl ?_
      refine s_getM kf_X5_31 (by decide) rfl dX5_passNight_35 ?_
      refine g_iload_n dX5_passNight_38 rfl 1 rfl ?_
      refine s_ald (q := 41) (n := 8) (at_ia (q := 41) rfl) (by omega) (by decide) dX5_passNight_39 ?_
      refine g_tope (z := zI (x_wt X k)) ((rpM_wt hX (by omega)).trans (by rw [ntP_at])) ?_
      refine g_goto 52 dX5_passNight_40 (by decide) ?_
      refine s_ast (q := 41) (n := 8) (at_ia (q := 41) rfl) (by omega) (by decide) dX5_passNight_52 ?_
      have hX := rpM_swt hX k (x_wt X k)
      rw [ntP_s X k (x_wt X k) (by unfold ngt; rw [if_pos (show x_wt X k ≤ 0 by omega)])] at hX
      have hfd := fd_A hfd 41 (by omega) (upd (sA σ' 41) k (zI (x_wt X k)))
      have c27 : sI (setA σ' 41 (upd (sA σ' 41) k (zI (x_wt X k)))) 33 27 = _ := c27
      generalize setA σ' 41 (upd (sA σ' 41) k (zI (x_wt X k))) = σq at hX hfd c27 ⊢
      refine g_iinc (v := nI (k + 1)) (lv' := [(1, .int (nI (k + 1))), (2, .int (zI (x_wt X k - (x_fa X : Int)))), (0, .ref (L 33))]) dX5_passNight_53 1 rfl (inc_n _) (by decide) rfl ?_
      refine g_goto 2 dX5_passNight_56 (by decide) ?_
      refine g_pick [0, 2] (lv' := [(1, .int (nI (k + 1))), (0, .ref (L 33))]) rfl ?_
      exact ih (k + 1) (by omega) _ hfd hX c27
set_option maxHeartbeats 4000000 in
set_option maxRecDepth 20000 in
theorem c_X5_nightT {l : Launch} {D : gE} {L : Nat → Nat} {σ : St} {Q : Option Value → va_W → Prop} {d : Nat} {X : XT} (hX : rpM σ X) (ho : okX X) {t : Nat} (c27 : sI σ 33 27 = nI t) (h : ∀ σ', fd σ σ' → rpM σ' (nightE X) → sI σ' 33 27 = nI t → Q none (wsOf D L σ')) : Ctr l D yX5_passNight cX5_passNight 3 none (rr d) [.ref (L 33)] (wsOf D L σ) Q := by
  refine g_start ky_X5_passNight (Nat.le_of_ble_eq_true rfl) ?_
  refine g_pick [0] (lv' := [(0, .ref (L 33))]) rfl ?_
  refine g_iconst dX5_passNight_0 ci_0 ?_
  refine g_istore_n (lv' := [(1, .int (nI 0)), (0, .ref (L 33))]) dX5_passNight_1 rfl (by decide) rfl ?_
  refine g_pick [0, 1] (lv' := [(1, .int (nI 0)), (0, .ref (L 33))]) rfl ?_
  exact lp_X5_nightT ho h 8 0 rfl _ fd_rfl (by rw [ntP_0]; exact hX) c27
set_option maxHeartbeats 4000000 in
set_option maxRecDepth 20000 in
theorem l1_X5_year {l : Launch} {D : gE} {L : Nat → Nat} {σ : St} {Q : Option Value → va_W → Prop} {d : Nat} {σ0 : St} {X : XT} (ho : okX X) {s m w : Nat} (hs : s ≤ 9999) (hm : m ≤ 99) (hw : w ≤ 2) (kk : ∀ σ', fr σ σ' → rpM σ' (yrX X s m) → kpt σ0 σ' → sI σ' 33 27 = nI (yrT X s m) → G l D yX5_year cX5_year 9 (some .int) (rr (d + 6)) Q 0 0 122 [(5, .int (nI (m + 1))), (4, .int (nI (yxN s m))), (0, .ref (L 33)), (1, .int (nI s)), (2, .int (nI m)), (3, .int (nI w))] [] (wsOf D L σ')) : ∀ n_ k, k + n_ = m → ∀ σ', fr σ σ' → rpM σ' (yrX X s k) → kpt σ0 σ' → sI σ' 33 27 = nI (yrT X s k) → G l D yX5_year cX5_year 9 (some .int) (rr (d + 6)) Q 0 0 54 [(5, .int (nI (k + 1))), (4, .int (nI (yxN s k))), (0, .ref (L 33)), (1, .int (nI s)), (2, .int (nI m)), (3, .int (nI w))] [] (wsOf D L σ') := by
  intro n_
  induction n_ with
  | zero =>
    intro k hct σ' hfr hX hkp c27
    obtain rfl : k = m := by omega
    refine g_iload dX5_year_54 0 rfl ?_
    refine g_iload_n dX5_year_56 rfl 4 rfl ?_
    refine n_icmpgt 122 dX5_year_57 (by decide) (by omega) (by omega) (fun h57 => ?_) (fun h57 => absurd h57 (by omega))
    refine g_pick [0, 1, 2, 3, 4, 5] (lv' := [(5, .int (nI (k + 1))), (4, .int (nI (yxN s k))), (0, .ref (L 33)), (1, .int (nI s)), (2, .int (nI k)), (3, .int (nI w))]) rfl ?_
    exact kk _ hfr hX hkp c27
  | succ n_ ih =>
    intro k hct σ' hfr hX hkp c27
    have hx0 := yx_lt hs k
    have hx1 := yx_lt hs (k + 1)
    have hyt : yrT X s k ≤ k := cntN_le _ _
    refine g_iload dX5_year_54 0 rfl ?_
    refine g_iload_n dX5_year_56 rfl 4 rfl ?_
    refine n_icmpgt 122 dX5_year_57 (by decide) (by omega) (by omega) (fun h57 => absurd h57 (by omega)) (fun h57 => ?_)
    refine g_ldc2_w kk_X5_354 dX5_year_60 ?_
    refine g_tople (z := (nI 75).toInt64) (by decide +kernel) ?_
    refine g_iload dX5_year_63 1 rfl ?_
    refine g_i2l dX5_year_65 ?_
    refine g_lmul dX5_year_66 ?_
    refine g_tople (z := lN (75 * yxN s k)) (by rw [nI_l (by omega), nI_l (by omega)]; exact lN_mul _ _) ?_
    refine g_ldc2_w kk_X5_356 dX5_year_67 ?_
    refine g_tople (z := (nI 74).toInt64) (by decide +kernel) ?_
    refine g_ladd dX5_year_70 ?_
    refine g_tople (z := lN (75 * yxN s k + 74)) (by rw [nI_l (by omega)]; exact lN_add _ _) ?_
    refine g_ldc2_w kk_X5_358 dX5_year_71 ?_
    refine g_tople (z := (nI 65537).toInt64) (by decide +kernel) ?_
    refine g_lrem dX5_year_74 (by decide +kernel) ?_
    refine g_tople (z := lN (yxN s (k + 1))) (by rw [nI_l (by omega)]; exact pk_lRem (by omega) (by omega) (by omega)) ?_
    refine g_l2i dX5_year_75 ?_
    refine g_tope (z := nI (yxN s (k + 1))) (lN_i _) ?_
    refine g_istore (lv' := [(4, .int (nI (yxN s (k + 1)))), (5, .int (nI (k + 1))), (0, .ref (L 33)), (1, .int (nI s)), (2, .int (nI m)), (3, .int (nI w))]) dX5_year_76 (by decide) rfl ?_
    refine g_aload_n dX5_year_78 rfl 2 rfl ?_
    refine g_iload dX5_year_79 0 rfl ?_
    refine g_bipush dX5_year_81 bp_6 ?_
    refine g_irem dX5_year_83 (by decide +kernel) ?_
    refine g_tope (z := nI ((yxN s (k + 1)) % 6)) (pk_rem (by omega) (by omega) (by omega)) ?_
    refine g_iload dX5_year_84 0 rfl ?_
    refine g_bipush dX5_year_86 bp_6 ?_
    refine g_idiv dX5_year_88 (by decide +kernel) ?_
    refine g_tope (z := nI ((yxN s (k + 1)) / 6)) (pk_div (by omega) (by omega) (by omega)) ?_
    refine g_bipush dX5_year_89 bp_6 ?_
    refine g_irem dX5_year_91 (by decide +kernel) ?_
    refine g_tope (z := nI (((yxN s (k + 1)) / 6) % 6)) (pk_rem (by omega) (by omega) (by omega)) ?_
    refine g_iload dX5_year_92 0 rfl ?_
    refine g_bipush dX5_year_94 bp_36 ?_
    refine g_idiv dX5_year_96 (by decide +kernel) ?_
    refine g_tope (z := nI ((yxN s (k + 1)) / 36)) (pk_div (by omega) (by omega) (by omega)) ?_
    refine g_bipush dX5_year_97 bp_8 ?_
    refine g_irem dX5_year_99 (by decide +kernel) ?_
    refine g_tope (z := nI (((yxN s (k + 1)) / 36) % 8)) (pk_rem (by omega) (by omega) (by omega)) ?_
    refine g_callV (As := [.int (nI ((yxN s (k + 1)) % 6)), .int (nI (((yxN s (k + 1)) / 6) % 6)), .int (nI (((yxN s (k + 1)) / 36) % 8))]) km_X5_215 ky_X5_tell ki_X5_tell (by decide) 33 at_33 rfl rfl (Nat.le_of_ble_eq_true rfl) dX5_year_100 rfl (c_X5_tellT hX (ok_yr ho s k) (Nat.mod_lt _ (by decide)) (Nat.mod_lt _ (by decide)) (Nat.mod_lt _ (by decide)) c27 (by omega) (fun {w9} e σ2 hf2 hX2 c27 => ?_) (fun {X2} e σ2 hf2 hX2 c27 => ?_))
    · have hkp := fd_kpt hf2 hkp
      have hfr := fr_trans hfr (fd_fr hf2)
      rw [yr_t1 e] at c27
      have hok2 : okX (yrX X s k) := ok_yr ho s k
      have e7 := yr_tell e
      refine g_pop dX5_year_103 rfl ?_
      refine g_iload dX5_year_104 1 rfl ?_
      refine g_bipush dX5_year_106 bp_7 ?_
      refine g_irem dX5_year_108 (by decide +kernel) ?_
      refine g_tope (z := nI ((k + 1) % 7)) (pk_rem (by omega) (by omega) (by omega)) ?_
      refine n_ifne 116 dX5_year_109 (by decide) (by omega) (fun h109 => ?_) (fun h109 => ?_)
      · refine g_iinc (v := nI (k + 1 + 1)) (lv' := [(5, .int (nI (k + 1 + 1))), (4, .int (nI (yxN s (k + 1)))), (0, .ref (L 33)), (1, .int (nI s)), (2, .int (nI m)), (3, .int (nI w))]) dX5_year_116 1 rfl (inc_n _) (by decide) rfl ?_
        refine g_goto 54 dX5_year_119 (by decide) ?_
        refine g_pick [0, 1, 2, 3, 4, 5] (lv' := [(5, .int (nI (k + 1 + 1))), (4, .int (nI (yxN s (k + 1)))), (0, .ref (L 33)), (1, .int (nI s)), (2, .int (nI m)), (3, .int (nI w))]) rfl ?_
        exact ih (k + 1) (by omega) _ hfr (by rw [if_neg h109] at e7; rw [← e7]; exact hX2) hkp c27
      · refine g_aload_n dX5_year_112 rfl 2 rfl ?_
        refine g_callV (As := []) km_X5_224 ky_X5_passNight ki_X5_passNight (by decide) 33 at_33 rfl rfl (Nat.le_of_ble_eq_true rfl) dX5_year_113 rfl (c_X5_nightT hX2 hok2 c27 (fun σ3 hf3 hX3 c27 => ?_))
        have hkp := fd_kpt hf3 hkp
        have hfr := fr_trans hfr (fd_fr hf3)
        refine g_iinc (v := nI (k + 1 + 1)) (lv' := [(5, .int (nI (k + 1 + 1))), (4, .int (nI (yxN s (k + 1)))), (0, .ref (L 33)), (1, .int (nI s)), (2, .int (nI m)), (3, .int (nI w))]) dX5_year_116 1 rfl (inc_n _) (by decide) rfl ?_
        refine g_goto 54 dX5_year_119 (by decide) ?_
        refine g_pick [0, 1, 2, 3, 4, 5] (lv' := [(5, .int (nI (k + 1 + 1))), (4, .int (nI (yxN s (k + 1)))), (0, .ref (L 33)), (1, .int (nI s)), (2, .int (nI m)), (3, .int (nI w))]) rfl ?_
        exact ih (k + 1) (by omega) _ hfr (by rw [if_pos h109] at e7; rw [← e7]; exact hX3) hkp c27
    · have hkp := fd_kpt hf2 hkp
      have hfr := fr_trans hfr (fd_fr hf2)
      rw [yr_t0 e] at c27
      have hok2 : okX X2 := by have h9 := ok_yrE (x := yxN s (k + 1)) (ok_yr ho s k); rw [show yrE (yrX X s k) (yxN s (k + 1)) = (0, X2) from e] at h9; exact h9
      have e7 := yr_tell e
      refine g_pop dX5_year_103 rfl ?_
      refine g_iload dX5_year_104 1 rfl ?_
      refine g_bipush dX5_year_106 bp_7 ?_
      refine g_irem dX5_year_108 (by decide +kernel) ?_
      refine g_tope (z := nI ((k + 1) % 7)) (pk_rem (by omega) (by omega) (by omega)) ?_
      refine n_ifne 116 dX5_year_109 (by decide) (by omega) (fun h109 => ?_) (fun h109 => ?_)
      · refine g_iinc (v := nI (k + 1 + 1)) (lv' := [(5, .int (nI (k + 1 + 1))), (4, .int (nI (yxN s (k + 1)))), (0, .ref (L 33)), (1, .int (nI s)), (2, .int (nI m)), (3, .int (nI w))]) dX5_year_116 1 rfl (inc_n _) (by decide) rfl ?_
        refine g_goto 54 dX5_year_119 (by decide) ?_
        refine g_pick [0, 1, 2, 3, 4, 5] (lv' := [(5, .int (nI (k + 1 + 1))), (4, .int (nI (yxN s (k + 1)))), (0, .ref (L 33)), (1, .int (nI s)), (2, .int (nI m)), (3, .int (nI w))]) rfl ?_
        exact ih (k + 1) (by omega) _ hfr (by rw [if_neg h109] at e7; rw [← e7]; exact hX2) hkp c27
      · refine g_aload_n dX5_year_112 rfl 2 rfl ?_
        refine g_callV (As := []) km_X5_224 ky_X5_passNight ki_X5_passNight (by decide) 33 at_33 rfl rfl (Nat.le_of_ble_eq_true rfl) dX5_year_113 rfl (c_X5_nightT hX2 hok2 c27 (fun σ3 hf3 hX3 c27 => ?_))
        have hkp := fd_kpt hf3 hkp
        have hfr := fr_trans hfr (fd_fr hf3)
        refine g_iinc (v := nI (k + 1 + 1)) (lv' := [(5, .int (nI (k + 1 + 1))), (4, .int (nI (yxN s (k + 1)))), (0, .ref (L 33)), (1, .int (nI s)), (2, .int (nI m)), (3, .int (nI w))]) dX5_year_116 1 rfl (inc_n _) (by decide) rfl ?_
        refine g_goto 54 dX5_year_119 (by decide) ?_
        refine g_pick [0, 1, 2, 3, 4, 5] (lv' := [(5, .int (nI (k + 1 + 1))), (4, .int (nI (yxN s (k + 1)))), (0, .ref (L 33)), (1, .int (nI s)), (2, .int (nI m)), (3, .int (nI w))]) rfl ?_
        exact ih (k + 1) (by omega) _ hfr (by rw [if_pos h109] at e7; rw [← e7]; exact hX3) hkp c27
set_option maxHeartbeats 4000000 in
set_option maxRecDepth 20000 in
theorem l2_X5_year {l : Launch} {D : gE} {L : Nat → Nat} {σ : St} {Q : Option Value → va_W → Prop} {d : Nat} {X : XT} (ho : okX X) {s m w : Nat} (hs : s ≤ 9999) (hm : m ≤ 99) (hw : w ≤ 2) {σ0 : St} (h0 : rpM σ0 X) (h : ∀ σ', fr σ σ' → rpM σ' X → Q (some (.int (yearN X s m w))) (wsOf D L σ')) {σ' : St} (hfr : fr σ σ') (hX : rpM σ' (yrX X s m)) (hkp : kpt σ0 σ') (c27 : sI σ' 33 27 = nI (yrT X s m)) : ∀ n_ k, k + n_ = 8 → G l D yX5_year cX5_year 9 (some .int) (rr (d + 6)) Q 0 0 184 [(7, .int (nI k)), (6, .int (nI (mxN (kcX (yrX X s m)) k))), (5, .int (nI (mxN (ybX (yrX X s m)) 6))), (4, .int (nI (yxN s m))), (0, .ref (L 33)), (1, .int (nI s)), (2, .int (nI m)), (3, .int (nI w))] [] (wsOf D L σ') := by
  intro n_
  induction n_ with
  | zero =>
    intro k hct
    obtain rfl : k = 8 := by omega
    have hk1 := mxN_le (f := kcX (yrX X s m)) (fun i => kc_le _ i)
    have hb1 := mxN_le (f := ybX (yrX X s m)) (fun i => ybX_le (ok_yr ho s m) i)
    refine g_iload dX5_year_184 0 rfl ?_
    refine g_bipush dX5_year_186 bp_8 ?_
    refine n_icmpge 221 dX5_year_188 (by decide) (by omega) (by omega) (fun h188 => ?_) (fun h188 => absurd h188 (by omega))
    refine g_aload_n dX5_year_221 rfl 4 rfl ?_
    refine g_callV (As := []) km_X5_254 ky_X5_putBack ki_X5_putBack (by decide) 33 at_33 rfl rfl (Nat.le_of_ble_eq_true rfl) dX5_year_222 rfl (c_X5_backX hkp h0 hX (sme_yr X s m) (fun σ9 hf9 hX9 hs9 => ?_))
    refine g_iload_n dX5_year_225 rfl 7 rfl ?_
    refine n_ifne 236 dX5_year_226 (by decide) (by omega) (fun h226 => ?_) (fun h226 => ?_)
    · refine g_iload_n dX5_year_236 rfl 7 rfl ?_
      refine g_iconst dX5_year_237 ci_1 ?_
      refine n_icmpne 246 dX5_year_238 (by decide) (by omega) (by omega) (fun h238 => ?_) (fun h238 => ?_)
      · refine g_iload dX5_year_246 1 rfl ?_
        exact g_ireturn dX5_year_248 (Nat.le_refl _) (Nat.le_refl _) (qi (by unfold yearN; rw [if_neg h226, if_neg h238]) (h _ (fr_trans hfr hf9) hX9))
      · refine g_iload dX5_year_241 2 rfl ?_
        refine g_goto 248 dX5_year_243 (by decide) ?_
        exact g_ireturn dX5_year_248 (Nat.le_refl _) (Nat.le_refl _) (qi (by unfold yearN; rw [if_neg h226, if_pos h238]) (h _ (fr_trans hfr hf9) hX9))
    · refine g_aload_n dX5_year_229 rfl 4 rfl ?_
      refine s_getM kf_X5_209 (by decide) rfl dX5_year_230 ?_
      refine g_tope (z := nI (yrT X s m)) ((hs9 27 (by decide)).trans c27) ?_
      refine g_goto 248 dX5_year_233 (by decide) ?_
      exact g_ireturn dX5_year_248 (Nat.le_refl _) (Nat.le_refl _) (qi (by unfold yearN; rw [if_pos h226]) (h _ (fr_trans hfr hf9) hX9))
  | succ n_ ih =>
    intro k hct
    have hk1 := mxN_le (f := kcX (yrX X s m)) (fun i => kc_le _ i)
    have hb1 := mxN_le (f := ybX (yrX X s m)) (fun i => ybX_le (ok_yr ho s m) i)
    have hkk := kc_le (yrX X s m) k
    have hk2 := hk1 k
    refine g_iload dX5_year_184 0 rfl ?_
    refine g_bipush dX5_year_186 bp_8 ?_
    refine n_icmpge 221 dX5_year_188 (by decide) (by omega) (by omega) (fun h188 => absurd h188 (by omega)) (fun h188 => ?_)
    refine g_aload_n dX5_year_191 rfl 4 rfl ?_
    refine g_iload dX5_year_192 0 rfl ?_
    refine g_callV (As := [.int (nI k)]) km_X5_195 ky_X5_knowers ki_X5_knowers (by decide) 33 at_33 rfl rfl (Nat.le_of_ble_eq_true rfl) dX5_year_194 rfl (c_X5_knowers hX (ok_yr ho s m) (by omega) ?_)
    refine g_iload dX5_year_197 1 rfl ?_
    refine n_icmple 211 dX5_year_199 (by decide) (by omega) (by omega) (fun h199 => ?_) (fun h199 => ?_)
    · refine g_iload dX5_year_211 1 rfl ?_
      refine g_tope (z := nI (mxN (kcX (yrX X s m)) (k + 1))) (by rw [mxN_s, if_neg (by omega)]) ?_
      refine g_istore (lv' := [(6, .int (nI (mxN (kcX (yrX X s m)) (k + 1)))), (7, .int (nI k)), (5, .int (nI (mxN (ybX (yrX X s m)) 6))), (4, .int (nI (yxN s m))), (0, .ref (L 33)), (1, .int (nI s)), (2, .int (nI m)), (3, .int (nI w))]) dX5_year_213 (by decide) rfl ?_
      refine g_iinc (v := nI (k + 1)) (lv' := [(7, .int (nI (k + 1))), (6, .int (nI (mxN (kcX (yrX X s m)) (k + 1)))), (5, .int (nI (mxN (ybX (yrX X s m)) 6))), (4, .int (nI (yxN s m))), (0, .ref (L 33)), (1, .int (nI s)), (2, .int (nI m)), (3, .int (nI w))]) dX5_year_215 1 rfl (inc_n _) (by decide) rfl ?_
      refine g_goto 184 dX5_year_218 (by decide) ?_
      refine g_pick [0, 1, 2, 3, 4, 5, 6, 7] (lv' := [(7, .int (nI (k + 1))), (6, .int (nI (mxN (kcX (yrX X s m)) (k + 1)))), (5, .int (nI (mxN (ybX (yrX X s m)) 6))), (4, .int (nI (yxN s m))), (0, .ref (L 33)), (1, .int (nI s)), (2, .int (nI m)), (3, .int (nI w))]) rfl ?_
      exact ih (k + 1) (by omega)
    · refine g_aload_n dX5_year_202 rfl 4 rfl ?_
      refine g_iload dX5_year_203 0 rfl ?_
      refine g_callV (As := [.int (nI k)]) km_X5_195 ky_X5_knowers ki_X5_knowers (by decide) 33 at_33 rfl rfl (Nat.le_of_ble_eq_true rfl) dX5_year_205 rfl (c_X5_knowers hX (ok_yr ho s m) (by omega) ?_)
      refine g_goto 213 dX5_year_208 (by decide) ?_
      refine g_tope (z := nI (mxN (kcX (yrX X s m)) (k + 1))) (by rw [mxN_s, if_pos (by omega)]) ?_
      refine g_istore (lv' := [(6, .int (nI (mxN (kcX (yrX X s m)) (k + 1)))), (7, .int (nI k)), (5, .int (nI (mxN (ybX (yrX X s m)) 6))), (4, .int (nI (yxN s m))), (0, .ref (L 33)), (1, .int (nI s)), (2, .int (nI m)), (3, .int (nI w))]) dX5_year_213 (by decide) rfl ?_
      refine g_iinc (v := nI (k + 1)) (lv' := [(7, .int (nI (k + 1))), (6, .int (nI (mxN (kcX (yrX X s m)) (k + 1)))), (5, .int (nI (mxN (ybX (yrX X s m)) 6))), (4, .int (nI (yxN s m))), (0, .ref (L 33)), (1, .int (nI s)), (2, .int (nI m)), (3, .int (nI w))]) dX5_year_215 1 rfl (inc_n _) (by decide) rfl ?_
      refine g_goto 184 dX5_year_218 (by decide) ?_
      refine g_pick [0, 1, 2, 3, 4, 5, 6, 7] (lv' := [(7, .int (nI (k + 1))), (6, .int (nI (mxN (kcX (yrX X s m)) (k + 1)))), (5, .int (nI (mxN (ybX (yrX X s m)) 6))), (4, .int (nI (yxN s m))), (0, .ref (L 33)), (1, .int (nI s)), (2, .int (nI m)), (3, .int (nI w))]) rfl ?_
      exact ih (k + 1) (by omega)
set_option maxHeartbeats 4000000 in
set_option maxRecDepth 20000 in
theorem l3_X5_year {l : Launch} {D : gE} {L : Nat → Nat} {σ : St} {Q : Option Value → va_W → Prop} {d : Nat} {X : XT} (ho : okX X) {s m w : Nat} (hs : s ≤ 9999) (hm : m ≤ 99) (hw : w ≤ 2) {σ0 : St} (h0 : rpM σ0 X) (h : ∀ σ', fr σ σ' → rpM σ' X → Q (some (.int (yearN X s m w))) (wsOf D L σ')) {σ' : St} (hfr : fr σ σ') (hX : rpM σ' (yrX X s m)) (hkp : kpt σ0 σ') (c27 : sI σ' 33 27 = nI (yrT X s m)) : ∀ n_ p, p + n_ = 6 → G l D yX5_year cX5_year 9 (some .int) (rr (d + 6)) Q 0 0 131 [(7, .int (nI p)), (6, .int (nI 0)), (5, .int (nI (mxN (ybX (yrX X s m)) p))), (4, .int (nI (yxN s m))), (0, .ref (L 33)), (1, .int (nI s)), (2, .int (nI m)), (3, .int (nI w))] [] (wsOf D L σ') := by
  intro n_
  induction n_ with
  | zero =>
    intro p hct
    obtain rfl : p = 6 := by omega
    refine g_iload dX5_year_131 0 rfl ?_
    refine g_bipush dX5_year_133 bp_6 ?_
    refine n_icmpge 181 dX5_year_135 (by decide) (by omega) (by omega) (fun h135 => ?_) (fun h135 => absurd h135 (by omega))
    refine g_iconst dX5_year_181 ci_0 ?_
    refine g_istore (lv' := [(7, .int (nI 0)), (6, .int (nI 0)), (5, .int (nI (mxN (ybX (yrX X s m)) 6))), (4, .int (nI (yxN s m))), (0, .ref (L 33)), (1, .int (nI s)), (2, .int (nI m)), (3, .int (nI w))]) dX5_year_182 (by decide) rfl ?_
    refine g_pick [0, 1, 2, 3, 4, 5, 6, 7] (lv' := [(7, .int (nI 0)), (6, .int (nI 0)), (5, .int (nI (mxN (ybX (yrX X s m)) 6))), (4, .int (nI (yxN s m))), (0, .ref (L 33)), (1, .int (nI s)), (2, .int (nI m)), (3, .int (nI w))]) rfl ?_
    exact l2_X5_year ho hs hm hw h0 h hfr hX hkp c27 8 0 rfl
  | succ n_ ih =>
    intro p hct
    have hk1 := mxN_le (f := kcX (yrX X s m)) (fun i => kc_le _ i)
    have hb1 := mxN_le (f := ybX (yrX X s m)) (fun i => ybX_le (ok_yr ho s m) i)
    have hb2 := hb1 p
    have hb3 := ybX_le (ok_yr ho s m) p
    refine g_iload dX5_year_131 0 rfl ?_
    refine g_bipush dX5_year_133 bp_6 ?_
    refine n_icmpge 181 dX5_year_135 (by decide) (by omega) (by omega) (fun h135 => absurd h135 (by omega)) (fun h135 => ?_)
    refine g_aload_n dX5_year_138 rfl 4 rfl ?_
    refine g_iload dX5_year_139 0 rfl ?_
    refine g_callV (As := [.int (nI p)]) km_X5_143 ky_X5_isThere ki_X5_isThere (by decide) 33 at_33 rfl rfl (Nat.le_of_ble_eq_true rfl) dX5_year_141 rfl (c_X5_isThereN hX (by omega) (fun h141 => ?_) (fun h141 => ?_))
    · refine t_ifeq1 (tgt := 156) dX5_year_144 (by decide) ?_
      refine g_aload_n dX5_year_147 rfl 4 rfl ?_
      refine g_iload dX5_year_148 0 rfl ?_
      refine g_callV (As := [.int (nI p)]) km_X5_206 ky_X5_carriedBy ki_X5_carriedBy (by decide) 33 at_33 rfl rfl (Nat.le_of_ble_eq_true rfl) dX5_year_150 rfl (c_X5_carriedBy hX (ok_yr ho s m) (by omega) (by assumption) ?_)
      refine g_goto 157 dX5_year_153 (by decide) ?_
      refine g_tope (z := nI (ybX (yrX X s m) p)) (by unfold ybX; rw [if_pos h141]) ?_
      refine g_istore (lv' := [(8, .int (nI (ybX (yrX X s m) p))), (7, .int (nI p)), (6, .int (nI 0)), (5, .int (nI (mxN (ybX (yrX X s m)) p))), (4, .int (nI (yxN s m))), (0, .ref (L 33)), (1, .int (nI s)), (2, .int (nI m)), (3, .int (nI w))]) dX5_year_157 (by decide) rfl ?_
      refine g_iload dX5_year_159 0 rfl ?_
      refine g_iload dX5_year_161 3 rfl ?_
      refine n_icmple 171 dX5_year_163 (by decide) (by omega) (by omega) (fun h163 => ?_) (fun h163 => ?_)
      · refine g_iload dX5_year_171 3 rfl ?_
        refine g_tope (z := nI (mxN (ybX (yrX X s m)) (p + 1))) (by rw [mxN_s, if_neg (by omega)]) ?_
        refine g_istore (lv' := [(5, .int (nI (mxN (ybX (yrX X s m)) (p + 1)))), (8, .int (nI (ybX (yrX X s m) p))), (7, .int (nI p)), (6, .int (nI 0)), (4, .int (nI (yxN s m))), (0, .ref (L 33)), (1, .int (nI s)), (2, .int (nI m)), (3, .int (nI w))]) dX5_year_173 (by decide) rfl ?_
        refine g_iinc (v := nI (p + 1)) (lv' := [(7, .int (nI (p + 1))), (5, .int (nI (mxN (ybX (yrX X s m)) (p + 1)))), (8, .int (nI (ybX (yrX X s m) p))), (6, .int (nI 0)), (4, .int (nI (yxN s m))), (0, .ref (L 33)), (1, .int (nI s)), (2, .int (nI m)), (3, .int (nI w))]) dX5_year_175 2 rfl (inc_n _) (by decide) rfl ?_
        refine g_goto 131 dX5_year_178 (by decide) ?_
        refine g_pick [0, 3, 1, 4, 5, 6, 7, 8] (lv' := [(7, .int (nI (p + 1))), (6, .int (nI 0)), (5, .int (nI (mxN (ybX (yrX X s m)) (p + 1)))), (4, .int (nI (yxN s m))), (0, .ref (L 33)), (1, .int (nI s)), (2, .int (nI m)), (3, .int (nI w))]) rfl ?_
        exact ih (p + 1) (by omega)
      · refine g_iload dX5_year_166 0 rfl ?_
        refine g_goto 173 dX5_year_168 (by decide) ?_
        refine g_tope (z := nI (mxN (ybX (yrX X s m)) (p + 1))) (by rw [mxN_s, if_pos (by omega)]) ?_
        refine g_istore (lv' := [(5, .int (nI (mxN (ybX (yrX X s m)) (p + 1)))), (8, .int (nI (ybX (yrX X s m) p))), (7, .int (nI p)), (6, .int (nI 0)), (4, .int (nI (yxN s m))), (0, .ref (L 33)), (1, .int (nI s)), (2, .int (nI m)), (3, .int (nI w))]) dX5_year_173 (by decide) rfl ?_
        refine g_iinc (v := nI (p + 1)) (lv' := [(7, .int (nI (p + 1))), (5, .int (nI (mxN (ybX (yrX X s m)) (p + 1)))), (8, .int (nI (ybX (yrX X s m) p))), (6, .int (nI 0)), (4, .int (nI (yxN s m))), (0, .ref (L 33)), (1, .int (nI s)), (2, .int (nI m)), (3, .int (nI w))]) dX5_year_175 2 rfl (inc_n _) (by decide) rfl ?_
        refine g_goto 131 dX5_year_178 (by decide) ?_
        refine g_pick [0, 3, 1, 4, 5, 6, 7, 8] (lv' := [(7, .int (nI (p + 1))), (6, .int (nI 0)), (5, .int (nI (mxN (ybX (yrX X s m)) (p + 1)))), (4, .int (nI (yxN s m))), (0, .ref (L 33)), (1, .int (nI s)), (2, .int (nI m)), (3, .int (nI w))]) rfl ?_
        exact ih (p + 1) (by omega)
    · refine t_ifeq0 156 dX5_year_144 (by decide) ?_
      refine g_iconst dX5_year_156 ci_0 ?_
      refine g_tope (z := nI (ybX (yrX X s m) p)) (by unfold ybX; rw [if_neg (by rw [h141]; decide)]) ?_
      refine g_istore (lv' := [(8, .int (nI (ybX (yrX X s m) p))), (7, .int (nI p)), (6, .int (nI 0)), (5, .int (nI (mxN (ybX (yrX X s m)) p))), (4, .int (nI (yxN s m))), (0, .ref (L 33)), (1, .int (nI s)), (2, .int (nI m)), (3, .int (nI w))]) dX5_year_157 (by decide) rfl ?_
      refine g_iload dX5_year_159 0 rfl ?_
      refine g_iload dX5_year_161 3 rfl ?_
      refine n_icmple 171 dX5_year_163 (by decide) (by omega) (by omega) (fun h163 => ?_) (fun h163 => ?_)
      · refine g_iload dX5_year_171 3 rfl ?_
        refine g_tope (z := nI (mxN (ybX (yrX X s m)) (p + 1))) (by rw [mxN_s, if_neg (by omega)]) ?_
        refine g_istore (lv' := [(5, .int (nI (mxN (ybX (yrX X s m)) (p + 1)))), (8, .int (nI (ybX (yrX X s m) p))), (7, .int (nI p)), (6, .int (nI 0)), (4, .int (nI (yxN s m))), (0, .ref (L 33)), (1, .int (nI s)), (2, .int (nI m)), (3, .int (nI w))]) dX5_year_173 (by decide) rfl ?_
        refine g_iinc (v := nI (p + 1)) (lv' := [(7, .int (nI (p + 1))), (5, .int (nI (mxN (ybX (yrX X s m)) (p + 1)))), (8, .int (nI (ybX (yrX X s m) p))), (6, .int (nI 0)), (4, .int (nI (yxN s m))), (0, .ref (L 33)), (1, .int (nI s)), (2, .int (nI m)), (3, .int (nI w))]) dX5_year_175 2 rfl (inc_n _) (by decide) rfl ?_
        refine g_goto 131 dX5_year_178 (by decide) ?_
        refine g_pick [0, 3, 1, 4, 5, 6, 7, 8] (lv' := [(7, .int (nI (p + 1))), (6, .int (nI 0)), (5, .int (nI (mxN (ybX (yrX X s m)) (p + 1)))), (4, .int (nI (yxN s m))), (0, .ref (L 33)), (1, .int (nI s)), (2, .int (nI m)), (3, .int (nI w))]) rfl ?_
        exact ih (p + 1) (by omega)
      · refine g_iload dX5_year_166 0 rfl ?_
        refine g_goto 173 dX5_year_168 (by decide) ?_
        refine g_tope (z := nI (mxN (ybX (yrX X s m)) (p + 1))) (by rw [mxN_s, if_pos (by omega)]) ?_
        refine g_istore (lv' := [(5, .int (nI (mxN (ybX (yrX X s m)) (p + 1)))), (8, .int (nI (ybX (yrX X s m) p))), (7, .int (nI p)), (6, .int (nI 0)), (4, .int (nI (yxN s m))), (0, .ref (L 33)), (1, .int (nI s)), (2, .int (nI m)), (3, .int (nI w))]) dX5_year_173 (by decide) rfl ?_
        refine g_iinc (v := nI (p + 1)) (lv' := [(7, .int (nI (p + 1))), (5, .int (nI (mxN (ybX (yrX X s m)) (p + 1)))), (8, .int (nI (ybX (yrX X s m) p))), (6, .int (nI 0)), (4, .int (nI (yxN s m))), (0, .ref (L 33)), (1, .int (nI s)), (2, .int (nI m)), (3, .int (nI w))]) dX5_year_175 2 rfl (inc_n _) (by decide) rfl ?_
        refine g_goto 131 dX5_year_178 (by decide) ?_
        refine g_pick [0, 3, 1, 4, 5, 6, 7, 8] (lv' := [(7, .int (nI (p + 1))), (6, .int (nI 0)), (5, .int (nI (mxN (ybX (yrX X s m)) (p + 1)))), (4, .int (nI (yxN s m))), (0, .ref (L 33)), (1, .int (nI s)), (2, .int (nI m)), (3, .int (nI w))]) rfl ?_
        exact ih (p + 1) (by omega)
set_option maxHeartbeats 4000000 in
theorem e_X5_year {l : Launch} {D : gE} {L : Nat → Nat} {σ : St} {Q : Option Value → va_W → Prop} {d : Nat} {X : XT} (ho : okX X) {s m w : Nat} (hs : s ≤ 9999) (hm : m ≤ 99) (hw : w ≤ 2) {σ0 : St} (h0 : rpM σ0 X) (h : ∀ σ', fr σ σ' → rpM σ' X → Q (some (.int (yearN X s m w))) (wsOf D L σ')) {σ4 : St} (hf4 : fr σ σ4) (hX4 : rpM σ4 (yrX X s m)) (hk4 : kpt σ0 σ4) (c4 : sI σ4 33 27 = nI (yrT X s m)) : G l D yX5_year cX5_year 9 (some .int) (rr (d + 6)) Q 0 0 122 [(5, .int (nI (m + 1))), (4, .int (nI (yxN s m))), (0, .ref (L 33)), (1, .int (nI s)), (2, .int (nI m)), (3, .int (nI w))] [] (wsOf D L σ4) := by
  refine g_iconst dX5_year_122 ci_0 ?_
  refine g_istore (lv' := [(5, .int (nI 0)), (4, .int (nI (yxN s m))), (0, .ref (L 33)), (1, .int (nI s)), (2, .int (nI m)), (3, .int (nI w))]) dX5_year_123 (by decide) rfl ?_
  refine g_iconst dX5_year_125 ci_0 ?_
  refine g_istore (lv' := [(6, .int (nI 0)), (5, .int (nI 0)), (4, .int (nI (yxN s m))), (0, .ref (L 33)), (1, .int (nI s)), (2, .int (nI m)), (3, .int (nI w))]) dX5_year_126 (by decide) rfl ?_
  refine g_iconst dX5_year_128 ci_0 ?_
  refine g_istore (lv' := [(7, .int (nI 0)), (6, .int (nI 0)), (5, .int (nI 0)), (4, .int (nI (yxN s m))), (0, .ref (L 33)), (1, .int (nI s)), (2, .int (nI m)), (3, .int (nI w))]) dX5_year_129 (by decide) rfl ?_
  refine g_pick [0, 1, 2, 3, 4, 5, 6, 7] (lv' := [(7, .int (nI 0)), (6, .int (nI 0)), (5, .int (nI 0)), (4, .int (nI (yxN s m))), (0, .ref (L 33)), (1, .int (nI s)), (2, .int (nI m)), (3, .int (nI w))]) rfl ?_
  exact l3_X5_year ho hs hm hw h0 h hf4 hX4 hk4 c4 6 0 rfl
set_option maxHeartbeats 4000000 in
set_option maxRecDepth 20000 in
theorem c_X5_year {l : Launch} {D : gE} {L : Nat → Nat} {σ : St} {Q : Option Value → va_W → Prop} {d : Nat} {X : XT} (hX : rpM σ X) (ho : okX X) {x y z : Int32} (h : ∀ σ', fr σ σ' → rpM σ' X → Q (some (.int (yearR X x y z))) (wsOf D L σ')) : Ctr l D yX5_year cX5_year 9 (some .int) (rr (d + 6)) [.ref (L 33), .int x, .int y, .int z] (wsOf D L σ) Q := by
  refine g_start ky_X5_year (Nat.le_of_ble_eq_true rfl) ?_
  refine g_pick [0, 1, 2, 3] (lv' := [(0, .ref (L 33)), (1, .int x), (2, .int y), (3, .int z)]) rfl ?_
  refine g_iload_n dX5_year_0 rfl 1 rfl ?_
  refine g_i2l dX5_year_1 ?_
  refine g_lconst dX5_year_2 lc_0 ?_
  refine g_ldc2_w kk_X5_352 dX5_year_3 ?_
  refine g_tople (z := (nI 9999).toInt64) (by decide +kernel) ?_
  refine g_callS (As := [.long x.toInt64, .long ((nI 0).toInt64), .long ((nI 9999).toInt64)]) km_X5_118 ky_X5_in ks_X5_in (by decide) rfl (Nat.le_of_ble_eq_true rfl) dX5_year_6 rfl (c_X5_inN (by omega) (by omega) (fun p6 ha6 hb6 he6 => ?_) (fun h6 => ?_))
  · subst he6
    refine t_ifeq1 (tgt := 36) dX5_year_9 (by decide) ?_
    refine g_iload_n dX5_year_12 rfl 2 rfl ?_
    refine g_i2l dX5_year_13 ?_
    refine g_lconst dX5_year_14 lc_1 ?_
    refine g_ldc2_w kk_X5_134 dX5_year_15 ?_
    refine g_tople (z := (nI 99).toInt64) (by decide +kernel) ?_
    refine g_callS (As := [.long y.toInt64, .long ((nI 1).toInt64), .long ((nI 99).toInt64)]) km_X5_118 ky_X5_in ks_X5_in (by decide) rfl (Nat.le_of_ble_eq_true rfl) dX5_year_18 rfl (c_X5_inN (by omega) (by omega) (fun p18 ha18 hb18 he18 => ?_) (fun h18 => ?_))
    · subst he18
      refine t_ifeq1 (tgt := 36) dX5_year_21 (by decide) ?_
      refine g_iload_n dX5_year_24 rfl 3 rfl ?_
      refine g_i2l dX5_year_25 ?_
      refine g_lconst dX5_year_26 lc_0 ?_
      refine g_ldc2_w kk_X5_126 dX5_year_27 ?_
      refine g_tople (z := (nI 2).toInt64) (by decide +kernel) ?_
      refine g_callS (As := [.long z.toInt64, .long ((nI 0).toInt64), .long ((nI 2).toInt64)]) km_X5_118 ky_X5_in ks_X5_in (by decide) rfl (Nat.le_of_ble_eq_true rfl) dX5_year_30 rfl (c_X5_inN (by omega) (by omega) (fun p30 ha30 hb30 he30 => ?_) (fun h30 => ?_))
      · subst he30
        refine t_ifne1 39 dX5_year_33 (by decide) ?_
        refine g_aload_n dX5_year_39 rfl 0 rfl ?_
        refine g_callV (As := []) km_X5_248 ky_X5_keepNow ki_X5_keepNow (by decide) 33 at_33 rfl rfl (Nat.le_of_ble_eq_true rfl) dX5_year_40 rfl (c_X5_keepX hX (fun σ2 hf2 hX2 hk2 => ?_))
        refine g_aload_n dX5_year_43 rfl 0 rfl ?_
        refine g_iconst dX5_year_44 ci_0 ?_
        refine s_putM kf_X5_209 (by decide) dX5_year_45 ?_
        have hX3 := rpM_I hX2 27 (by omega) (nI 0)
        have hf3 := fr_I hf2 27 (by omega) (nI 0)
        have hk3 := kpt_I hk2 27 (by omega) (nI 0)
        have c27 : sI (setI σ2 33 27 (nI 0)) 33 27 = nI 0 := sI_same _ _ _ _
        generalize setI σ2 33 27 (nI 0) = σ3 at hX3 hf3 hk3 c27 ⊢
        refine g_iload_n dX5_year_48 rfl 1 rfl ?_
        refine g_tope (z := nI (yxN p6 0)) (rfl) ?_
        refine g_istore (lv' := [(4, .int (nI (yxN p6 0))), (0, .ref (L 33)), (1, .int (nI p6)), (2, .int (nI p18)), (3, .int (nI p30))]) dX5_year_49 (by decide) rfl ?_
        refine g_iconst dX5_year_51 ci_1 ?_
        refine g_tope (z := nI (0 + 1)) (rfl) ?_
        refine g_istore (lv' := [(5, .int (nI (0 + 1))), (4, .int (nI (yxN p6 0))), (0, .ref (L 33)), (1, .int (nI p6)), (2, .int (nI p18)), (3, .int (nI p30))]) dX5_year_52 (by decide) rfl ?_
        refine g_pick [0, 1, 2, 3, 4, 5] (lv' := [(5, .int (nI (0 + 1))), (4, .int (nI (yxN p6 0))), (0, .ref (L 33)), (1, .int (nI p6)), (2, .int (nI p18)), (3, .int (nI p30))]) rfl ?_
        exact l1_X5_year (m := p18) (w := p30) ho (by omega) (by omega) (by omega) (fun σ9 hf9 hX9 hk9 c9 => e_X5_year ho (by omega) (by omega) (by omega) hX (fun σ8 hf8 hX8 => qi (by unfold yearR; rw [inN_t (a := 0) (b := 9999) (by omega) (by omega) (by omega), inN_t (a := 1) (b := 99) (by omega) (by omega) (by omega), inN_t (a := 0) (b := 2) (by omega) (by omega) (by omega), if_pos (by rfl), ix_nI (by omega) (by omega), ix_nI (by omega) (by omega), ix_nI (by omega) (by omega)]) (h σ8 hf8 hX8)) hf9 hX9 hk9 c9) p18 0 (by omega) _ hf3 hX3 hk3 c27
      · refine t_ifne0 (tgt := 39) dX5_year_33 (by decide) ?_
        refine g_bipush dX5_year_36 bp_m2 ?_
        exact g_ireturn dX5_year_38 (Nat.le_refl _) (Nat.le_refl _) (qi (by unfold yearR; rw [inN_t (a := 0) (b := 9999) (by omega) (by omega) (by omega), inN_t (a := 1) (b := 99) (by omega) (by omega) (by omega), inN_f (a := 0) (b := 2) (by omega) h30]; rfl) (h _ fr_rfl hX))
    · refine t_ifeq0 36 dX5_year_21 (by decide) ?_
      refine g_bipush dX5_year_36 bp_m2 ?_
      exact g_ireturn dX5_year_38 (Nat.le_refl _) (Nat.le_refl _) (qi (by unfold yearR; rw [inN_t (a := 0) (b := 9999) (by omega) (by omega) (by omega), inN_f (a := 1) (b := 99) (by omega) h18]; rfl) (h _ fr_rfl hX))
  · refine t_ifeq0 36 dX5_year_9 (by decide) ?_
    refine g_bipush dX5_year_36 bp_m2 ?_
    exact g_ireturn dX5_year_38 (Nat.le_refl _) (Nat.le_refl _) (qi (by unfold yearR; rw [inN_f (a := 0) (b := 9999) (by omega) h6]; rfl) (h _ fr_rfl hX))
