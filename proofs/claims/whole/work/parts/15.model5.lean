theorem half_pos {w : Int} (h : 0 ≤ w) : w.tdiv 2 = w / 2 := Int.tdiv_eq_ediv_of_nonneg h
theorem half_neg {w : Int} (h : w < 0) : (w - 1).tdiv 2 = w / 2 := by
  have e : w - 1 = -(1 - w) := by omega
  rw [e, Int.neg_tdiv, Int.tdiv_eq_ediv_of_nonneg (by omega)]
  omega
/-- a NEWS carried in two parts: who can -/
def twG (X : XT) (k g a b : Nat) : Bool := (x_th X a && wyX X ((buX X a : Int) + x_wt X k / 2).toNat (x_pl X a) g) && (x_th X b && wyX X ((buX X b : Int) + (x_wt X k - x_wt X k / 2)).toNat (x_pl X b) g)
def twS (g : Nat → Nat → Bool) (i : Int32) : Nat → Nat → Nat → Nat → Int32
  | 0, _, _, _ => 0
  | m + 1, a, b, c => if 6 ≤ a then (if i = -1 then nI c else -6) else if 6 ≤ b then twS g i m (a + 1) (a + 2) c else if g a b then (if nI c = i then nI (10 * a + b) else twS g i m a (b + 1) (c + 1)) else twS g i m a (b + 1) c
def twM (a b : Nat) : Nat := (6 - a) * 8 + (6 - b)
def twoR (X : XT) (x y i : Int32) : Int32 := if nwI x && teI X y then twS (twG X (ix 8 x) (ix (x_sz X) y)) i 64 0 1 0 else -1
theorem twM_b {a b m : Nat} (hb : b < 6) (h : twM a b < m + 1) : twM a (b + 1) < m := by unfold twM at *; omega
theorem twM_a {a m : Nat} (ha : a < 6) (h : twM a 6 < m + 1) : twM (a + 1) (a + 2) < m := by unfold twM at *; omega
/-! WAY -/
def ldsX (X : XT) (m : Nat → Bool) (g a b : Nat) : Bool := (m b && (x_lo X b == a || x_hi X b == a)) && (dN X m g (x_lo X b + x_hi X b - a) + 1 == dN X m g a)
def nbX (X : XT) (m : Nat → Bool) (g a : Nat) : Nat := firstN (ldsX X m g a) 8
def atX (X : XT) (m : Nat → Bool) (g a : Nat) : Nat → Nat
  | 0 => a
  | k + 1 => x_lo X (nbX X m g (atX X m g a k)) + x_hi X (nbX X m g (atX X m g a k)) - atX X m g a k
def wayR (X : XT) (x y i : Int32) : Int32 := if thI X x && teI X y then (if waN X (ix 6 x) (ix (x_sz X) y) < 6 then (if i = -1 then nI (waN X (ix 6 x) (ix (x_sz X) y)) else if ix (waN X (ix 6 x) (ix (x_sz X) y)) i < waN X (ix 6 x) (ix (x_sz X) y) then nI (nbX X (beX X (buX X (ix 6 x))) (ix (x_sz X) y) (atX X (beX X (buX X (ix 6 x))) (ix (x_sz X) y) (x_pl X (ix 6 x)) (ix (waN X (ix 6 x) (ix (x_sz X) y)) i))) else -6) else -6) else -1
section WY
variable {X : XT} {m : Nat → Bool} {g a : Nat}
theorem dN_step (ho : okX X) (hg : g < 6) {u t : Nat} (h : stp X m u t) (hu : dN X m g u < 6) : dN X m g t ≤ dN X m g u + 1 := by
  have h1 : bl X m g (dN X m g u + 1) t = true := bl_succ.mpr (Or.inr ⟨u, dN_bl hu, h⟩)
  by_cases e : dN X m g u + 1 < 6
  · exact dN_min e h1
  · have := dN_lt ho hg h1; omega
/-- who is not there yet has a BRIDGE that leads nearer -/
theorem nb_ex (ho : okX X) (hg : g < 6) (h : dN X m g a < 6) (h0 : 0 < dN X m g a) : nbX X m g a < 8 ∧ ldsX X m g a (nbX X m g a) = true := by
  obtain ⟨j, hj⟩ : ∃ j, dN X m g a = j + 1 := ⟨dN X m g a - 1, by omega⟩
  have h1 := dN_bl h
  rw [hj] at h1
  have hno : bl X m g j a = false := by
    cases e : bl X m g j a with
    | false => rfl
    | true => have := dN_min (s := g) (by omega) e; omega
  rcases bl_succ.mp h1 with h2 | ⟨u, h2, b, hb, hm, h3⟩
  · rw [hno] at h2; cases h2
  · have hu : dN X m g u ≤ j := dN_min (by omega) h2
    have hs : stp X m u a := ⟨b, hb, hm, h3⟩
    have hu2 := dN_step ho hg hs (by omega)
    have hl : ldsX X m g a b = true := by
      unfold ldsX
      rcases h3 with ⟨e1, e2⟩ | ⟨e1, e2⟩
      · rw [hm, e2, show x_lo X b + a - a = u by omega]
        simp; omega
      · rw [hm, e2, show a + x_hi X b - a = u by omega]
        simp; omega
    have hf : firstN (ldsX X m g a) 8 < 8 := by
      refine Nat.lt_of_not_le fun hn => ?_
      have := firstN_no (ldsX X m g a) 8 b (by omega)
      rw [hl] at this; cases this
    exact ⟨hf, firstN_yes _ 8 hf⟩
theorem lds_at {b : Nat} (h : ldsX X m g a b = true) : m b = true ∧ (x_lo X b = a ∨ x_hi X b = a) ∧ dN X m g (x_lo X b + x_hi X b - a) + 1 = dN X m g a := by
  unfold ldsX at h
  simpa [and_assoc] using h
theorem oe_lt (ho : okX X) {b : Nat} (hb : b < 8) (h : x_lo X b = a ∨ x_hi X b = a) : a ≤ x_lo X b + x_hi X b ∧ x_lo X b + x_hi X b - a < 6 := by
  have := ok_b ho hb; omega
theorem at_ok (ho : okX X) (hg : g < 6) (ha : a < 6) (h : dN X m g a < 6) : ∀ k, k ≤ dN X m g a → atX X m g a k < 6 ∧ dN X m g (atX X m g a k) + k = dN X m g a
  | 0, _ => ⟨ha, rfl⟩
  | k + 1, hk => by
    have ih := at_ok ho hg ha h k (by omega)
    have h1 := nb_ex (m := m) ho hg (a := atX X m g a k) (by omega) (by omega)
    have h2 := lds_at h1.2
    have h3 := oe_lt ho h1.1 h2.2.1
    refine ⟨h3.2, ?_⟩
    show dN X m g (x_lo X _ + x_hi X _ - atX X m g a k) + (k + 1) = _
    omega
theorem fa_dN (h : dN X m g a < 6) : faX X m g a = dN X m g a := if_pos h
theorem lds_fa {b : Nat} (ho : okX X) (hb : b < 8) (h : dN X m g a < 6) (h0 : 0 < dN X m g a) (hm : m b = true) (he : x_lo X b = a ∨ x_hi X b = a) : (faX X m g (x_lo X b + x_hi X b - a) = faX X m g a - 1) ↔ ldsX X m g a b = true := by
  rw [fa_dN h]
  unfold ldsX faX
  have h1 : (m b && (x_lo X b == a || x_hi X b == a)) = true := by rw [hm]; rcases he with e | e <;> simp [e]
  rw [h1, Bool.true_and, beq_iff_eq]
  split <;> omega
end WY
/-! MENDED -/
def mdS (X : XT) (p g : Nat) (best : Option Nat) (b : Nat) : Option Nat := if x_br X b = true ∧ dN X (fun i => beX X (buX X p) i || i == b) g (x_pl X p) < 6 ∧ (∀ c, best = some c → x_ld X c < x_ld X b) then some b else best
noncomputable def mdN (X : XT) (p g : Nat) : Nat → Option Nat
  | 0 => none
  | b + 1 => mdS X p g (mdN X p g b) b
def mdf (best : Option Nat) : Int32 := match best with
  | none => -6
  | some b => nI b
def mdl (X : XT) (p : Nat) (best : Option Nat) : Nat := match best with
  | none => 1000000
  | some b => buX X p - x_ld X b
def mdR (X : XT) (p : Nat) (z : Int32) (best : Option Nat) : Int32 := match best with
  | none => -6
  | some b => if z = nI 0 then nI b else nI (buX X p - x_ld X b)
noncomputable def mendedR (X : XT) (x y z : Int32) : Int32 := if thI X x && teI X y then (if inN 0 1 z then (if waN X (ix 6 x) (ix (x_sz X) y) < 6 then -6 else mdR X (ix 6 x) z (mdN X (ix 6 x) (ix (x_sz X) y) 8)) else -2) else -1
theorem md_ok {X : XT} {p g : Nat} (hn : ¬ waN X p g < 6) : ∀ n c, n ≤ 8 → mdN X p g n = some c → c < n ∧ x_br X c = true ∧ beX X (buX X p) c = false
  | 0, c, _, h => by cases h
  | n + 1, c, hn8, h => by
    simp only [mdN, mdS] at h
    split at h
    · rename_i h1
      cases h
      refine ⟨by omega, h1.1, ?_⟩
      cases e : beX X (buX X p) n with
      | false => rfl
      | true =>
        refine absurd h1.2.1 ?_
        rw [dN_cong (m' := beX X (buX X p)) (fun b _ => by by_cases e2 : b = n; subst e2; rw [e]; simp; simp [e2])]
        exact hn
    · have := md_ok hn n c (by omega) h
      exact ⟨by omega, this.2⟩
theorem be_lt {X : XT} {w b : Nat} (h : x_br X b = true) (h2 : beX X w b = false) : x_ld X b < w := by
  unfold beX at h2; rw [h] at h2; simp at h2; exact h2
theorem md_no {X : XT} {p g b : Nat} {best : Option Nat} (h : x_br X b = false ∨ ¬ dN X (fun i => beX X (buX X p) i || i == b) g (x_pl X p) < 6) : mdS X p g best b = best := by
  unfold mdS
  rw [if_neg]
  rintro ⟨h1, h2, -⟩
  rcases h with h | h
  · rw [h] at h1; cases h1
  · exact h h2
theorem md_open {X : XT} {p g b : Nat} (hn : ¬ waN X p g < 6) (h : beX X (buX X p) b = true) : ¬ dN X (fun i => beX X (buX X p) i || i == b) g (x_pl X p) < 6 := by
  rw [dN_cong (m' := beX X (buX X p)) (fun c _ => by by_cases e2 : c = b; subst e2; rw [h]; simp; simp [e2])]
  exact hn
theorem md_yes {X : XT} {p g b : Nat} (hn : ¬ waN X p g < 6) (hb : b ≤ 8) (h1 : x_br X b = true) (h2 : beX X (buX X p) b = false) (h3 : dN X (fun i => beX X (buX X p) i || i == b) g (x_pl X p) < 6) (h4 : buX X p - x_ld X b < mdl X p (mdN X p g b)) : mdS X p g (mdN X p g b) b = some b := by
  unfold mdS
  rw [if_pos]
  refine ⟨h1, h3, fun c hc => ?_⟩
  rw [hc] at h4
  have := md_ok hn b c hb hc
  have h5 := be_lt this.2.1 this.2.2
  have h6 := be_lt h1 h2
  simp only [mdl] at h4
  omega
theorem md_worse {X : XT} {p g b : Nat} (ho : okX X) (hn : ¬ waN X p g < 6) (hb : b ≤ 8) (h1 : x_br X b = true) (h2 : beX X (buX X p) b = false) (h4 : mdl X p (mdN X p g b) ≤ buX X p - x_ld X b) : mdS X p g (mdN X p g b) b = mdN X p g b := by
  unfold mdS
  rw [if_neg]
  rintro ⟨-, -, h3⟩
  have h6 := be_lt h1 h2
  cases hc : mdN X p g b with
  | none => rw [hc] at h4; simp only [mdl] at h4; have := bu_bd ho p; omega
  | some c =>
    rw [hc] at h4
    have h7 := h3 c hc
    have := md_ok hn b c hb hc
    have h5 := be_lt this.2.1 this.2.2
    simp only [mdl] at h4
    omega
theorem mdl_le {X : XT} (ho : okX X) (p : Nat) (o : Option Nat) : mdl X p o ≤ 1000000 := by
  cases o with
  | none => exact Nat.le_refl _
  | some b => have := bu_bd ho p; simp only [mdl]; omega
theorem fa_lt_iff {X : XT} {m : Nat → Bool} {g a : Nat} : faX X m g a < 1000 ↔ dN X m g a < 6 := by
  unfold faX; split <;> omega
set_option maxHeartbeats 4000000 in
set_option maxRecDepth 20000 in
theorem c_X5_half {l : Launch} {D : gE} {L : Nat → Nat} {σ : St} {Q : Option Value → va_W → Prop} {d : Nat} {w : Int} (hw : -1000 ≤ w ∧ w ≤ 1000) (h : Q (some (.int (zI (w / 2)))) (wsOf D L σ)) : Ctr l D yX5_half cX5_half 1 (some .int) (rr d) [.int (zI w)] (wsOf D L σ) Q := by
  refine g_start ky_X5_half (Nat.le_of_ble_eq_true rfl) ?_
  refine g_pick [0] (lv' := [(0, .int (zI w))]) rfl ?_
  refine g_iload_n dX5_half_0 rfl 0 rfl ?_
  refine z_ifge 12 dX5_half_1 (by decide) (by omega) (fun h1 => ?_) (fun h1 => ?_)
  · refine g_iload_n dX5_half_12 rfl 0 rfl ?_
    refine g_iconst dX5_half_13 ci_2 ?_
    refine g_idiv dX5_half_14 (by decide +kernel) ?_
    refine g_tope (z := zI (w.tdiv 2)) (by rw [show nI 2 = zI 2 from by decide +kernel]; exact zI_div (by omega) (by omega) (by omega)) ?_
    exact g_ireturn dX5_half_15 (Nat.le_refl _) (Nat.le_refl _) (qi (by rw [half_pos h1]) h)
  · refine g_iload_n dX5_half_4 rfl 0 rfl ?_
    refine g_iconst dX5_half_5 ci_1 ?_
    refine g_isub dX5_half_6 ?_
    refine g_tope (z := zI (w - 1)) (by rw [show nI 1 = zI 1 from by decide +kernel]; exact zI_sub _ _) ?_
    refine g_iconst dX5_half_7 ci_2 ?_
    refine g_idiv dX5_half_8 (by decide +kernel) ?_
    refine g_tope (z := zI ((w - 1).tdiv 2)) (by rw [show nI 2 = zI 2 from by decide +kernel]; exact zI_div (by omega) (by omega) (by omega)) ?_
    refine g_goto 15 dX5_half_9 (by decide) ?_
    exact g_ireturn dX5_half_15 (Nat.le_refl _) (Nat.le_refl _) (qi (by rw [half_neg h1]) h)
set_option maxHeartbeats 4000000 in
set_option maxRecDepth 20000 in
theorem c_X5_canBear {l : Launch} {D : gE} {L : Nat → Nat} {σ : St} {Q : Option Value → va_W → Prop} {d : Nat} {X : XT} (hX : rpM σ X) (ho : okX X) {p g : Nat} {w : Int} (hp : p < 6) (hg : g < 6) (hth : x_th X p = true) (hw : -1000 ≤ w ∧ w ≤ 1000) (ht : wyX X ((buX X p : Int) + w).toNat (x_pl X p) g = true → ∀ f, Q (some (.int (nI 1))) (wsOf D L (setA σ 54 f))) (hf : wyX X ((buX X p : Int) + w).toNat (x_pl X p) g = false → ∀ f, Q (some (.int (nI 0))) (wsOf D L (setA σ 54 f))) : Ctr l D yX5_canBear cX5_canBear 4 (some .boolean) (rr (d + 5)) [.ref (L 33), .int (nI p), .int (nI g), .int (zI w)] (wsOf D L σ) Q := by
  refine g_start ky_X5_canBear (Nat.le_of_ble_eq_true rfl) ?_
  refine g_pick [0, 1, 2, 3] (lv' := [(0, .ref (L 33)), (1, .int (nI p)), (2, .int (nI g)), (3, .int (zI w))]) rfl ?_
  have hbu := bu_bd ho p
  refine g_aload_n dX5_canBear_0 rfl 0 rfl ?_
  refine g_iload_n dX5_canBear_1 rfl 1 rfl ?_
  refine g_iload_n dX5_canBear_2 rfl 2 rfl ?_
  refine g_aload_n dX5_canBear_3 rfl 0 rfl ?_
  refine g_iload_n dX5_canBear_4 rfl 1 rfl ?_
  refine g_callV (As := [.int (nI p)]) km_X5_206 ky_X5_carriedBy ki_X5_carriedBy (by decide) 33 at_33 rfl rfl (Nat.le_of_ble_eq_true rfl) dX5_canBear_5 rfl (c_X5_carriedBy hX ho (by omega) (by assumption) ?_)
  refine g_iload_n dX5_canBear_8 rfl 3 rfl ?_
  refine g_iadd dX5_canBear_9 ?_
  refine g_tope (z := zI ((buX X p : Int) + w)) (by rw [nI_zI]; exact zI_add _ _) ?_
  refine g_callS (As := [.int (zI ((buX X p : Int) + w))]) km_X5_278 ky_X5_least0 ks_X5_least0 (by decide) rfl (Nat.le_of_ble_eq_true rfl) dX5_canBear_10 rfl (c_X5_least0 (by omega) ?_)
  refine g_callV (As := [.int (nI p), .int (nI g), .int (nI (((buX X p : Int) + w).toNat))]) km_X5_281 ky_X5_hasWay ki_X5_hasWay (by decide) 33 at_33 rfl rfl (Nat.le_of_ble_eq_true rfl) dX5_canBear_13 rfl (c_X5_hasWay hX ho (by omega) (by omega) (by omega) (fun h13 f13 => ?_) (fun h13 f13 => ?_))
  · exact g_zreturn dX5_canBear_16 (Nat.le_refl _) (Nat.le_refl _) (Or.inr rfl) (ht h13 f13)
  · exact g_zreturn dX5_canBear_16 (Nat.le_refl _) (Nat.le_refl _) (Or.inl rfl) (hf h13 f13)
set_option maxHeartbeats 4000000 in
set_option maxRecDepth 20000 in
theorem l1_X5_two {l : Launch} {D : gE} {L : Nat → Nat} {σ : St} {Q : Option Value → va_W → Prop} {d : Nat} {X : XT} (ho : okX X) {k t : Nat} (hk : k < 8) (ht : t < x_sz X) {i : Int32} {R : Int32} (h : ∀ σ', fr σ σ' → rpM σ' X → Q (some (.int R)) (wsOf D L σ')) {a : Nat} (ha : a < 6) (kk : ∀ m c σ', twM (a + 1) (a + 2) < m → c ≤ 6 * (a + 1) → twS (twG X k t) i m (a + 1) (a + 2) c = R → fr σ σ' → rpM σ' X → G l D yX5_two cX5_two 8 (some .int) (rr (d + 6)) Q 0 0 34 [(6, .int (nI (a + 1))), (5, .int (nI c)), (4, .int (zI (x_wt X k / 2))), (0, .ref (L 33)), (1, .int (nI k)), (2, .int (nI t)), (3, .int i)] [] (wsOf D L σ')) : ∀ n b, b + n = 6 → ∀ m c σ', twM a b < m → c + (6 - b) ≤ 6 * (a + 1) → twS (twG X k t) i m a b c = R → fr σ σ' → rpM σ' X → G l D yX5_two cX5_two 8 (some .int) (rr (d + 6)) Q 0 0 47 [(7, .int (nI b)), (6, .int (nI a)), (5, .int (nI c)), (4, .int (zI (x_wt X k / 2))), (0, .ref (L 33)), (1, .int (nI k)), (2, .int (nI t)), (3, .int i)] [] (wsOf D L σ') := by
  intro n
  induction n with
  | zero =>
    intro b hct m c σ' hm hc hE hfr hX
    obtain rfl : b = 6 := by omega
    cases m with
    | zero => exact absurd hm (Nat.not_lt_zero _)
    | succ m =>
    rw [twS, if_neg (by omega), if_pos (by omega)] at hE
    refine g_iload dX5_two_47 0 rfl ?_
    refine g_bipush dX5_two_49 bp_6 ?_
    refine n_icmpge 127 dX5_two_51 (by decide) (by omega) (by omega) (fun h51 => ?_) (fun h51 => absurd h51 (by omega))
    refine g_iinc (v := nI (a + 1)) (lv' := [(6, .int (nI (a + 1))), (7, .int (nI 6)), (5, .int (nI c)), (4, .int (zI (x_wt X k / 2))), (0, .ref (L 33)), (1, .int (nI k)), (2, .int (nI t)), (3, .int i)]) dX5_two_127 1 rfl (inc_n _) (by decide) rfl ?_
    refine g_goto 34 dX5_two_130 (by decide) ?_
    refine g_pick [0, 2, 3, 4, 5, 6, 7] (lv' := [(6, .int (nI (a + 1))), (5, .int (nI c)), (4, .int (zI (x_wt X k / 2))), (0, .ref (L 33)), (1, .int (nI k)), (2, .int (nI t)), (3, .int i)]) rfl ?_
    exact kk m c _ (twM_a ha hm) (by omega) hE hfr hX
  | succ n ih =>
    intro b hct m c σ' hm hc hE hfr hX
    cases m with
    | zero => exact absurd hm (Nat.not_lt_zero _)
    | succ m =>
    rw [twS, if_neg (by omega), if_neg (by omega)] at hE
    have hsz := ok_sz ho
    have hwt := ok_wt ho hk
    have hpa := ok_p ho ha
    have hpb := ok_p ho (i := b) (by omega)
    refine g_iload dX5_two_47 0 rfl ?_
    refine g_bipush dX5_two_49 bp_6 ?_
    refine n_icmpge 127 dX5_two_51 (by decide) (by omega) (by omega) (fun h51 => absurd h51 (by omega)) (fun h51 => ?_)
    refine g_aload_n dX5_two_54 rfl 4 rfl ?_
    refine g_iload dX5_two_55 1 rfl ?_
    refine g_callV (As := [.int (nI a)]) km_X5_143 ky_X5_isThere ki_X5_isThere (by decide) 33 at_33 rfl rfl (Nat.le_of_ble_eq_true rfl) dX5_two_57 rfl (c_X5_isThereN hX (by omega) (fun h57 => ?_) (fun h57 => ?_))
    · refine t_ifeq1 (tgt := 121) dX5_two_60 (by decide) ?_
      refine g_aload_n dX5_two_63 rfl 4 rfl ?_
      refine g_iload dX5_two_64 0 rfl ?_
      refine g_callV (As := [.int (nI b)]) km_X5_143 ky_X5_isThere ki_X5_isThere (by decide) 33 at_33 rfl rfl (Nat.le_of_ble_eq_true rfl) dX5_two_66 rfl (c_X5_isThereN hX (by omega) (fun h66 => ?_) (fun h66 => ?_))
      · refine t_ifeq1 (tgt := 121) dX5_two_69 (by decide) ?_
        refine g_aload_n dX5_two_72 rfl 4 rfl ?_
        refine g_iload dX5_two_73 1 rfl ?_
        refine g_iload_n dX5_two_75 rfl 6 rfl ?_
        refine g_iload dX5_two_76 3 rfl ?_
        refine g_callV (As := [.int (nI a), .int (nI t), .int (zI (x_wt X k / 2))]) km_X5_328 ky_X5_canBear ki_X5_canBear (by decide) 33 at_33 rfl rfl (Nat.le_of_ble_eq_true rfl) dX5_two_78 rfl (c_X5_canBear hX ho (by omega) (by omega) (by assumption) (by omega) (fun h78 f78 => ?_) (fun h78 f78 => ?_))
        · have hX := rpM_A hX 54 (by omega) f78
          have hfr := fr_A hfr 54 (by omega) f78
          generalize setA σ' 54 f78 = σ78 at hX hfr ⊢
          refine t_ifeq1 (tgt := 121) dX5_two_81 (by decide) ?_
          refine g_aload_n dX5_two_84 rfl 4 rfl ?_
          refine g_iload dX5_two_85 0 rfl ?_
          refine g_iload_n dX5_two_87 rfl 6 rfl ?_
          refine g_aload_n dX5_two_88 rfl 4 rfl ?_
          refine s_getM kf_X5_31 (by decide) rfl dX5_two_89 ?_
          refine g_iload_n dX5_two_92 rfl 5 rfl ?_
          refine s_ald (q := 41) (n := 8) (at_ia (q := 41) rfl) (by omega) (by decide) dX5_two_93 ?_
          refine g_tope (z := zI (x_wt X k)) (rpM_wt hX (by omega)) ?_
          refine g_iload dX5_two_94 3 rfl ?_
          refine g_isub dX5_two_96 ?_
          refine g_tope (z := zI (x_wt X k - x_wt X k / 2)) (zI_sub _ _) ?_
          refine g_callV (As := [.int (nI b), .int (nI t), .int (zI (x_wt X k - x_wt X k / 2))]) km_X5_328 ky_X5_canBear ki_X5_canBear (by decide) 33 at_33 rfl rfl (Nat.le_of_ble_eq_true rfl) dX5_two_97 rfl (c_X5_canBear hX ho (by omega) (by omega) (by assumption) (by omega) (fun h97 f97 => ?_) (fun h97 f97 => ?_))
          · have hX := rpM_A hX 54 (by omega) f97
            have hfr := fr_A hfr 54 (by omega) f97
            generalize setA σ78 54 f97 = σ97 at hX hfr ⊢
            refine t_ifeq1 (tgt := 121) dX5_two_100 (by decide) ?_
            have hG : twG X k t a b = true := by simp [twG, h57, h66, h78, h97]
            rw [if_pos hG] at hE
            refine g_iload dX5_two_103 2 rfl ?_
            refine g_iload_n dX5_two_105 rfl 7 rfl ?_
            refine g_icmpne 118 dX5_two_106 (by decide) (fun h106 => ?_) (fun h106 => ?_)
            · refine g_iinc (v := nI (c + 1)) (lv' := [(5, .int (nI (c + 1))), (7, .int (nI b)), (6, .int (nI a)), (4, .int (zI (x_wt X k / 2))), (0, .ref (L 33)), (1, .int (nI k)), (2, .int (nI t)), (3, .int i)]) dX5_two_118 2 rfl (inc_n _) (by decide) rfl ?_
              refine g_iinc (v := nI (b + 1)) (lv' := [(7, .int (nI (b + 1))), (5, .int (nI (c + 1))), (6, .int (nI a)), (4, .int (zI (x_wt X k / 2))), (0, .ref (L 33)), (1, .int (nI k)), (2, .int (nI t)), (3, .int i)]) dX5_two_121 1 rfl (inc_n _) (by decide) rfl ?_
              refine g_goto 47 dX5_two_124 (by decide) ?_
              refine g_pick [0, 2, 1, 3, 4, 5, 6, 7] (lv' := [(7, .int (nI (b + 1))), (6, .int (nI a)), (5, .int (nI (c + 1))), (4, .int (zI (x_wt X k / 2))), (0, .ref (L 33)), (1, .int (nI k)), (2, .int (nI t)), (3, .int i)]) rfl ?_
              exact ih (b + 1) (by omega) m (c + 1) _ (twM_b (by omega) hm) (by omega) (by rw [if_neg h106] at hE; exact hE) hfr hX
            · refine g_bipush dX5_two_109 bp_10 ?_
              refine g_iload dX5_two_111 1 rfl ?_
              refine g_imul dX5_two_113 ?_
              refine g_tope (z := nI (10 * a)) (pk_mul _ _) ?_
              refine g_iload dX5_two_114 0 rfl ?_
              refine g_iadd dX5_two_116 ?_
              refine g_tope (z := nI (10 * a + b)) (nI_add _ _) ?_
              exact g_ireturn dX5_two_117 (Nat.le_refl _) (Nat.le_refl _) (qi (by rw [if_pos h106] at hE; exact hE) (h _ hfr hX))
          · have hX := rpM_A hX 54 (by omega) f97
            have hfr := fr_A hfr 54 (by omega) f97
            generalize setA σ78 54 f97 = σ97 at hX hfr ⊢
            refine t_ifeq0 121 dX5_two_100 (by decide) ?_
            have hG : twG X k t a b = false := by simp [twG, h97]
            rw [if_neg (by rw [hG]; decide)] at hE
            refine g_iinc (v := nI (b + 1)) (lv' := [(7, .int (nI (b + 1))), (6, .int (nI a)), (5, .int (nI c)), (4, .int (zI (x_wt X k / 2))), (0, .ref (L 33)), (1, .int (nI k)), (2, .int (nI t)), (3, .int i)]) dX5_two_121 0 rfl (inc_n _) (by decide) rfl ?_
            refine g_goto 47 dX5_two_124 (by decide) ?_
            refine g_pick [0, 1, 2, 3, 4, 5, 6, 7] (lv' := [(7, .int (nI (b + 1))), (6, .int (nI a)), (5, .int (nI c)), (4, .int (zI (x_wt X k / 2))), (0, .ref (L 33)), (1, .int (nI k)), (2, .int (nI t)), (3, .int i)]) rfl ?_
            exact ih (b + 1) (by omega) m c _ (twM_b (by omega) hm) (by omega) hE hfr hX
        · have hX := rpM_A hX 54 (by omega) f78
          have hfr := fr_A hfr 54 (by omega) f78
          generalize setA σ' 54 f78 = σ78 at hX hfr ⊢
          refine t_ifeq0 121 dX5_two_81 (by decide) ?_
          have hG : twG X k t a b = false := by simp [twG, h78]
          rw [if_neg (by rw [hG]; decide)] at hE
          refine g_iinc (v := nI (b + 1)) (lv' := [(7, .int (nI (b + 1))), (6, .int (nI a)), (5, .int (nI c)), (4, .int (zI (x_wt X k / 2))), (0, .ref (L 33)), (1, .int (nI k)), (2, .int (nI t)), (3, .int i)]) dX5_two_121 0 rfl (inc_n _) (by decide) rfl ?_
          refine g_goto 47 dX5_two_124 (by decide) ?_
          refine g_pick [0, 1, 2, 3, 4, 5, 6, 7] (lv' := [(7, .int (nI (b + 1))), (6, .int (nI a)), (5, .int (nI c)), (4, .int (zI (x_wt X k / 2))), (0, .ref (L 33)), (1, .int (nI k)), (2, .int (nI t)), (3, .int i)]) rfl ?_
          exact ih (b + 1) (by omega) m c _ (twM_b (by omega) hm) (by omega) hE hfr hX
      · refine t_ifeq0 121 dX5_two_69 (by decide) ?_
        have hG : twG X k t a b = false := by simp [twG, h66]
        rw [if_neg (by rw [hG]; decide)] at hE
        refine g_iinc (v := nI (b + 1)) (lv' := [(7, .int (nI (b + 1))), (6, .int (nI a)), (5, .int (nI c)), (4, .int (zI (x_wt X k / 2))), (0, .ref (L 33)), (1, .int (nI k)), (2, .int (nI t)), (3, .int i)]) dX5_two_121 0 rfl (inc_n _) (by decide) rfl ?_
        refine g_goto 47 dX5_two_124 (by decide) ?_
        refine g_pick [0, 1, 2, 3, 4, 5, 6, 7] (lv' := [(7, .int (nI (b + 1))), (6, .int (nI a)), (5, .int (nI c)), (4, .int (zI (x_wt X k / 2))), (0, .ref (L 33)), (1, .int (nI k)), (2, .int (nI t)), (3, .int i)]) rfl ?_
        exact ih (b + 1) (by omega) m c _ (twM_b (by omega) hm) (by omega) hE hfr hX
    · refine t_ifeq0 121 dX5_two_60 (by decide) ?_
      have hG : twG X k t a b = false := by simp [twG, h57]
      rw [if_neg (by rw [hG]; decide)] at hE
      refine g_iinc (v := nI (b + 1)) (lv' := [(7, .int (nI (b + 1))), (6, .int (nI a)), (5, .int (nI c)), (4, .int (zI (x_wt X k / 2))), (0, .ref (L 33)), (1, .int (nI k)), (2, .int (nI t)), (3, .int i)]) dX5_two_121 0 rfl (inc_n _) (by decide) rfl ?_
      refine g_goto 47 dX5_two_124 (by decide) ?_
      refine g_pick [0, 1, 2, 3, 4, 5, 6, 7] (lv' := [(7, .int (nI (b + 1))), (6, .int (nI a)), (5, .int (nI c)), (4, .int (zI (x_wt X k / 2))), (0, .ref (L 33)), (1, .int (nI k)), (2, .int (nI t)), (3, .int i)]) rfl ?_
      exact ih (b + 1) (by omega) m c _ (twM_b (by omega) hm) (by omega) hE hfr hX
set_option maxHeartbeats 4000000 in
set_option maxRecDepth 20000 in
theorem l2_X5_two {l : Launch} {D : gE} {L : Nat → Nat} {σ : St} {Q : Option Value → va_W → Prop} {d : Nat} {X : XT} (ho : okX X) {k t : Nat} (hk : k < 8) (ht : t < x_sz X) {i : Int32} {R : Int32} (h : ∀ σ', fr σ σ' → rpM σ' X → Q (some (.int R)) (wsOf D L σ')) : ∀ n a, a + n = 6 → ∀ m c σ', twM a (a + 1) < m → c ≤ 6 * a → twS (twG X k t) i m a (a + 1) c = R → fr σ σ' → rpM σ' X → G l D yX5_two cX5_two 8 (some .int) (rr (d + 6)) Q 0 0 34 [(6, .int (nI a)), (5, .int (nI c)), (4, .int (zI (x_wt X k / 2))), (0, .ref (L 33)), (1, .int (nI k)), (2, .int (nI t)), (3, .int i)] [] (wsOf D L σ') := by
  intro n
  induction n with
  | zero =>
    intro a hct m c σ' hm hc hE hfr hX
    obtain rfl : a = 6 := by omega
    cases m with
    | zero => exact absurd hm (Nat.not_lt_zero _)
    | succ m =>
    rw [twS, if_pos (by omega)] at hE
    refine g_iload dX5_two_34 0 rfl ?_
    refine g_bipush dX5_two_36 bp_6 ?_
    refine n_icmpge 133 dX5_two_38 (by decide) (by omega) (by omega) (fun h38 => ?_) (fun h38 => absurd h38 (by omega))
    refine g_iload_n dX5_two_133 rfl 6 rfl ?_
    refine g_iconst dX5_two_134 ci_m1 ?_
    refine g_icmpne 143 dX5_two_135 (by decide) (fun h135 => ?_) (fun h135 => ?_)
    · refine g_bipush dX5_two_143 bp_m6 ?_
      exact g_ireturn dX5_two_145 (Nat.le_refl _) (Nat.le_refl _) (qi (by rw [if_neg h135] at hE; exact hE) (h _ hfr hX))
    · refine g_iload dX5_two_138 1 rfl ?_
      refine g_goto 145 dX5_two_140 (by decide) ?_
      exact g_ireturn dX5_two_145 (Nat.le_refl _) (Nat.le_refl _) (qi (by rw [if_pos h135] at hE; exact hE) (h _ hfr hX))
  | succ n ih =>
    intro a hct m c σ' hm hc hE hfr hX
    refine g_iload dX5_two_34 0 rfl ?_
    refine g_bipush dX5_two_36 bp_6 ?_
    refine n_icmpge 133 dX5_two_38 (by decide) (by omega) (by omega) (fun h38 => absurd h38 (by omega)) (fun h38 => ?_)
    refine g_iload dX5_two_41 0 rfl ?_
    refine g_iconst dX5_two_43 ci_1 ?_
    refine g_iadd dX5_two_44 ?_
    refine g_tope (z := nI (a + 1)) (nI_add _ _) ?_
    refine g_istore (lv' := [(7, .int (nI (a + 1))), (6, .int (nI a)), (5, .int (nI c)), (4, .int (zI (x_wt X k / 2))), (0, .ref (L 33)), (1, .int (nI k)), (2, .int (nI t)), (3, .int i)]) dX5_two_45 (by decide) rfl ?_
    refine g_pick [0, 1, 2, 3, 4, 5, 6, 7] (lv' := [(7, .int (nI (a + 1))), (6, .int (nI a)), (5, .int (nI c)), (4, .int (zI (x_wt X k / 2))), (0, .ref (L 33)), (1, .int (nI k)), (2, .int (nI t)), (3, .int i)]) rfl ?_
    exact l1_X5_two ho hk ht h (by omega) (fun m2 c2 σ2 hm2 hc2 hE2 hfr2 hX2 => ih (a + 1) (by omega) m2 c2 σ2 hm2 hc2 hE2 hfr2 hX2) (5 - a) (a + 1) (by omega) m c _ hm (by omega) hE hfr hX
set_option maxHeartbeats 4000000 in
set_option maxRecDepth 20000 in
theorem c_X5_two {l : Launch} {D : gE} {L : Nat → Nat} {σ : St} {Q : Option Value → va_W → Prop} {d : Nat} {X : XT} (hX : rpM σ X) (ho : okX X) {x y i : Int32} (h : ∀ σ', fr σ σ' → rpM σ' X → Q (some (.int (twoR X x y i))) (wsOf D L σ')) : Ctr l D yX5_two cX5_two 8 (some .int) (rr (d + 6)) [.ref (L 33), .int x, .int y, .int i] (wsOf D L σ) Q := by
  refine g_start ky_X5_two (Nat.le_of_ble_eq_true rfl) ?_
  refine g_pick [0, 1, 2, 3] (lv' := [(0, .ref (L 33)), (1, .int x), (2, .int y), (3, .int i)]) rfl ?_
  refine g_iload_n dX5_two_0 rfl 1 rfl ?_
  refine g_callS (As := [.int x]) km_X5_146 ky_X5_isNews ks_X5_isNews (by decide) rfl (Nat.le_of_ble_eq_true rfl) dX5_two_1 rfl (c_X5_isNews (fun k1 hk1 he1 => ?_) (fun h1 => ?_))
  · subst he1
    refine t_ifeq1 (tgt := 15) dX5_two_4 (by decide) ?_
    refine g_aload_n dX5_two_7 rfl 0 rfl ?_
    refine g_iload_n dX5_two_8 rfl 2 rfl ?_
    refine g_callV (As := [.int y]) km_X5_130 ky_X5_isTerrace ki_X5_isTerrace (by decide) 33 at_33 rfl rfl (Nat.le_of_ble_eq_true rfl) dX5_two_9 rfl (c_X5_isTerrace hX ho (fun t9 ht9 he9 => ?_) (fun h9 => ?_))
    · subst he9
      refine t_ifne1 17 dX5_two_12 (by decide) ?_
      have hwt := ok_wt ho hk1
      refine g_aload_n dX5_two_17 rfl 0 rfl ?_
      refine s_getM kf_X5_31 (by decide) rfl dX5_two_18 ?_
      refine g_iload_n dX5_two_21 rfl 1 rfl ?_
      refine s_ald (q := 41) (n := 8) (at_ia (q := 41) rfl) (by omega) (by decide) dX5_two_22 ?_
      refine g_tope (z := zI (x_wt X k1)) (rpM_wt hX (by omega)) ?_
      refine g_callS (As := [.int (zI (x_wt X k1))]) km_X5_325 ky_X5_half ks_X5_half (by decide) rfl (Nat.le_of_ble_eq_true rfl) dX5_two_23 rfl (c_X5_half (by omega) ?_)
      refine g_istore (lv' := [(4, .int (zI (x_wt X k1 / 2))), (0, .ref (L 33)), (1, .int (nI k1)), (2, .int (nI t9)), (3, .int i)]) dX5_two_26 (by decide) rfl ?_
      refine g_iconst dX5_two_28 ci_0 ?_
      refine g_istore (lv' := [(5, .int (nI 0)), (4, .int (zI (x_wt X k1 / 2))), (0, .ref (L 33)), (1, .int (nI k1)), (2, .int (nI t9)), (3, .int i)]) dX5_two_29 (by decide) rfl ?_
      refine g_iconst dX5_two_31 ci_0 ?_
      refine g_istore (lv' := [(6, .int (nI 0)), (5, .int (nI 0)), (4, .int (zI (x_wt X k1 / 2))), (0, .ref (L 33)), (1, .int (nI k1)), (2, .int (nI t9)), (3, .int i)]) dX5_two_32 (by decide) rfl ?_
      refine g_pick [0, 1, 2, 3, 4, 5, 6] (lv' := [(6, .int (nI 0)), (5, .int (nI 0)), (4, .int (zI (x_wt X k1 / 2))), (0, .ref (L 33)), (1, .int (nI k1)), (2, .int (nI t9)), (3, .int i)]) rfl ?_
      exact l2_X5_two ho hk1 ht9 h 6 0 rfl 64 0 _ (by decide) (by omega) (by unfold twoR; rw [nwI_t hk1, teI_t ho ht9, ix8 hk1, ixt ho ht9, if_pos (by rfl)]) fr_rfl hX
    · refine t_ifne0 (tgt := 17) dX5_two_12 (by decide) ?_
      refine g_iconst dX5_two_15 ci_m1 ?_
      exact g_ireturn dX5_two_16 (Nat.le_refl _) (Nat.le_refl _) (qi (by unfold twoR; rw [teI_f h9, Bool.and_false, if_neg (by decide)]) (h _ fr_rfl hX))
  · refine t_ifeq0 15 dX5_two_4 (by decide) ?_
    refine g_iconst dX5_two_15 ci_m1 ?_
    exact g_ireturn dX5_two_16 (Nat.le_refl _) (Nat.le_refl _) (qi (by unfold twoR; rw [nwI_f h1, Bool.false_and, if_neg (by decide)]) (h _ fr_rfl hX))
set_option maxHeartbeats 4000000 in
set_option maxRecDepth 20000 in
theorem c_X5_leadsOn {l : Launch} {D : gE} {L : Nat → Nat} {σ : St} {Q : Option Value → va_W → Prop} {d : Nat} {X : XT} (hX : rpM σ X) (ho : okX X) {m : Nat → Bool} {g a b : Nat} {f : Nat → Int32} (hf : ∀ t, t < 6 → f t = nI (faX X m g t)) (ha : a < 6) (hb : b < 8) (hd : dN X m g a < 6) (h0 : 0 < dN X m g a) (ht : ldsX X m g a b = true → Q (some (.int (nI 1))) (wsOf D L (setA σ 54 f))) (hff : ldsX X m g a b = false → Q (some (.int (nI 0))) (wsOf D L (setA σ 54 f))) : Ctr l D yX5_leadsOn cX5_leadsOn 5 (some .boolean) (rr d) [.ref (L 33), .int (nI b), .int (nI a), .int (nI (bitsN m 8))] (wsOf D L (setA σ 54 f)) Q := by
  refine g_start ky_X5_leadsOn (Nat.le_of_ble_eq_true rfl) ?_
  refine g_pick [0, 1, 2, 3] (lv' := [(0, .ref (L 33)), (1, .int (nI b)), (2, .int (nI a)), (3, .int (nI (bitsN m 8)))]) rfl ?_
  have hX1 := rpM_A hX 54 (by omega) f
  have hbb := ok_b ho hb
  have hfa := fa_le2 (X := X) (m := m) (s := g) (t := a)
  have hfb := fa_le2 (X := X) (m := m) (s := g) (t := x_lo X b + x_hi X b - a)
  refine g_iload_n dX5_leadsOn_0 rfl 3 rfl ?_
  refine g_iload_n dX5_leadsOn_1 rfl 1 rfl ?_
  refine g_ishr dX5_leadsOn_2 ?_
  refine g_iconst dX5_leadsOn_3 ci_1 ?_
  refine g_iand dX5_leadsOn_4 ?_
  refine g_tope (z := nI (b2n (m b))) (gbB _ (by decide) (by omega)) ?_
  refine g_iconst dX5_leadsOn_5 ci_1 ?_
  refine b_icmpne 33 dX5_leadsOn_6 (by decide) (fun h6 => ?_) (fun h6 => ?_)
  · refine g_iconst dX5_leadsOn_33 ci_0 ?_
    refine g_istore (lv' := [(4, .int (nI 0)), (0, .ref (L 33)), (1, .int (nI b)), (2, .int (nI a)), (3, .int (nI (bitsN m 8)))]) dX5_leadsOn_34 (by decide) rfl ?_
    refine g_iload dX5_leadsOn_36 0 rfl ?_
    refine t_ifeq0 76 dX5_leadsOn_38 (by decide) ?_
    refine g_iconst dX5_leadsOn_76 ci_0 ?_
    exact g_zreturn dX5_leadsOn_77 (Nat.le_refl _) (Nat.le_refl _) (Or.inl rfl) (hff (by simp [ldsX, h6]))
  · refine g_aload_n dX5_leadsOn_9 rfl 0 rfl ?_
    refine s_getM kf_X5_7 (by decide) rfl dX5_leadsOn_10 ?_
    refine g_iload_n dX5_leadsOn_13 rfl 1 rfl ?_
    refine s_ald (q := 34) (n := 8) (at_ia (q := 34) rfl) (by omega) (by decide) dX5_leadsOn_14 ?_
    refine g_tope (z := nI (x_lo X b)) (rpM_lo hX1 (by omega)) ?_
    refine g_iload_n dX5_leadsOn_15 rfl 2 rfl ?_
    refine n_icmpeq 29 dX5_leadsOn_16 (by decide) (by omega) (by omega) (fun h16 => ?_) (fun h16 => ?_)
    · refine g_iconst dX5_leadsOn_29 ci_1 ?_
      refine g_goto 34 dX5_leadsOn_30 (by decide) ?_
      refine g_istore (lv' := [(4, .int (nI 1)), (0, .ref (L 33)), (1, .int (nI b)), (2, .int (nI a)), (3, .int (nI (bitsN m 8)))]) dX5_leadsOn_34 (by decide) rfl ?_
      refine g_iload dX5_leadsOn_36 0 rfl ?_
      refine t_ifeq1 (tgt := 76) dX5_leadsOn_38 (by decide) ?_
      have hee : x_lo X b = a ∨ x_hi X b = a := Or.inl h16
      have hol := oe_lt ho hb hee
      refine g_aload_n dX5_leadsOn_41 rfl 1 rfl ?_
      refine s_getM kf_X5_70 (by decide) rfl dX5_leadsOn_42 ?_
      refine g_aload_n dX5_leadsOn_45 rfl 1 rfl ?_
      refine s_getM kf_X5_7 (by decide) rfl dX5_leadsOn_46 ?_
      refine g_iload_n dX5_leadsOn_49 rfl 2 rfl ?_
      refine s_ald (q := 34) (n := 8) (at_ia (q := 34) rfl) (by omega) (by decide) dX5_leadsOn_50 ?_
      refine g_tope (z := nI (x_lo X b)) (rpM_lo hX1 (by omega)) ?_
      refine g_aload_n dX5_leadsOn_51 rfl 1 rfl ?_
      refine s_getM kf_X5_13 (by decide) rfl dX5_leadsOn_52 ?_
      refine g_iload_n dX5_leadsOn_55 rfl 2 rfl ?_
      refine s_ald (q := 35) (n := 8) (at_ia (q := 35) rfl) (by omega) (by decide) dX5_leadsOn_56 ?_
      refine g_tope (z := nI (x_hi X b)) (rpM_hi hX1 (by omega)) ?_
      refine g_iadd dX5_leadsOn_57 ?_
      refine g_tope (z := nI (x_lo X b + (x_hi X b))) (nI_add _ _) ?_
      refine g_iload_n dX5_leadsOn_58 rfl 3 rfl ?_
      refine g_isub dX5_leadsOn_59 ?_
      refine g_tope (z := nI ((x_lo X b + (x_hi X b)) - a)) (pk_sub (by omega)) ?_
      refine s_ald (q := 54) (n := 6) (at_ia (q := 54) rfl) (by omega) (by decide) dX5_leadsOn_60 ?_
      refine g_tope (z := nI (faX X m g ((x_lo X b + (x_hi X b)) - a))) (hf _ (by omega)) ?_
      refine g_aload_n dX5_leadsOn_61 rfl 1 rfl ?_
      refine s_getM kf_X5_70 (by decide) rfl dX5_leadsOn_62 ?_
      refine g_iload_n dX5_leadsOn_65 rfl 3 rfl ?_
      refine s_ald (q := 54) (n := 6) (at_ia (q := 54) rfl) (by omega) (by decide) dX5_leadsOn_66 ?_
      refine g_tope (z := nI (faX X m g a)) (hf _ (by omega)) ?_
      refine g_iconst dX5_leadsOn_67 ci_1 ?_
      refine g_isub dX5_leadsOn_68 ?_
      refine g_tope (z := nI (faX X m g a - 1)) (pk_sub (by rw [fa_dN hd]; omega)) ?_
      refine n_icmpne 76 dX5_leadsOn_69 (by decide) (by omega) (by omega) (fun h69 => ?_) (fun h69 => ?_)
      · refine g_iconst dX5_leadsOn_76 ci_0 ?_
        exact g_zreturn dX5_leadsOn_77 (Nat.le_refl _) (Nat.le_refl _) (Or.inl rfl) (hff (by cases e : ldsX X m g a b; rfl; exact absurd ((lds_fa ho hb hd h0 h6 hee).mpr e) h69))
      · refine g_iconst dX5_leadsOn_72 ci_1 ?_
        refine g_goto 77 dX5_leadsOn_73 (by decide) ?_
        exact g_zreturn dX5_leadsOn_77 (Nat.le_refl _) (Nat.le_refl _) (Or.inr rfl) (ht ((lds_fa ho hb hd h0 h6 hee).mp h69))
    · refine g_aload_n dX5_leadsOn_19 rfl 0 rfl ?_
      refine s_getM kf_X5_13 (by decide) rfl dX5_leadsOn_20 ?_
      refine g_iload_n dX5_leadsOn_23 rfl 1 rfl ?_
      refine s_ald (q := 35) (n := 8) (at_ia (q := 35) rfl) (by omega) (by decide) dX5_leadsOn_24 ?_
      refine g_tope (z := nI (x_hi X b)) (rpM_hi hX1 (by omega)) ?_
      refine g_iload_n dX5_leadsOn_25 rfl 2 rfl ?_
      refine n_icmpne 33 dX5_leadsOn_26 (by decide) (by omega) (by omega) (fun h26 => ?_) (fun h26 => ?_)
      · refine g_iconst dX5_leadsOn_33 ci_0 ?_
        refine g_istore (lv' := [(4, .int (nI 0)), (0, .ref (L 33)), (1, .int (nI b)), (2, .int (nI a)), (3, .int (nI (bitsN m 8)))]) dX5_leadsOn_34 (by decide) rfl ?_
        refine g_iload dX5_leadsOn_36 0 rfl ?_
        refine t_ifeq0 76 dX5_leadsOn_38 (by decide) ?_
        refine g_iconst dX5_leadsOn_76 ci_0 ?_
        exact g_zreturn dX5_leadsOn_77 (Nat.le_refl _) (Nat.le_refl _) (Or.inl rfl) (hff (by simp [ldsX, h6, h16, h26]))
      · refine g_iconst dX5_leadsOn_29 ci_1 ?_
        refine g_goto 34 dX5_leadsOn_30 (by decide) ?_
        refine g_istore (lv' := [(4, .int (nI 1)), (0, .ref (L 33)), (1, .int (nI b)), (2, .int (nI a)), (3, .int (nI (bitsN m 8)))]) dX5_leadsOn_34 (by decide) rfl ?_
        refine g_iload dX5_leadsOn_36 0 rfl ?_
        refine t_ifeq1 (tgt := 76) dX5_leadsOn_38 (by decide) ?_
        have hee : x_lo X b = a ∨ x_hi X b = a := Or.inr h26
        have hol := oe_lt ho hb hee
        refine g_aload_n dX5_leadsOn_41 rfl 1 rfl ?_
        refine s_getM kf_X5_70 (by decide) rfl dX5_leadsOn_42 ?_
        refine g_aload_n dX5_leadsOn_45 rfl 1 rfl ?_
        refine s_getM kf_X5_7 (by decide) rfl dX5_leadsOn_46 ?_
        refine g_iload_n dX5_leadsOn_49 rfl 2 rfl ?_
        refine s_ald (q := 34) (n := 8) (at_ia (q := 34) rfl) (by omega) (by decide) dX5_leadsOn_50 ?_
        refine g_tope (z := nI (x_lo X b)) (rpM_lo hX1 (by omega)) ?_
        refine g_aload_n dX5_leadsOn_51 rfl 1 rfl ?_
        refine s_getM kf_X5_13 (by decide) rfl dX5_leadsOn_52 ?_
        refine g_iload_n dX5_leadsOn_55 rfl 2 rfl ?_
        refine s_ald (q := 35) (n := 8) (at_ia (q := 35) rfl) (by omega) (by decide) dX5_leadsOn_56 ?_
        refine g_tope (z := nI (x_hi X b)) (rpM_hi hX1 (by omega)) ?_
        refine g_iadd dX5_leadsOn_57 ?_
        refine g_tope (z := nI (x_lo X b + (x_hi X b))) (nI_add _ _) ?_
        refine g_iload_n dX5_leadsOn_58 rfl 3 rfl ?_
        refine g_isub dX5_leadsOn_59 ?_
        refine g_tope (z := nI ((x_lo X b + (x_hi X b)) - a)) (pk_sub (by omega)) ?_
        refine s_ald (q := 54) (n := 6) (at_ia (q := 54) rfl) (by omega) (by decide) dX5_leadsOn_60 ?_
        refine g_tope (z := nI (faX X m g ((x_lo X b + (x_hi X b)) - a))) (hf _ (by omega)) ?_
        refine g_aload_n dX5_leadsOn_61 rfl 1 rfl ?_
        refine s_getM kf_X5_70 (by decide) rfl dX5_leadsOn_62 ?_
        refine g_iload_n dX5_leadsOn_65 rfl 3 rfl ?_
        refine s_ald (q := 54) (n := 6) (at_ia (q := 54) rfl) (by omega) (by decide) dX5_leadsOn_66 ?_
        refine g_tope (z := nI (faX X m g a)) (hf _ (by omega)) ?_
        refine g_iconst dX5_leadsOn_67 ci_1 ?_
        refine g_isub dX5_leadsOn_68 ?_
        refine g_tope (z := nI (faX X m g a - 1)) (pk_sub (by rw [fa_dN hd]; omega)) ?_
        refine n_icmpne 76 dX5_leadsOn_69 (by decide) (by omega) (by omega) (fun h69 => ?_) (fun h69 => ?_)
        · refine g_iconst dX5_leadsOn_76 ci_0 ?_
          exact g_zreturn dX5_leadsOn_77 (Nat.le_refl _) (Nat.le_refl _) (Or.inl rfl) (hff (by cases e : ldsX X m g a b; rfl; exact absurd ((lds_fa ho hb hd h0 h6 hee).mpr e) h69))
        · refine g_iconst dX5_leadsOn_72 ci_1 ?_
          refine g_goto 77 dX5_leadsOn_73 (by decide) ?_
          exact g_zreturn dX5_leadsOn_77 (Nat.le_refl _) (Nat.le_refl _) (Or.inr rfl) (ht ((lds_fa ho hb hd h0 h6 hee).mp h69))
