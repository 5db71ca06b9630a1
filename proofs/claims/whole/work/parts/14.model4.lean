/-! arguments as numbers -/
def ix (n : Nat) (x : Int32) : Nat := if 0 ≤ x.toInt ∧ x.toInt < (n : Int) then x.toInt.toNat else n
theorem ix_nI {n p : Nat} (hp : p < n) (hn : n < 2 ^ 31) : ix n (nI p) = p := by
  unfold ix
  rw [nI_toInt (by omega), if_pos (by omega)]
  omega
theorem ix_lt {n : Nat} {x : Int32} (h : ix n x < n) : x = nI (ix n x) := by
  unfold ix at h ⊢
  split at h
  · rename_i h1
    rw [if_pos h1]
    have h2 := fb_rng x
    rw [fa_eq, nI_toInt (by omega)]
    omega
  · omega
theorem ix_no {n : Nat} {x : Int32} (h : ∀ p, p < n → ¬ x = nI p) : ¬ ix n x < n := fun h1 => h _ h1 (ix_lt h1)
def thI (X : XT) (x : Int32) : Bool := decide (ix 6 x < 6) && x_th X (ix 6 x)
def teI (X : XT) (x : Int32) : Bool := decide (ix (x_sz X) x < x_sz X)
def brI (X : XT) (x : Int32) : Bool := decide (ix 8 x < 8) && x_br X (ix 8 x)
def nwI (x : Int32) : Bool := decide (ix 8 x < 8)
theorem thI_n {X : XT} {p : Nat} (hp : p < 6) : thI X (nI p) = x_th X p := by unfold thI; rw [ix_nI hp (by decide)]; simp [hp]
theorem thI_t {X : XT} {p : Nat} (hp : p < 6) (h : x_th X p = true) : thI X (nI p) = true := by rw [thI_n hp, h]
theorem thI_f {X : XT} {x : Int32} (h : ∀ p, p < 6 → x = nI p → x_th X p = false) : thI X x = false := by
  unfold thI
  by_cases h1 : ix 6 x < 6
  · rw [h _ h1 (ix_lt h1), Bool.and_false]
  · simp [h1]
theorem brI_n {X : XT} {p : Nat} (hp : p < 8) : brI X (nI p) = x_br X p := by unfold brI; rw [ix_nI hp (by decide)]; simp [hp]
theorem brI_t {X : XT} {p : Nat} (hp : p < 8) (h : x_br X p = true) : brI X (nI p) = true := by rw [brI_n hp, h]
theorem brI_f {X : XT} {x : Int32} (h : ∀ p, p < 8 → x = nI p → x_br X p = false) : brI X x = false := by
  unfold brI
  by_cases h1 : ix 8 x < 8
  · rw [h _ h1 (ix_lt h1), Bool.and_false]
  · simp [h1]
theorem teI_t {X : XT} (ho : okX X) {t : Nat} (ht : t < x_sz X) : teI X (nI t) = true := by unfold teI; rw [ix_nI ht (by have := ok_sz ho; omega)]; simp [ht]
theorem teI_f {X : XT} {x : Int32} (h : ∀ t, t < x_sz X → ¬ x = nI t) : teI X x = false := by unfold teI; simp only [decide_eq_false_iff_not]; exact ix_no h
theorem nwI_t {k : Nat} (hk : k < 8) : nwI (nI k) = true := by unfold nwI; rw [ix_nI hk (by decide)]; simp [hk]
theorem nwI_f {x : Int32} (h : ∀ k, k < 8 → ¬ x = nI k) : nwI x = false := by unfold nwI; simp only [decide_eq_false_iff_not]; exact ix_no h
theorem ix6 {p : Nat} (hp : p < 6) : ix 6 (nI p) = p := ix_nI hp (by decide)
theorem ix8 {p : Nat} (hp : p < 8) : ix 8 (nI p) = p := ix_nI hp (by decide)
theorem ixt {X : XT} (ho : okX X) {t : Nat} (ht : t < x_sz X) : ix (x_sz X) (nI t) = t := ix_nI ht (by have := ok_sz ho; omega)
/-- a number between two others, as an argument -/
def inI (a b : Int) (x : Int32) : Bool := decide (a ≤ x.toInt ∧ x.toInt ≤ b)
def inN (a b : Nat) (x : Int32) : Bool := inI (a : Int) (b : Int) x
theorem inN_t {a b : Nat} {p : Nat} (h1 : a ≤ p) (h2 : p ≤ b) (hb : b < 2 ^ 31) : inN a b (nI p) = true := by unfold inN inI; rw [nI_toInt (by omega)]; simp; omega
theorem inN_f {a b : Nat} {x : Int32} (hb : b < 2 ^ 31) (h : ∀ p, a ≤ p → p ≤ b → ¬ x = nI p) : inN a b x = false := by
  unfold inN inI
  simp only [decide_eq_false_iff_not]
  intro h1
  refine h x.toInt.toNat (by omega) (by omega) ?_
  rw [fa_eq, nI_toInt (by omega)]
  omega
/-! what the reference's own calls leave alone: the class's cells, the pad, the images -/
def fr (σ σ' : St) : Prop := (∀ o, o ≠ 33 → sI σ' o = sI σ o) ∧ (∀ q, (q < 34 ∨ 59 < q ∨ q = 45) → sA σ' q = sA σ q) ∧ sI σ' 33 18 = sI σ 33 18 ∧ sK σ' = sK σ ∧ sM σ' = sM σ
theorem fr_rfl {σ : St} : fr σ σ := ⟨fun _ _ => rfl, fun _ _ => rfl, rfl, rfl, rfl⟩
theorem fr_trans {a b c : St} (h : fr a b) (h2 : fr b c) : fr a c := ⟨fun o ho => (h2.1 o ho).trans (h.1 o ho), fun q hq => (h2.2.1 q hq).trans (h.2.1 q hq), h2.2.2.1.trans h.2.2.1, h2.2.2.2.1.trans h.2.2.2.1, h2.2.2.2.2.trans h.2.2.2.2⟩
theorem fr_A {a b : St} (h : fr a b) (q : Nat) (hq : 34 ≤ q ∧ q ≤ 59 ∧ q ≠ 45) (f : Nat → Int32) : fr a (setA b q f) :=
  fr_trans h ⟨fun _ _ => rfl, fun q' h' => if_neg (by omega), rfl, rfl, rfl⟩
theorem fr_I {a b : St} (h : fr a b) (k : Nat) (hk : k ≠ 18) (x : Int32) : fr a (setI b 33 k x) :=
  fr_trans h ⟨fun o ho => if_neg ho, fun _ _ => rfl, (show (if 33 = 33 then upd (sI b 33) k x else sI b 33) 18 = sI b 33 18 by rw [if_pos rfl]; exact if_neg (fun e => hk e.symm)), rfl, rfl⟩
/-! answers -/
def heavyR (X : XT) (x y : Int32) : Int32 := if thI X x && nwI y then (if x_kn X (ix 6 x) (ix 8 y) then zI (hvX X (ix 6 x) (ix 8 y) (kcX X (ix 8 y)) + 1000) else -6) else -1
def carriesR (X : XT) (x : Int32) : Int32 := if thI X x then nI (buX X (ix 6 x)) else -1
def bentR (X : XT) (x : Int32) : Int32 := if brI X x then nI (x_bn X (ix 8 x)) else -1
/-- how far p is from g; 6: no WAY -/
def waN (X : XT) (p g : Nat) : Nat := dN X (beX X (buX X p)) g (x_pl X p)
def feeN (X : XT) (p g : Nat) : Int32 := if waN X p g < 6 then nI (buX X p * waN X p g) else -6
def feeR (X : XT) (x y : Int32) : Int32 := if thI X x && teI X y then feeN X (ix 6 x) (ix (x_sz X) y) else -1
def sumNN (f : Nat → Nat) : Nat → Nat
  | 0 => 0
  | n + 1 => sumNN f n + f n
def hwN (X : XT) (g p : Nat) : Bool := x_th X p && decide (waN X p g < 6)
def feN (X : XT) (g p : Nat) : Nat := if hwN X g p then buX X p * waN X p g else 0
def feesR (X : XT) (x y : Int32) : Int32 := if teI X x then (if inN 0 1 y then (if y = nI 0 then nI (sumNN (feN X (ix (x_sz X) x)) 6) else nI (cntN (hwN X (ix (x_sz X) x)) 6)) else -2) else -1
theorem wa_le (X : XT) (p g : Nat) : waN X p g ≤ 6 := dN_le
theorem fe_le {X : XT} (ho : okX X) (g p : Nat) : feN X g p ≤ 9504 := by
  unfold feN
  split
  · have h1 := bu_bd ho p
    have h2 := wa_le X p g
    exact Nat.le_trans (Nat.mul_le_mul h1 h2) (by decide)
  · omega
theorem sumNN_le {f : Nat → Nat} {c : Nat} (h : ∀ i, f i ≤ c) : ∀ n, sumNN f n ≤ n * c
  | 0 => Nat.zero_le _
  | n + 1 => by
    have := sumNN_le h n
    have := h n
    simp only [sumNN, Nat.succ_mul]
    omega
theorem fa_wa {X : XT} {p g : Nat} : faX X (beX X (buX X p)) g (x_pl X p) = if waN X p g < 6 then waN X p g else 1000 := rfl
set_option maxHeartbeats 4000000 in
set_option maxRecDepth 20000 in
theorem c_X5_heavy {l : Launch} {D : gE} {L : Nat → Nat} {σ : St} {Q : Option Value → va_W → Prop} {d : Nat} {X : XT} (hX : rpM σ X) (ho : okX X) {x y : Int32} (h : ∀ σ', fr σ σ' → rpM σ' X → Q (some (.int (heavyR X x y))) (wsOf D L σ')) : Ctr l D yX5_heavy cX5_heavy 3 (some .int) (rr (d + 3)) [.ref (L 33), .int x, .int y] (wsOf D L σ) Q := by
  refine g_start ky_X5_heavy (Nat.le_of_ble_eq_true rfl) ?_
  refine g_pick [0, 1, 2] (lv' := [(0, .ref (L 33)), (1, .int x), (2, .int y)]) rfl ?_
  refine g_aload_n dX5_heavy_0 rfl 0 rfl ?_
  refine g_iload_n dX5_heavy_1 rfl 1 rfl ?_
  refine g_callV (As := [.int x]) km_X5_143 ky_X5_isThere ki_X5_isThere (by decide) 33 at_33 rfl rfl (Nat.le_of_ble_eq_true rfl) dX5_heavy_2 rfl (c_X5_isThere hX (fun p2 hp2 he2 h2 => ?_) (fun h2 => ?_))
  · subst he2
    refine t_ifeq1 (tgt := 15) dX5_heavy_5 (by decide) ?_
    refine g_iload_n dX5_heavy_8 rfl 2 rfl ?_
    refine g_callS (As := [.int y]) km_X5_146 ky_X5_isNews ks_X5_isNews (by decide) rfl (Nat.le_of_ble_eq_true rfl) dX5_heavy_9 rfl (c_X5_isNews (fun k9 hk9 he9 => ?_) (fun h9 => ?_))
    · subst he9
      refine t_ifne1 17 dX5_heavy_12 (by decide) ?_
      refine g_aload_n dX5_heavy_17 rfl 0 rfl ?_
      refine s_getM kf_X5_28 (by decide) rfl dX5_heavy_18 ?_
      refine g_iload_n dX5_heavy_21 rfl 1 rfl ?_
      refine s_ald (q := 40) (n := 6) (at_ia (q := 40) rfl) (by omega) (by decide) dX5_heavy_22 ?_
      refine g_tope (z := nI (bitsN (x_kn X p2) 8)) (rpM_kn hX (by omega) (by assumption)) ?_
      refine g_iload_n dX5_heavy_23 rfl 2 rfl ?_
      refine g_ishr dX5_heavy_24 ?_
      refine g_iconst dX5_heavy_25 ci_1 ?_
      refine g_iand dX5_heavy_26 ?_
      refine g_tope (z := nI (b2n ((x_kn X p2) k9))) (gbB _ (by decide) (by omega)) ?_
      refine b_ifne 35 dX5_heavy_27 (by decide) (fun h27 => ?_) (fun h27 => ?_)
      · have hkp := kc_pos (X := X) hp2 h27
        have hkl := kc_le X k9
        refine g_aload_n dX5_heavy_35 rfl 0 rfl ?_
        refine g_iload_n dX5_heavy_36 rfl 1 rfl ?_
        refine g_iload_n dX5_heavy_37 rfl 2 rfl ?_
        refine g_aload_n dX5_heavy_38 rfl 0 rfl ?_
        refine g_iload_n dX5_heavy_39 rfl 2 rfl ?_
        refine g_callV (As := [.int (nI k9)]) km_X5_195 ky_X5_knowers ki_X5_knowers (by decide) 33 at_33 rfl rfl (Nat.le_of_ble_eq_true rfl) dX5_heavy_40 rfl (c_X5_knowers hX ho (by omega) ?_)
        refine g_callV (As := [.int (nI p2), .int (nI k9), .int (nI (kcX X k9))]) km_X5_198 ky_X5_heavyBy ki_X5_heavyBy (by decide) 33 at_33 rfl rfl (Nat.le_of_ble_eq_true rfl) dX5_heavy_43 rfl (c_X5_heavyBy hX ho (by omega) (by omega) (by omega) (by omega) ?_)
        refine g_sipush dX5_heavy_46 sp_1000 ?_
        refine g_iadd dX5_heavy_49 ?_
        refine g_tope (z := zI (hvX X p2 k9 (kcX X k9) + 1000)) (by rw [show nI 1000 = zI 1000 from by decide +kernel]; exact zI_add _ _) ?_
        exact g_ireturn dX5_heavy_50 (Nat.le_refl _) (Nat.le_refl _) (qi (by unfold heavyR; rw [thI_t hp2 h2, nwI_t hk9, ix6 hp2, ix8 hk9, h27]; rfl) (h _ fr_rfl hX))
      · refine g_bipush dX5_heavy_30 bp_m6 ?_
        refine g_goto 50 dX5_heavy_32 (by decide) ?_
        exact g_ireturn dX5_heavy_50 (Nat.le_refl _) (Nat.le_refl _) (qi (by unfold heavyR; rw [thI_t hp2 h2, nwI_t hk9, ix6 hp2, ix8 hk9, h27]; rfl) (h _ fr_rfl hX))
    · refine t_ifne0 (tgt := 17) dX5_heavy_12 (by decide) ?_
      refine g_iconst dX5_heavy_15 ci_m1 ?_
      exact g_ireturn dX5_heavy_16 (Nat.le_refl _) (Nat.le_refl _) (qi (by unfold heavyR; rw [nwI_f h9, Bool.and_false, if_neg (by decide)]) (h _ fr_rfl hX))
  · refine t_ifeq0 15 dX5_heavy_5 (by decide) ?_
    refine g_iconst dX5_heavy_15 ci_m1 ?_
    exact g_ireturn dX5_heavy_16 (Nat.le_refl _) (Nat.le_refl _) (qi (by unfold heavyR; rw [thI_f h2, Bool.false_and, if_neg (by decide)]) (h _ fr_rfl hX))
set_option maxHeartbeats 4000000 in
set_option maxRecDepth 20000 in
theorem c_X5_carries {l : Launch} {D : gE} {L : Nat → Nat} {σ : St} {Q : Option Value → va_W → Prop} {d : Nat} {X : XT} (hX : rpM σ X) (ho : okX X) {x : Int32} (h : ∀ σ', fr σ σ' → rpM σ' X → Q (some (.int (carriesR X x))) (wsOf D L σ')) : Ctr l D yX5_carries cX5_carries 2 (some .int) (rr (d + 5)) [.ref (L 33), .int x] (wsOf D L σ) Q := by
  refine g_start ky_X5_carries (Nat.le_of_ble_eq_true rfl) ?_
  refine g_pick [0, 1] (lv' := [(0, .ref (L 33)), (1, .int x)]) rfl ?_
  refine g_aload_n dX5_carries_0 rfl 0 rfl ?_
  refine g_iload_n dX5_carries_1 rfl 1 rfl ?_
  refine g_callV (As := [.int x]) km_X5_143 ky_X5_isThere ki_X5_isThere (by decide) 33 at_33 rfl rfl (Nat.le_of_ble_eq_true rfl) dX5_carries_2 rfl (c_X5_isThere hX (fun p2 hp2 he2 h2 => ?_) (fun h2 => ?_))
  · subst he2
    refine t_ifeq1 (tgt := 16) dX5_carries_5 (by decide) ?_
    refine g_aload_n dX5_carries_8 rfl 0 rfl ?_
    refine g_iload_n dX5_carries_9 rfl 1 rfl ?_
    refine g_callV (As := [.int (nI p2)]) km_X5_206 ky_X5_carriedBy ki_X5_carriedBy (by decide) 33 at_33 rfl rfl (Nat.le_of_ble_eq_true rfl) dX5_carries_10 rfl (c_X5_carriedBy hX ho (by omega) (by assumption) ?_)
    refine g_goto 17 dX5_carries_13 (by decide) ?_
    exact g_ireturn dX5_carries_17 (Nat.le_refl _) (Nat.le_refl _) (qi (by unfold carriesR; rw [thI_t hp2 h2, ix6 hp2, if_pos rfl]) (h _ fr_rfl hX))
  · refine t_ifeq0 16 dX5_carries_5 (by decide) ?_
    refine g_iconst dX5_carries_16 ci_m1 ?_
    exact g_ireturn dX5_carries_17 (Nat.le_refl _) (Nat.le_refl _) (qi (by unfold carriesR; rw [thI_f h2, if_neg (by decide)]) (h _ fr_rfl hX))
set_option maxHeartbeats 4000000 in
set_option maxRecDepth 20000 in
theorem c_X5_bent {l : Launch} {D : gE} {L : Nat → Nat} {σ : St} {Q : Option Value → va_W → Prop} {d : Nat} {X : XT} (hX : rpM σ X) (ho : okX X) {x : Int32} (h : ∀ σ', fr σ σ' → rpM σ' X → Q (some (.int (bentR X x))) (wsOf D L σ')) : Ctr l D yX5_bent cX5_bent 2 (some .int) (rr (d + 2)) [.ref (L 33), .int x] (wsOf D L σ) Q := by
  refine g_start ky_X5_bent (Nat.le_of_ble_eq_true rfl) ?_
  refine g_pick [0, 1] (lv' := [(0, .ref (L 33)), (1, .int x)]) rfl ?_
  refine g_aload_n dX5_bent_0 rfl 0 rfl ?_
  refine g_iload_n dX5_bent_1 rfl 1 rfl ?_
  refine g_callV (As := [.int x]) km_X5_140 ky_X5_isBridge ki_X5_isBridge (by decide) 33 at_33 rfl rfl (Nat.le_of_ble_eq_true rfl) dX5_bent_2 rfl (c_X5_isBridge hX (fun p2 hp2 he2 h2 => ?_) (fun h2 => ?_))
  · subst he2
    refine t_ifeq1 (tgt := 17) dX5_bent_5 (by decide) ?_
    refine g_aload_n dX5_bent_8 rfl 0 rfl ?_
    refine s_getM kf_X5_19 (by decide) rfl dX5_bent_9 ?_
    refine g_iload_n dX5_bent_12 rfl 1 rfl ?_
    refine s_ald (q := 37) (n := 8) (at_ia (q := 37) rfl) (by omega) (by decide) dX5_bent_13 ?_
    refine g_tope (z := nI (x_bn X p2)) (rpM_bn hX (by omega)) ?_
    refine g_goto 18 dX5_bent_14 (by decide) ?_
    exact g_ireturn dX5_bent_18 (Nat.le_refl _) (Nat.le_refl _) (qi (by unfold bentR; rw [brI_t hp2 h2, ix8 hp2, if_pos rfl]) (h _ fr_rfl hX))
  · refine t_ifeq0 17 dX5_bent_5 (by decide) ?_
    refine g_iconst dX5_bent_17 ci_m1 ?_
    exact g_ireturn dX5_bent_18 (Nat.le_refl _) (Nat.le_refl _) (qi (by unfold bentR; rw [brI_f h2, if_neg (by decide)]) (h _ fr_rfl hX))
set_option maxHeartbeats 4000000 in
set_option maxRecDepth 20000 in
theorem c_X5_isAsked {l : Launch} {D : gE} {L : Nat → Nat} {σ : St} {Q : Option Value → va_W → Prop} {d : Nat} {X : XT} (hX : rpM σ X) (ho : okX X) {x y : Int32} (ht : ∀ p t, p < 6 → t < x_sz X → x = nI p → y = nI t → x_th X p = true → Q (some (.int (nI 1))) (wsOf D L σ)) (hf : (thI X x && teI X y) = false → Q (some (.int (nI 0))) (wsOf D L σ)) : Ctr l D yX5_isAsked cX5_isAsked 3 (some .boolean) (rr (d + 2)) [.ref (L 33), .int x, .int y] (wsOf D L σ) Q := by
  refine g_start ky_X5_isAsked (Nat.le_of_ble_eq_true rfl) ?_
  refine g_pick [0, 1, 2] (lv' := [(0, .ref (L 33)), (1, .int x), (2, .int y)]) rfl ?_
  refine g_aload_n dX5_isAsked_0 rfl 0 rfl ?_
  refine g_iload_n dX5_isAsked_1 rfl 1 rfl ?_
  refine g_callV (As := [.int x]) km_X5_143 ky_X5_isThere ki_X5_isThere (by decide) 33 at_33 rfl rfl (Nat.le_of_ble_eq_true rfl) dX5_isAsked_2 rfl (c_X5_isThere hX (fun p2 hp2 he2 h2 => ?_) (fun h2 => ?_))
  · subst he2
    refine t_ifeq1 (tgt := 20) dX5_isAsked_5 (by decide) ?_
    refine g_aload_n dX5_isAsked_8 rfl 0 rfl ?_
    refine g_iload_n dX5_isAsked_9 rfl 2 rfl ?_
    refine g_callV (As := [.int y]) km_X5_130 ky_X5_isTerrace ki_X5_isTerrace (by decide) 33 at_33 rfl rfl (Nat.le_of_ble_eq_true rfl) dX5_isAsked_10 rfl (c_X5_isTerrace hX ho (fun t10 ht10 he10 => ?_) (fun h10 => ?_))
    · subst he10
      refine t_ifeq1 (tgt := 20) dX5_isAsked_13 (by decide) ?_
      refine g_iconst dX5_isAsked_16 ci_1 ?_
      refine g_goto 21 dX5_isAsked_17 (by decide) ?_
      exact g_zreturn dX5_isAsked_21 (Nat.le_refl _) (Nat.le_refl _) (Or.inr rfl) (ht p2 t10 hp2 ht10 rfl rfl h2)
    · refine t_ifeq0 20 dX5_isAsked_13 (by decide) ?_
      refine g_iconst dX5_isAsked_20 ci_0 ?_
      exact g_zreturn dX5_isAsked_21 (Nat.le_refl _) (Nat.le_refl _) (Or.inl rfl) (hf (by rw [teI_f h10, Bool.and_false]))
  · refine t_ifeq0 20 dX5_isAsked_5 (by decide) ?_
    refine g_iconst dX5_isAsked_20 ci_0 ?_
    exact g_zreturn dX5_isAsked_21 (Nat.le_refl _) (Nat.le_refl _) (Or.inl rfl) (hf (by rw [thI_f h2, Bool.false_and]))
set_option maxHeartbeats 4000000 in
set_option maxRecDepth 20000 in
theorem c_X5_feeOf {l : Launch} {D : gE} {L : Nat → Nat} {σ : St} {Q : Option Value → va_W → Prop} {d : Nat} {X : XT} (hX : rpM σ X) (ho : okX X) {p g : Nat} (hp : p < 6) (hg : g < 6) (hth : x_th X p = true) (ht : waN X p g < 6 → ∀ f, Q (some (.int (nI (buX X p * waN X p g)))) (wsOf D L (setA σ 54 f))) (hf : ¬ waN X p g < 6 → ∀ f, Q (some (.int (-6))) (wsOf D L (setA σ 54 f))) : Ctr l D yX5_feeOf cX5_feeOf 5 (some .int) (rr (d + 5)) [.ref (L 33), .int (nI p), .int (nI g)] (wsOf D L σ) Q := by
  refine g_start ky_X5_feeOf (Nat.le_of_ble_eq_true rfl) ?_
  refine g_pick [0, 1, 2] (lv' := [(0, .ref (L 33)), (1, .int (nI p)), (2, .int (nI g))]) rfl ?_
  have hpp := ok_p ho hp
  have hbu := bu_bd ho p
  have hfa := fa_le2 (X := X) (m := beX X (buX X p)) (s := g) (t := x_pl X p)
  refine g_aload_n dX5_feeOf_0 rfl 0 rfl ?_
  refine g_iload_n dX5_feeOf_1 rfl 1 rfl ?_
  refine g_callV (As := [.int (nI p)]) km_X5_206 ky_X5_carriedBy ki_X5_carriedBy (by decide) 33 at_33 rfl rfl (Nat.le_of_ble_eq_true rfl) dX5_feeOf_2 rfl (c_X5_carriedBy hX ho (by omega) (by assumption) ?_)
  refine g_istore_n (lv' := [(3, .int (nI (buX X p))), (0, .ref (L 33)), (1, .int (nI p)), (2, .int (nI g))]) dX5_feeOf_5 rfl (by decide) rfl ?_
  refine g_aload_n dX5_feeOf_6 rfl 1 rfl ?_
  refine g_aload_n dX5_feeOf_7 rfl 1 rfl ?_
  refine s_getM kf_X5_22 (by decide) rfl dX5_feeOf_8 ?_
  refine g_iload_n dX5_feeOf_11 rfl 2 rfl ?_
  refine s_ald (q := 38) (n := 6) (at_ia (q := 38) rfl) (by omega) (by decide) dX5_feeOf_12 ?_
  refine g_tope (z := nI (x_pl X p)) (rpM_pl hX (by omega)) ?_
  refine g_iload_n dX5_feeOf_13 rfl 3 rfl ?_
  refine g_iload_n dX5_feeOf_14 rfl 0 rfl ?_
  refine g_callV (As := [.int (nI (x_pl X p)), .int (nI g), .int (nI (buX X p))]) km_X5_264 ky_X5_farBy ki_X5_farBy (by decide) 33 at_33 rfl rfl (Nat.le_of_ble_eq_true rfl) dX5_feeOf_15 rfl (c_X5_farBy hX ho (by omega) (by omega) (by omega) (fun f15 => ?_))
  refine g_istore (lv' := [(4, .int (nI (faX X (beX X (buX X p)) g (x_pl X p)))), (3, .int (nI (buX X p))), (0, .ref (L 33)), (1, .int (nI p)), (2, .int (nI g))]) dX5_feeOf_18 (by decide) rfl ?_
  refine g_iload dX5_feeOf_20 0 rfl ?_
  refine g_sipush dX5_feeOf_22 sp_1000 ?_
  refine n_icmpne 33 dX5_feeOf_25 (by decide) (by omega) (by omega) (fun h25 => ?_) (fun h25 => ?_)
  · have hlt : waN X p g < 6 := by rw [fa_wa] at h25; by_cases e : waN X p g < 6; exact e; rw [if_neg e] at h25; exact absurd rfl h25
    refine g_iload_n dX5_feeOf_33 rfl 1 rfl ?_
    refine g_iload dX5_feeOf_34 0 rfl ?_
    refine g_imul dX5_feeOf_36 ?_
    refine g_tope (z := nI (buX X p * waN X p g)) (by rw [fa_wa, if_pos hlt, pk_mul]) ?_
    exact g_ireturn dX5_feeOf_37 (Nat.le_refl _) (Nat.le_refl _) (ht hlt f15)
  · refine g_bipush dX5_feeOf_28 bp_m6 ?_
    refine g_goto 37 dX5_feeOf_30 (by decide) ?_
    exact g_ireturn dX5_feeOf_37 (Nat.le_refl _) (Nat.le_refl _) (hf (fun e => by rw [fa_wa, if_pos e] at h25; omega) f15)
set_option maxHeartbeats 4000000 in
set_option maxRecDepth 20000 in
theorem c_X5_fee {l : Launch} {D : gE} {L : Nat → Nat} {σ : St} {Q : Option Value → va_W → Prop} {d : Nat} {X : XT} (hX : rpM σ X) (ho : okX X) {x y : Int32} (h : ∀ σ', fr σ σ' → rpM σ' X → Q (some (.int (feeR X x y))) (wsOf D L σ')) : Ctr l D yX5_fee cX5_fee 3 (some .int) (rr (d + 6)) [.ref (L 33), .int x, .int y] (wsOf D L σ) Q := by
  refine g_start ky_X5_fee (Nat.le_of_ble_eq_true rfl) ?_
  refine g_pick [0, 1, 2] (lv' := [(0, .ref (L 33)), (1, .int x), (2, .int y)]) rfl ?_
  have hfr : fr σ σ := fr_rfl
  refine g_aload_n dX5_fee_0 rfl 0 rfl ?_
  refine g_iload_n dX5_fee_1 rfl 1 rfl ?_
  refine g_iload_n dX5_fee_2 rfl 2 rfl ?_
  refine g_callV (As := [.int x, .int y]) km_X5_267 ky_X5_isAsked ki_X5_isAsked (by decide) 33 at_33 rfl rfl (Nat.le_of_ble_eq_true rfl) dX5_fee_3 rfl (c_X5_isAsked hX ho (fun p3 t3 hp3 ht3 he3 hf3 h3 => ?_) (fun h3 => ?_))
  · subst he3
    subst hf3
    have hsz := ok_sz ho
    refine t_ifeq1 (tgt := 18) dX5_fee_6 (by decide) ?_
    refine g_aload_n dX5_fee_9 rfl 0 rfl ?_
    refine g_iload_n dX5_fee_10 rfl 1 rfl ?_
    refine g_iload_n dX5_fee_11 rfl 2 rfl ?_
    refine g_callV (As := [.int (nI p3), .int (nI t3)]) km_X5_331 ky_X5_feeOf ki_X5_feeOf (by decide) 33 at_33 rfl rfl (Nat.le_of_ble_eq_true rfl) dX5_fee_12 rfl (c_X5_feeOf hX ho (by omega) (by omega) (by assumption) (fun h12 f12 => ?_) (fun h12 f12 => ?_))
    · have hX := rpM_A hX 54 (by omega) f12
      have hfr := fr_A hfr 54 (by omega) f12
      generalize setA σ 54 f12 = σ12 at hX hfr ⊢
      refine g_goto 19 dX5_fee_15 (by decide) ?_
      exact g_ireturn dX5_fee_19 (Nat.le_refl _) (Nat.le_refl _) (qi (by unfold feeR feeN; rw [thI_t hp3 h3, teI_t ho ht3, ix6 hp3, ixt ho ht3, if_pos (by rfl), if_pos h12]) (h _ hfr hX))
    · have hX := rpM_A hX 54 (by omega) f12
      have hfr := fr_A hfr 54 (by omega) f12
      generalize setA σ 54 f12 = σ12 at hX hfr ⊢
      refine g_goto 19 dX5_fee_15 (by decide) ?_
      exact g_ireturn dX5_fee_19 (Nat.le_refl _) (Nat.le_refl _) (qi (by unfold feeR feeN; rw [thI_t hp3 h3, teI_t ho ht3, ix6 hp3, ixt ho ht3, if_pos (by rfl), if_neg h12]) (h _ hfr hX))
  · refine t_ifeq0 18 dX5_fee_6 (by decide) ?_
    refine g_iconst dX5_fee_18 ci_m1 ?_
    exact g_ireturn dX5_fee_19 (Nat.le_refl _) (Nat.le_refl _) (qi (by unfold feeR; rw [h3, if_neg (by decide)]) (h _ hfr hX))
set_option maxHeartbeats 4000000 in
set_option maxRecDepth 20000 in
theorem lp_X5_fees {l : Launch} {D : gE} {L : Nat → Nat} {σ : St} {Q : Option Value → va_W → Prop} {d : Nat} {X : XT} (ho : okX X) {t2 p14 : Nat} (ht2 : t2 < x_sz X) (hp14 : p14 ≤ 1) (h : ∀ σ', fr σ σ' → rpM σ' X → Q (some (.int (feesR X (nI t2) (nI p14)))) (wsOf D L σ')) : ∀ n p, p + n = 6 → ∀ σ', fr σ σ' → rpM σ' X → G l D yX5_fees cX5_fees 7 (some .int) (rr (d + 7)) Q 0 0 31 [(5, .int (nI p)), (4, .int (nI (cntN (hwN X t2) p))), (3, .int (nI (sumNN (feN X t2) p))), (0, .ref (L 33)), (1, .int (nI t2)), (2, .int (nI p14))] [] (wsOf D L σ') := by
  intro n
  induction n with
  | zero =>
    intro p hct σ' hfr hX
    obtain rfl : p = 6 := by omega
    have hsz := ok_sz ho
    refine g_iload dX5_fees_31 0 rfl ?_
    refine g_bipush dX5_fees_33 bp_6 ?_
    refine n_icmpge 96 dX5_fees_35 (by decide) (by omega) (by omega) (fun h35 => ?_) (fun h35 => absurd h35 (by omega))
    refine g_iload_n dX5_fees_96 rfl 5 rfl ?_
    refine n_ifne 104 dX5_fees_97 (by decide) (by omega) (fun h97 => ?_) (fun h97 => ?_)
    · refine g_iload dX5_fees_104 1 rfl ?_
      exact g_ireturn dX5_fees_106 (Nat.le_refl _) (Nat.le_refl _) (qi (by unfold feesR; rw [teI_t ho ht2, ixt ho ht2, if_pos rfl, inN_t (a := 0) (b := 1) (by omega) (by omega) (by omega), if_pos rfl, if_neg (fun e => h97 ((nI_eq (by omega) (by omega)).mp e))]) (h _ hfr hX))
    · refine g_iload_n dX5_fees_100 rfl 2 rfl ?_
      refine g_goto 106 dX5_fees_101 (by decide) ?_
      exact g_ireturn dX5_fees_106 (Nat.le_refl _) (Nat.le_refl _) (qi (by unfold feesR; rw [teI_t ho ht2, ixt ho ht2, if_pos rfl, inN_t (a := 0) (b := 1) (by omega) (by omega) (by omega), if_pos rfl, h97, if_pos rfl]) (h _ hfr hX))
  | succ n ih =>
    intro p hct σ' hfr hX
    have hsz := ok_sz ho
    refine g_iload dX5_fees_31 0 rfl ?_
    refine g_bipush dX5_fees_33 bp_6 ?_
    refine n_icmpge 96 dX5_fees_35 (by decide) (by omega) (by omega) (fun h35 => absurd h35 (by omega)) (fun h35 => ?_)
    refine g_aload_n dX5_fees_38 rfl 3 rfl ?_
    refine g_iload dX5_fees_39 0 rfl ?_
    refine g_callV (As := [.int (nI p)]) km_X5_143 ky_X5_isThere ki_X5_isThere (by decide) 33 at_33 rfl rfl (Nat.le_of_ble_eq_true rfl) dX5_fees_41 rfl (c_X5_isThereN hX (by omega) (fun h41 => ?_) (fun h41 => ?_))
    · refine t_ifeq1 (tgt := 57) dX5_fees_44 (by decide) ?_
      refine g_aload_n dX5_fees_47 rfl 3 rfl ?_
      refine g_iload dX5_fees_48 0 rfl ?_
      refine g_iload_n dX5_fees_50 rfl 4 rfl ?_
      refine g_callV (As := [.int (nI p), .int (nI t2)]) km_X5_331 ky_X5_feeOf ki_X5_feeOf (by decide) 33 at_33 rfl rfl (Nat.le_of_ble_eq_true rfl) dX5_fees_51 rfl (c_X5_feeOf hX ho (by omega) (by omega) (by assumption) (fun h51 f51 => ?_) (fun h51 f51 => ?_))
      · have hX := rpM_A hX 54 (by omega) f51
        have hfr := fr_A hfr 54 (by omega) f51
        generalize setA σ' 54 f51 = σ51 at hX hfr ⊢
        refine g_goto 59 dX5_fees_54 (by decide) ?_
        refine g_istore (lv' := [(6, .int (nI (buX X p * waN X p t2))), (5, .int (nI p)), (4, .int (nI (cntN (hwN X t2) p))), (3, .int (nI (sumNN (feN X t2) p))), (0, .ref (L 33)), (1, .int (nI t2)), (2, .int (nI p14))]) dX5_fees_59 (by decide) rfl ?_
        have hw1 : hwN X t2 p = true := by simp [hwN, h41, h51]
        have hfe := fe_le ho t2 p
        have hbw : buX X p * waN X p t2 ≤ 9504 := Nat.le_trans (Nat.mul_le_mul (bu_bd ho p) (wa_le X p t2)) (by decide)
        refine g_iload_n dX5_fees_61 rfl 3 rfl ?_
        refine g_iload dX5_fees_62 0 rfl ?_
        refine n_iflt (tgt := 72) dX5_fees_64 (by decide) (by omega) ?_
        refine g_iload dX5_fees_67 0 rfl ?_
        refine g_goto 73 dX5_fees_69 (by decide) ?_
        refine g_iadd dX5_fees_73 ?_
        refine g_tope (z := nI (sumNN (feN X t2) (p + 1))) (by rw [nI_add]; simp only [sumNN]; rw [show feN X t2 p = buX X p * waN X p t2 from by unfold feN; rw [hw1, if_pos rfl]]) ?_
        refine g_istore_n (lv' := [(3, .int (nI (sumNN (feN X t2) (p + 1)))), (6, .int (nI (buX X p * waN X p t2))), (5, .int (nI p)), (4, .int (nI (cntN (hwN X t2) p))), (0, .ref (L 33)), (1, .int (nI t2)), (2, .int (nI p14))]) dX5_fees_74 rfl (by decide) rfl ?_
        refine g_iload dX5_fees_75 3 rfl ?_
        refine g_iload dX5_fees_77 1 rfl ?_
        refine n_iflt (tgt := 86) dX5_fees_79 (by decide) (by omega) ?_
        refine g_iconst dX5_fees_82 ci_1 ?_
        refine g_goto 87 dX5_fees_83 (by decide) ?_
        refine g_iadd dX5_fees_87 ?_
        refine g_tope (z := nI (cntN (hwN X t2) (p + 1))) (by rw [nI_add]; simp only [cntN]; rw [hw1]; rfl) ?_
        refine g_istore (lv' := [(4, .int (nI (cntN (hwN X t2) (p + 1)))), (3, .int (nI (sumNN (feN X t2) (p + 1)))), (6, .int (nI (buX X p * waN X p t2))), (5, .int (nI p)), (0, .ref (L 33)), (1, .int (nI t2)), (2, .int (nI p14))]) dX5_fees_88 (by decide) rfl ?_
        refine g_iinc (v := nI (p + 1)) (lv' := [(5, .int (nI (p + 1))), (4, .int (nI (cntN (hwN X t2) (p + 1)))), (3, .int (nI (sumNN (feN X t2) (p + 1)))), (6, .int (nI (buX X p * waN X p t2))), (0, .ref (L 33)), (1, .int (nI t2)), (2, .int (nI p14))]) dX5_fees_90 3 rfl (inc_n _) (by decide) rfl ?_
        refine g_goto 31 dX5_fees_93 (by decide) ?_
        refine g_pick [0, 1, 2, 4, 5, 6] (lv' := [(5, .int (nI (p + 1))), (4, .int (nI (cntN (hwN X t2) (p + 1)))), (3, .int (nI (sumNN (feN X t2) (p + 1)))), (0, .ref (L 33)), (1, .int (nI t2)), (2, .int (nI p14))]) rfl ?_
        exact ih (p + 1) (by omega) _ hfr hX
      · have hX := rpM_A hX 54 (by omega) f51
        have hfr := fr_A hfr 54 (by omega) f51
        generalize setA σ' 54 f51 = σ51 at hX hfr ⊢
        refine g_goto 59 dX5_fees_54 (by decide) ?_
        refine g_istore (lv' := [(6, .int (-6)), (5, .int (nI p)), (4, .int (nI (cntN (hwN X t2) p))), (3, .int (nI (sumNN (feN X t2) p))), (0, .ref (L 33)), (1, .int (nI t2)), (2, .int (nI p14))]) dX5_fees_59 (by decide) rfl ?_
        have hw1 : hwN X t2 p = false := by simp [hwN, h51]
        have hfe := fe_le ho t2 p
        have hbw : buX X p * waN X p t2 ≤ 9504 := Nat.le_trans (Nat.mul_le_mul (bu_bd ho p) (wa_le X p t2)) (by decide)
        refine g_iload_n dX5_fees_61 rfl 3 rfl ?_
        refine g_iload dX5_fees_62 0 rfl ?_
        refine g_iflt 72 dX5_fees_64 (by decide) (fun h64 => ?_) (fun h64 => absurd h64 (by decide +kernel))
        refine g_iconst dX5_fees_72 ci_0 ?_
        refine g_iadd dX5_fees_73 ?_
        refine g_tope (z := nI (sumNN (feN X t2) (p + 1))) (by rw [nI_add]; simp only [sumNN]; rw [show feN X t2 p = 0 from by unfold feN; rw [hw1, if_neg (by decide)]]) ?_
        refine g_istore_n (lv' := [(3, .int (nI (sumNN (feN X t2) (p + 1)))), (6, .int (-6)), (5, .int (nI p)), (4, .int (nI (cntN (hwN X t2) p))), (0, .ref (L 33)), (1, .int (nI t2)), (2, .int (nI p14))]) dX5_fees_74 rfl (by decide) rfl ?_
        refine g_iload dX5_fees_75 3 rfl ?_
        refine g_iload dX5_fees_77 1 rfl ?_
        refine g_iflt 86 dX5_fees_79 (by decide) (fun h79 => ?_) (fun h79 => absurd h79 (by decide +kernel))
        refine g_iconst dX5_fees_86 ci_0 ?_
        refine g_iadd dX5_fees_87 ?_
        refine g_tope (z := nI (cntN (hwN X t2) (p + 1))) (by rw [nI_add]; simp only [cntN]; rw [hw1]; rfl) ?_
        refine g_istore (lv' := [(4, .int (nI (cntN (hwN X t2) (p + 1)))), (3, .int (nI (sumNN (feN X t2) (p + 1)))), (6, .int (-6)), (5, .int (nI p)), (0, .ref (L 33)), (1, .int (nI t2)), (2, .int (nI p14))]) dX5_fees_88 (by decide) rfl ?_
        refine g_iinc (v := nI (p + 1)) (lv' := [(5, .int (nI (p + 1))), (4, .int (nI (cntN (hwN X t2) (p + 1)))), (3, .int (nI (sumNN (feN X t2) (p + 1)))), (6, .int (-6)), (0, .ref (L 33)), (1, .int (nI t2)), (2, .int (nI p14))]) dX5_fees_90 3 rfl (inc_n _) (by decide) rfl ?_
        refine g_goto 31 dX5_fees_93 (by decide) ?_
        refine g_pick [0, 1, 2, 4, 5, 6] (lv' := [(5, .int (nI (p + 1))), (4, .int (nI (cntN (hwN X t2) (p + 1)))), (3, .int (nI (sumNN (feN X t2) (p + 1)))), (0, .ref (L 33)), (1, .int (nI t2)), (2, .int (nI p14))]) rfl ?_
        exact ih (p + 1) (by omega) _ hfr hX
    · refine t_ifeq0 57 dX5_fees_44 (by decide) ?_
      refine g_bipush dX5_fees_57 bp_m6 ?_
      refine g_istore (lv' := [(6, .int (-6)), (5, .int (nI p)), (4, .int (nI (cntN (hwN X t2) p))), (3, .int (nI (sumNN (feN X t2) p))), (0, .ref (L 33)), (1, .int (nI t2)), (2, .int (nI p14))]) dX5_fees_59 (by decide) rfl ?_
      have hw1 : hwN X t2 p = false := by simp [hwN, h41]
      have hfe := fe_le ho t2 p
      have hbw : buX X p * waN X p t2 ≤ 9504 := Nat.le_trans (Nat.mul_le_mul (bu_bd ho p) (wa_le X p t2)) (by decide)
      refine g_iload_n dX5_fees_61 rfl 3 rfl ?_
      refine g_iload dX5_fees_62 0 rfl ?_
      refine g_iflt 72 dX5_fees_64 (by decide) (fun h64 => ?_) (fun h64 => absurd h64 (by decide +kernel))
      refine g_iconst dX5_fees_72 ci_0 ?_
      refine g_iadd dX5_fees_73 ?_
      refine g_tope (z := nI (sumNN (feN X t2) (p + 1))) (by rw [nI_add]; simp only [sumNN]; rw [show feN X t2 p = 0 from by unfold feN; rw [hw1, if_neg (by decide)]]) ?_
      refine g_istore_n (lv' := [(3, .int (nI (sumNN (feN X t2) (p + 1)))), (6, .int (-6)), (5, .int (nI p)), (4, .int (nI (cntN (hwN X t2) p))), (0, .ref (L 33)), (1, .int (nI t2)), (2, .int (nI p14))]) dX5_fees_74 rfl (by decide) rfl ?_
      refine g_iload dX5_fees_75 3 rfl ?_
      refine g_iload dX5_fees_77 1 rfl ?_
      refine g_iflt 86 dX5_fees_79 (by decide) (fun h79 => ?_) (fun h79 => absurd h79 (by decide +kernel))
      refine g_iconst dX5_fees_86 ci_0 ?_
      refine g_iadd dX5_fees_87 ?_
      refine g_tope (z := nI (cntN (hwN X t2) (p + 1))) (by rw [nI_add]; simp only [cntN]; rw [hw1]; rfl) ?_
      refine g_istore (lv' := [(4, .int (nI (cntN (hwN X t2) (p + 1)))), (3, .int (nI (sumNN (feN X t2) (p + 1)))), (6, .int (-6)), (5, .int (nI p)), (0, .ref (L 33)), (1, .int (nI t2)), (2, .int (nI p14))]) dX5_fees_88 (by decide) rfl ?_
      refine g_iinc (v := nI (p + 1)) (lv' := [(5, .int (nI (p + 1))), (4, .int (nI (cntN (hwN X t2) (p + 1)))), (3, .int (nI (sumNN (feN X t2) (p + 1)))), (6, .int (-6)), (0, .ref (L 33)), (1, .int (nI t2)), (2, .int (nI p14))]) dX5_fees_90 3 rfl (inc_n _) (by decide) rfl ?_
      refine g_goto 31 dX5_fees_93 (by decide) ?_
      refine g_pick [0, 1, 2, 4, 5, 6] (lv' := [(5, .int (nI (p + 1))), (4, .int (nI (cntN (hwN X t2) (p + 1)))), (3, .int (nI (sumNN (feN X t2) (p + 1)))), (0, .ref (L 33)), (1, .int (nI t2)), (2, .int (nI p14))]) rfl ?_
      exact ih (p + 1) (by omega) _ hfr hX
set_option maxHeartbeats 4000000 in
set_option maxRecDepth 20000 in
theorem c_X5_fees {l : Launch} {D : gE} {L : Nat → Nat} {σ : St} {Q : Option Value → va_W → Prop} {d : Nat} {X : XT} (hX : rpM σ X) (ho : okX X) {x y : Int32} (h : ∀ σ', fr σ σ' → rpM σ' X → Q (some (.int (feesR X x y))) (wsOf D L σ')) : Ctr l D yX5_fees cX5_fees 7 (some .int) (rr (d + 7)) [.ref (L 33), .int x, .int y] (wsOf D L σ) Q := by
  refine g_start ky_X5_fees (Nat.le_of_ble_eq_true rfl) ?_
  refine g_pick [0, 1, 2] (lv' := [(0, .ref (L 33)), (1, .int x), (2, .int y)]) rfl ?_
  refine g_aload_n dX5_fees_0 rfl 0 rfl ?_
  refine g_iload_n dX5_fees_1 rfl 1 rfl ?_
  refine g_callV (As := [.int x]) km_X5_130 ky_X5_isTerrace ki_X5_isTerrace (by decide) 33 at_33 rfl rfl (Nat.le_of_ble_eq_true rfl) dX5_fees_2 rfl (c_X5_isTerrace hX ho (fun t2 ht2 he2 => ?_) (fun h2 => ?_))
  · subst he2
    refine t_ifne1 10 dX5_fees_5 (by decide) ?_
    refine g_iload_n dX5_fees_10 rfl 2 rfl ?_
    refine g_i2l dX5_fees_11 ?_
    refine g_lconst dX5_fees_12 lc_0 ?_
    refine g_lconst dX5_fees_13 lc_1 ?_
    refine g_callS (As := [.long y.toInt64, .long ((nI 0).toInt64), .long ((nI 1).toInt64)]) km_X5_118 ky_X5_in ks_X5_in (by decide) rfl (Nat.le_of_ble_eq_true rfl) dX5_fees_14 rfl (c_X5_inN (by omega) (by omega) (fun p14 ha14 hb14 he14 => ?_) (fun h14 => ?_))
    · refine t_ifne1 23 dX5_fees_17 (by decide) ?_
      refine g_iconst dX5_fees_23 ci_0 ?_
      refine g_istore_n (lv' := [(3, .int (nI 0)), (0, .ref (L 33)), (1, .int (nI t2)), (2, .int y)]) dX5_fees_24 rfl (by decide) rfl ?_
      refine g_iconst dX5_fees_25 ci_0 ?_
      refine g_istore (lv' := [(4, .int (nI 0)), (3, .int (nI 0)), (0, .ref (L 33)), (1, .int (nI t2)), (2, .int y)]) dX5_fees_26 (by decide) rfl ?_
      refine g_iconst dX5_fees_28 ci_0 ?_
      refine g_istore (lv' := [(5, .int (nI 0)), (4, .int (nI 0)), (3, .int (nI 0)), (0, .ref (L 33)), (1, .int (nI t2)), (2, .int y)]) dX5_fees_29 (by decide) rfl ?_
      subst he14
      refine g_pick [0, 1, 2, 3, 4, 5] (lv' := [(5, .int (nI 0)), (4, .int (nI 0)), (3, .int (nI 0)), (0, .ref (L 33)), (1, .int (nI t2)), (2, .int (nI p14))]) rfl ?_
      exact lp_X5_fees ho ht2 (by omega) h 6 0 rfl _ fr_rfl hX
    · refine t_ifne0 (tgt := 23) dX5_fees_17 (by decide) ?_
      refine g_bipush dX5_fees_20 bp_m2 ?_
      exact g_ireturn dX5_fees_22 (Nat.le_refl _) (Nat.le_refl _) (qi (by unfold feesR; rw [teI_t ho ht2, if_pos rfl, inN_f (a := 0) (b := 1) (by omega) h14, if_neg (by decide)]) (h _ fr_rfl hX))
  · refine t_ifne0 (tgt := 10) dX5_fees_5 (by decide) ?_
    refine g_iconst dX5_fees_8 ci_m1 ?_
    exact g_ireturn dX5_fees_9 (Nat.le_refl _) (Nat.le_refl _) (qi (by unfold feesR; rw [teI_f h2, if_neg (by decide)]) (h _ fr_rfl hX))
def cbX (X : XT) (v p : Nat) : Bool := x_th X p && decide (buX X p = v)
def whoR (X : XT) (x : Int32) : Int32 := if ix (x_sg X) x < x_sg X then nI (bitsN (cbX X (x_sv X (ix (x_sg X) x))) 6) else -2
set_option maxHeartbeats 4000000 in
set_option maxRecDepth 20000 in
theorem lp_X5_whoBent {l : Launch} {D : gE} {L : Nat → Nat} {σ : St} {Q : Option Value → va_W → Prop} {d : Nat} {X : XT} (hX : rpM σ X) (ho : okX X) {k : Nat} (hk : k < 6) (h : Q (some (.int (nI (bitsN (cbX X (x_sv X k)) 6)))) (wsOf D L σ)) : ∀ n p, p + n = 6 → G l D yX5_whoBent cX5_whoBent 4 (some .int) (rr (d + 5)) Q 0 0 4 [(3, .int (nI p)), (2, .int (nI (bitsN (cbX X (x_sv X k)) p))), (0, .ref (L 33)), (1, .int (nI k))] [] (wsOf D L σ) := by
  intro n
  induction n with
  | zero =>
    intro p hct
    obtain rfl : p = 6 := by omega
    refine g_iload_n dX5_whoBent_4 rfl 0 rfl ?_
    refine g_bipush dX5_whoBent_5 bp_6 ?_
    refine n_icmpge 48 dX5_whoBent_7 (by decide) (by omega) (by omega) (fun h7 => ?_) (fun h7 => absurd h7 (by omega))
    refine g_iload_n dX5_whoBent_48 rfl 1 rfl ?_
    exact g_ireturn dX5_whoBent_49 (Nat.le_refl _) (Nat.le_refl _) (h)
  | succ n ih =>
    intro p hct
    have hsb := ok_sb ho hk
    have hbu := bu_bd ho p
    refine g_iload_n dX5_whoBent_4 rfl 0 rfl ?_
    refine g_bipush dX5_whoBent_5 bp_6 ?_
    refine n_icmpge 48 dX5_whoBent_7 (by decide) (by omega) (by omega) (fun h7 => absurd h7 (by omega)) (fun h7 => ?_)
    refine g_iload_n dX5_whoBent_10 rfl 1 rfl ?_
    refine g_aload_n dX5_whoBent_11 rfl 2 rfl ?_
    refine g_iload_n dX5_whoBent_12 rfl 0 rfl ?_
    refine g_callV (As := [.int (nI p)]) km_X5_143 ky_X5_isThere ki_X5_isThere (by decide) 33 at_33 rfl rfl (Nat.le_of_ble_eq_true rfl) dX5_whoBent_13 rfl (c_X5_isThereN hX (by omega) (fun h13 => ?_) (fun h13 => ?_))
    · refine t_ifeq1 (tgt := 39) dX5_whoBent_16 (by decide) ?_
      refine g_aload_n dX5_whoBent_19 rfl 2 rfl ?_
      refine g_iload_n dX5_whoBent_20 rfl 0 rfl ?_
      refine g_callV (As := [.int (nI p)]) km_X5_206 ky_X5_carriedBy ki_X5_carriedBy (by decide) 33 at_33 rfl rfl (Nat.le_of_ble_eq_true rfl) dX5_whoBent_21 rfl (c_X5_carriedBy hX ho (by omega) (by assumption) ?_)
      refine g_aload_n dX5_whoBent_24 rfl 2 rfl ?_
      refine s_getM kf_X5_40 (by decide) rfl dX5_whoBent_25 ?_
      refine g_iload_n dX5_whoBent_28 rfl 3 rfl ?_
      refine s_ald (q := 44) (n := 6) (at_ia (q := 44) rfl) (by omega) (by decide) dX5_whoBent_29 ?_
      refine g_tope (z := nI (x_sv X k)) (rpM_sv hX (by omega)) ?_
      refine n_icmpne 39 dX5_whoBent_30 (by decide) (by omega) (by omega) (fun h30 => ?_) (fun h30 => ?_)
      · refine g_iconst dX5_whoBent_39 ci_0 ?_
        refine g_ior dX5_whoBent_40 ?_
        refine g_tope (z := nI (bitsN (cbX X (x_sv X k)) (p + 1))) (by rw [or0]; exact obF _ (by simp [cbX, h13, h30])) ?_
        refine g_istore_n (lv' := [(2, .int (nI (bitsN (cbX X (x_sv X k)) (p + 1)))), (3, .int (nI p)), (0, .ref (L 33)), (1, .int (nI k))]) dX5_whoBent_41 rfl (by decide) rfl ?_
        refine g_iinc (v := nI (p + 1)) (lv' := [(3, .int (nI (p + 1))), (2, .int (nI (bitsN (cbX X (x_sv X k)) (p + 1)))), (0, .ref (L 33)), (1, .int (nI k))]) dX5_whoBent_42 1 rfl (inc_n _) (by decide) rfl ?_
        refine g_goto 4 dX5_whoBent_45 (by decide) ?_
        refine g_pick [0, 1, 2, 3] (lv' := [(3, .int (nI (p + 1))), (2, .int (nI (bitsN (cbX X (x_sv X k)) (p + 1)))), (0, .ref (L 33)), (1, .int (nI k))]) rfl ?_
        exact ih (p + 1) (by omega)
      · refine g_iconst dX5_whoBent_33 ci_1 ?_
        refine g_iload_n dX5_whoBent_34 rfl 0 rfl ?_
        refine g_ishl dX5_whoBent_35 ?_
        refine g_goto 40 dX5_whoBent_36 (by decide) ?_
        refine g_ior dX5_whoBent_40 ?_
        refine g_tope (z := nI (bitsN (cbX X (x_sv X k)) (p + 1))) (obT _ (by omega) (by simp [cbX, h13, h30])) ?_
        refine g_istore_n (lv' := [(2, .int (nI (bitsN (cbX X (x_sv X k)) (p + 1)))), (3, .int (nI p)), (0, .ref (L 33)), (1, .int (nI k))]) dX5_whoBent_41 rfl (by decide) rfl ?_
        refine g_iinc (v := nI (p + 1)) (lv' := [(3, .int (nI (p + 1))), (2, .int (nI (bitsN (cbX X (x_sv X k)) (p + 1)))), (0, .ref (L 33)), (1, .int (nI k))]) dX5_whoBent_42 1 rfl (inc_n _) (by decide) rfl ?_
        refine g_goto 4 dX5_whoBent_45 (by decide) ?_
        refine g_pick [0, 1, 2, 3] (lv' := [(3, .int (nI (p + 1))), (2, .int (nI (bitsN (cbX X (x_sv X k)) (p + 1)))), (0, .ref (L 33)), (1, .int (nI k))]) rfl ?_
        exact ih (p + 1) (by omega)
    · refine t_ifeq0 39 dX5_whoBent_16 (by decide) ?_
      refine g_iconst dX5_whoBent_39 ci_0 ?_
      refine g_ior dX5_whoBent_40 ?_
      refine g_tope (z := nI (bitsN (cbX X (x_sv X k)) (p + 1))) (by rw [or0]; exact obF _ (by simp [cbX, h13])) ?_
      refine g_istore_n (lv' := [(2, .int (nI (bitsN (cbX X (x_sv X k)) (p + 1)))), (3, .int (nI p)), (0, .ref (L 33)), (1, .int (nI k))]) dX5_whoBent_41 rfl (by decide) rfl ?_
      refine g_iinc (v := nI (p + 1)) (lv' := [(3, .int (nI (p + 1))), (2, .int (nI (bitsN (cbX X (x_sv X k)) (p + 1)))), (0, .ref (L 33)), (1, .int (nI k))]) dX5_whoBent_42 1 rfl (inc_n _) (by decide) rfl ?_
      refine g_goto 4 dX5_whoBent_45 (by decide) ?_
      refine g_pick [0, 1, 2, 3] (lv' := [(3, .int (nI (p + 1))), (2, .int (nI (bitsN (cbX X (x_sv X k)) (p + 1)))), (0, .ref (L 33)), (1, .int (nI k))]) rfl ?_
      exact ih (p + 1) (by omega)
set_option maxHeartbeats 4000000 in
set_option maxRecDepth 20000 in
theorem c_X5_whoBent {l : Launch} {D : gE} {L : Nat → Nat} {σ : St} {Q : Option Value → va_W → Prop} {d : Nat} {X : XT} (hX : rpM σ X) (ho : okX X) {k : Nat} (hk : k < 6) (h : Q (some (.int (nI (bitsN (cbX X (x_sv X k)) 6)))) (wsOf D L σ)) : Ctr l D yX5_whoBent cX5_whoBent 4 (some .int) (rr (d + 5)) [.ref (L 33), .int (nI k)] (wsOf D L σ) Q := by
  refine g_start ky_X5_whoBent (Nat.le_of_ble_eq_true rfl) ?_
  refine g_pick [0, 1] (lv' := [(0, .ref (L 33)), (1, .int (nI k))]) rfl ?_
  refine g_iconst dX5_whoBent_0 ci_0 ?_
  refine g_tope (z := nI (bitsN (cbX X (x_sv X k)) 0)) rfl ?_
  refine g_istore_n (lv' := [(2, .int (nI (bitsN (cbX X (x_sv X k)) 0))), (0, .ref (L 33)), (1, .int (nI k))]) dX5_whoBent_1 rfl (by decide) rfl ?_
  refine g_iconst dX5_whoBent_2 ci_0 ?_
  refine g_istore_n (lv' := [(3, .int (nI 0)), (2, .int (nI (bitsN (cbX X (x_sv X k)) 0))), (0, .ref (L 33)), (1, .int (nI k))]) dX5_whoBent_3 rfl (by decide) rfl ?_
  refine g_pick [0, 1, 2, 3] (lv' := [(3, .int (nI 0)), (2, .int (nI (bitsN (cbX X (x_sv X k)) 0))), (0, .ref (L 33)), (1, .int (nI k))]) rfl ?_
  exact lp_X5_whoBent hX ho hk h 6 0 rfl
theorem c_X5_inS {l : Launch} {D : gE} {L : Nat → Nat} {σ : St} {Q : Option Value → va_W → Prop} {d : Nat} {x : Int32} {n : Nat} (hn : n < 2 ^ 31) (ht : ∀ p, p < n → x = nI p → Q (some (.int (nI 1))) (wsOf D L σ)) (hf : (∀ p, p < n → ¬ x = nI p) → Q (some (.int (nI 0))) (wsOf D L σ)) : Ctr l D yX5_in cX5_in 6 (some .boolean) (rr d) [.long x.toInt64, .long ((nI 0).toInt64), .long ((nI n - nI 1).toInt64)] (wsOf D L σ) Q := by
  by_cases h0 : 0 < n
  · rw [show nI n - nI 1 = nI (n - 1) from pk_sub (by omega)]
    exact c_X5_inN (by omega) (by omega) (fun p _ h2 e => ht p (by omega) e) (fun h => hf (fun p hp e => h p (by omega) (by omega) e))
  · have e0 : n = 0 := by omega
    subst e0
    refine c_X5_in (fun h1 h2 => ?_) (fun _ => hf (fun p hp => absurd hp (by omega)))
    exfalso
    rw [fa_wide_le, fa_le] at h1 h2
    have e1 : (nI 0 - nI 1).toInt = -1 := by decide +kernel
    have e2 : (nI 0).toInt = 0 := by decide +kernel
    omega
set_option maxHeartbeats 4000000 in
set_option maxRecDepth 20000 in
theorem c_X5_who {l : Launch} {D : gE} {L : Nat → Nat} {σ : St} {Q : Option Value → va_W → Prop} {d : Nat} {X : XT} (hX : rpM σ X) (ho : okX X) {x : Int32} (h : ∀ σ', fr σ σ' → rpM σ' X → Q (some (.int (whoR X x))) (wsOf D L σ')) : Ctr l D yX5_who cX5_who 2 (some .int) (rr (d + 6)) [.ref (L 33), .int x] (wsOf D L σ) Q := by
  refine g_start ky_X5_who (Nat.le_of_ble_eq_true rfl) ?_
  refine g_pick [0, 1] (lv' := [(0, .ref (L 33)), (1, .int x)]) rfl ?_
  have hsg := ok_sg ho
  refine g_iload_n dX5_who_0 rfl 1 rfl ?_
  refine g_i2l dX5_who_1 ?_
  refine g_lconst dX5_who_2 lc_0 ?_
  refine g_aload_n dX5_who_3 rfl 0 rfl ?_
  refine s_getM kf_X5_115 (by decide) rfl dX5_who_4 ?_
  refine g_tope (z := nI (x_sg X)) (rpM_sg hX) ?_
  refine g_iconst dX5_who_7 ci_1 ?_
  refine g_isub dX5_who_8 ?_
  refine g_tope (z := nI (x_sg X) - nI 1) (rfl) ?_
  refine g_i2l dX5_who_9 ?_
  refine g_callS (As := [.long x.toInt64, .long ((nI 0).toInt64), .long ((nI (x_sg X) - nI 1).toInt64)]) km_X5_118 ky_X5_in ks_X5_in (by decide) rfl (Nat.le_of_ble_eq_true rfl) dX5_who_10 rfl (c_X5_inS (by omega) (fun p10 hp10 he10 => ?_) (fun h10 => ?_))
  · subst he10
    refine t_ifeq1 (tgt := 24) dX5_who_13 (by decide) ?_
    refine g_aload_n dX5_who_16 rfl 0 rfl ?_
    refine g_iload_n dX5_who_17 rfl 1 rfl ?_
    refine g_callV (As := [.int (nI p10)]) km_X5_336 ky_X5_whoBent ki_X5_whoBent (by decide) 33 at_33 rfl rfl (Nat.le_of_ble_eq_true rfl) dX5_who_18 rfl (c_X5_whoBent hX ho (by omega) ?_)
    refine g_goto 26 dX5_who_21 (by decide) ?_
    exact g_ireturn dX5_who_26 (Nat.le_refl _) (Nat.le_refl _) (qi (by unfold whoR; rw [ix_nI hp10 (by omega), if_pos hp10]) (h _ fr_rfl hX))
  · refine t_ifeq0 24 dX5_who_13 (by decide) ?_
    refine g_bipush dX5_who_24 bp_m2 ?_
    exact g_ireturn dX5_who_26 (Nat.le_refl _) (Nat.le_refl _) (qi (by unfold whoR; rw [if_neg (ix_no h10)]) (h _ fr_rfl hX))
