theorem nbS (f : Nat → Bool) (a : Nat) : nI (bitsN f 8) &&& (nI a ^^^ (-1)) = nI (bitsN (fun i => f i && !a.testBit i) 8) := by
  rw [nb0]
  congr 1
  refine bitsN_of_tb (Nat.xor_lt_two_pow (bitsN_lt f 8) (Nat.lt_of_le_of_lt Nat.and_le_left (bitsN_lt f 8))) (fun i hi => ?_)
  rw [Nat.testBit_xor, Nat.testBit_and, bitsN_in f hi]
  cases f i <;> cases a.testBit i <;> rfl
/-- the set a is of those of which f holds -/
def subB (f : Nat → Bool) (a : Nat) : Bool := !anyN (fun i => a.testBit i && !f i) 8
theorem subB_iff {f : Nat → Bool} {a : Nat} : subB f a = true ↔ ∀ i, i < 8 → a.testBit i = true → f i = true := by
  unfold subB
  rw [Bool.not_eq_true', ← Bool.not_eq_true, anyN_iff]
  constructor
  · intro h i hi ht
    cases hf : f i with
    | true => rfl
    | false => exact absurd ⟨i, hi, by rw [ht, hf]; rfl⟩ h
  · rintro h ⟨i, hi, h2⟩
    simp at h2
    rw [h i hi h2.1] at h2
    exact absurd h2.2 (by decide)
theorem sub_z {f : Nat → Bool} {a : Nat} (ha : a < 256) : nI a &&& (nI (bitsN f 8) ^^^ (-1)) = 0 ↔ subB f a = true := by rw [sbB f (by decide) ha, subB_iff]
section SBR
variable {l : Launch} {D : gE} {y : MethodName} {cc : ByteArray} {nL : Nat} {rt : Option FieldType} {rm : Room} {Q : Option Value → va_W → Prop} {cells slots pc : Nat} {lv : List (Nat × Value)} {st : List Value} {ws : va_W} {off : Int}
theorem sb_ifne {f : Nat → Bool} {a : Nat} (tgt : Nat) (hd : decode cc pc = .ok (.ifCond .ne off, 3)) (ht : (pc : Int) + off = (tgt : Int)) (ha : a < 256) (kt : subB f a = false → G l D y cc nL rt rm Q cells slots tgt lv st ws) (kf : subB f a = true → G l D y cc nL rt rm Q cells slots (pc + 3) lv st ws) : G l D y cc nL rt rm Q cells slots pc lv (.int (nI a &&& (nI (bitsN f 8) ^^^ (-1))) :: st) ws := g_ifne tgt hd ht (fun h => kt (by cases e : subB f a; rfl; exact absurd ((sub_z ha).mpr e) h)) (fun h => kf ((sub_z ha).mp h))
theorem sb_ifeq {f : Nat → Bool} {a : Nat} (tgt : Nat) (hd : decode cc pc = .ok (.ifCond .eq off, 3)) (ht : (pc : Int) + off = (tgt : Int)) (ha : a < 256) (kt : subB f a = true → G l D y cc nL rt rm Q cells slots tgt lv st ws) (kf : subB f a = false → G l D y cc nL rt rm Q cells slots (pc + 3) lv st ws) : G l D y cc nL rt rm Q cells slots pc lv (.int (nI a &&& (nI (bitsN f 8) ^^^ (-1))) :: st) ws := g_ifeq tgt hd ht (fun h => kt ((sub_z ha).mp h)) (fun h => kf (by cases e : subB f a; rfl; exact absurd ((sub_z ha).mpr e) h))
end SBR
/-- the fewest, then the least -/
def osN (best : Option Nat) (a : Nat) (good : Bool) : Option Nat := match best with
  | none => if good then some a else none
  | some c => if good && decide (pop a < pop c) then some a else some c
def fwN (G : Nat → Bool) : Nat → Option Nat
  | 0 => none
  | a + 1 => osN (fwN G a) a (G a)
theorem fw_lt {G : Nat → Bool} : ∀ n c, fwN G n = some c → c < n
  | 0, c, h => by cases h
  | n + 1, c, h => by
    simp only [fwN, osN] at h
    split at h
    · split at h
      · cases h; omega
      · cases h
    · rename_i d hd
      have := fw_lt n d hd
      split at h <;> cases h <;> omega
theorem fw_good {G : Nat → Bool} : ∀ n c, fwN G n = some c → G c = true
  | 0, c, h => by cases h
  | n + 1, c, h => by
    simp only [fwN, osN] at h
    split at h
    · split at h
      · rename_i hg; cases h; exact hg
      · cases h
    · rename_i d hd
      have := fw_good n d hd
      split at h
      · rename_i hg; cases h; simp at hg; exact hg.1
      · cases h; exact this
theorem fw_none {G : Nat → Bool} : ∀ n, fwN G n = none → ∀ a, a < n → G a = false
  | 0, _, a, ha => absurd ha (by omega)
  | n + 1, h, a, ha => by
    simp only [fwN, osN] at h
    split at h
    · rename_i hd
      split at h
      · cases h
      · rename_i hg
        by_cases e : a = n
        · subst e; simpa using hg
        · exact fw_none n hd a (by omega)
    · split at h <;> cases h
theorem fw_min {G : Nat → Bool} : ∀ n c, fwN G n = some c → ∀ a, a < n → G a = true → pop c < pop a ∨ (pop c = pop a ∧ c ≤ a)
  | 0, c, h, a, ha, _ => absurd ha (by omega)
  | n + 1, c, h, a, ha, hg => by
    simp only [fwN, osN] at h
    split at h
    · rename_i hd
      split at h
      · cases h
        by_cases e : a = n
        · subst e; omega
        · have := fw_none n hd a (by omega)
          rw [hg] at this; cases this
      · cases h
    · rename_i d hd
      have ih := fw_min n d hd
      have hl := fw_lt n d hd
      split at h
      · rename_i hg2
        cases h
        simp at hg2
        by_cases e : a = n
        · subst e; omega
        · have := ih a (by omega) hg; omega
      · rename_i hg2
        cases h
        by_cases e : a = n
        · subst e
          simp [hg] at hg2
          omega
        · exact ih a (by omega) hg
theorem fw_is {G : Nat → Bool} {n c : Nat} (hc : c < n) (hg : G c = true) (hm : ∀ a, a < n → G a = true → pop c < pop a ∨ (pop c = pop a ∧ c ≤ a)) : fwN G n = some c := by
  cases h : fwN G n with
  | none => have := fw_none n h c hc; rw [hg] at this; cases this
  | some d =>
    have h1 := fw_min n d h c hc hg
    have h2 := hm d (fw_lt n d h) (fw_good n d h)
    have : d = c := by omega
    rw [this]
theorem fw_cong {G H : Nat → Bool} {n : Nat} (h : ∀ a, a < n → G a = H a) : fwN G n = fwN H n := by
  induction n with
  | zero => rfl
  | succ n ih => simp only [fwN]; rw [ih (fun a ha => h a (by omega)), h n (by omega)]
/-- what counts of a set are those of which f holds: then the best is of these -/
theorem fw_inner {G : Nat → Bool} {f : Nat → Bool} (h : ∀ a b, a < 256 → b < 256 → (∀ i, i < 8 → f i = true → a.testBit i = b.testBit i) → G a = G b) : fwN G 256 = fwN (fun a => subB f a && G a) 256 := by
  have key : ∀ a, a < 256 → ∃ b, b < 256 ∧ subB f b = true ∧ G b = G a ∧ (pop b < pop a ∨ b = a) := by
    intro a ha
    have hb : bitsN (fun i => f i && a.testBit i) 8 < 256 := bitsN_lt _ 8
    refine ⟨bitsN (fun i => f i && a.testBit i) 8, hb, ?_, ?_, ?_⟩
    · rw [subB_iff]; intro i hi h2; rw [bitsN_in _ hi] at h2; simp at h2; exact h2.1
    · refine h _ _ hb ha (fun i hi hf => ?_)
      rw [bitsN_in _ hi, hf, Bool.true_and]
    · by_cases hs : subB f a = true
      · refine Or.inr ?_
        rw [subB_iff] at hs
        refine (bitsN_of_tb (n := 8) ha (fun i hi => ?_)).symm
        cases ht : a.testBit i
        · simp
        · simp [hs i hi ht]
      · refine Or.inl ?_
        unfold pop
        refine cntN_lt2 8 (fun i hi h2 => ?_) ?_
        · rw [bitsN_in _ hi] at h2; simp at h2; exact h2.2
        · refine Classical.byContradiction fun hn => hs (subB_iff.mpr fun i hi ht => ?_)
          cases hf : f i with
          | true => rfl
          | false => exact absurd ⟨i, hi, by rw [bitsN_in _ hi, hf]; rfl, ht⟩ hn
  cases h1 : fwN G 256 with
  | none =>
    cases h2 : fwN (fun a => subB f a && G a) 256 with
    | none => rfl
    | some c =>
      have h3 := fw_good 256 c h2
      have h4 := fw_none 256 h1 c (fw_lt 256 c h2)
      simp [h4] at h3
  | some c =>
    have hc := fw_lt 256 c h1
    have hg := fw_good 256 c h1
    have hm := fw_min 256 c h1
    obtain ⟨b, hb, hs, he, hp⟩ := key c hc
    have h3 := hm b hb (by rw [he]; exact hg)
    have e : b = c := by omega
    subst e
    exact (fw_is hc (by simp [hs, hg]) (fun a ha hga => hm a ha (by simp at hga; exact hga.2))).symm
def fsR (best : Option Nat) (z : Int32) : Int32 := match best with
  | none => -6
  | some a => if z = nI 1 then nI a else nI (pop a)
/-- there is a WAY for p, if it KNOWS those of a and those alone that it does not KNOW now *or* has not forgotten -/
def gdX (X : XT) (p g a : Nat) : Bool := wyX X (smX X p (fun k => x_kn X p k ^^ a.testBit k) 8).toNat (x_pl X p) g
def lieX (X : XT) (p k : Nat) : Bool := decide (x_wt X k < 0) && !x_kn X p k && !x_pu X k
def tripR (X : XT) (x y z : Int32) (f : Nat → Nat → Option Nat) : Int32 := if thI X x && teI X y then (if inN 0 1 z then fsR (f (ix 6 x) (ix (x_sz X) y)) z else -2) else -1
def leftF (X : XT) (p g : Nat) : Option Nat := fwN (fun a => subB (x_kn X p) a && gdX X p g a) 256
def floatF (X : XT) (p g : Nat) : Option Nat := fwN (fun a => subB (lieX X p) a && gdX X p g a) 256
theorem sm_cong {X : XT} {p n : Nat} {f g : Nat → Bool} (h : ∀ k, k < n → f k = g k) : smX X p f n = smX X p g n := by
  unfold smX
  exact sumN_cong (fun i hi => by rw [h i hi])
theorem gd_left {X : XT} {p g a : Nat} (h : subB (x_kn X p) a = true) : gdX X p g a = wyX X (smX X p (fun k => x_kn X p k && !a.testBit k) 8).toNat (x_pl X p) g := by
  unfold gdX
  rw [subB_iff] at h
  rw [sm_cong (g := fun k => x_kn X p k && !a.testBit k) (fun k hk => ?_)]
  have := h k hk
  revert this
  cases x_kn X p k <;> cases a.testBit k <;> simp
theorem fw_step {G : Nat → Bool} {a : Nat} {best : Option Nat} (h : fwN G a = best) {g : Bool} (hg : G a = g) : fwN G (a + 1) = osN best a g := by simp only [fwN]; rw [h, hg]
theorem os_no (best : Option Nat) (a : Nat) : osN best a false = best := by cases best <;> simp [osN]
/-- a town in which more is PUBLISHED -/
theorem bl_xc {X X' : XT} (h1 : x_lo X' = x_lo X) (h2 : x_hi X' = x_hi X) (m : Nat → Bool) (s : Nat) : ∀ k t, bl X' m s k t = bl X m s k t
  | 0, _ => rfl
  | k + 1, t => by
    simp only [bl]
    rw [h1, h2, bl_xc h1 h2 m s k t]
    congr 2
    funext b
    rw [bl_xc h1 h2 m s k, bl_xc h1 h2 m s k]
theorem dN_xc {X X' : XT} (h1 : x_lo X' = x_lo X) (h2 : x_hi X' = x_hi X) (m : Nat → Bool) (s t : Nat) : dN X' m s t = dN X m s t := by
  unfold dN
  congr 1
  funext k
  exact bl_xc h1 h2 m s k t
theorem wy_xc {X X' : XT} (h1 : x_lo X' = x_lo X) (h2 : x_hi X' = x_hi X) (h3 : x_br X' = x_br X) (h4 : x_ld X' = x_ld X) (w a g : Nat) : wyX X' w a g = wyX X w a g := by
  unfold wyX
  have e : beX X' w = beX X w := by funext b; unfold beX; rw [h3, h4]
  rw [e, dN_xc h1 h2]
def puX (X : XT) (a : Nat) : XT := xs_pu X (fun k => x_pu X k || a.testBit k)
theorem pu_bu {X : XT} {p a : Nat} : buX (puX X a) p = (smX X p (fun k => x_kn X p k && !a.testBit k) 8).toNat := by
  unfold buX
  congr 1
  unfold smX
  refine sumN_cong (fun k hk => ?_)
  show (if x_kn X p k = true then hwX (puX X a) p k else 0) = _
  have e : hwX (puX X a) p k = if a.testBit k = true then 0 else hwX X p k := by
    unfold hwX
    show hvX (puX X a) p k (kcX X k + b2n (!x_kn X p k)) = _
    unfold hvX
    show (if (x_pu X k || a.testBit k) = true then 0 else (x_wt X k * if x_ab X k = x_ki X p then 2 else 1).tdiv _) = _
    cases x_pu X k <;> cases a.testBit k <;> simp
  rw [e]
  show _ = (if (x_kn X p k && !a.testBit k) = true then hwX X p k else 0)
  cases x_kn X p k <;> cases a.testBit k <;> simp
def criedG (X : XT) (p g a : Nat) : Bool := wyX (puX X a) (buX (puX X a) p) (x_pl X p) g
theorem cried_is (X : XT) (p g : Nat) : fwN (criedG X p g) 256 = leftF X p g := by
  have e : ∀ a, criedG X p g a = wyX X (smX X p (fun k => x_kn X p k && !a.testBit k) 8).toNat (x_pl X p) g := by
    intro a
    unfold criedG
    rw [wy_xc (X := X) (X' := puX X a) rfl rfl rfl rfl, pu_bu]
  rw [fw_inner (f := x_kn X p) (fun a b _ _ h => ?_)]
  · unfold leftF
    refine fw_cong (fun a _ => ?_)
    cases hs : subB (x_kn X p) a
    · rfl
    · rw [gd_left hs, e]
  · rw [e, e, sm_cong (g := fun k => x_kn X p k && !b.testBit k) (fun k hk => ?_)]
    cases hk2 : x_kn X p k
    · rfl
    · rw [h k hk hk2]
theorem sumN_xor {f : Nat → Int} {s t : Nat → Bool} : ∀ {n}, (∀ k, k < n → ¬ (s k = true ∧ t k = true)) → sumN (fun k => if (s k ^^ t k) = true then f k else 0) n = sumN (fun k => if s k = true then f k else 0) n + sumN (fun k => if t k = true then f k else 0) n
  | 0, _ => rfl
  | n + 1, h => by
    simp only [sumN]
    rw [sumN_xor (fun k hk => h k (by omega))]
    have := h n (by omega)
    revert this
    cases s n <;> cases t n <;> simp <;> omega
theorem gd_float {X : XT} {p g a : Nat} (h : subB (lieX X p) a = true) : gdX X p g a = wyX X (smX X p (x_kn X p) 8 + smX X p a.testBit 8).toNat (x_pl X p) g := by
  unfold gdX smX
  rw [subB_iff] at h
  rw [sumN_xor (fun k hk => ?_)]
  rintro ⟨h1, h2⟩
  have := h k hk h2
  unfold lieX at this
  simp [h1] at this
theorem fl_t {X : XT} {p k : Nat} {f : Nat → Bool} (h : f k = true) (h2 : x_kn X p k = false) : smX X p f k + hvX X p k (kcX X k + 1) = smX X p f (k + 1) := by
  simp only [smX, sumN, h, if_true, hwX, h2, Bool.not_false, b2n_t]
theorem rpM_spu {σ : St} {X : XT} (h : rpM σ X) (f : Nat → Bool) : rpM (setI σ 33 3 (nI (bitsN f 8))) (xs_pu X f) := by
  have e : ∀ j, j ≠ 3 → sI (setI σ 33 3 (nI (bitsN f 8))) 33 j = sI σ 33 j := by
    intro j hj
    show (if 33 = 33 then upd (sI σ 33) 3 _ else sI σ 33) j = _
    rw [if_pos rfl]
    exact if_neg hj
  unfold rpM rp at h ⊢
  refine ⟨(e 0 (by omega)).trans h.1, (e 1 (by omega)).trans h.2.1, (e 2 (by omega)).trans h.2.2.1, rfl, (e 13 (by omega)).trans h.2.2.2.2.1, (e 16 (by omega)).trans h.2.2.2.2.2.1, h.2.2.2.2.2.2⟩
theorem ok_pu {X : XT} (h : okX X) (f : Nat → Bool) : okX (xs_pu X f) := h
theorem pu_pu (X : XT) (a b : Nat) : xs_pu (puX X a) (fun k => x_pu X k || b.testBit k) = puX X b := rfl
theorem or_bits (f : Nat → Bool) {a : Nat} (ha : a < 256) : nI (bitsN f 8) ||| nI a = nI (bitsN (fun k => f k || a.testBit k) 8) := by
  rw [fa_or]
  congr 1
  refine bitsN_of_tb (Nat.or_lt_two_pow (bitsN_lt f 8) ha) (fun i hi => ?_)
  rw [Nat.testBit_or, bitsN_in f hi]
