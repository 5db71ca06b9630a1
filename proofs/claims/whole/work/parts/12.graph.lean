/-! BRIDGES: who is how far from whom -/
def anyN (f : Nat → Bool) : Nat → Bool
  | 0 => false
  | n + 1 => anyN f n || f n
theorem anyN_iff (f : Nat → Bool) : ∀ n, anyN f n = true ↔ ∃ i, i < n ∧ f i = true
  | 0 => by simp [anyN]
  | n + 1 => by
    simp only [anyN, Bool.or_eq_true]
    rw [anyN_iff f n]
    constructor
    · rintro (⟨i, h1, h2⟩ | h)
      · exact ⟨i, by omega, h2⟩
      · exact ⟨n, by omega, h⟩
    · rintro ⟨i, h1, h2⟩
      by_cases e : i = n
      · subst e; exact Or.inr h2
      · exact Or.inl ⟨i, by omega, h2⟩
def firstN (f : Nat → Bool) : Nat → Nat
  | 0 => 0
  | n + 1 => if firstN f n < n then firstN f n else if f n = true then n else n + 1
theorem firstN_le (f : Nat → Bool) : ∀ n, firstN f n ≤ n
  | 0 => Nat.le_refl 0
  | n + 1 => by
    have := firstN_le f n
    simp only [firstN]
    split
    · omega
    · split <;> omega
theorem firstN_no (f : Nat → Bool) : ∀ n j, j < firstN f n → f j = false
  | 0, j, h => absurd h (Nat.not_lt_zero j)
  | n + 1, j, h => by
    have ih := firstN_no f n
    have hl := firstN_le f n
    simp only [firstN] at h
    split at h
    · exact ih j h
    · split at h
      · exact ih j (by omega)
      · rename_i h1 h2
        by_cases e : j = n
        · subst e; exact Bool.not_eq_true _ ▸ (by simpa using h2)
        · exact ih j (by omega)
theorem firstN_yes (f : Nat → Bool) : ∀ n, firstN f n < n → f (firstN f n) = true
  | 0, h => absurd h (Nat.not_lt_zero _)
  | n + 1, h => by
    have ih := firstN_yes f n
    simp only [firstN] at h ⊢
    split
    · rename_i h1; exact ih h1
    · split
      · rename_i h2; exact h2
      · rename_i h1 h2; rw [if_neg h1, if_neg h2] at h; omega
theorem firstN_is {f : Nat → Bool} {n k : Nat} (hk : k < n) (h : f k = true) (h2 : ∀ j, j < k → f j = false) : firstN f n = k := by
  rcases Nat.lt_trichotomy (firstN f n) k with e | e | e
  · have h3 := firstN_yes f n (by omega)
    rw [h2 _ e] at h3; cases h3
  · exact e
  · have h3 := firstN_no f n k e
    rw [h] at h3; cases h3
theorem firstN_none {f : Nat → Bool} {n : Nat} (h : ∀ j, j < n → f j = false) : firstN f n = n := by
  have h1 := firstN_le f n
  by_cases e : firstN f n < n
  · have h3 := firstN_yes f n e
    rw [h _ e] at h3; cases h3
  · omega
theorem firstN_cong {f g : Nat → Bool} {n : Nat} (h : ∀ j, j < n → f j = g j) : firstN f n = firstN g n := by
  induction n with
  | zero => rfl
  | succ n ih =>
    simp only [firstN]
    rw [ih (fun j hj => h j (by omega)), h n (by omega)]
/-- a BRIDGE of the open ones leads from u to t -/
def stp (X : XT) (m : Nat → Bool) (u t : Nat) : Prop := ∃ b, b < 8 ∧ m b = true ∧ ((x_lo X b = u ∧ x_hi X b = t) ∨ (x_hi X b = u ∧ x_lo X b = t))
theorem stp_sym {X : XT} {m : Nat → Bool} {u t : Nat} (h : stp X m u t) : stp X m t u := by
  obtain ⟨b, h1, h2, h3⟩ := h
  exact ⟨b, h1, h2, h3.elim (fun h => Or.inr ⟨h.2, h.1⟩) (fun h => Or.inl ⟨h.2, h.1⟩)⟩
/-- t is k open BRIDGES from s at most -/
def bl (X : XT) (m : Nat → Bool) (s : Nat) : Nat → Nat → Bool
  | 0, t => t == s
  | k + 1, t => bl X m s k t || anyN (fun b => m b && ((x_lo X b == t && bl X m s k (x_hi X b)) || (x_hi X b == t && bl X m s k (x_lo X b)))) 8
section BL
variable {X : XT} {m : Nat → Bool} {s t u k : Nat}
theorem bl_succ : bl X m s (k + 1) t = true ↔ bl X m s k t = true ∨ ∃ u, bl X m s k u = true ∧ stp X m u t := by
  simp only [bl, Bool.or_eq_true, anyN_iff, Bool.and_eq_true, beq_iff_eq]
  constructor
  · rintro (h | ⟨b, hb, hm, h | h⟩)
    · exact Or.inl h
    · exact Or.inr ⟨x_hi X b, h.2, b, hb, hm, Or.inr ⟨rfl, h.1⟩⟩
    · exact Or.inr ⟨x_lo X b, h.2, b, hb, hm, Or.inl ⟨rfl, h.1⟩⟩
  · rintro (h | ⟨u, hu, b, hb, hm, h | h⟩)
    · exact Or.inl h
    · exact Or.inr ⟨b, hb, hm, Or.inr ⟨h.2, by rw [h.1]; exact hu⟩⟩
    · exact Or.inr ⟨b, hb, hm, Or.inl ⟨h.2, by rw [h.1]; exact hu⟩⟩
theorem bl_0 : bl X m s 0 t = true ↔ t = s := by simp [bl]
theorem bl_mono {j : Nat} (h : k ≤ j) (hb : bl X m s k t = true) : bl X m s j t = true := by
  induction j with
  | zero => rw [show k = 0 by omega] at hb; exact hb
  | succ j ih =>
    by_cases e : k = j + 1
    · subst e; exact hb
    · exact bl_succ.mpr (Or.inl (ih (by omega)))
theorem bl_pre (h : stp X m s u) : ∀ k t, bl X m u k t = true → bl X m s (k + 1) t = true
  | 0, t, ht => by
    rw [bl_0] at ht; subst ht
    exact bl_succ.mpr (Or.inr ⟨s, bl_0.mpr rfl, h⟩)
  | k + 1, t, ht => by
    rcases bl_succ.mp ht with h1 | ⟨v, h1, h2⟩
    · exact bl_mono (by omega) (bl_pre h k t h1)
    · exact bl_succ.mpr (Or.inr ⟨v, bl_pre h k v h1, h2⟩)
theorem bl_sym1 : ∀ k t, bl X m s k t = true → bl X m t k s = true
  | 0, t, h => by rw [bl_0] at h ⊢; exact h.symm
  | k + 1, t, h => by
    rcases bl_succ.mp h with h1 | ⟨v, h1, h2⟩
    · exact bl_mono (by omega) (bl_sym1 k t h1)
    · exact bl_pre (stp_sym h2) k s (bl_sym1 k v h1)
theorem bl_sym (k : Nat) (s t : Nat) : bl X m s k t = bl X m t k s := by
  cases h : bl X m t k s with
  | true => exact bl_sym1 k s h
  | false =>
    cases h2 : bl X m s k t with
    | false => rfl
    | true => rw [bl_sym1 k t h2] at h; cases h
theorem stp_lt (ho : okX X) (h : stp X m u t) : u < 6 ∧ t < 6 := by
  obtain ⟨b, hb, -, h | h⟩ := h
  · have := ok_b ho hb; omega
  · have := ok_b ho hb; omega
theorem bl_lt (ho : okX X) (hs : s < 6) : ∀ k t, bl X m s k t = true → t < 6
  | 0, t, h => by rw [bl_0] at h; omega
  | k + 1, t, h => by
    rcases bl_succ.mp h with h1 | ⟨v, h1, h2⟩
    · exact bl_lt ho hs k t h1
    · exact (stp_lt ho h2).2
theorem cntN_le2 {f g : Nat → Bool} : ∀ n, (∀ t, t < n → f t = true → g t = true) → cntN f n ≤ cntN g n
  | 0, _ => Nat.le_refl _
  | n + 1, h => by
    have h1 := cntN_le2 n (fun t ht => h t (by omega))
    have h2 := h n (by omega)
    simp only [cntN]
    cases hf : f n
    · rw [b2n_f]; omega
    · rw [h2 hf]; omega
theorem cntN_lt2 {f g : Nat → Bool} : ∀ n, (∀ t, t < n → f t = true → g t = true) → (∃ t, t < n ∧ f t = false ∧ g t = true) → cntN f n < cntN g n
  | 0, _, h => by obtain ⟨t, h, -⟩ := h; omega
  | n + 1, h, ⟨t, h3, h4, h5⟩ => by
    have h1 := cntN_le2 n (fun t ht => h t (by omega))
    simp only [cntN]
    by_cases e : t = n
    · subst e; rw [h4, h5, b2n_f, b2n_t]; omega
    · have h6 := cntN_lt2 n (fun t ht => h t (by omega)) ⟨t, by omega, h4, h5⟩
      have h2 := h n (by omega)
      cases hf : f n
      · rw [b2n_f]; omega
      · rw [h2 hf]; omega
/-- from here on nothing more is reached -/
def stb (X : XT) (m : Nat → Bool) (s k : Nat) : Prop := ∀ t, t < 6 → bl X m s (k + 1) t = bl X m s k t
theorem stb_on (ho : okX X) (hs : s < 6) (h : stb X m s k) : ∀ j t, t < 6 → bl X m s (k + j) t = bl X m s k t
  | 0, t, _ => rfl
  | j + 1, t, ht => by
    cases h1 : bl X m s k t with
    | true => exact bl_mono (by omega) h1
    | false =>
      cases h2 : bl X m s (k + (j + 1)) t with
      | false => rfl
      | true =>
        rcases (bl_succ (k := k + j)).mp h2 with h3 | ⟨u, h3, h4⟩
        · rw [stb_on ho hs h j t ht, h1] at h3; cases h3
        · have hu := (stp_lt ho h4).1
          rw [stb_on ho hs h j u hu] at h3
          have h5 : bl X m s (k + 1) t = true := bl_succ.mpr (Or.inr ⟨u, h3, h4⟩)
          rw [h t ht, h1] at h5; cases h5
theorem stb_ex (ho : okX X) (hs : s < 6) : ∀ k, (∃ j, j < k ∧ stb X m s j) ∨ k + 1 ≤ cntN (bl X m s k) 6
  | 0 => Or.inr (cntN_pos hs (bl_0.mpr rfl))
  | k + 1 => by
    rcases stb_ex ho hs k with ⟨j, h1, h2⟩ | h
    · exact Or.inl ⟨j, by omega, h2⟩
    · by_cases e : stb X m s k
      · exact Or.inl ⟨k, by omega, e⟩
      · refine Or.inr ?_
        have h3 : ∃ t, t < 6 ∧ bl X m s k t = false ∧ bl X m s (k + 1) t = true := by
          refine Classical.byContradiction fun hn => e (fun t ht => ?_)
          cases h4 : bl X m s k t with
          | true => exact bl_mono (by omega) h4
          | false =>
            cases h5 : bl X m s (k + 1) t with
            | false => rfl
            | true => exact absurd ⟨t, ht, h4, h5⟩ hn
        have := cntN_lt2 6 (f := bl X m s k) (g := bl X m s (k + 1)) (fun t _ h => bl_mono (by omega) h) h3
        omega
theorem bl_sat (ho : okX X) (hs : s < 6) (h : bl X m s k t = true) : bl X m s 5 t = true := by
  have ht := bl_lt ho hs k t h
  by_cases e : k ≤ 5
  · exact bl_mono e h
  · rcases stb_ex (m := m) ho hs 6 with ⟨j, h1, h2⟩ | h1
    · have h3 := stb_on ho hs h2 (k - j) t ht
      rw [show j + (k - j) = k by omega, h] at h3
      exact bl_mono (by omega) h3.symm
    · have := cntN_le (bl X m s 6) 6; omega
/-- how far; 6: there is no way -/
def dN (X : XT) (m : Nat → Bool) (s t : Nat) : Nat := firstN (fun k => bl X m s k t) 6
theorem dN_le : dN X m s t ≤ 6 := firstN_le _ 6
theorem dN_sym (X : XT) (m : Nat → Bool) (s t : Nat) : dN X m s t = dN X m t s := by
  unfold dN
  congr 1
  funext k
  exact bl_sym k s t
theorem dN_bl (h : dN X m s t < 6) : bl X m s (dN X m s t) t = true := firstN_yes _ 6 h
theorem dN_min (hk : k < 6) (h : bl X m s k t = true) : dN X m s t ≤ k := by
  refine Nat.le_of_not_lt fun h2 => ?_
  have := firstN_no _ 6 k h2
  rw [h] at this; cases this
theorem dN_none (ho : okX X) (hs : s < 6) (h : bl X m s 5 t = false) : dN X m s t = 6 := firstN_none (fun j hj => by
  cases e : bl X m s j t with
  | false => rfl
  | true => rw [bl_sat ho hs e] at h; cases h)
theorem dN_lt (ho : okX X) (hs : s < 6) (h : bl X m s k t = true) : dN X m s t < 6 := Nat.lt_of_le_of_lt (dN_min (by omega) (bl_sat ho hs h)) (by omega)
theorem dN_cong {m' : Nat → Bool} (h : ∀ b, b < 8 → m b = m' b) : dN X m s t = dN X m' s t := by
  have : ∀ k t, bl X m s k t = bl X m' s k t := by
    intro k
    induction k with
    | zero => intro t; rfl
    | succ k ih =>
      intro t
      have e : ∀ n, n ≤ 8 → anyN (fun b => m b && ((x_lo X b == t && bl X m s k (x_hi X b)) || (x_hi X b == t && bl X m s k (x_lo X b)))) n = anyN (fun b => m' b && ((x_lo X b == t && bl X m' s k (x_hi X b)) || (x_hi X b == t && bl X m' s k (x_lo X b)))) n := by
        intro n
        induction n with
        | zero => intro _; rfl
        | succ n ihn =>
          intro hn
          simp only [anyN]
          rw [ihn (by omega), h n (by omega), ih, ih]
      simp only [bl]
      rw [ih t, e 8 (Nat.le_refl 8)]
  unfold dN
  congr 1
  funext k
  exact this k t
/-! the reference's way of finding it: relaxing BRIDGES -/
def updN (F : Nat → Nat) (k v : Nat) : Nat → Nat := fun j => if j = k then v else F j
def mn1 (F : Nat → Nat) (y x : Nat) : Nat := if F y + 1 < F x then F y + 1 else F x
def rlx (X : XT) (m : Nat → Bool) (b : Nat) (F : Nat → Nat) : Nat → Nat :=
  if m b = true then updN (updN F (x_lo X b) (mn1 F (x_hi X b) (x_lo X b))) (x_hi X b) (mn1 (updN F (x_lo X b) (mn1 F (x_hi X b) (x_lo X b))) (x_lo X b) (x_hi X b)) else F
def rnd (X : XT) (m : Nat → Bool) (F : Nat → Nat) : Nat → Nat → Nat
  | 0 => F
  | b + 1 => rlx X m b (rnd X m F b)
def bfd (X : XT) (m : Nat → Bool) (g : Nat) : Nat → Nat → Nat
  | 0 => fun t => if t = g then 0 else 1000
  | r + 1 => rnd X m (bfd X m g r) 8
theorem upd1_le {F : Nat → Nat} {x v : Nat} (h : v ≤ F x) (t : Nat) : updN F x v t ≤ F t := by
  unfold updN; split
  · rename_i e; rw [e]; exact h
  · exact Nat.le_refl _
theorem mn1_le (F : Nat → Nat) (y x : Nat) : mn1 F y x ≤ F x ∧ mn1 F y x ≤ F y + 1 := by unfold mn1; split <;> omega
theorem rlx_le (X : XT) (m : Nat → Bool) (b : Nat) (F : Nat → Nat) (t : Nat) : rlx X m b F t ≤ F t := by
  unfold rlx; split
  · exact Nat.le_trans (upd1_le (mn1_le _ _ _).1 t) (upd1_le (mn1_le _ _ _).1 t)
  · exact Nat.le_refl _
theorem rnd_le (X : XT) (m : Nat → Bool) (F : Nat → Nat) (t : Nat) : ∀ b, rnd X m F b t ≤ F t
  | 0 => Nat.le_refl _
  | b + 1 => Nat.le_trans (rlx_le X m b _ t) (rnd_le X m F t b)
theorem rnd_le2 (X : XT) (m : Nat → Bool) (F : Nat → Nat) (t : Nat) {b : Nat} : ∀ c, b ≤ c → rnd X m F c t ≤ rnd X m F b t
  | 0, h => by rw [show b = 0 by omega]; exact Nat.le_refl _
  | c + 1, h => by
    by_cases e : b = c + 1
    · subst e; exact Nat.le_refl _
    · exact Nat.le_trans (rlx_le X m c _ t) (rnd_le2 X m F t c (by omega))
theorem bfd_le (X : XT) (m : Nat → Bool) (g t : Nat) : ∀ r, bfd X m g r t ≤ 1000
  | 0 => by simp only [bfd]; split <;> omega
  | r + 1 => Nat.le_trans (rnd_le X m _ t 8) (bfd_le X m g t r)
theorem bfd_le2 (X : XT) (m : Nat → Bool) (g t : Nat) {r : Nat} : ∀ q, r ≤ q → bfd X m g q t ≤ bfd X m g r t
  | 0, h => by rw [show r = 0 by omega]; exact Nat.le_refl _
  | q + 1, h => by
    by_cases e : r = q + 1
    · subst e; exact Nat.le_refl _
    · exact Nat.le_trans (rnd_le X m _ t 8) (bfd_le2 X m g t q (by omega))
/-- what stands is really so far -/
def snd1 (X : XT) (m : Nat → Bool) (g : Nat) (F : Nat → Nat) : Prop := ∀ t, F t < 1000 → bl X m g (F t) t = true
theorem snd_up {F : Nat → Nat} {g y x : Nat} (h : snd1 X m g F) (hs : stp X m y x) (hF : ∀ t, F t ≤ 1000) : snd1 X m g (updN F x (mn1 F y x)) := by
  intro t
  unfold updN mn1
  split
  · rename_i e
    subst e
    split
    · intro _
      have := hF t
      exact bl_succ.mpr (Or.inr ⟨y, h y (by omega), hs⟩)
    · exact h t
  · exact h t
theorem snd_rlx {F : Nat → Nat} {g b : Nat} (hb : b < 8) (h : snd1 X m g F) (hF : ∀ t, F t ≤ 1000) : snd1 X m g (rlx X m b F) := by
  unfold rlx
  split
  · rename_i hm
    have h1 : stp X m (x_hi X b) (x_lo X b) := ⟨b, hb, hm, Or.inr ⟨rfl, rfl⟩⟩
    have h2 := snd_up h h1 hF
    exact snd_up h2 (stp_sym h1) (fun t => Nat.le_trans (upd1_le (mn1_le _ _ _).1 t) (hF t))
  · exact h
theorem snd_rnd {F : Nat → Nat} {g : Nat} (h : snd1 X m g F) (hF : ∀ t, F t ≤ 1000) : ∀ b, b ≤ 8 → snd1 X m g (rnd X m F b)
  | 0, _ => h
  | b + 1, hb => snd_rlx (by omega) (snd_rnd h hF b (by omega)) (fun t => Nat.le_trans (rnd_le X m F t b) (hF t))
theorem snd_bfd (X : XT) (m : Nat → Bool) (g : Nat) : ∀ r, snd1 X m g (bfd X m g r)
  | 0 => by
    intro t
    simp only [bfd]
    split
    · rename_i e; intro _; exact bl_0.mpr e
    · omega
  | r + 1 => snd_rnd (snd_bfd X m g r) (fun t => bfd_le X m g t r) 8 (Nat.le_refl 8)
theorem rlx_edge {F : Nat → Nat} {b : Nat} (hm : m b = true) : rlx X m b F (x_lo X b) ≤ F (x_hi X b) + 1 ∧ rlx X m b F (x_hi X b) ≤ F (x_lo X b) + 1 := by
  unfold rlx
  rw [if_pos hm]
  have h1 := mn1_le F (x_hi X b) (x_lo X b)
  have h2 := mn1_le (updN F (x_lo X b) (mn1 F (x_hi X b) (x_lo X b))) (x_lo X b) (x_hi X b)
  have h3 : updN F (x_lo X b) (mn1 F (x_hi X b) (x_lo X b)) (x_lo X b) = mn1 F (x_hi X b) (x_lo X b) := by simp [updN]
  rw [h3] at h2
  constructor
  · refine Nat.le_trans (upd1_le h2.1 _) ?_
    rw [h3]; exact h1.2
  · have h4 : ∀ v, updN (updN F (x_lo X b) (mn1 F (x_hi X b) (x_lo X b))) (x_hi X b) v (x_hi X b) = v := by intro v; simp [updN]
    rw [h4]
    refine Nat.le_trans h2.2 ?_
    have := h1.1
    omega
theorem bfd_up (X : XT) (m : Nat → Bool) (g : Nat) : ∀ r t, bl X m g r t = true → bfd X m g r t ≤ r
  | 0, t, h => by rw [bl_0] at h; simp [bfd, h]
  | r + 1, t, h => by
    rcases bl_succ.mp h with h1 | ⟨u, h1, b, hb, hm, h2⟩
    · exact Nat.le_trans (rnd_le X m _ t 8) (Nat.le_trans (bfd_up X m g r t h1) (by omega))
    · have h3 := bfd_up X m g r u h1
      have h4 := rnd_le X m (bfd X m g r) u b
      have h5 := rlx_edge (X := X) (m := m) (F := rnd X m (bfd X m g r) b) (b := b) hm
      refine Nat.le_trans (rnd_le2 X m (bfd X m g r) t 8 (show b + 1 ≤ 8 by omega)) ?_
      show rlx X m b (rnd X m (bfd X m g r) b) t ≤ r + 1
      rcases h2 with ⟨e1, e2⟩ | ⟨e1, e2⟩
      · rw [← e2]; rw [← e1] at h3 h4; omega
      · rw [← e2]; rw [← e1] at h3 h4; omega
/-- what the reference's row holds at last -/
def faX (X : XT) (m : Nat → Bool) (g t : Nat) : Nat := if dN X m g t < 6 then dN X m g t else 1000
theorem bfd_is (ho : okX X) {g : Nat} (hg : g < 6) (t : Nat) : bfd X m g 6 t = faX X m g t := by
  unfold faX
  split
  · rename_i h
    have h1 := dN_bl h
    have h2 := Nat.le_trans (bfd_le2 X m g t 6 (show dN X m g t ≤ 6 by omega)) (bfd_up X m g _ t h1)
    have h3 := snd_bfd X m g 6 t (by omega)
    have h4 := dN_min (s := g) (k := bfd X m g 6 t) (by omega) h3
    omega
  · rename_i h
    have h1 := bfd_le X m g t 6
    refine Nat.le_antisymm h1 (Nat.le_of_not_lt fun h2 => h ?_)
    exact dN_lt ho hg (snd_bfd X m g 6 t h2)
theorem fa_le2 : faX X m s t ≤ 1000 := by unfold faX; split <;> omega
theorem fa_lt6 (h : faX X m s t < 1000) : faX X m s t < 6 := by
  unfold faX at h ⊢
  split at h
  · rename_i e; rw [if_pos e]; exact e
  · omega
end BL
theorem setA_twice (σ : St) (q : Nat) (f g : Nat → Int32) : setA (setA σ q f) q g = setA σ q g := by
  unfold setA
  congr 2
  funext q'
  by_cases h : q' = q
  · simp [h]
  · show (if q' = q then g else (if q' = q then f else sA σ q')) = (if q' = q then g else sA σ q')
    rw [if_neg h, if_neg h, if_neg h]
theorem ws_twice {D : gE} {L : Nat → Nat} (σ : St) (q : Nat) (f g : Nat → Int32) : wsOf D L (setA (setA σ q f) q g) = wsOf D L (setA σ q g) := by rw [setA_twice]
theorem upd_nI {f : Nat → Int32} {F : Nat → Nat} {n x v : Nat} (h : ∀ t, t < n → f t = nI (F t)) : ∀ t, t < n → upd f x (nI v) t = nI (updN F x v t) := by
  intro t ht
  unfold upd updN
  split
  · rfl
  · exact h t ht
/-- what is behind a town's cells may change -/
theorem rpM_A {σ : St} {X : XT} (h : rpM σ X) (q : Nat) (hq : q < 34 ∨ 44 < q) (f : Nat → Int32) : rpM (setA σ q f) X := by
  have e : ∀ j, 1 ≤ j → j ≤ 11 → sA (setA σ q f) (33 + j) = sA σ (33 + j) := fun j h1 h2 => if_neg (by omega)
  unfold rpM rp at h ⊢
  simp only [e 1 (by omega) (by omega), e 2 (by omega) (by omega), e 3 (by omega) (by omega), e 4 (by omega) (by omega), e 5 (by omega) (by omega), e 6 (by omega) (by omega), e 7 (by omega) (by omega), e 8 (by omega) (by omega), e 9 (by omega) (by omega), e 10 (by omega) (by omega), e 11 (by omega) (by omega)]
  exact h
theorem rpM_I {σ : St} {X : XT} (h : rpM σ X) (k : Nat) (hk : k ≠ 0 ∧ k ≠ 1 ∧ k ≠ 2 ∧ k ≠ 3 ∧ k ≠ 13 ∧ k ≠ 16) (x : Int32) : rpM (setI σ 33 k x) X := by
  have e : ∀ j, (j = 0 ∨ j = 1 ∨ j = 2 ∨ j = 3 ∨ j = 13 ∨ j = 16) → sI (setI σ 33 k x) 33 j = sI σ 33 j := by
    intro j hj
    show (if 33 = 33 then upd (sI σ 33) k x else sI σ 33) j = _
    rw [if_pos rfl]
    exact if_neg (by omega)
  unfold rpM rp at h ⊢
  refine ⟨(e 0 (by omega)).trans h.1, (e 1 (by omega)).trans h.2.1, (e 2 (by omega)).trans h.2.2.1, (e 3 (by omega)).trans h.2.2.2.1, (e 13 (by omega)).trans h.2.2.2.2.1, (e 16 (by omega)).trans h.2.2.2.2.2.1, h.2.2.2.2.2.2⟩
theorem rpM_O {σ : St} {X : XT} (h : rpM σ X) (o k : Nat) (ho : o ≠ 33) (x : Int32) : rpM (setI σ o k x) X := by
  have e : sI (setI σ o k x) 33 = sI σ 33 := if_neg (fun e => ho e.symm)
  unfold rpM rp at h ⊢
  simp only [e]
  exact h
