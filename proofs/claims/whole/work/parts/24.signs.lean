/-! the signs of a DAY -/
def nxS (d c : Nat) : Nat := if d = 0 then (if 65 ≤ c ∧ c ≤ 70 then 1 else if c = 33 then 3 else if c = 46 then 0 else 4) else if d = 1 then (if 65 ≤ c ∧ c ≤ 70 then 2 else if 48 ≤ c ∧ c ≤ 55 then 0 else 4) else if d = 4 then 4 else (if 97 ≤ c ∧ c ≤ 104 then 0 else 4)
def pdS (s : Nat → Nat) : Nat → Nat
  | 0 => 0
  | i + 1 => nxS (pdS s i) (s i)
def pjS (s : Nat → Nat) : Nat → Nat
  | 0 => 0
  | i + 1 => pjS s i + (if nxS (pdS s i) (s i) = 0 then 1 else 0)
def pbS (s : Nat → Nat) : Nat → Nat
  | 0 => 0
  | i + 1 => if nxS (pdS s i) (s i) = 0 then i + 1 else pbS s i
/-- the place of THE FAULT -/
def fltR (s : Nat → Nat) (n : Nat) : Int32 := if firstN (fun i => pdS s (i + 1) == 4) n < n then nI (firstN (fun i => pdS s (i + 1) == 4) n) else if pdS s n = 0 then -6 else nI n
/-- a STEP at a place: its kind (0 tells, 1 crosses, 2 publishes, 3 a night), its length -/
def kdS (s : Nat → Nat) (b : Nat) : Nat := if s b = 46 then 3 else if s b = 33 then 2 else if 65 ≤ s (b + 1) ∧ s (b + 1) ≤ 70 then 0 else 1
def lnS (s : Nat → Nat) (b : Nat) : Nat := if s b = 46 then 1 else if s b = 33 then 2 else if 65 ≤ s (b + 1) ∧ s (b + 1) ≤ 70 then 3 else 2
def psS (s : Nat → Nat) : Nat → Nat
  | 0 => 0
  | j + 1 => psS s j + lnS s (psS s j)
theorem pd_le (s : Nat → Nat) : ∀ i, pdS s i ≤ 4
  | 0 => by simp [pdS]
  | i + 1 => by simp only [pdS, nxS]; repeat (first | omega | split)
theorem pj_le (s : Nat → Nat) : ∀ i, pjS s i ≤ i
  | 0 => Nat.le_refl _
  | i + 1 => by have := pj_le s i; simp only [pjS]; split <;> omega
theorem pd4 {s : Nat → Nat} {i : Nat} (h : pdS s i = 4) : ∀ j, pdS s (i + j) = 4
  | 0 => h
  | j + 1 => by
    show nxS (pdS s (i + j)) (s (i + j)) = 4
    rw [pd4 h j]; rfl
theorem pd_no {s : Nat → Nat} {i j : Nat} (h : pdS s j ≠ 4) (hij : i ≤ j) : pdS s i ≠ 4 := fun e => h (by
  have := pd4 e (j - i)
  rw [show i + (j - i) = j by omega] at this
  exact this)
theorem pinv (s : Nat → Nat) : ∀ i, pdS s i ≠ 4 → psS s (pjS s i) = pbS s i ∧ ((pdS s i = 0 ∧ pbS s i = i) ∨ (pdS s i = 1 ∧ pbS s i + 1 = i ∧ (65 ≤ s (pbS s i) ∧ s (pbS s i) ≤ 70)) ∨ (pdS s i = 2 ∧ pbS s i + 2 = i ∧ (65 ≤ s (pbS s i) ∧ s (pbS s i) ≤ 70) ∧ (65 ≤ s (pbS s i + 1) ∧ s (pbS s i + 1) ≤ 70)) ∨ (pdS s i = 3 ∧ pbS s i + 1 = i ∧ s (pbS s i) = 33))
  | 0, _ => ⟨rfl, Or.inl ⟨rfl, rfl⟩⟩
  | i + 1, h => by
    have hi : pdS s i ≠ 4 := pd_no h (by omega)
    obtain ⟨h1, h2⟩ := pinv s i hi
    have hn : nxS (pdS s i) (s i) ≠ 4 := h
    simp only [pdS, pjS, pbS]
    rcases h2 with ⟨d0, b0⟩ | ⟨d0, b0, p0⟩ | ⟨d0, b0, p0, p1⟩ | ⟨d0, b0, p0⟩
    · rw [d0] at hn ⊢
      rw [b0] at h1 ⊢
      unfold nxS at hn ⊢
      simp only [if_true] at hn ⊢
      by_cases c1 : 65 ≤ s i ∧ s i ≤ 70
      · simp [c1, h1]
      · by_cases c2 : s i = 33
        · simp [c2, h1]
        · by_cases c3 : s i = 46
          · simp [c3, psS, h1, lnS]
          · simp [c1, c2, c3] at hn
    · rw [d0] at hn ⊢
      have hb : pbS s i + 1 = i := b0
      unfold nxS at hn ⊢
      simp only [if_true, show ¬ (1 : Nat) = 0 by decide, if_false] at hn ⊢
      by_cases c1 : 65 ≤ s i ∧ s i ≤ 70
      · simp only [if_pos c1, show ¬ (2 : Nat) = 0 by decide, if_false, Nat.add_zero]
        rw [hb]
        exact ⟨h1, Or.inr (Or.inr (Or.inl ⟨trivial, by omega, p0, c1⟩))⟩
      · by_cases c2 : 48 ≤ s i ∧ s i ≤ 55
        · simp only [if_neg c1, if_pos c2, if_true]
          refine ⟨?_, Or.inl ⟨trivial, trivial⟩⟩
          simp only [psS]
          rw [h1]
          unfold lnS
          rw [hb, if_neg (by omega), if_neg (by omega), if_neg c1]
          omega
        · simp [c1, c2] at hn
    · rw [d0] at hn ⊢
      unfold nxS at hn ⊢
      simp only [show ¬ (2 : Nat) = 0 by decide, show ¬ (2 : Nat) = 1 by decide, show ¬ (2 : Nat) = 4 by decide, if_false] at hn ⊢
      by_cases c1 : 97 ≤ s i ∧ s i ≤ 104
      · simp only [if_pos c1, if_true]
        refine ⟨?_, Or.inl ⟨trivial, trivial⟩⟩
        simp only [psS]
        rw [h1]
        unfold lnS
        rw [if_neg (by omega), if_neg (by omega), if_pos p1]
        omega
      · simp [c1] at hn
    · rw [d0] at hn ⊢
      unfold nxS at hn ⊢
      simp only [show ¬ (3 : Nat) = 0 by decide, show ¬ (3 : Nat) = 1 by decide, show ¬ (3 : Nat) = 4 by decide, if_false] at hn ⊢
      by_cases c1 : 97 ≤ s i ∧ s i ≤ 104
      · simp only [if_pos c1, if_true]
        refine ⟨?_, Or.inl ⟨trivial, trivial⟩⟩
        simp only [psS]
        rw [h1]
        unfold lnS
        rw [if_neg (by omega), if_pos p0]
        omega
      · simp [c1] at hn
/-- the reference's rows of steps -/
def stA (σ : St) (s : Nat → Nat) (j b : Nat) : Prop := sA σ 46 j = nI (kdS s b) ∧ (kdS s b = 0 ∨ kdS s b = 1 → sA σ 47 j = nI (s b) - nI 65) ∧ (kdS s b = 0 → sA σ 48 j = nI (s (b + 1)) - nI 65 ∧ sA σ 49 j = nI (s (b + 2)) - nI 97) ∧ (kdS s b = 1 → sA σ 49 j = nI (s (b + 1)) - nI 48) ∧ (kdS s b = 2 → sA σ 49 j = nI (s (b + 1)) - nI 97)
def pI (σ : St) (s : Nat → Nat) (i : Nat) : Prop := sI σ 33 23 = nI (pjS s i) ∧ sI σ 33 24 = nI (pdS s i) ∧ (∀ j, j < pjS s i → stA σ s j (psS s j)) ∧ (pdS s i = 1 ∨ pdS s i = 2 → sA σ 47 (pjS s i) = nI (s (pbS s i)) - nI 65) ∧ (pdS s i = 2 → sA σ 46 (pjS s i) = nI 0 ∧ sA σ 48 (pjS s i) = nI (s (pbS s i + 1)) - nI 65) ∧ (pdS s i = 3 → sA σ 46 (pjS s i) = nI 2)
/-- reading changes the rows of steps alone -/
def fp (σ σ' : St) : Prop := (∀ q, q < 46 ∨ 49 < q → sA σ' q = sA σ q) ∧ (∀ o, o ≠ 33 → sI σ' o = sI σ o) ∧ (∀ k, k ≠ 23 → k ≠ 24 → sI σ' 33 k = sI σ 33 k) ∧ sK σ' = sK σ ∧ sM σ' = sM σ
theorem fp_rfl {σ : St} : fp σ σ := ⟨fun _ _ => rfl, fun _ _ => rfl, fun _ _ _ => rfl, rfl, rfl⟩
theorem fp_trans {a b c : St} (h : fp a b) (g : fp b c) : fp a c := ⟨fun q hq => (g.1 q hq).trans (h.1 q hq), fun o ho => (g.2.1 o ho).trans (h.2.1 o ho), fun k h1 h2 => (g.2.2.1 k h1 h2).trans (h.2.2.1 k h1 h2), g.2.2.2.1.trans h.2.2.2.1, g.2.2.2.2.trans h.2.2.2.2⟩
theorem fp_A {a b : St} (h : fp a b) (q : Nat) (hq : 46 ≤ q ∧ q ≤ 49) (f : Nat → Int32) : fp a (setA b q f) := fp_trans h ⟨fun r hr => if_neg (by omega), fun _ _ => rfl, fun _ _ _ => rfl, rfl, rfl⟩
theorem fp_I {a b : St} (h : fp a b) (k : Nat) (hk : k = 23 ∨ k = 24) (x : Int32) : fp a (setI b 33 k x) := fp_trans h ⟨fun _ _ => rfl, fun o ho => if_neg ho, fun j h1 h2 => sI_ne b 33 k j (by omega) x, rfl, rfl⟩
theorem fp_fr {a b : St} (h : fp a b) : fr a b := ⟨h.2.1, fun q hq => h.1 q (by omega), h.2.2.1 18 (by omega) (by omega), h.2.2.2.1, h.2.2.2.2⟩
theorem fp_X {a b : St} {X : XT} (h : fp a b) (hX : rpM a X) : rpM b X := rpM_els (as := [46, 47, 48, 49]) (k0 := 23) (σ := setI a 33 24 (sI b 33 24)) (rpM_I hX 24 (by omega) _) ⟨fun q hq => h.1 q (by simp at hq; omega), fun o ho => (h.2.1 o ho).trans (if_neg ho).symm, fun k hk => by
  by_cases e : k = 24
  · subst e; exact (sI_same _ _ _ _).symm
  · exact (h.2.2.1 k hk e).trans (sI_ne _ _ _ _ e _).symm, h.2.2.2.1, h.2.2.2.2⟩ (fun q h1 h2 => by simp; omega) (by decide)
theorem st_keep {σ σ' : St} {s : Nat → Nat} {j j0 b : Nat} (h : stA σ s j b) (hj : j ≠ j0) (e : ∀ q, 46 ≤ q → q ≤ 49 → sA σ' q j = sA σ q j) : stA σ' s j b := by
  unfold stA at h ⊢
  rw [e 46 (by omega) (by omega), e 47 (by omega) (by omega), e 48 (by omega) (by omega), e 49 (by omega) (by omega)]
  exact h
/-- a sign read: the rows of steps changed at the step begun alone -/
theorem pI_next {σ σ' : St} {s : Nat → Nat} {i : Nat} (h : pI σ s i) (e : ∀ q j, 46 ≤ q → q ≤ 49 → j ≠ pjS s i → sA σ' q j = sA σ q j) (h23 : sI σ' 33 23 = nI (pjS s (i + 1))) (h24 : sI σ' 33 24 = nI (pdS s (i + 1))) (hf : pdS s (i + 1) = 0 → stA σ' s (pjS s i) (psS s (pjS s i))) (h1 : pdS s (i + 1) = 1 ∨ pdS s (i + 1) = 2 → sA σ' 47 (pjS s i) = nI (s (pbS s i)) - nI 65) (h2 : pdS s (i + 1) = 2 → sA σ' 46 (pjS s i) = nI 0 ∧ sA σ' 48 (pjS s i) = nI (s (pbS s i + 1)) - nI 65) (h3 : pdS s (i + 1) = 3 → sA σ' 46 (pjS s i) = nI 2) : pI σ' s (i + 1) := by
  have hj : ∀ j, j < pjS s i → stA σ' s j (psS s j) := fun j hj => st_keep (h.2.2.1 j hj) (show j ≠ pjS s i by omega) (fun q q1 q2 => e q j q1 q2 (by omega))
  by_cases c : nxS (pdS s i) (s i) = 0
  · have e0 : pdS s (i + 1) = 0 := c
    have e1 : pjS s (i + 1) = pjS s i + 1 := by simp only [pjS]; rw [if_pos c]
    refine ⟨h23, h24, fun j hj2 => ?_, fun q => by omega, fun q => by omega, fun q => by omega⟩
    rw [e1] at hj2
    by_cases ej : j = pjS s i
    · subst ej; exact hf e0
    · exact hj j (by omega)
  · have e1 : pjS s (i + 1) = pjS s i := by simp only [pjS]; rw [if_neg c]; rfl
    have e2 : pbS s (i + 1) = pbS s i := by simp only [pbS]; rw [if_neg c]
    refine ⟨h23, h24, ?_, ?_, ?_, ?_⟩
    · rw [e1]; exact hj
    · rw [e1, e2]; exact h1
    · rw [e1, e2]; exact h2
    · rw [e1]; exact h3

theorem pinv0 {s : Nat → Nat} {i : Nat} (hd : pdS s i = 0) : psS s (pjS s i) = pbS s i ∧ pbS s i = i := by
  have h := pinv s i (by rw [hd]; decide)
  refine ⟨h.1, ?_⟩
  rcases h.2 with q | q | q | q
  · exact q.2
  · omega
  · omega
  · omega
theorem pinv1 {s : Nat → Nat} {i : Nat} (hd : pdS s i = 1) : psS s (pjS s i) = pbS s i ∧ pbS s i + 1 = i ∧ 65 ≤ s (pbS s i) ∧ s (pbS s i) ≤ 70 := by
  have h := pinv s i (by rw [hd]; decide)
  refine ⟨h.1, ?_⟩
  rcases h.2 with q | q | q | q
  · omega
  · exact q.2
  · omega
  · omega
theorem pinv2 {s : Nat → Nat} {i : Nat} (hd : pdS s i = 2) : psS s (pjS s i) = pbS s i ∧ pbS s i + 2 = i ∧ (65 ≤ s (pbS s i) ∧ s (pbS s i) ≤ 70) ∧ (65 ≤ s (pbS s i + 1) ∧ s (pbS s i + 1) ≤ 70) := by
  have h := pinv s i (by rw [hd]; decide)
  refine ⟨h.1, ?_⟩
  rcases h.2 with q | q | q | q
  · omega
  · omega
  · exact q.2
  · omega
theorem pinv3 {s : Nat → Nat} {i : Nat} (hd : pdS s i = 3) : psS s (pjS s i) = pbS s i ∧ pbS s i + 1 = i ∧ s (pbS s i) = 33 := by
  have h := pinv s i (by rw [hd]; decide)
  refine ⟨h.1, ?_⟩
  rcases h.2 with q | q | q | q
  · omega
  · omega
  · omega
  · exact q.2
