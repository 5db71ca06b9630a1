/-! A DAY, step by step -/
def wfS (s : Nat → Nat) (b : Nat) : Prop := (s b = 46) ∨ (s b = 33 ∧ 97 ≤ s (b + 1) ∧ s (b + 1) ≤ 104) ∨ ((65 ≤ s b ∧ s b ≤ 70) ∧ 48 ≤ s (b + 1) ∧ s (b + 1) ≤ 55) ∨ ((65 ≤ s b ∧ s b ≤ 70) ∧ (65 ≤ s (b + 1) ∧ s (b + 1) ≤ 70) ∧ 97 ≤ s (b + 2) ∧ s (b + 2) ≤ 104)
theorem nx0_0 {c : Nat} (h : nxS 0 c = 0) : c = 46 := by
  unfold nxS at h
  rw [if_pos rfl] at h
  split at h
  · omega
  split at h
  · omega
  split at h
  · assumption
  · omega
theorem nx0_1 {c : Nat} (h : nxS 1 c = 0) : 48 ≤ c ∧ c ≤ 55 := by
  unfold nxS at h
  rw [if_neg (by decide), if_pos rfl] at h
  split at h
  · omega
  split at h
  · assumption
  · omega
theorem nx0_2 {d c : Nat} (hd : d = 2 ∨ d = 3) (h : nxS d c = 0) : 97 ≤ c ∧ c ≤ 104 := by
  unfold nxS at h
  rw [if_neg (by omega), if_neg (by omega), if_neg (by omega)] at h
  split at h
  · assumption
  · omega
theorem wf_all (s : Nat → Nat) : ∀ i, pdS s i ≠ 4 → ∀ j, j < pjS s i → wfS s (psS s j)
  | 0, _, j, hj => absurd hj (Nat.not_lt_zero _)
  | i + 1, h, j, hj => by
    have hi : pdS s i ≠ 4 := pd_no h (by omega)
    by_cases c : nxS (pdS s i) (s i) = 0
    · have e1 : pjS s (i + 1) = pjS s i + 1 := by simp only [pjS]; rw [if_pos c]
      rw [e1] at hj
      by_cases ej : j = pjS s i
      · subst ej
        obtain ⟨h1, h2⟩ := pinv s i hi
        rw [h1]
        unfold wfS
        rcases h2 with ⟨d0, b0⟩ | ⟨d0, b0, p0⟩ | ⟨d0, b0, p0, p1⟩ | ⟨d0, b0, p0⟩
        · rw [d0] at c
          rw [b0]
          exact Or.inl (nx0_0 c)
        · rw [d0] at c
          rw [b0]
          exact Or.inr (Or.inr (Or.inl ⟨p0, nx0_1 c⟩))
        · rw [d0] at c
          rw [b0]
          exact Or.inr (Or.inr (Or.inr ⟨p0, p1, nx0_2 (Or.inl rfl) c⟩))
        · rw [d0] at c
          rw [b0]
          exact Or.inr (Or.inl ⟨p0, nx0_2 (Or.inr rfl) c⟩)
      · exact wf_all s i hi j (by omega)
    · have e1 : pjS s (i + 1) = pjS s i := by simp only [pjS]; rw [if_neg c]; rfl
      rw [e1] at hj
      exact wf_all s i hi j hj
/-- what a STEP does -/
def stepE (s : Nat → Nat) (X : XT) (b : Nat) : Nat × XT := if s b = 46 then (0, nightE X) else if s b = 33 then pubE X (s (b + 1) - 97) else if 65 ≤ s (b + 1) ∧ s (b + 1) ≤ 70 then tellE X (s b - 65) (s (b + 1) - 65) (s (b + 2) - 97) else crossE X (s b - 65) (s (b + 1) - 48)
theorem kd_0 {s : Nat → Nat} {b : Nat} (hw : wfS s b) (hk : kdS s b = 0) : (65 ≤ s b ∧ s b ≤ 70) ∧ (65 ≤ s (b + 1) ∧ s (b + 1) ≤ 70) ∧ 97 ≤ s (b + 2) ∧ s (b + 2) ≤ 104 := by
  unfold kdS at hk
  unfold wfS at hw
  split at hk
  · omega
  split at hk
  · omega
  split at hk
  · omega
  · omega
theorem kd_1 {s : Nat → Nat} {b : Nat} (hw : wfS s b) (hk : kdS s b = 1) : (65 ≤ s b ∧ s b ≤ 70) ∧ 48 ≤ s (b + 1) ∧ s (b + 1) ≤ 55 := by
  unfold kdS at hk
  unfold wfS at hw
  split at hk
  · omega
  split at hk
  · omega
  split at hk
  · omega
  · omega
theorem kd_2 {s : Nat → Nat} {b : Nat} (hw : wfS s b) (hk : kdS s b = 2) : s b = 33 ∧ 97 ≤ s (b + 1) ∧ s (b + 1) ≤ 104 := by
  unfold kdS at hk
  unfold wfS at hw
  split at hk
  · omega
  split at hk
  · omega
  split at hk
  · omega
  · omega
theorem kd_3 {s : Nat → Nat} {b : Nat} (hk : kdS s b = 3) : s b = 46 := by
  unfold kdS at hk
  split at hk
  · assumption
  split at hk
  · omega
  split at hk
  · omega
  · omega
theorem kd_le (s : Nat → Nat) (b : Nat) : kdS s b ≤ 3 := by
  unfold kdS
  repeat (first | omega | split)
theorem step_0 {s : Nat → Nat} {b : Nat} (X : XT) (hw : wfS s b) (hk : kdS s b = 0) : stepE s X b = tellE X (s b - 65) (s (b + 1) - 65) (s (b + 2) - 97) := by
  have h := kd_0 hw hk
  unfold stepE
  rw [if_neg (by omega), if_neg (by omega), if_pos (by omega)]
theorem step_1 {s : Nat → Nat} {b : Nat} (X : XT) (hw : wfS s b) (hk : kdS s b = 1) : stepE s X b = crossE X (s b - 65) (s (b + 1) - 48) := by
  have h := kd_1 hw hk
  unfold stepE
  rw [if_neg (by omega), if_neg (by omega), if_neg (by omega)]
theorem step_2 {s : Nat → Nat} {b : Nat} (X : XT) (hw : wfS s b) (hk : kdS s b = 2) : stepE s X b = pubE X (s (b + 1) - 97) := by
  have h := kd_2 hw hk
  unfold stepE
  rw [if_neg (by omega), if_pos (by omega)]
theorem step_3 {s : Nat → Nat} {b : Nat} (X : XT) (hk : kdS s b = 3) : stepE s X b = (0, nightE X) := by
  have h := kd_3 hk
  unfold stepE
  rw [if_pos h]
theorem ok_step {s : Nat → Nat} {X : XT} {b : Nat} (hw : wfS s b) (ho : okX X) : okX (stepE s X b).2 := by
  have h3 := kd_le s b
  rcases (show kdS s b = 0 ∨ kdS s b = 1 ∨ kdS s b = 2 ∨ kdS s b = 3 by omega) with h | h | h | h
  · have := kd_0 hw h
    rw [step_0 X hw h]; exact ok_tell ho (by omega)
  · have := kd_1 hw h
    rw [step_1 X hw h]; exact ok_cross ho (by omega) (by omega)
  · rw [step_2 X hw h]; exact ok_pub ho _
  · rw [step_3 X h]; exact ok_night ho
theorem step_sme {s : Nat → Nat} {X : XT} {b : Nat} (hw : wfS s b) : smeX (stepE s X b).2 X := by
  have h3 := kd_le s b
  rcases (show kdS s b = 0 ∨ kdS s b = 1 ∨ kdS s b = 2 ∨ kdS s b = 3 by omega) with h | h | h | h
  · rw [step_0 X hw h]; exact tell_sme X _ _ _
  · rw [step_1 X hw h]; exact cross_sme X _ _
  · rw [step_2 X hw h]; exact pub_sme X _
  · rw [step_3 X h]; exact night_sme X
/-- the town behind j STEPS, and why the next one can not be -/
def dyS (s : Nat → Nat) (X : XT) : Nat → XT
  | 0 => X
  | j + 1 => (stepE s (dyS s X j) (psS s j)).2
def wyS (s : Nat → Nat) (X : XT) (j : Nat) : Nat := (stepE s (dyS s X j) (psS s j)).1
/-- how many STEPS can be, of m -/
def gdS (s : Nat → Nat) (X : XT) (m : Nat) : Nat := firstN (fun j => wyS s X j != 0) m
/-- how many of a kind are among the first j -/
def kcS (s : Nat → Nat) (k j : Nat) : Nat := cntN (fun i => kdS s (psS s i) == k) j
theorem kcS_s (s : Nat → Nat) (k j : Nat) : kcS s k (j + 1) = kcS s k j + b2n (kdS s (psS s j) == k) := rfl
theorem kcS_le (s : Nat → Nat) (k : Nat) : ∀ j, kcS s k j ≤ j
  | 0 => Nat.le_refl _
  | j + 1 => by
    have := kcS_le s k j
    rw [kcS_s]
    have : b2n (kdS s (psS s j) == k) ≤ 1 := by cases (kdS s (psS s j) == k) <;> decide
    omega
theorem dy_ok {s : Nat → Nat} {X : XT} {m : Nat} (hw : ∀ j, j < m → wfS s (psS s j)) (ho : okX X) : ∀ j, j ≤ m → okX (dyS s X j)
  | 0, _ => ho
  | j + 1, h => ok_step (hw j (by omega)) (dy_ok hw ho j (by omega))
theorem dy_sme {s : Nat → Nat} {X : XT} {m : Nat} (hw : ∀ j, j < m → wfS s (psS s j)) : ∀ j, j ≤ m → smeX (dyS s X j) X
  | 0, _ => sme_rfl
  | j + 1, h => sme_trans (step_sme (hw j (by omega))) (dy_sme hw j (by omega))
