/-! COUNTING: of FIT, of CHANCE -/
theorem cntN_s (f : Nat → Bool) (n : Nat) : cntN f (n + 1) = cntN f n + b2n (f n) := rfl
theorem sumNN_s (f : Nat → Nat) (n : Nat) : sumNN f (n + 1) = sumNN f n + f n := rfl
theorem anyN_s (f : Nat → Bool) (n : Nat) : anyN f (n + 1) = (anyN f n || f n) := rfl
theorem sumNN_cong {f g : Nat → Nat} : ∀ {n : Nat}, (∀ i, i < n → f i = g i) → sumNN f n = sumNN g n
  | 0, _ => rfl
  | n + 1, h => by rw [sumNN_s, sumNN_s, sumNN_cong (fun i hi => h i (by omega)), h n (by omega)]
theorem sumNN_zero : ∀ n, sumNN (fun _ => 0) n = 0
  | 0 => rfl
  | n + 1 => by rw [sumNN_s, sumNN_zero n]
theorem sumNN_addf (f g : Nat → Nat) : ∀ n, sumNN (fun i => f i + g i) n = sumNN f n + sumNN g n
  | 0 => rfl
  | n + 1 => by rw [sumNN_s, sumNN_s, sumNN_s, sumNN_addf f g n]; omega
theorem sumNN_mulc (f : Nat → Nat) (c : Nat) : ∀ n, sumNN (fun i => c * f i) n = c * sumNN f n
  | 0 => rfl
  | n + 1 => by rw [sumNN_s, sumNN_s, sumNN_mulc f c n, Nat.mul_add]
theorem sumNN_app (f : Nat → Nat) (a : Nat) : ∀ b, sumNN f (a + b) = sumNN f a + sumNN (fun i => f (a + i)) b
  | 0 => rfl
  | b + 1 => by
    rw [← Nat.add_assoc, sumNN_s, sumNN_s, sumNN_app f a b, Nat.add_assoc]
theorem sumNN_mono (f : Nat → Nat) {a b : Nat} (h : a ≤ b) : sumNN f a ≤ sumNN f b := by
  obtain ⟨c, rfl⟩ := Nat.exists_eq_add_of_le h
  rw [sumNN_app]; exact Nat.le_add_right _ _
theorem sumNN_le2 {f g : Nat → Nat} : ∀ {n : Nat}, (∀ i, i < n → f i ≤ g i) → sumNN f n ≤ sumNN g n
  | 0, _ => Nat.le_refl _
  | n + 1, h => by
    have h1 := sumNN_le2 (n := n) (f := f) (g := g) (fun i hi => h i (by omega))
    have h2 := h n (by omega)
    rw [sumNN_s, sumNN_s]; omega
theorem cntN_app (f : Nat → Bool) (a : Nat) : ∀ b, cntN f (a + b) = cntN f a + cntN (fun i => f (a + i)) b
  | 0 => rfl
  | b + 1 => by
    rw [← Nat.add_assoc, cntN_s, cntN_s, cntN_app f a b, Nat.add_assoc]
theorem cntN_mul (f : Nat → Bool) (M : Nat) : ∀ c, cntN f (M * c) = sumNN (fun d => cntN (fun r => f (M * d + r)) M) c
  | 0 => rfl
  | c + 1 => by rw [Nat.mul_succ, cntN_app, cntN_mul f M c, sumNN_s]
theorem cntN_and (a : Bool) (B : Nat → Bool) : ∀ c, sumNN (fun d => b2n (a && B d)) c = if a = true then cntN B c else 0
  | 0 => by cases a <;> rfl
  | c + 1 => by
    rw [sumNN_s, cntN_and a B c]
    cases a
    · rfl
    · rw [if_pos rfl, if_pos rfl, cntN_s, Bool.true_and]
theorem cnt_swap (A : Nat → Bool) (B : Nat → Nat → Bool) (c : Nat) : ∀ M, sumNN (fun d => cntN (fun r => A r && B r d) M) c = sumNN (fun r => if A r = true then cntN (B r) c else 0) M
  | 0 => sumNN_zero c
  | M + 1 => by
    rw [sumNN_s, ← cnt_swap A B c M, ← cntN_and (A M) (B M) c, ← sumNN_addf]
    exact sumNN_cong (fun d _ => rfl)
theorem sum_const {A : Nat → Bool} {f : Nat → Nat} {C : Nat} : ∀ {M : Nat}, (∀ r, r < M → A r = true → f r = C) → sumNN (fun r => if A r = true then f r else 0) M = cntN A M * C
  | 0, _ => (Nat.zero_mul C).symm
  | M + 1, h => by
    rw [sumNN_s, sum_const (fun r hr => h r (by omega)), cntN_s, Nat.add_mul]
    by_cases e : A M = true
    · rw [if_pos e, h M (by omega) e, e, b2n_t, Nat.one_mul]
    · rw [if_neg e, (Bool.not_eq_true _).mp e, b2n_f, Nat.zero_mul]
theorem cnt_remove {f : Nat → Bool} {e : Nat} (he : f e = true) : ∀ {n : Nat}, e < n → cntN (fun d => f d && !(e == d)) n + 1 = cntN f n
  | 0, h => absurd h (Nat.not_lt_zero _)
  | n + 1, h => by
    rw [cntN_s, cntN_s]
    by_cases c : e = n
    · subst c
      have h1 : cntN (fun d => f d && !(e == d)) e = cntN f e := cntN_cong (fun i hi => by
        have : (e == i) = false := by simp; omega
        rw [this]; simp)
      rw [h1, he]
      simp [b2n]
    · have h2 := cnt_remove (f := f) he (n := n) (by omega)
      have : (e == n) = false := by simp; exact c
      rw [this, Bool.not_false, Bool.and_true]
      omega
/-- digits to six -/
def dg6 (n k : Nat) : Nat := n / 6 ^ k % 6
theorem dg6_lt (n k : Nat) : dg6 n k < 6 := Nat.mod_lt _ (by decide)
theorem dg6_low {k j d r : Nat} (hj : j < k) : dg6 (6 ^ k * d + r) j = dg6 r j := by
  unfold dg6
  obtain ⟨c, hc⟩ := Nat.exists_eq_add_of_lt hj
  have e : 6 ^ k * d + r = r + 6 ^ j * (6 * (6 ^ c * d)) := by
    rw [hc, Nat.pow_add, Nat.pow_add, Nat.pow_one]
    have : 6 ^ j * 6 ^ c * 6 * d = 6 ^ j * (6 * (6 ^ c * d)) := by
      rw [Nat.mul_assoc, Nat.mul_assoc, ← Nat.mul_assoc (6 ^ c) 6 d, Nat.mul_comm (6 ^ c) 6, Nat.mul_assoc]
    omega
  rw [e, Nat.add_mul_div_left _ _ (Nat.pow_pos (by decide)), Nat.add_mul_mod_self_left]
theorem dg6_top {k d r : Nat} (hr : r < 6 ^ k) (hd : d < 6) : dg6 (6 ^ k * d + r) k = d := by
  unfold dg6
  rw [Nat.add_comm, Nat.add_mul_div_left _ _ (Nat.pow_pos (by decide)), Nat.div_eq_of_lt hr, Nat.zero_add, Nat.mod_eq_of_lt hd]
def ftG (X : XT) (g : Nat → Nat) (k d n : Nat) : Bool := cbX X (x_sv X k) d && !anyN (fun j => g j == d && x_sb X j == x_sb X k) n
def ftB (X : XT) (g : Nat → Nat) : Nat → Bool
  | 0 => true
  | k + 1 => ftB X g k && ftG X g k (g k) k
theorem ftB_s (X : XT) (g : Nat → Nat) (k : Nat) : ftB X g (k + 1) = (ftB X g k && ftG X g k (g k) k) := rfl
theorem ftG_cong {X : XT} {g h : Nat → Nat} {k d n : Nat} (e : ∀ j, j < n → g j = h j) : ftG X g k d n = ftG X h k d n := by
  unfold ftG
  rw [anyN_cong (n := n) (fun j hj => by rw [e j hj])]
theorem ftB_cong {X : XT} {g h : Nat → Nat} : ∀ {k : Nat}, (∀ j, j < k → g j = h j) → ftB X g k = ftB X h k
  | 0, _ => rfl
  | k + 1, e => by rw [ftB_s, ftB_s, ftB_cong (fun j hj => e j (by omega)), ftG_cong (fun j hj => e j (by omega)), e k (by omega)]
theorem ftB_at {X : XT} {g : Nat → Nat} : ∀ {k : Nat}, ftB X g k = true → ∀ i, i < k → ftG X g i (g i) i = true
  | 0, _, i, hi => absurd hi (Nat.not_lt_zero _)
  | k + 1, h, i, hi => by
    rw [ftB_s, Bool.and_eq_true] at h
    by_cases e : i = k
    · rw [e]; exact h.2
    · exact ftB_at h.1 i (by omega)
/-- SIGHTS before one that tell the same -/
def lkX (X : XT) (k j : Nat) : Bool := x_sb X j == x_sb X k && x_sv X j == x_sv X k
theorem ft_cnt {X : XT} {g : Nat → Nat} {k : Nat} (h : ftB X g k = true) (hg : ∀ j, j < k → g j < 6) : ∀ i, i ≤ k → cntN (fun d => ftG X g k d i) 6 + cntN (lkX X k) i = cntN (cbX X (x_sv X k)) 6
  | 0, _ => by
    show cntN (fun d => cbX X (x_sv X k) d && !false) 6 + 0 = _
    rw [Nat.add_zero]
    exact cntN_cong (fun i _ => by simp)
  | i + 1, hi => by
    have ih := ft_cnt h hg i (by omega)
    have ha := ftB_at h i (by omega)
    have hgi := hg i (by omega)
    unfold ftG at ha
    rw [Bool.and_eq_true, Bool.not_eq_true'] at ha
    have hstep : ∀ d, ftG X g k d (i + 1) = (ftG X g k d i && !(g i == d && x_sb X i == x_sb X k)) := by
      intro d
      unfold ftG
      rw [anyN_s, Bool.not_or, Bool.and_assoc]
    rw [cntN_s (lkX X k) i]
    by_cases e : lkX X k i = true
    · have e2 := e
      unfold lkX at e2
      rw [Bool.and_eq_true, beq_iff_eq, beq_iff_eq] at e2
      have h1 : ftG X g k (g i) i = true := by
        unfold ftG
        rw [Bool.and_eq_true, Bool.not_eq_true', ← e2.2, ← e2.1]
        exact ha
      have h2 := cnt_remove (f := fun d => ftG X g k d i) h1 hgi
      have h3 : cntN (fun d => ftG X g k d (i + 1)) 6 = cntN (fun d => ftG X g k d i && !(g i == d)) 6 := cntN_cong (fun d _ => by
        rw [hstep, e2.1]; simp)
      rw [h3, e, b2n_t]
      omega
    · have h3 : cntN (fun d => ftG X g k d (i + 1)) 6 = cntN (fun d => ftG X g k d i) 6 := cntN_cong (fun d _ => by
        rw [hstep]
        by_cases c : (g i == d && x_sb X i == x_sb X k) = true
        · rw [Bool.and_eq_true, beq_iff_eq, beq_iff_eq] at c
          have hf : ftG X g k d i = false := by
            unfold ftG
            have : cbX X (x_sv X k) d = false := by
              have h5 := ha.1
              rw [c.1] at h5
              unfold cbX at h5 ⊢
              rw [Bool.and_eq_true, decide_eq_true_eq] at h5
              rw [h5.1, h5.2, Bool.true_and, decide_eq_false_iff_not]
              intro e9
              apply e
              unfold lkX
              rw [Bool.and_eq_true, beq_iff_eq, beq_iff_eq]
              exact ⟨c.2, e9⟩
            rw [this, Bool.false_and]
          rw [hf, Bool.false_and]
        · rw [Bool.not_eq_true] at c
          rw [c, Bool.not_false, Bool.and_true])
      rw [h3, (Bool.not_eq_true _).mp e, b2n_f]
      omega
/-- FIT, factor by factor -/
def fpN (X : XT) : Nat → Nat
  | 0 => 1
  | k + 1 => fpN X k * (cntN (cbX X (x_sv X k)) 6 - cntN (lkX X k) k)
theorem fit_eq (X : XT) : ∀ k, cntN (fun n => ftB X (dg6 n) k) (6 ^ k) = fpN X k
  | 0 => by simp [fpN, cntN, ftB, b2n]
  | k + 1 => by
    rw [Nat.pow_succ, cntN_mul]
    have h1 : sumNN (fun d => cntN (fun r => ftB X (dg6 (6 ^ k * d + r)) (k + 1)) (6 ^ k)) 6 = sumNN (fun d => cntN (fun r => ftB X (dg6 r) k && ftG X (dg6 r) k d k) (6 ^ k)) 6 :=
      sumNN_cong (fun d hd => cntN_cong (fun r hr => by
        rw [ftB_s, ftB_cong (h := dg6 r) (fun j hj => dg6_low hj), ftG_cong (h := dg6 r) (fun j hj => dg6_low hj), dg6_top hr hd]))
    rw [h1, cnt_swap (fun r => ftB X (dg6 r) k) (fun r d => ftG X (dg6 r) k d k) 6, sum_const (C := cntN (cbX X (x_sv X k)) 6 - cntN (lkX X k) k) (fun r _ h => by
      have := ft_cnt h (fun j _ => dg6_lt r j) k (Nat.le_refl k)
      omega), fit_eq X k]
    rfl
theorem fpN_le (X : XT) : ∀ k, fpN X k ≤ 6 ^ k
  | 0 => Nat.le_refl _
  | k + 1 => by
    have h := cntN_le (cbX X (x_sv X k)) 6
    show fpN X k * _ ≤ 6 ^ k * 6
    exact Nat.mul_le_mul (fpN_le X k) (by omega)
/-! CHANCE -/
def chW (t : Nat) (B : Nat → Bool) (a : Nat) : Nat → Nat
  | 0 => 1
  | n + 1 => chW t B a n * (if B n = true then (if a.testBit n = true then t else 10 - t) else 1)
theorem chW_s (t : Nat) (B : Nat → Bool) (a n : Nat) : chW t B a (n + 1) = chW t B a n * (if B n = true then (if a.testBit n = true then t else 10 - t) else 1) := rfl
def sbN (B : Nat → Bool) (a n : Nat) : Bool := !anyN (fun i => a.testBit i && !B i) n
theorem sbN_8 (B : Nat → Bool) (a : Nat) : sbN B a 8 = subB B a := rfl
theorem sbN_s (B : Nat → Bool) (a n : Nat) : sbN B a (n + 1) = (sbN B a n && !(a.testBit n && !B n)) := by
  unfold sbN
  rw [anyN_s, Bool.not_or]
theorem chW_cong {t : Nat} {B : Nat → Bool} {a b : Nat} : ∀ {n : Nat}, (∀ i, i < n → a.testBit i = b.testBit i) → chW t B a n = chW t B b n
  | 0, _ => rfl
  | n + 1, h => by rw [chW_s, chW_s, chW_cong (fun i hi => h i (by omega)), h n (by omega)]
theorem sbN_cong {B : Nat → Bool} {a b n : Nat} (h : ∀ i, i < n → a.testBit i = b.testBit i) : sbN B a n = sbN B b n := by
  unfold sbN
  rw [anyN_cong (n := n) (fun i hi => by rw [h i hi])]
def chE (t : Nat) (B : Nat → Bool) (F : Nat → Nat) (n a : Nat) : Nat := if sbN B a n = true then F a * chW t B a n else 0
def chT (t : Nat) (B : Nat → Bool) (F : Nat → Nat) (n : Nat) : Nat := sumNN (chE t B F n) (2 ^ n)
theorem tb_hi {a n : Nat} (h : a < 2 ^ n) : a.testBit n = false := Nat.testBit_lt_two_pow h
theorem tb_lo {a n i : Nat} (h : i < n) : (2 ^ n + a).testBit i = a.testBit i := Nat.testBit_two_pow_add_gt h a
theorem tb_eq {a n : Nat} (h : a < 2 ^ n) : (2 ^ n + a).testBit n = true := by rw [Nat.testBit_two_pow_add_eq, tb_hi h]; rfl
theorem chT_s (t : Nat) (B : Nat → Bool) (F : Nat → Nat) (n : Nat) : chT t B F (n + 1) = if B n = true then (10 - t) * chT t B F n + t * chT t B (fun a => F (2 ^ n + a)) n else chT t B F n := by
  unfold chT
  rw [show 2 ^ (n + 1) = 2 ^ n + 2 ^ n by rw [Nat.pow_succ]; omega, sumNN_app]
  have h1 : ∀ a, a < 2 ^ n → chE t B F (n + 1) a = if B n = true then (10 - t) * chE t B F n a else chE t B F n a := by
    intro a ha
    unfold chE
    rw [sbN_s, chW_s, tb_hi ha, Bool.false_and, Bool.not_false, Bool.and_true]
    by_cases c : sbN B a n = true
    · rw [if_pos c, if_pos c, if_neg (show ¬ false = true by decide)]
      by_cases b : B n = true
      · rw [if_pos b, if_pos b, ← Nat.mul_assoc, Nat.mul_comm]
      · rw [if_neg b, if_neg b, Nat.mul_one]
    · rw [if_neg c, if_neg c]
      by_cases b : B n = true
      · rw [if_pos b, Nat.mul_zero]
      · rw [if_neg b]
  have h2 : ∀ a, a < 2 ^ n → chE t B F (n + 1) (2 ^ n + a) = if B n = true then t * chE t B (fun a => F (2 ^ n + a)) n a else 0 := by
    intro a ha
    unfold chE
    rw [sbN_s, chW_s, tb_eq ha, Bool.true_and, Bool.not_not, sbN_cong (b := a) (fun i hi => tb_lo hi), chW_cong (b := a) (fun i hi => tb_lo hi)]
    by_cases b : B n = true
    · rw [b, Bool.and_true, if_pos rfl, if_pos rfl, if_pos rfl]
      by_cases c : sbN B a n = true
      · rw [if_pos c, if_pos c, ← Nat.mul_assoc, Nat.mul_comm]
      · rw [if_neg c, if_neg c, Nat.mul_zero]
    · rw [Bool.not_eq_true] at b
      rw [b, Bool.and_false, if_neg (by decide), if_neg (by decide)]
  rw [sumNN_cong h1, sumNN_cong h2]
  by_cases b : B n = true
  · simp only [b, if_true]
    rw [sumNN_mulc, sumNN_mulc]
  · rw [if_neg b]
    simp only [if_neg b, sumNN_zero, Nat.add_zero]
theorem chT_rel {t : Nat} (ht : t ≤ 10) {B O : Nat → Bool} : ∀ (n : Nat) (F G : Nat → Nat), (∀ a c, a < 2 ^ n → c < 2 ^ n → (∀ i, i < n → c.testBit i = (O i && a.testBit i)) → G a = F c) → (∀ i, i < n → O i = true → B i = true) → chT t B G n = 10 ^ (cntN B n - cntN O n) * chT t O F n
  | 0, F, G, h, _ => by
    have e := h 0 0 (by decide) (by decide) (fun i hi => absurd hi (Nat.not_lt_zero i))
    simp [chT, chE, sbN, anyN, chW, sumNN, cntN, e]
  | n + 1, F, G, h, hs => by
    have h2 : 2 ^ (n + 1) = 2 ^ n + 2 ^ n := by rw [Nat.pow_succ]; omega
    have hc : cntN O n ≤ cntN B n := cntN_le2 n (fun i hi => hs i (by omega))
    have ih := chT_rel ht n F G (fun a c ha hc hb => h a c (by omega) (by omega) (fun i hi => by
      by_cases e : i = n
      · rw [e, tb_hi ha, tb_hi hc, Bool.and_false]
      · exact hb i (by omega))) (fun i hi => hs i (by omega))
    rw [chT_s, chT_s, cntN_s, cntN_s]
    by_cases o : O n = true
    · have b := hs n (by omega) o
      have ih2 := chT_rel ht n (fun a => F (2 ^ n + a)) (fun a => G (2 ^ n + a)) (fun a c ha hc hb => h _ _ (by omega) (by omega) (fun i hi => by
        by_cases e : i = n
        · rw [e, tb_eq ha, tb_eq hc, o]; rfl
        · rw [tb_lo (by omega), tb_lo (by omega)]; exact hb i (by omega))) (fun i hi => hs i (by omega))
      rw [if_pos b, if_pos o, ih, ih2, b, o, b2n_t, show cntN B n + 1 - (cntN O n + 1) = cntN B n - cntN O n by omega, Nat.mul_add]
      rw [← Nat.mul_assoc, ← Nat.mul_assoc, ← Nat.mul_assoc, ← Nat.mul_assoc, Nat.mul_comm (10 - t), Nat.mul_comm t]
    · have o : O n = false := by rw [Bool.not_eq_true] at o; exact o
      rw [o, b2n_f, Nat.add_zero, if_neg (show ¬ false = true by decide)]
      by_cases b : B n = true
      · have ih2 := chT_rel ht n F (fun a => G (2 ^ n + a)) (fun a c ha hc hb => h _ _ (by omega) (by omega) (fun i hi => by
          by_cases e : i = n
          · rw [e, o, Bool.false_and, tb_hi hc]
          · rw [tb_lo (by omega)]; exact hb i (by omega))) (fun i hi => hs i (by omega))
        rw [if_pos b, ih, ih2, b, b2n_t, show cntN B n + 1 - cntN O n = (cntN B n - cntN O n) + 1 by omega, Nat.pow_succ, ← Nat.add_mul, show 10 - t + t = 10 by omega, ← Nat.mul_assoc, Nat.mul_comm 10]
      · have b : B n = false := by rw [Bool.not_eq_true] at b; exact b
        rw [b, b2n_f, Nat.add_zero, if_neg (by decide), ih]
theorem chT_one {t : Nat} (ht : t ≤ 10) (B : Nat → Bool) : ∀ n, chT t B (fun _ => 1) n = 10 ^ cntN B n
  | 0 => by simp [chT, chE, sbN, anyN, chW, sumNN, cntN]
  | n + 1 => by
    rw [chT_s, chT_one ht B n, cntN_s]
    by_cases b : B n = true
    · rw [if_pos b, b, b2n_t, ← Nat.add_mul, show 10 - t + t = 10 by omega, Nat.pow_succ, Nat.mul_comm]
    · rw [Bool.not_eq_true] at b
      rw [b, b2n_f, if_neg (by decide), Nat.add_zero]
theorem chW_pow {t : Nat} {O : Nat → Bool} {a : Nat} : ∀ n, sbN O a n = true → cntN a.testBit n ≤ cntN O n ∧ chW t O a n = t ^ cntN a.testBit n * (10 - t) ^ (cntN O n - cntN a.testBit n)
  | 0, _ => ⟨Nat.le_refl _, rfl⟩
  | n + 1, h => by
    rw [sbN_s, Bool.and_eq_true] at h
    obtain ⟨h1, h2⟩ := chW_pow (t := t) n h.1
    have h3 := h.2
    rw [cntN_s, cntN_s, chW_s, h2]
    by_cases o : O n = true
    · by_cases c : a.testBit n = true
      · rw [if_pos o, if_pos c, o, c, b2n_t, show cntN O n + 1 - (cntN a.testBit n + 1) = cntN O n - cntN a.testBit n by omega, Nat.pow_succ]
        refine ⟨by omega, ?_⟩
        rw [Nat.mul_assoc, Nat.mul_comm ((10 - t) ^ _) t, ← Nat.mul_assoc]
      · rw [Bool.not_eq_true] at c
        rw [if_pos o, o, c, b2n_t, b2n_f, if_neg (by decide), Nat.add_zero, show cntN O n + 1 - cntN a.testBit n = (cntN O n - cntN a.testBit n) + 1 by omega, Nat.pow_succ]
        refine ⟨by omega, ?_⟩
        rw [Nat.mul_assoc]
    · rw [Bool.not_eq_true] at o
      rw [o] at h3
      have c : a.testBit n = false := by
        cases e : a.testBit n
        · rfl
        · rw [e] at h3; exact absurd h3 (by decide)
      rw [o, c, b2n_f, if_neg (by decide), Nat.mul_one, Nat.add_zero, Nat.add_zero]
      exact ⟨h1, rfl⟩
theorem chE_le {t : Nat} {B : Nat → Bool} {F : Nat → Nat} (hF : ∀ a, F a ≤ 1) (n a : Nat) : chE t B F n a ≤ chE t B (fun _ => 1) n a := by
  unfold chE
  split
  · exact Nat.mul_le_mul_right _ (hF a)
  · exact Nat.le_refl _
theorem chS_le {t : Nat} (ht : t ≤ 10) (B : Nat → Bool) {F : Nat → Nat} (hF : ∀ a, F a ≤ 1) {k : Nat} (hk : k ≤ 256) : sumNN (chE t B F 8) k ≤ 100000000 := by
  have h1 := sumNN_mono (chE t B F 8) hk
  have h2 : sumNN (chE t B F 8) 256 ≤ sumNN (chE t B (fun _ => 1) 8) 256 := sumNN_le2 (fun i _ => chE_le hF 8 i)
  have h3 : sumNN (chE t B (fun _ => 1) 8) 256 = 10 ^ cntN B 8 := chT_one ht B 8
  have h4 : 10 ^ cntN B 8 ≤ 10 ^ 8 := Nat.pow_le_pow_right (by decide) (cntN_le B 8)
  have h5 : 10 ^ 8 = 100000000 := by decide
  omega
/-- lowest terms, after a common factor -/
theorem low_up {c u l : Nat} (hc : 0 < c) : c * u / Nat.gcd (c * l) (c * u) = u / Nat.gcd l u := by
  rw [Nat.gcd_mul_left, Nat.mul_div_mul_left _ _ hc]
theorem low_lo {c u l : Nat} (hc : 0 < c) : c * l / Nat.gcd (c * l) (c * u) = l / Nat.gcd l u := by
  rw [Nat.gcd_mul_left, Nat.mul_div_mul_left _ _ hc]
/-- that there is a WAY over those that hold -/
def chR (X : XT) (p g : Nat) (a : Nat) : Nat := b2n (decide (dN X a.testBit g (x_pl X p) < 6))
def chQ (X : XT) (p g : Nat) (a : Nat) : Nat := b2n (decide (dN X (fun i => beX X (buX X p) i && a.testBit i) g (x_pl X p) < 6))
def chU (X : XT) (p g t : Nat) : Nat := chT t (beX X (buX X p)) (chR X p g) 8
def chL (X : XT) (p : Nat) : Nat := 10 ^ cntN (beX X (buX X p)) 8
