-- out of kit/laws (starting texts): fa_, fb_, bt rows
theorem fa_lt (a b : Int32) : a < b ↔ a.toInt < b.toInt := Int32.lt_iff_toInt_lt
theorem fa_le (a b : Int32) : a ≤ b ↔ a.toInt ≤ b.toInt := Int32.le_iff_toInt_le
theorem fa_eq (a b : Int32) : a = b ↔ a.toInt = b.toInt := Int32.toInt_inj.symm
theorem fa_lt64 (a b : Int64) : a < b ↔ a.toInt < b.toInt := Int64.lt_iff_toInt_lt
theorem fa_le64 (a b : Int64) : a ≤ b ↔ a.toInt ≤ b.toInt := Int64.le_iff_toInt_le
theorem fa_eq64 (a b : Int64) : a = b ↔ a.toInt = b.toInt := Int64.toInt_inj.symm
theorem fa_wide_lt (a b : Int32) : a.toInt64 < b.toInt64 ↔ a < b := by rw [fa_lt64, fa_lt, Int32.toInt_toInt64, Int32.toInt_toInt64]
theorem fa_wide_le (a b : Int32) : a.toInt64 ≤ b.toInt64 ↔ a ≤ b := by rw [fa_le64, fa_le, Int32.toInt_toInt64, Int32.toInt_toInt64]
theorem fa_wide_eq (a b : Int32) : a.toInt64 = b.toInt64 ↔ a = b := by rw [fa_eq64, fa_eq, Int32.toInt_toInt64, Int32.toInt_toInt64]
theorem fa_and (a b : Nat) : nI a &&& nI b = nI (a &&& b) := by
  apply Int32.toBitVec_inj.1
  show BitVec.ofNat 32 a &&& BitVec.ofNat 32 b = BitVec.ofNat 32 (a &&& b)
  apply BitVec.eq_of_getLsbD_eq
  intro i hi
  simp [hi]
theorem fa_or (a b : Nat) : nI a ||| nI b = nI (a ||| b) := by
  apply Int32.toBitVec_inj.1
  show BitVec.ofNat 32 a ||| BitVec.ofNat 32 b = BitVec.ofNat 32 (a ||| b)
  apply BitVec.eq_of_getLsbD_eq
  intro i hi
  simp [hi]
theorem fa_or_sum {a k : Nat} (b : Nat) (h : a < 2 ^ k) : nI (2 ^ k * b) ||| nI a = nI (2 ^ k * b + a) := by rw [fa_or, Nat.two_pow_add_eq_or_of_lt h]
theorem fa_lit (n : Nat) : (OfNat.ofNat n : Int32) = nI n := rfl
theorem fa_litL (n : Nat) : (OfNat.ofNat n : Int64) = lN n := rfl
theorem fb_xorI (a b : Nat) : nI a ^^^ nI b = nI (a ^^^ b) := by
  apply Int32.toBitVec_inj.1
  show BitVec.ofNat 32 a ^^^ BitVec.ofNat 32 b = BitVec.ofNat 32 (a ^^^ b)
  apply BitVec.eq_of_getLsbD_eq
  intro i hi
  simp [hi]
theorem fb_rng (x : Int32) : -2147483648 ≤ x.toInt ∧ x.toInt < 2147483648 := by
  have h1 := Int32.le_toInt x
  have h2 := Int32.toInt_lt x
  omega
theorem fb_bmod {z : Int} (h1 : -2147483648 ≤ z) (h2 : z < 2147483648) : z.bmod (2 ^ 32) = z := by
  rw [Int.bmod_eq_of_le (by omega) (by omega)]
theorem fb_addI {x y : Int32} (h1 : -2147483648 ≤ x.toInt + y.toInt) (h2 : x.toInt + y.toInt < 2147483648) : (x + y).toInt = x.toInt + y.toInt := by
  rw [Int32.toInt_add, fb_bmod h1 h2]
theorem fb_subI {x y : Int32} (h1 : -2147483648 ≤ x.toInt - y.toInt) (h2 : x.toInt - y.toInt < 2147483648) : (x - y).toInt = x.toInt - y.toInt := by
  rw [Int32.toInt_sub, fb_bmod h1 h2]
theorem fb_mulI {x y : Int32} (h1 : -2147483648 ≤ x.toInt * y.toInt) (h2 : x.toInt * y.toInt < 2147483648) : (x * y).toInt = x.toInt * y.toInt := by
  rw [Int32.toInt_mul, fb_bmod h1 h2]
theorem fb_ofI {z : Int} (h1 : -2147483648 ≤ z) (h2 : z < 2147483648) : (Int32.ofInt z).toInt = z := by
  rw [Int32.toInt_ofInt, fb_bmod h1 h2]
theorem fb_asI (x : Int32) : Int32.ofInt x.toInt = x := Int32.ofInt_toInt x
theorem fb_rngL (x : Int64) : -9223372036854775808 ≤ x.toInt ∧ x.toInt < 9223372036854775808 := by
  have h1 := Int64.le_toInt x
  have h2 := Int64.toInt_lt x
  omega
theorem fb_bmodL {z : Int} (h1 : -9223372036854775808 ≤ z) (h2 : z < 9223372036854775808) : z.bmod (2 ^ 64) = z := by
  rw [Int.bmod_eq_of_le (by omega) (by omega)]
theorem fb_addL {x y : Int64} (h1 : -9223372036854775808 ≤ x.toInt + y.toInt) (h2 : x.toInt + y.toInt < 9223372036854775808) : (x + y).toInt = x.toInt + y.toInt := by
  rw [Int64.toInt_add, fb_bmodL h1 h2]
theorem fb_subL {x y : Int64} (h1 : -9223372036854775808 ≤ x.toInt - y.toInt) (h2 : x.toInt - y.toInt < 9223372036854775808) : (x - y).toInt = x.toInt - y.toInt := by
  rw [Int64.toInt_sub, fb_bmodL h1 h2]
theorem fb_mulL {x y : Int64} (h1 : -9223372036854775808 ≤ x.toInt * y.toInt) (h2 : x.toInt * y.toInt < 9223372036854775808) : (x * y).toInt = x.toInt * y.toInt := by
  rw [Int64.toInt_mul, fb_bmodL h1 h2]
def bt (x : Int32) (i : Nat) : Bool := x.toBitVec.getLsbD i
theorem b_ext {x y : Int32} (h : ∀ i, i < 32 → bt x i = bt y i) : x = y := Int32.toBitVec_inj.mp (BitVec.eq_of_getLsbD_eq (fun i hi => h i hi))
theorem b_or (x y : Int32) (i : Nat) : bt (x ||| y) i = (bt x i || bt y i) := by unfold bt; rw [Int32.toBitVec_or, BitVec.getLsbD_or]
theorem b_and (x y : Int32) (i : Nat) : bt (x &&& y) i = (bt x i && bt y i) := by unfold bt; rw [Int32.toBitVec_and, BitVec.getLsbD_and]
theorem b_xor (x y : Int32) (i : Nat) : bt (x ^^^ y) i = (bt x i ^^ bt y i) := by unfold bt; rw [Int32.toBitVec_xor, BitVec.getLsbD_xor]
theorem b_big {x : Int32} {i : Nat} (h : 32 ≤ i) : bt x i = false := BitVec.getLsbD_of_ge _ _ h
theorem b_m1 : ∀ i, i < 32 → bt (-1) i = true := by decide +kernel
theorem s_l : ∀ n, n < 32 → ((nI n &&& 31).toBitVec.smod 32).toNat = n := by decide +kernel
theorem s_u : ∀ n, n < 32 → (((nI n).toUInt32 &&& Int32.toUInt32 31).toBitVec % 32).toNat = n := by decide +kernel
theorem b_shl (n : Nat) (hn : n < 32) (x : Int32) {i : Nat} (hi : i < 32) : bt (x <<< (nI n &&& 31)) i = (decide (n ≤ i) && bt x (i - n)) := by
  unfold bt
  rw [Int32.toBitVec_shiftLeft]
  show (x.toBitVec <<< ((nI n &&& 31).toBitVec.smod 32).toNat).getLsbD i = _
  rw [s_l n hn, BitVec.getLsbD_shiftLeft]
  rcases Nat.lt_or_ge i n with h | h
  · simp [h, Nat.not_le.mpr h]
  · simp [hi, h, Nat.not_lt.mpr h]
theorem b_ushr (n : Nat) (hn : n < 32) (x : Int32) (i : Nat) : bt ((x.toUInt32 >>> ((nI n).toUInt32 &&& Int32.toUInt32 31)).toInt32) i = bt x (n + i) := by
  show (x.toUInt32 >>> ((nI n).toUInt32 &&& Int32.toUInt32 31)).toBitVec.getLsbD i = x.toUInt32.toBitVec.getLsbD (n + i)
  rw [UInt32.toBitVec_shiftRight]
  show (x.toUInt32.toBitVec >>> (((nI n).toUInt32 &&& Int32.toUInt32 31).toBitVec % 32).toNat).getLsbD i = _
  rw [s_u n hn, BitVec.getLsbD_ushiftRight]
theorem b_sshr (n : Nat) (hn : n < 32) (x : Int32) {i : Nat} (hi : i < 32) : bt (x >>> (nI n &&& 31)) i = if n + i < 32 then bt x (n + i) else bt x 31 := by
  unfold bt
  rw [Int32.toBitVec_shiftRight]
  show (x.toBitVec.sshiftRight ((nI n &&& 31).toBitVec.smod 32).toNat).getLsbD i = _
  rw [s_l n hn, BitVec.getLsbD_sshiftRight, BitVec.msb_eq_getLsbD_last]
  simp [hi]
/-! numbers of one bit, bits by a predicate -/
def b2n (b : Bool) : Nat := if b then 1 else 0
theorem b2n_t : b2n true = 1 := rfl
theorem b2n_f : b2n false = 0 := rfl
theorem b2n_lt (b : Bool) : b2n b < 2 := by cases b <;> decide
def bitsN (f : Nat → Bool) : Nat → Nat
  | 0 => 0
  | n + 1 => bitsN f n + (if f n then 2 ^ n else 0)
theorem bitsN_lt (f : Nat → Bool) : ∀ n, bitsN f n < 2 ^ n
  | 0 => by simp [bitsN]
  | n + 1 => by
    have h := bitsN_lt f n
    simp only [bitsN, Nat.pow_succ]
    split <;> omega
theorem bitsN_tb (f : Nat → Bool) : ∀ (n i : Nat), (bitsN f n).testBit i = (decide (i < n) && f i)
  | 0, i => by simp [bitsN]
  | n + 1, i => by
    have h := bitsN_lt f n
    have ih := bitsN_tb f n i
    have e : bitsN f (n + 1) = 2 ^ n * (b2n (f n)) + bitsN f n := by
      simp only [bitsN, b2n]
      split <;> omega
    rw [e, Nat.testBit_two_pow_mul_add _ h]
    by_cases h1 : i < n
    · rw [if_pos h1, ih]
      simp [h1, Nat.lt_succ_of_lt h1]
    · rw [if_neg h1]
      by_cases h2 : i = n
      · subst h2
        rw [Nat.sub_self]
        cases f i <;> simp [b2n]
      · rw [decide_eq_false (by omega : ¬ i < n + 1), Bool.false_and]
        obtain ⟨j, hj⟩ : ∃ j, i - n = j + 1 := ⟨i - n - 1, by omega⟩
        rw [hj]
        cases f n <;> simp [b2n, Nat.testBit_succ]
theorem bitsN_in (f : Nat → Bool) {n i : Nat} (h : i < n) : (bitsN f n).testBit i = f i := by rw [bitsN_tb, decide_eq_true h, Bool.true_and]
theorem bitsN_cong {f g : Nat → Bool} : ∀ {n : Nat}, (∀ i, i < n → f i = g i) → bitsN f n = bitsN g n
  | 0, _ => rfl
  | n + 1, h => by
    simp only [bitsN]
    rw [bitsN_cong (fun i hi => h i (Nat.lt_succ_of_lt hi)), h n (Nat.lt_succ_self n)]
theorem bitsN_of {a n : Nat} (h : a < 2 ^ n) : bitsN a.testBit n = a := by
  apply Nat.eq_of_testBit_eq
  intro i
  rw [bitsN_tb]
  by_cases hi : i < n
  · simp [hi]
  · rw [decide_eq_false hi, Bool.false_and, Nat.testBit_lt_two_pow (Nat.lt_of_lt_of_le h (Nat.pow_le_pow_right (by decide) (by omega)))]
theorem bitsN_inj {f g : Nat → Bool} {n : Nat} (h : bitsN f n = bitsN g n) {i : Nat} (hi : i < n) : f i = g i := by rw [← bitsN_in f hi, h, bitsN_in g hi]
theorem bitsN_of_tb {f : Nat → Bool} {n a : Nat} (ha : a < 2 ^ n) (h : ∀ i, i < n → a.testBit i = f i) : a = bitsN f n := by rw [← bitsN_of ha]; exact bitsN_cong h
theorem p31 {n : Nat} (h : n ≤ 31) : 2 ^ n ≤ 2 ^ 31 := Nat.pow_le_pow_right (by decide) h
theorem bitsN31 (f : Nat → Bool) {n : Nat} (h : n ≤ 31) : bitsN f n < 2 ^ 31 := Nat.lt_of_lt_of_le (bitsN_lt f n) (p31 h)
theorem sh1 : ∀ k, k < 31 → nI 1 <<< (nI k &&& 31) = nI (2 ^ k) := by decide +kernel
theorem tb_mod (a k : Nat) : a / 2 ^ k % 2 = b2n (a.testBit k) := by
  rw [Nat.testBit_eq_decide_div_mod_eq]
  unfold b2n
  by_cases h : a / 2 ^ k % 2 = 1
  · simp [h]
  · simp only [h, decide_false]; simp; omega
/-- a bit of a number, shifted down -/
theorem gb {a k : Nat} (ha : a < 2 ^ 31) (hk : k < 31) : (nI a >>> (nI k &&& 31)) &&& nI 1 = nI (b2n (a.testBit k)) := by
  rw [pk_shrN ha (nI k &&& 31) k (s_l k (by omega)), show (nI 1) = nI (2 ^ 1 - 1) from rfl, fa_and, Nat.and_two_pow_sub_one_eq_mod, ← tb_mod]
theorem gbB (f : Nat → Bool) {n k : Nat} (hn : n ≤ 31) (hk : k < n) : (nI (bitsN f n) >>> (nI k &&& 31)) &&& nI 1 = nI (b2n (f k)) := by
  rw [gb (bitsN31 f hn) (by omega), bitsN_in f hk]
theorem obB (f : Nat → Bool) {n k : Nat} (hn : n ≤ 31) (hk : k < n) : nI (bitsN f n) ||| (nI 1 <<< (nI k &&& 31)) = nI (bitsN (fun i => f i || i == k) n) := by
  rw [sh1 k (by omega), fa_or]
  congr 1
  refine bitsN_of_tb (Nat.or_lt_two_pow (bitsN_lt f n) (Nat.pow_lt_pow_right (by decide) hk)) (fun i hi => ?_)
  rw [Nat.testBit_or, bitsN_in f hi, Nat.testBit_two_pow]
  by_cases h : k = i
  · simp [h]
  · simp [h]
    intro e
    exact absurd e.symm h
/-- one more bit on top -/
theorem obT (f : Nat → Bool) {k : Nat} (hk : k < 31) (h : f k = true) : nI (bitsN f k) ||| (nI 1 <<< (nI k &&& 31)) = nI (bitsN f (k + 1)) := by
  rw [sh1 k hk, fa_or]
  congr 1
  simp only [bitsN, h, if_true]
  rw [Nat.or_comm, show 2 ^ k = 2 ^ k * 1 by omega, ← Nat.two_pow_add_eq_or_of_lt (bitsN_lt f k) 1]
  omega
theorem obF (f : Nat → Bool) {k : Nat} (h : f k = false) : nI (bitsN f k) = nI (bitsN f (k + 1)) := by
  simp [bitsN, h]
theorem or0 (x : Int32) : x ||| nI 0 = x := by
  apply b_ext
  intro i hi
  rw [b_or]
  have : bt (nI 0) i = false := by unfold bt nI; simp
  rw [this, Bool.or_false]
theorem nb0 (a b : Nat) : nI a &&& (nI b ^^^ (-1)) = nI (a ^^^ (a &&& b)) := by
  rw [← fb_xorI, ← fa_and]
  apply b_ext
  intro i hi
  rw [b_and, b_xor, b_m1 i hi, b_xor, b_and]
  cases bt (nI a) i <;> cases bt (nI b) i <;> rfl
theorem nbB (f : Nat → Bool) {n k : Nat} (hn : n ≤ 31) (hk : k < n) : nI (bitsN f n) &&& ((nI 1 <<< (nI k &&& 31)) ^^^ (-1)) = nI (bitsN (fun i => f i && !(i == k)) n) := by
  rw [sh1 k (by omega), nb0]
  congr 1
  refine bitsN_of_tb (Nat.xor_lt_two_pow (bitsN_lt f n) (Nat.lt_of_le_of_lt Nat.and_le_left (bitsN_lt f n))) (fun i hi => ?_)
  rw [Nat.testBit_xor, Nat.testBit_and, bitsN_in f hi, Nat.testBit_two_pow]
  by_cases h : k = i
  · subst h; cases f k <;> simp
  · simp [h]
    intro _ e
    exact h e.symm
theorem abB (f : Nat → Bool) {n k : Nat} (hn : n ≤ 31) (hk : k < n) : nI (bitsN f n) &&& (nI 1 <<< (nI k &&& 31)) = nI (if f k then 2 ^ k else 0) := by
  rw [sh1 k (by omega), fa_and]
  congr 1
  apply Nat.eq_of_testBit_eq
  intro i
  rw [Nat.testBit_and, bitsN_tb, Nat.testBit_two_pow]
  by_cases h : k = i
  · subst h; cases hf : f k <;> simp [hk, Nat.testBit_two_pow]
  · cases hf : f k <;> simp [h, Nat.testBit_two_pow]
theorem sbB {a : Nat} (f : Nat → Bool) {n : Nat} (hn : n ≤ 31) (ha : a < 2 ^ n) : nI a &&& (nI (bitsN f n) ^^^ (-1)) = 0 ↔ ∀ i, i < n → a.testBit i = true → f i = true := by
  rw [nb0]
  have h31 : a ^^^ (a &&& bitsN f n) < 2 ^ 31 := Nat.lt_of_lt_of_le (Nat.xor_lt_two_pow ha (Nat.lt_of_le_of_lt Nat.and_le_left ha)) (p31 hn)
  rw [show (0 : Int32) = nI 0 from rfl, nI_eq h31 (by decide)]
  constructor
  · intro h i hi ht
    have h1 : (a ^^^ (a &&& bitsN f n)).testBit i = false := by rw [h]; simp
    rw [Nat.testBit_xor, Nat.testBit_and, bitsN_in f hi, ht] at h1
    cases hf : f i
    · rw [hf] at h1; simp at h1
    · rfl
  · intro h
    apply Nat.eq_of_testBit_eq
    intro i
    rw [Nat.testBit_xor, Nat.testBit_and, bitsN_tb]
    by_cases hi : i < n
    · cases ht : a.testBit i
      · simp
      · simp [hi, h i hi ht]
    · rw [Nat.testBit_lt_two_pow (Nat.lt_of_lt_of_le ha (Nat.pow_le_pow_right (by decide) (by omega)))]
      simp
/-- how many -/
def cntN (f : Nat → Bool) : Nat → Nat
  | 0 => 0
  | n + 1 => cntN f n + b2n (f n)
theorem cntN_le (f : Nat → Bool) : ∀ n, cntN f n ≤ n
  | 0 => Nat.le_refl _
  | n + 1 => by have h := cntN_le f n; have := b2n_lt (f n); simp only [cntN]; omega
theorem cntN_cong {f g : Nat → Bool} : ∀ {n : Nat}, (∀ i, i < n → f i = g i) → cntN f n = cntN g n
  | 0, _ => rfl
  | n + 1, h => by
    simp only [cntN]
    rw [cntN_cong (fun i hi => h i (Nat.lt_succ_of_lt hi)), h n (Nat.lt_succ_self n)]
theorem cntN_pos {f : Nat → Bool} : ∀ {n i : Nat}, i < n → f i = true → 0 < cntN f n
  | 0, _, h, _ => absurd h (Nat.not_lt_zero _)
  | n + 1, i, h, hf => by
    simp only [cntN]
    by_cases hi : i = n
    · subst hi; rw [hf, b2n_t]; omega
    · have := cntN_pos (n := n) (i := i) (by omega) hf; omega
def pop (n : Nat) : Nat := cntN n.testBit 8
theorem pop_bits {f : Nat → Bool} {n : Nat} (hn : n ≤ 8) : pop (bitsN f n) = cntN f n := by
  have h : ∀ m, n ≤ m → cntN (bitsN f n).testBit m = cntN f n := by
    intro m hm
    induction m with
    | zero => have : n = 0 := by omega
              subst this; rfl
    | succ m ih =>
      by_cases e : n = m + 1
      · subst e
        exact cntN_cong (fun i hi => bitsN_in f hi)
      · simp only [cntN]
        rw [ih (by omega), bitsN_tb, decide_eq_false (by omega), Bool.false_and, b2n_f]; rfl
  exact h 8 hn
/-- a sum of whole numbers -/
def sumN (f : Nat → Int) : Nat → Int
  | 0 => 0
  | n + 1 => sumN f n + f n
theorem sumN_cong {f g : Nat → Int} : ∀ {n : Nat}, (∀ i, i < n → f i = g i) → sumN f n = sumN g n
  | 0, _ => rfl
  | n + 1, h => by
    simp only [sumN]
    rw [sumN_cong (fun i hi => h i (Nat.lt_succ_of_lt hi)), h n (Nat.lt_succ_self n)]
theorem sumN_bound {f : Nat → Int} {c : Int} : ∀ {n : Nat}, (∀ i, i < n → -c ≤ f i ∧ f i ≤ c) → -(n * c) ≤ sumN f n ∧ sumN f n ≤ n * c
  | 0, _ => by simp [sumN]
  | n + 1, h => by
    have h1 := sumN_bound (n := n) (fun i hi => h i (Nat.lt_succ_of_lt hi))
    have h2 := h n (Nat.lt_succ_self n)
    have e : ((n + 1 : Nat) : Int) * c = n * c + c := by rw [Int.natCast_add, Int.add_mul]; simp
    simp only [sumN]
    rw [e]
    omega
theorem sumN_add (f g : Nat → Int) : ∀ n, sumN (fun i => f i + g i) n = sumN f n + sumN g n
  | 0 => rfl
  | n + 1 => by simp only [sumN]; rw [sumN_add f g n]; omega
/-- an int by its value -/
abbrev zI (z : Int) : Int32 := Int32.ofInt z
theorem zI_nat (n : Nat) : zI (n : Int) = nI n := by
  unfold zI nI
  rfl
theorem zI_to {z : Int} (h1 : -2147483648 ≤ z) (h2 : z < 2147483648) : (zI z).toInt = z := fb_ofI h1 h2
theorem zI_eq {x : Int32} {z : Int} (h : x.toInt = z) : x = zI z := by rw [← h]; exact (fb_asI x).symm
theorem zI_add (a b : Int) : zI a + zI b = zI (a + b) := by
  unfold zI
  exact (Int32.ofInt_add a b).symm
theorem zI_sub (a b : Int) : zI a - zI b = zI (a - b) := by
  unfold zI
  exact (Int32.ofInt_sub a b).symm
theorem zI_mul (a b : Int) : zI a * zI b = zI (a * b) := by
  unfold zI
  exact (Int32.ofInt_mul a b).symm
theorem zI_le {a b : Int} (ha : -2147483648 ≤ a ∧ a < 2147483648) (hb : -2147483648 ≤ b ∧ b < 2147483648) : zI a ≤ zI b ↔ a ≤ b := by rw [fa_le, zI_to ha.1 ha.2, zI_to hb.1 hb.2]
theorem zI_lt {a b : Int} (ha : -2147483648 ≤ a ∧ a < 2147483648) (hb : -2147483648 ≤ b ∧ b < 2147483648) : zI a < zI b ↔ a < b := by rw [fa_lt, zI_to ha.1 ha.2, zI_to hb.1 hb.2]
theorem zI_inj {a b : Int} (ha : -2147483648 ≤ a ∧ a < 2147483648) (hb : -2147483648 ≤ b ∧ b < 2147483648) : zI a = zI b ↔ a = b := by rw [fa_eq, zI_to ha.1 ha.2, zI_to hb.1 hb.2]
theorem zI_div {a b : Int} (ha : -2147483648 < a ∧ a < 2147483648) (hb : -2147483648 ≤ b ∧ b < 2147483648) (h0 : b ≠ 0) : zI a / zI b = zI (a.tdiv b) := by
  apply zI_eq
  rw [Int32.toInt_div, zI_to (by omega) (by omega), zI_to hb.1 hb.2]
  apply fb_bmod
  · have h := Int.natAbs_tdiv_le_natAbs a b; omega
  · have h := Int.natAbs_tdiv_le_natAbs a b; omega
