/-! ERRANDS: the search by depth finds the first order -/
def fsm {α : Type} (h : Nat → Option α) : Nat → Option α
  | 0 => none
  | n + 1 => match fsm h n with
    | some x => some x
    | none => h n
theorem fsm_s {α : Type} (h : Nat → Option α) (n : Nat) : fsm h (n + 1) = match fsm h n with
    | some x => some x
    | none => h n := rfl
theorem fsm_none {α : Type} {h : Nat → Option α} : ∀ {n : Nat}, fsm h n = none → ∀ i, i < n → h i = none
  | 0, _, i, hi => absurd hi (Nat.not_lt_zero _)
  | n + 1, e, i, hi => by
    rw [fsm_s] at e
    cases e1 : fsm h n with
    | some x => rw [e1] at e; cases e
    | none =>
      rw [e1] at e
      by_cases c : i = n
      · rw [c]; exact e
      · exact fsm_none e1 i (by omega)
theorem fsm_some {α : Type} {h : Nat → Option α} {x : α} : ∀ {n : Nat}, fsm h n = some x → ∃ i, i < n ∧ h i = some x ∧ ∀ j, j < i → h j = none
  | 0, e => by cases e
  | n + 1, e => by
    rw [fsm_s] at e
    cases e1 : fsm h n with
    | some y =>
      rw [e1] at e
      cases e
      obtain ⟨i, h1, h2, h3⟩ := fsm_some e1
      exact ⟨i, by omega, h2, h3⟩
    | none =>
      rw [e1] at e
      exact ⟨n, by omega, e, fun j hj => fsm_none e1 j hj⟩
theorem fsm_cong {α : Type} {h g : Nat → Option α} : ∀ {n : Nat}, (∀ i, i < n → h i = g i) → fsm h n = fsm g n
  | 0, _ => rfl
  | n + 1, e => by rw [fsm_s, fsm_s, fsm_cong (fun i hi => e i (by omega)), e n (by omega)]
def dfsL (G : Nat → Nat) : Nat → XT → (Nat → Bool) → Option (List Nat)
  | 0, _, _ => some []
  | n + 1, X, f => fsm (fun p => if (f p && goX X p (G p)) = true then (dfsL G n (arX X p (G p)) (fun i => f i && !(i == p))).map (fun l => p :: l) else none) 6
theorem dfs_s (G : Nat → Nat) (n : Nat) (X : XT) (f : Nat → Bool) : dfsL G (n + 1) X f = fsm (fun p => if (f p && goX X p (G p)) = true then (dfsL G n (arX X p (G p)) (fun i => f i && !(i == p))).map (fun l => p :: l) else none) 6 := rfl
theorem dfs_cong {G : Nat → Nat} : ∀ {n : Nat} {X : XT} {f g : Nat → Bool}, (∀ p, p < 6 → f p = g p) → dfsL G n X f = dfsL G n X g
  | 0, _, _, _, _ => rfl
  | n + 1, X, f, g, h => by
    rw [dfs_s, dfs_s]
    exact fsm_cong (fun p hp => by
      rw [h p hp]
      by_cases c : (g p && goX X p (G p)) = true
      · rw [if_pos c, if_pos c, dfs_cong (g := fun i => g i && !(i == p)) (fun q hq => by rw [h q hq])]
      · rw [if_neg c, if_neg c])
theorem er_cong {X : XT} {P G r q : Nat → Nat} : ∀ {k : Nat}, (∀ j, j < k → r j = q j) → erX X P G r k = erX X P G q k ∧ erB X P G r k = erB X P G q k
  | 0, _ => ⟨rfl, rfl⟩
  | k + 1, h => by
    obtain ⟨h1, h2⟩ := er_cong (X := X) (P := P) (G := G) (k := k) (fun j hj => h j (by omega))
    constructor
    · show arX (erX X P G r k) (P (r k)) (G (r k)) = arX (erX X P G q k) (P (q k)) (G (q k))
      rw [h1, h k (by omega)]
    · show (erB X P G r k && goX (erX X P G r k) (P (r k)) (G (r k))) = (erB X P G q k && goX (erX X P G q k) (P (q k)) (G (q k)))
      rw [h1, h2, h k (by omega)]
theorem erB_f {X : XT} {P G r : Nat → Nat} {k : Nat} (h : erB X P G r k = false) : ∀ c, erB X P G r (k + c) = false
  | 0 => h
  | c + 1 => by
    show (erB X P G r (k + c) && _) = false
    rw [erB_f h c]; rfl
/-! how many numbers a row has -/
def imB (r : Nat → Nat) (n d : Nat) : Bool := anyN (fun k => r k == d) n
theorem imB_s (r : Nat → Nat) (n d : Nat) : imB r (n + 1) d = (imB r n d || r n == d) := rfl
theorem cnt_or1 {f : Nat → Bool} {v : Nat} (h : f v = false) : ∀ {e : Nat}, v < e → cntN (fun d => f d || v == d) e = cntN f e + 1
  | 0, hv => absurd hv (Nat.not_lt_zero _)
  | e + 1, hv => by
    rw [cntN_s, cntN_s]
    by_cases c : v = e
    · subst c
      have h1 : cntN (fun d => f d || v == d) v = cntN f v := cntN_cong (fun i hi => by
        have : (v == i) = false := by simp; omega
        rw [this, Bool.or_false])
      rw [h1, h]
      simp [b2n]
    · have h2 := cnt_or1 h (e := e) (by omega)
      have : (v == e) = false := by simp; exact c
      rw [this, Bool.or_false, h2]
      omega
theorem cnt_or0 {f : Nat → Bool} {v : Nat} (h : f v = true) (e : Nat) : cntN (fun d => f d || v == d) e = cntN f e := cntN_cong (fun i _ => by
  by_cases c : v = i
  · rw [← c, h]; rfl
  · have : (v == i) = false := by simp; exact c
    rw [this, Bool.or_false])
theorem im_le (r : Nat → Nat) (e : Nat) : ∀ n, cntN (imB r n) e ≤ n
  | 0 => by
    have : cntN (imB r 0) e = 0 := by
      have h : ∀ m, cntN (imB r 0) m = 0 := by
        intro m
        induction m with
        | zero => rfl
        | succ m ih => rw [cntN_s, ih]; rfl
      exact h e
    omega
  | n + 1 => by
    have ih := im_le r e n
    have h1 : cntN (imB r (n + 1)) e = cntN (fun d => imB r n d || r n == d) e := rfl
    rw [h1]
    cases c : imB r n (r n) with
    | true => rw [cnt_or0 c]; omega
    | false =>
      by_cases d : r n < e
      · rw [cnt_or1 c d]; omega
      · have : cntN (fun d => imB r n d || r n == d) e = cntN (imB r n) e := cntN_cong (fun i hi => by
          have : (r n == i) = false := by simp; omega
          rw [this, Bool.or_false])
        omega
theorem im_inj {r : Nat → Nat} {e : Nat} : ∀ {n : Nat}, (∀ k, k < n → r k < e) → (∀ k, k < n → imB r k (r k) = false) → cntN (imB r n) e = n
  | 0, _, _ => by have := im_le r e 0; omega
  | n + 1, h1, h2 => by
    have ih := im_inj (n := n) (fun k hk => h1 k (by omega)) (fun k hk => h2 k (by omega))
    have h3 : cntN (imB r (n + 1)) e = cntN (fun d => imB r n d || r n == d) e := rfl
    rw [h3, cnt_or1 (h2 n (by omega)) (h1 n (by omega)), ih]
theorem cnt_full {f : Nat → Bool} : ∀ {e : Nat}, cntN f e = e → ∀ d, d < e → f d = true
  | 0, _, d, hd => absurd hd (Nat.not_lt_zero _)
  | e + 1, h, d, hd => by
    rw [cntN_s] at h
    have h1 := cntN_le f e
    have h2 : b2n (f e) ≤ 1 := by have := b2n_lt (f e); omega
    by_cases c : d = e
    · rw [c]
      cases e1 : f e with
      | true => rfl
      | false => rw [e1, b2n_f] at h; omega
    · exact cnt_full (e := e) (by omega) d (by omega)
theorem cnt_all {f : Nat → Bool} : ∀ {e : Nat}, (∀ d, d < e → f d = true) → cntN f e = e
  | 0, _ => rfl
  | e + 1, h => by rw [cntN_s, cnt_all (fun d hd => h d (by omega)), h e (by omega), b2n_t]
theorem im_dup {r : Nat → Nat} {e : Nat} {k : Nat} (h : imB r k (r k) = true) : ∀ c, cntN (imB r (k + 1 + c)) e + 1 ≤ k + 1 + c
  | 0 => by
    have h1 := im_le r e k
    have h3 : cntN (imB r (k + 1)) e = cntN (fun d => imB r k d || r k == d) e := rfl
    rw [Nat.add_zero, h3, cnt_or0 h]; omega
  | c + 1 => by
    have ih := im_dup (e := e) h c
    have h3 : cntN (imB r (k + 1 + (c + 1))) e = cntN (fun d => imB r (k + 1 + c) d || r (k + 1 + c) == d) e := rfl
    rw [h3]
    cases q : imB r (k + 1 + c) (r (k + 1 + c)) with
    | true => rw [cnt_or0 q]; omega
    | false =>
      by_cases d : r (k + 1 + c) < e
      · rw [cnt_or1 q d]; omega
      · have : cntN (fun d => imB r (k + 1 + c) d || r (k + 1 + c) == d) e = cntN (imB r (k + 1 + c)) e := cntN_cong (fun i hi => by
          have : (r (k + 1 + c) == i) = false := by simp; omega
          rw [this, Bool.or_false])
        omega
theorem pm_im (e n : Nat) : pmN e n = true ↔ ∀ d, d < e → imB (rwN e n) e d = true := by
  unfold pmN
  rw [Bool.not_eq_true']
  constructor
  · intro h d hd
    cases q : imB (rwN e n) e d with
    | true => rfl
    | false =>
      have : anyN (fun d => !anyN (fun k => rwN e n k == d) e) e = true := (anyN_iff _ e).mpr ⟨d, hd, by rw [show anyN (fun k => rwN e n k == d) e = false from q]; rfl⟩
      rw [h] at this; cases this
  · intro h
    cases q : anyN (fun d => !anyN (fun k => rwN e n k == d) e) e with
    | false => rfl
    | true =>
      obtain ⟨d, hd, h2⟩ := (anyN_iff _ e).mp q
      rw [show anyN (fun k => rwN e n k == d) e = true from h d hd] at h2; cases h2
/-- digits of a number with a given beginning -/
theorem dg_hi {e L pre s k K : Nat} (hs : s < e ^ L) (hK : K + L = e) (hk : k < K) : rwN e (pre * e ^ L + s) k = pre / e ^ (K - 1 - k) % e := by
  unfold rwN
  rw [show e - 1 - k = L + (K - 1 - k) by omega, Nat.pow_add, ← Nat.div_div_eq_div_mul]
  have hp : 0 < e ^ L := by omega
  rw [Nat.mul_comm pre, Nat.add_comm, Nat.add_mul_div_left _ _ hp, Nat.div_eq_of_lt hs, Nat.zero_add]
theorem dg_at {e L pre d s K : Nat} (hs : s < e ^ L) (hd : d < e) (hK : K + 1 + L = e) : rwN e ((pre * e + d) * e ^ L + s) K = d := by
  rw [dg_hi hs hK (by omega), show K + 1 - 1 - K = 0 by omega, Nat.pow_zero, Nat.div_one, Nat.mul_comm, Nat.mul_add_mod, Nat.mod_eq_of_lt hd]
theorem dg_lo {e L pre d s K k : Nat} (hs : s < e ^ L) (hd : d < e) (hK : K + 1 + L = e) (hk : k < K) : rwN e ((pre * e + d) * e ^ L + s) k = pre / e ^ (K - 1 - k) % e := by
  rw [dg_hi hs hK (by omega), show K + 1 - 1 - k = 1 + (K - 1 - k) by omega, Nat.pow_add, Nat.pow_one, ← Nat.div_div_eq_div_mul]
  rw [Nat.mul_comm pre, Nat.add_comm, Nat.add_mul_div_left _ _ (by omega), Nat.div_eq_of_lt hd, Nat.zero_add]
theorem nth_lt {a i j : Nat} (h : i < j) (hj : j < ecN a) : nthS a i < nthS a j := by
  obtain ⟨h1, h2, h3⟩ := nth_spec (show i < ecN a by omega)
  obtain ⟨g1, g2, g3⟩ := nth_spec hj
  apply Classical.byContradiction
  intro c
  have := cnt_mono a.testBit (show nthS a j ≤ nthS a i by omega)
  omega
theorem nth_inj {a i j : Nat} (hi : i < ecN a) (hj : j < ecN a) (h : nthS a i = nthS a j) : i = j := by
  rcases Nat.lt_trichotomy i j with c | c | c
  · have := nth_lt c hj; omega
  · exact c
  · have := nth_lt c hi; omega
/-- the goals of PEOPLE -/
def glP (a g p : Nat) : Nat := glN g (ecN a) (cntN a.testBit p)
theorem glP_nth {a g d : Nat} (hd : d < ecN a) : glP a g (nthS a d) = glN g (ecN a) d := by unfold glP; rw [(nth_spec hd).2.2]
/-- who is left behind a row -/
def lfB (a : Nat) (r : Nat → Nat) (K p : Nat) : Bool := a.testBit p && !anyN (fun k => nthS a (r k) == p) K
theorem lf_nth {a d K : Nat} {r : Nat → Nat} (hd : d < ecN a) (hr : ∀ k, k < K → r k < ecN a) : lfB a r K (nthS a d) = !imB r K d := by
  unfold lfB imB
  rw [(nth_spec hd).2.1, Bool.true_and]
  congr 1
  exact anyN_cong (fun k hk => by
    by_cases c : r k = d
    · simp [c]
    · have : ¬ nthS a (r k) = nthS a d := fun q => c (nth_inj (hr k hk) hd q)
      have h1 : (nthS a (r k) == nthS a d) = false := by rw [beq_eq_false_iff_ne]; exact this
      have h2 : (r k == d) = false := by rw [beq_eq_false_iff_ne]; exact c
      show (nthS a (r k) == nthS a d) = (r k == d)
      rw [h1, h2])
theorem lf_upd {a d K : Nat} {r : Nat → Nat} (p : Nat) : lfB a (updN r K d) (K + 1) p = (lfB a r K p && !(p == nthS a d)) := by
  unfold lfB
  rw [anyN_s]
  have e1 : anyN (fun k => nthS a (updN r K d k) == p) K = anyN (fun k => nthS a (r k) == p) K := anyN_cong (fun k hk => by
    show (nthS a (if k = K then d else r k) == p) = _
    rw [if_neg (by omega)])
  have e2 : nthS a (updN r K d K) = nthS a d := by show nthS a (if K = K then d else r K) = _; rw [if_pos rfl]
  rw [e1, e2, Bool.not_or, ← Bool.and_assoc, BEq.comm (a := nthS a d)]
/-- what the search says of all numbers with a beginning -/
def dfR (X : XT) (a g e L K pre : Nat) (o : Option (List Nat)) : Prop := match o with
  | none => ∀ s, s < e ^ L → erOK X a g (pre * e ^ L + s) = false
  | some l => l.length = L ∧ ∃ s0, s0 < e ^ L ∧ erOK X a g (pre * e ^ L + s0) = true ∧ (∀ s, s < s0 → erOK X a g (pre * e ^ L + s) = false) ∧ ∀ i, i < L → l[i]? = some (nthS a (rwN e (pre * e ^ L + s0) (K + i)))
theorem dfs_rel {X : XT} {a g : Nat} : ∀ (L K pre : Nat) (r : Nat → Nat), K + L = ecN a → (∀ s, s < ecN a ^ L → ∀ k, k < K → rwN (ecN a) (pre * ecN a ^ L + s) k = r k) → (∀ k, k < K → r k < ecN a) → (∀ k, k < K → imB r k (r k) = false) → erB X (nthS a) (glN g (ecN a)) r K = true → dfR X a g (ecN a) L K pre (dfsL (glP a g) L (erX X (nthS a) (glN g (ecN a)) r K) (lfB a r K))
  | 0, K, pre, r, hK, hd, hr, hi, hB => by
    show _ ∧ _
    refine ⟨rfl, 0, by rw [Nat.pow_zero]; exact Nat.one_pos, ?_, fun s hs => absurd hs (Nat.not_lt_zero s), fun i hi => absurd hi (Nat.not_lt_zero i)⟩
    have hd0 := hd 0 (by rw [Nat.pow_zero]; exact Nat.one_pos)
    have hKe : K = ecN a := by omega
    subst hKe
    rw [Nat.pow_zero, Nat.mul_one, Nat.add_zero] at hd0 ⊢
    unfold erOK
    rw [(er_cong (q := r) (fun j hj => hd0 j hj)).2, hB, Bool.and_true, pm_im]
    intro d hd1
    have h1 := cnt_full (im_inj hr hi) d hd1
    have h2 : imB (rwN (ecN a) pre) (ecN a) d = imB r (ecN a) d := anyN_cong (fun k hk => by rw [hd0 k hk])
    rw [h2]; exact h1
  | L + 1, K, pre, r, hK, hd, hr, hi, hB => by
    have he : 0 < ecN a := by omega
    have hpe : ecN a ^ (L + 1) = ecN a * ecN a ^ L := by rw [Nat.pow_succ, Nat.mul_comm]
    have hp0 : 0 < ecN a ^ L := Nat.pow_pos he
    have hr0 : ∀ k, k < K → pre / ecN a ^ (K - 1 - k) % ecN a = r k := fun k hk => by
      rw [← hd 0 (Nat.pow_pos he) k hk, dg_hi (Nat.pow_pos he) hK hk]
    have hnum : ∀ d s, pre * ecN a ^ (L + 1) + (d * ecN a ^ L + s) = (pre * ecN a + d) * ecN a ^ L + s := fun d s => by
      rw [hpe, Nat.add_mul, Nat.mul_assoc, Nat.add_assoc]
    -- one digit more
    have hdig : ∀ d, d < ecN a → ∀ s, s < ecN a ^ L → ∀ k, k < K + 1 → rwN (ecN a) ((pre * ecN a + d) * ecN a ^ L + s) k = updN r K d k := by
      intro d hd1 s hs k hk
      by_cases c : k = K
      · rw [c, dg_at hs hd1 (by omega)]; show d = if K = K then d else r K; rw [if_pos rfl]
      · rw [dg_lo (K := K) hs hd1 (by omega) (by omega), hr0 k (by omega)]; show r k = if k = K then d else r k; rw [if_neg c]
    have hup : ∀ d j, j < K → updN r K d j = r j := fun d j hj => if_neg (by omega)
    have hupK : ∀ d, updN r K d K = d := fun d => if_pos rfl
    have key : ∀ d, d < ecN a → dfR X a g (ecN a) L (K + 1) (pre * ecN a + d) ((if (lfB a r K (nthS a d) && goX (erX X (nthS a) (glN g (ecN a)) r K) (nthS a d) (glP a g (nthS a d))) = true then dfsL (glP a g) L (arX (erX X (nthS a) (glN g (ecN a)) r K) (nthS a d) (glP a g (nthS a d))) (fun i => lfB a r K i && !(i == nthS a d)) else none)) := by
      intro d hd1
      have hcX := er_cong (X := X) (P := nthS a) (G := glN g (ecN a)) (k := K) (hup d)
      by_cases c : (lfB a r K (nthS a d) && goX (erX X (nthS a) (glN g (ecN a)) r K) (nthS a d) (glP a g (nthS a d))) = true
      · rw [if_pos c]
        rw [Bool.and_eq_true] at c
        have hnew : imB r K d = false := by
          have := c.1
          rw [lf_nth hd1 hr] at this
          cases q : imB r K d with
          | false => rfl
          | true => rw [q] at this; cases this
        have ih := dfs_rel (X := X) (a := a) (g := g) L (K + 1) (pre * ecN a + d) (updN r K d) (by omega) (hdig d hd1) (fun k hk => by
            by_cases q : k = K
            · rw [q, hupK]; exact hd1
            · rw [hup d k (by omega)]; exact hr k (by omega)) (fun k hk => by
            have e1 : imB (updN r K d) k (updN r K d k) = imB r k (updN r K d k) := anyN_cong (fun j hj => by rw [hup d j (by omega)])
            rw [e1]
            by_cases q : k = K
            · rw [q, hupK]; exact hnew
            · rw [hup d k (by omega)]; exact hi k (by omega)) (by
            show (erB X (nthS a) (glN g (ecN a)) (updN r K d) K && goX (erX X (nthS a) (glN g (ecN a)) (updN r K d) K) (nthS a (updN r K d K)) (glN g (ecN a) (updN r K d K))) = true
            rw [hcX.1, hcX.2, hB, hupK, Bool.true_and, ← glP_nth (g := g) hd1]; exact c.2)
        have e2 : erX X (nthS a) (glN g (ecN a)) (updN r K d) (K + 1) = arX (erX X (nthS a) (glN g (ecN a)) r K) (nthS a d) (glP a g (nthS a d)) := by
          show arX (erX X (nthS a) (glN g (ecN a)) (updN r K d) K) (nthS a (updN r K d K)) (glN g (ecN a) (updN r K d K)) = _
          rw [hcX.1, hupK, glP_nth hd1]
        rw [e2, dfs_cong (g := fun i => lfB a r K i && !(i == nthS a d)) (fun p _ => lf_upd p)] at ih
        exact ih
      · rw [if_neg c]
        intro s hs
        have hrw := hdig d hd1 s hs
        cases q : imB r K d with
        | true =>
          -- the digit is there already
          have hno : pmN (ecN a) ((pre * ecN a + d) * ecN a ^ L + s) = false := by
            cases e1 : pmN (ecN a) ((pre * ecN a + d) * ecN a ^ L + s) with
            | false => rfl
            | true =>
              have h1 := cnt_all ((pm_im _ _).mp e1)
              have h2 := im_dup (r := rwN (ecN a) ((pre * ecN a + d) * ecN a ^ L + s)) (e := ecN a) (k := K) (by
                rw [hrw K (by omega), hupK]
                have e3 : imB (rwN (ecN a) ((pre * ecN a + d) * ecN a ^ L + s)) K d = imB r K d := anyN_cong (fun j hj => by rw [hrw j (by omega), hup d j hj])
                rw [e3]; exact q) L
              rw [show K + 1 + L = ecN a by omega] at h2
              omega
          unfold erOK; rw [hno]; rfl
        | false =>
          have hgo : goX (erX X (nthS a) (glN g (ecN a)) r K) (nthS a d) (glP a g (nthS a d)) = false := by
            rw [lf_nth hd1 hr, q] at c
            cases e1 : goX (erX X (nthS a) (glN g (ecN a)) r K) (nthS a d) (glP a g (nthS a d)) with
            | false => rfl
            | true => rw [e1] at c; exact absurd rfl c
          have hb1 : erB X (nthS a) (glN g (ecN a)) (updN r K d) (K + 1) = false := by
            show (_ && goX (erX X (nthS a) (glN g (ecN a)) (updN r K d) K) (nthS a (updN r K d K)) (glN g (ecN a) (updN r K d K))) = false
            rw [hcX.1, hupK, ← glP_nth (g := g) hd1, hgo, Bool.and_false]
          rw [← (er_cong (fun j hj => hrw j hj)).2] at hb1
          have hb2 := erB_f hb1 L
          rw [show K + 1 + L = ecN a by omega] at hb2
          unfold erOK; rw [hb2, Bool.and_false]
    -- the digits together
    rw [dfs_s]
    generalize hh : (fun p => if (lfB a r K p && goX (erX X (nthS a) (glN g (ecN a)) r K) p (glP a g p)) = true then (dfsL (glP a g) L (arX (erX X (nthS a) (glN g (ecN a)) r K) p (glP a g p)) (fun i => lfB a r K i && !(i == p))).map (fun l => p :: l) else none) = h
    have hnone : ∀ d, d < ecN a → h (nthS a d) = none → ∀ s, s < ecN a ^ L → erOK X a g (pre * ecN a ^ (L + 1) + (d * ecN a ^ L + s)) = false := by
      intro d hd1 hn s hs
      have k1 := key d hd1
      rw [← hh] at hn
      simp only at hn
      rw [hnum]
      by_cases c : (lfB a r K (nthS a d) && goX (erX X (nthS a) (glN g (ecN a)) r K) (nthS a d) (glP a g (nthS a d))) = true
      · rw [if_pos c] at hn k1
        cases e1 : dfsL (glP a g) L (arX (erX X (nthS a) (glN g (ecN a)) r K) (nthS a d) (glP a g (nthS a d))) (fun i => lfB a r K i && !(i == nthS a d)) with
        | some l => rw [e1] at hn; cases hn
        | none => rw [e1] at k1; exact k1 s hs
      · rw [if_neg c] at k1; exact k1 s hs
    have hsplit : ∀ s, s < ecN a ^ (L + 1) → s / ecN a ^ L < ecN a ∧ s = s / ecN a ^ L * ecN a ^ L + s % ecN a ^ L ∧ s % ecN a ^ L < ecN a ^ L := fun s hs => by
      refine ⟨by rw [Nat.div_lt_iff_lt_mul hp0, ← hpe]; exact hs, ?_, Nat.mod_lt _ hp0⟩
      have := Nat.div_add_mod s (ecN a ^ L)
      rw [Nat.mul_comm] at this; exact this.symm
    cases ef : fsm h 6 with
    | none =>
      intro s hs
      obtain ⟨h1, h2, h3⟩ := hsplit s hs
      rw [h2]
      exact hnone _ h1 (fsm_none ef _ (nth_spec h1).1) _ h3
    | some l =>
      obtain ⟨p, hp6, hp, hq⟩ := fsm_some ef
      have hp' := hp
      rw [← hh] at hp'
      simp only at hp'
      by_cases c : (lfB a r K p && goX (erX X (nthS a) (glN g (ecN a)) r K) p (glP a g p)) = true
      · have htb : a.testBit p = true := by
          rw [Bool.and_eq_true] at c
          have := c.1
          unfold lfB at this
          rw [Bool.and_eq_true] at this; exact this.1
        have hd1 : cntN a.testBit p < ecN a := cnt_in hp6 htb
        have hpd : nthS a (cntN a.testBit p) = p := nth_cnt hp6 htb
        generalize cntN a.testBit p = d at hd1 hpd
        subst hpd
        have k1 := key d hd1
        rw [if_pos c] at hp' k1
        cases e1 : dfsL (glP a g) L (arX (erX X (nthS a) (glN g (ecN a)) r K) (nthS a d) (glP a g (nthS a d))) (fun i => lfB a r K i && !(i == nthS a d)) with
        | none => rw [e1] at hp'; cases hp'
        | some l1 =>
          rw [e1] at hp' k1
          have hl : l = nthS a d :: l1 := by
            have : some (nthS a d :: l1) = some l := hp'
            exact (Option.some.inj this).symm
          obtain ⟨g1, s1, g2, g3, g4, g5⟩ := k1
          subst hl
          have hlt : d * ecN a ^ L + s1 < ecN a ^ (L + 1) := by
            rw [hpe]
            have : (d + 1) * ecN a ^ L ≤ ecN a * ecN a ^ L := Nat.mul_le_mul_right _ hd1
            rw [Nat.add_mul, Nat.one_mul] at this
            omega
          refine ⟨by rw [List.length_cons, g1], d * ecN a ^ L + s1, hlt, by rw [hnum]; exact g3, fun s hs => ?_, fun i hi2 => ?_⟩
          · obtain ⟨h1, h2, h3⟩ := hsplit s (by omega)
            by_cases c2 : s / ecN a ^ L = d
            · rw [h2, c2, hnum]
              exact g4 _ (by rw [h2, c2] at hs; omega)
            · have h4 : s / ecN a ^ L < d := by
                have h5 : s / ecN a ^ L < d + 1 := by
                  rw [Nat.div_lt_iff_lt_mul hp0, Nat.add_mul, Nat.one_mul]; omega
                omega
              rw [h2]
              exact hnone _ h1 (hq _ (nth_lt h4 hd1)) _ h3
          · rw [hnum]
            cases i with
            | zero => rw [Nat.add_zero, dg_at g2 hd1 (by omega)]; rfl
            | succ i =>
              show l1[i]? = _
              rw [g5 i (by omega), show K + 1 + i = K + (i + 1) by omega]
      · rw [if_neg c] at hp'; cases hp'
/-- the class's answer is the reference's -/
theorem dfs_main {X : XT} {a g : Nat} : (dfsL (glP a g) (ecN a) X a.testBit = none → ¬ erF X a g < ecN a ^ ecN a) ∧ (∀ l, dfsL (glP a g) (ecN a) X a.testBit = some l → l.length = ecN a ∧ erF X a g < ecN a ^ ecN a ∧ ∀ i, i < ecN a → l[i]? = some (nthS a (rwN (ecN a) (erF X a g) i))) := by
  have h := dfs_rel (X := X) (a := a) (g := g) (ecN a) 0 0 (fun _ => 0) (by omega) (fun s _ k hk => absurd hk (Nat.not_lt_zero k)) (fun k hk => absurd hk (Nat.not_lt_zero k)) (fun k hk => absurd hk (Nat.not_lt_zero k)) rfl
  have e : dfsL (glP a g) (ecN a) (erX X (nthS a) (glN g (ecN a)) (fun _ => 0) 0) (lfB a (fun _ => 0) 0) = dfsL (glP a g) (ecN a) X a.testBit := dfs_cong (fun p _ => by unfold lfB; simp [anyN])
  rw [e] at h
  refine ⟨fun hn => ?_, fun l hl => ?_⟩
  · rw [hn] at h
    have : erF X a g = ecN a ^ ecN a := firstN_none (fun s hs => by have := h s hs; rw [Nat.zero_mul, Nat.zero_add] at this; exact this)
    omega
  · rw [hl] at h
    obtain ⟨h1, s0, h2, h3, h4, h5⟩ := h
    rw [Nat.zero_mul, Nat.zero_add] at h3 h5
    have e2 : erF X a g = s0 := firstN_is h2 h3 (fun s hs => by have := h4 s hs; rw [Nat.zero_mul, Nat.zero_add] at this; exact this)
    rw [e2]
    exact ⟨h1, h2, fun i hi => by have := h5 i hi; rw [Nat.zero_add] at this; exact this⟩
