/-! ERRANDS -/
def nthS (a j : Nat) : Nat := firstN (fun p => a.testBit p && cntN a.testBit p == j) 6
def ecN (a : Nat) : Nat := cntN a.testBit 6
def glN (g e j : Nat) : Nat := g / 10 ^ (e - 1 - j) % 10
def rwN (e n k : Nat) : Nat := n / e ^ (e - 1 - k) % e
def pmN (e n : Nat) : Bool := !anyN (fun d => !anyN (fun k => rwN e n k == d) e) e
/-- a PERSON has come and told all who are there -/
def arX (X : XT) (p g : Nat) : XT := xs_kn (xs_pl X (updN (x_pl X) p g)) (fun q k => x_kn X q k || (x_th X q && decide (updN (x_pl X) p g q = g) && x_kn X p k))
def goX (X : XT) (p g : Nat) : Bool := wyX X (buX X p) (x_pl X p) g
def erX (X : XT) (P G r : Nat → Nat) : Nat → XT
  | 0 => X
  | k + 1 => arX (erX X P G r k) (P (r k)) (G (r k))
def erB (X : XT) (P G r : Nat → Nat) : Nat → Bool
  | 0 => true
  | k + 1 => erB X P G r k && goX (erX X P G r k) (P (r k)) (G (r k))
def erOK (X : XT) (a g n : Nat) : Bool := pmN (ecN a) n && erB X (nthS a) (glN g (ecN a)) (rwN (ecN a) n) (ecN a)
def glB (sz g e c : Nat) : Bool := !anyN (fun j => decide (c ≤ j) && !decide (glN g e j < sz)) e
def glI (X : XT) (a : Nat) (x : Int32) : Bool := decide (ix (10 ^ ecN a) x < 10 ^ ecN a) && glB (x_sz X) (ix (10 ^ ecN a) x) (ecN a) 0
def erF (X : XT) (a g : Nat) : Nat := firstN (erOK X a g) (ecN a ^ ecN a)
def erN (X : XT) (a g : Nat) (i : Int32) : Int32 := if erF X a g < ecN a ^ ecN a then (if ix (ecN a) i < ecN a then nI (nthS a (rwN (ecN a) (erF X a g) (ix (ecN a) i))) else -6) else -6
def errandsR (X : XT) (x y i : Int32) : Int32 := if inN 0 63 x && subB (x_th X) (ix 64 x) && glI X (ix 64 x) y then erN X (ix 64 x) (ix (10 ^ ecN (ix 64 x)) y) i else -2
theorem ec_le (a : Nat) : ecN a ≤ 6 := cntN_le _ 6
theorem cnt_mono (f : Nat → Bool) {i j : Nat} (h : i ≤ j) : cntN f i ≤ cntN f j := by
  obtain ⟨c, rfl⟩ := Nat.exists_eq_add_of_le h
  rw [cntN_app]; exact Nat.le_add_right _ _
theorem cnt_in {f : Nat → Bool} {p n : Nat} (hp : p < n) (h : f p = true) : cntN f p < cntN f n := by
  have h1 := cnt_mono f (show p + 1 ≤ n by omega)
  rw [cntN_s, h, b2n_t] at h1
  omega
theorem cnt_inj {f : Nat → Bool} {p q : Nat} (hp : f p = true) (hq : f q = true) (h : cntN f p = cntN f q) : p = q := by
  rcases Nat.lt_trichotomy p q with c | c | c
  · have := cnt_in c hp; omega
  · exact c
  · have := cnt_in c hq; omega
theorem nth_cnt {a p : Nat} (hp : p < 6) (h : a.testBit p = true) : nthS a (cntN a.testBit p) = p := by
  refine firstN_is hp (by simp [h]) (fun j hj => ?_)
  cases e : a.testBit j with
  | false => simp
  | true =>
    have := cnt_in hj e
    simp; omega
theorem nth_ex {f : Nat → Bool} {j : Nat} : ∀ {n : Nat}, j < cntN f n → ∃ p, p < n ∧ f p = true ∧ cntN f p = j
  | 0, h => absurd h (Nat.not_lt_zero _)
  | n + 1, h => by
    rw [cntN_s] at h
    by_cases c : j < cntN f n
    · obtain ⟨p, h1, h2, h3⟩ := nth_ex c
      exact ⟨p, by omega, h2, h3⟩
    · cases e : f n with
      | false => rw [e, b2n_f] at h; omega
      | true => rw [e, b2n_t] at h; exact ⟨n, by omega, e, by omega⟩
theorem nth_spec {a j : Nat} (h : j < ecN a) : nthS a j < 6 ∧ a.testBit (nthS a j) = true ∧ cntN a.testBit (nthS a j) = j := by
  obtain ⟨p, h1, h2, h3⟩ := nth_ex (f := a.testBit) (n := 6) h
  have e := nth_cnt h1 h2
  rw [h3] at e
  rw [e]; exact ⟨h1, h2, h3⟩
theorem pop_ec {a : Nat} (h : a < 64) : pop a = ecN a := by
  show cntN a.testBit 6 + b2n (a.testBit 6) + b2n (a.testBit 7) = cntN a.testBit 6
  rw [Nat.testBit_lt_two_pow (show a < 2 ^ 6 from h), Nat.testBit_lt_two_pow (show a < 2 ^ 7 by omega)]
  rfl
/-! goesErrand -/
def arP (X : XT) (p g n : Nat) : XT := xs_kn (xs_pl X (updN (x_pl X) p g)) (fun q k => if q < n then x_kn X q k || (x_th X q && decide (updN (x_pl X) p g q = g) && x_kn X p k) else x_kn X q k)
theorem arP_pl (X : XT) (p g n : Nat) : x_pl (arP X p g n) = updN (x_pl X) p g := by unfold arP; rw [x_pl_kn, x_pl_pl]
theorem arP_th (X : XT) (p g n : Nat) : x_th (arP X p g n) = x_th X := by unfold arP; rw [x_th_kn, x_th_pl]
theorem arP_at (X : XT) (p g n : Nat) : x_kn (arP X p g n) n = x_kn X n := by unfold arP; rw [x_kn_kn]; funext i; simp
theorem arP_p (X : XT) (p g n : Nat) : x_kn (arP X p g n) p = x_kn X p := by
  unfold arP; rw [x_kn_kn]; funext i
  by_cases c : p < n
  · simp only [c, if_true]; cases x_kn X p i <;> simp
  · simp [c]
theorem arP_0 {σ : St} {X : XT} {p g : Nat} (h : rpM σ (xs_pl X (updN (x_pl X) p g))) : rpM σ (arP X p g 0) := by
  refine rpM_cong h (by simp only [arP, x_sz_kn, x_sz_pl]) (by simp only [arP, x_br_kn, x_br_pl]) (by simp only [arP, x_th_kn, x_th_pl]) (by simp only [arP, x_pu_kn, x_pu_pl]) (by simp only [arP, x_fa_kn, x_fa_pl]) (by simp only [arP, x_sg_kn, x_sg_pl]) (fun i hi => by simp only [arP, x_lo_kn, x_lo_pl, x_hi_kn, x_hi_pl, x_ld_kn, x_ld_pl, x_bn_kn, x_bn_pl, x_wt_kn, x_wt_pl, x_ab_kn, x_ab_pl, and_self]) (fun i hi => by simp only [arP, x_pl_kn, x_pl_pl, x_ki_kn, x_ki_pl, x_sb_kn, x_sb_pl, x_sv_kn, x_sv_pl, and_self]) (fun i hi _ j hj => by simp only [arP, x_kn_kn, Nat.not_lt_zero, if_false, x_kn_pl])
theorem arP_6 {σ : St} {X : XT} {p g : Nat} (h : rpM σ (arP X p g 6)) : rpM σ (arX X p g) := by
  refine rpM_cong h (by simp only [arP, arX, x_sz_kn, x_sz_pl]) (by simp only [arP, arX, x_br_kn, x_br_pl]) (by simp only [arP, arX, x_th_kn, x_th_pl]) (by simp only [arP, arX, x_pu_kn, x_pu_pl]) (by simp only [arP, arX, x_fa_kn, x_fa_pl]) (by simp only [arP, arX, x_sg_kn, x_sg_pl]) (fun i hi => by simp only [arP, arX, x_lo_kn, x_lo_pl, x_hi_kn, x_hi_pl, x_ld_kn, x_ld_pl, x_bn_kn, x_bn_pl, x_wt_kn, x_wt_pl, x_ab_kn, x_ab_pl, and_self]) (fun i hi => by simp only [arP, arX, x_pl_kn, x_pl_pl, x_ki_kn, x_ki_pl, x_sb_kn, x_sb_pl, x_sv_kn, x_sv_pl, and_self]) (fun i hi _ j hj => by simp only [arP, arX, x_kn_kn, hi, if_true])
theorem arP_t {X : XT} {p g q : Nat} (h1 : x_th X q = true) (h2 : updN (x_pl X) p g q = g) : xs_kn (arP X p g q) (updF (x_kn (arP X p g q)) q (fun i => x_kn X q i || x_kn X p i)) = arP X p g (q + 1) := by
  refine x_ext (by simp only [arP, x_sz_kn, x_sz_pl]) (by simp only [arP, x_br_kn, x_br_pl]) (by simp only [arP, x_lo_kn, x_lo_pl]) (by simp only [arP, x_hi_kn, x_hi_pl]) (by simp only [arP, x_ld_kn, x_ld_pl]) (by simp only [arP, x_bn_kn, x_bn_pl]) (by simp only [arP, x_th_kn, x_th_pl]) (by simp only [arP, x_pl_kn, x_pl_pl]) (by simp only [arP, x_ki_kn, x_ki_pl]) ?_ (by simp only [arP, x_wt_kn, x_wt_pl]) (by simp only [arP, x_ab_kn, x_ab_pl]) (by simp only [arP, x_pu_kn, x_pu_pl]) (by simp only [arP, x_fa_kn, x_fa_pl]) (by simp only [arP, x_sg_kn, x_sg_pl]) (by simp only [arP, x_sb_kn, x_sb_pl]) (by simp only [arP, x_sv_kn, x_sv_pl])
  funext r i
  simp only [arP, x_kn_kn, updF]
  by_cases e : r = q
  · subst e
    simp [h1, h2]
  · by_cases e2 : r < q
    · simp [e, e2, Nat.lt_succ_of_lt e2]
    · simp [e, e2, show ¬ r < q + 1 by omega]
theorem arP_f {X : XT} {p g q : Nat} (h : x_th X q = false ∨ ¬ updN (x_pl X) p g q = g) : arP X p g q = arP X p g (q + 1) := by
  refine x_ext (by simp only [arP, x_sz_kn, x_sz_pl]) (by simp only [arP, x_br_kn, x_br_pl]) (by simp only [arP, x_lo_kn, x_lo_pl]) (by simp only [arP, x_hi_kn, x_hi_pl]) (by simp only [arP, x_ld_kn, x_ld_pl]) (by simp only [arP, x_bn_kn, x_bn_pl]) (by simp only [arP, x_th_kn, x_th_pl]) (by simp only [arP, x_pl_kn, x_pl_pl]) (by simp only [arP, x_ki_kn, x_ki_pl]) ?_ (by simp only [arP, x_wt_kn, x_wt_pl]) (by simp only [arP, x_ab_kn, x_ab_pl]) (by simp only [arP, x_pu_kn, x_pu_pl]) (by simp only [arP, x_fa_kn, x_fa_pl]) (by simp only [arP, x_sg_kn, x_sg_pl]) (by simp only [arP, x_sb_kn, x_sb_pl]) (by simp only [arP, x_sv_kn, x_sv_pl])
  funext r i
  simp only [arP, x_kn_kn]
  by_cases e : r = q
  · subst e
    rcases h with h | h <;> simp [h]
  · by_cases e2 : r < q
    · simp [e2, Nat.lt_succ_of_lt e2]
    · simp [e2, show ¬ r < q + 1 by omega]
theorem ok_ar {X : XT} (ho : okX X) {p g : Nat} (hp : p < 6) (ht : x_th X p = true) (hg : g < x_sz X) : okX (arX X p g) := by
  have hs := ok_sz ho
  unfold arX
  obtain ⟨h0, h1, h2, h3, h4, h5, h6, h7, h8, h9⟩ := ho
  simp only [okX, x_sz_kn, x_sz_pl, x_br_kn, x_br_pl, x_lo_kn, x_lo_pl, x_hi_kn, x_hi_pl, x_ld_kn, x_ld_pl, x_bn_kn, x_bn_pl, x_th_kn, x_th_pl, x_pl_kn, x_pl_pl, x_ki_kn, x_ki_pl, x_kn_kn, x_kn_pl, x_wt_kn, x_wt_pl, x_ab_kn, x_ab_pl, x_pu_kn, x_pu_pl, x_fa_kn, x_fa_pl, x_sg_kn, x_sg_pl, x_sb_kn, x_sb_pl, x_sv_kn, x_sv_pl]
  refine ⟨h0, h1, h2, fun q hq => ?_, fun q hq hq2 => ?_, fun q hq hq2 k => ?_, h6, h7, h8, h9⟩
  · simp only [updN]
    split
    · exact ⟨by omega, (h3 q hq).2⟩
    · exact h3 q hq
  · simp only [updN]
    split
    · exact hg
    · exact h4 q hq hq2
  · rw [h5 q hq hq2 k, hq2]; rfl
theorem sme_ar (X : XT) (p g : Nat) : smeX (arX X p g) X := sme_trans (sme_kn _ _) (sme_pl _ _)
