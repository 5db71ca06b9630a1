theorem x_ext {X Y : XT} (h0 : x_sz X = x_sz Y) (h1 : x_br X = x_br Y) (h2 : x_lo X = x_lo Y) (h3 : x_hi X = x_hi Y) (h4 : x_ld X = x_ld Y) (h5 : x_bn X = x_bn Y) (h6 : x_th X = x_th Y) (h7 : x_pl X = x_pl Y) (h8 : x_ki X = x_ki Y) (h9 : x_kn X = x_kn Y) (h10 : x_wt X = x_wt Y) (h11 : x_ab X = x_ab Y) (h12 : x_pu X = x_pu Y) (h13 : x_fa X = x_fa Y) (h14 : x_sg X = x_sg Y) (h15 : x_sb X = x_sb Y) (h16 : x_sv X = x_sv Y) : X = Y := by
  have e : ∀ Z : XT, Z = (x_sz Z, x_br Z, x_lo Z, x_hi Z, x_ld Z, x_bn Z, x_th Z, x_pl Z, x_ki Z, x_kn Z, x_wt Z, x_ab Z, x_pu Z, x_fa Z, x_sg Z, x_sb Z, x_sv Z) := fun _ => rfl
  rw [e X, e Y, h0, h1, h2, h3, h4, h5, h6, h7, h8, h9, h10, h11, h12, h13, h14, h15, h16]
theorem rpM_cong {σ : St} {X Y : XT} (h : rpM σ X) (h0 : x_sz Y = x_sz X) (h1 : x_br Y = x_br X) (h2 : x_th Y = x_th X) (h3 : x_pu Y = x_pu X) (h4 : x_fa Y = x_fa X) (h5 : x_sg Y = x_sg X) (h6 : ∀ i, i < 8 → x_lo Y i = x_lo X i ∧ x_hi Y i = x_hi X i ∧ x_ld Y i = x_ld X i ∧ x_bn Y i = x_bn X i ∧ x_wt Y i = x_wt X i ∧ x_ab Y i = x_ab X i) (h7 : ∀ i, i < 6 → x_pl Y i = x_pl X i ∧ x_ki Y i = x_ki X i ∧ x_sb Y i = x_sb X i ∧ x_sv Y i = x_sv X i) (h8 : ∀ i, i < 6 → x_th Y i = true → ∀ k, k < 8 → x_kn Y i k = x_kn X i k) : rpM σ Y := by
  refine ⟨?_, ?_, ?_, ?_, ?_, ?_, fun i hi => ?_, fun i hi => ?_, fun i hi => ?_, fun i hi => ?_, fun i hi => ?_, fun i hi => ?_, fun i hi ht => ?_, fun i hi => ?_, fun i hi => ?_, fun i hi => ?_, fun i hi => ?_⟩
  · rw [h0]; exact rpM_sz h
  · rw [h1]; exact rpM_br h
  · rw [h2]; exact rpM_th h
  · rw [h3]; exact rpM_pu h
  · rw [h4]; exact rpM_fa h
  · rw [h5]; exact rpM_sg h
  · rw [(h6 i hi).1]; exact rpM_lo h hi
  · rw [(h6 i hi).2.1]; exact rpM_hi h hi
  · rw [(h6 i hi).2.2.1]; exact rpM_ld h hi
  · rw [(h6 i hi).2.2.2.1]; exact rpM_bn h hi
  · rw [(h7 i hi).1]; exact rpM_pl h hi
  · rw [(h7 i hi).2.1]; exact rpM_ki h hi
  · rw [bitsN_cong (h8 i hi ht)]; exact rpM_kn h hi (by rw [← h2]; exact ht)
  · rw [(h6 i hi).2.2.2.2.1]; exact rpM_wt h hi
  · rw [(h6 i hi).2.2.2.2.2]; exact rpM_ab h hi
  · rw [(h7 i hi).2.2.1]; exact rpM_sb h hi
  · rw [(h7 i hi).2.2.2]; exact rpM_sv h hi
def updF {α : Type} (f : Nat → α) (k : Nat) (v : α) : Nat → α := fun j => if j = k then v else f j
theorem rpM_ssz {σ : St} {X : XT} (h : rpM σ X) (f : Nat) : rpM (setI σ 33 0 (nI f)) (xs_sz X f) := ⟨rfl, h.2.1, h.2.2.1, h.2.2.2.1, h.2.2.2.2.1, h.2.2.2.2.2.1, h.2.2.2.2.2.2.1, h.2.2.2.2.2.2.2.1, h.2.2.2.2.2.2.2.2.1, h.2.2.2.2.2.2.2.2.2.1, h.2.2.2.2.2.2.2.2.2.2.1, h.2.2.2.2.2.2.2.2.2.2.2.1, h.2.2.2.2.2.2.2.2.2.2.2.2.1, h.2.2.2.2.2.2.2.2.2.2.2.2.2.1, h.2.2.2.2.2.2.2.2.2.2.2.2.2.2.1, h.2.2.2.2.2.2.2.2.2.2.2.2.2.2.2.1, h.2.2.2.2.2.2.2.2.2.2.2.2.2.2.2.2⟩
theorem rpM_sbr {σ : St} {X : XT} (h : rpM σ X) (f : Nat → Bool) : rpM (setI σ 33 1 (nI (bitsN f 8))) (xs_br X f) := ⟨h.1, rfl, h.2.2.1, h.2.2.2.1, h.2.2.2.2.1, h.2.2.2.2.2.1, h.2.2.2.2.2.2.1, h.2.2.2.2.2.2.2.1, h.2.2.2.2.2.2.2.2.1, h.2.2.2.2.2.2.2.2.2.1, h.2.2.2.2.2.2.2.2.2.2.1, h.2.2.2.2.2.2.2.2.2.2.2.1, h.2.2.2.2.2.2.2.2.2.2.2.2.1, h.2.2.2.2.2.2.2.2.2.2.2.2.2.1, h.2.2.2.2.2.2.2.2.2.2.2.2.2.2.1, h.2.2.2.2.2.2.2.2.2.2.2.2.2.2.2.1, h.2.2.2.2.2.2.2.2.2.2.2.2.2.2.2.2⟩
theorem rpM_sbr0 {σ : St} {X : XT} (h : rpM σ X) : rpM (setI σ 33 1 (nI 0)) (xs_br X (fun _ => false)) := rpM_sbr h (fun _ => false)
theorem rpM_sth {σ : St} {X : XT} (h : rpM σ X) (f : Nat → Bool) (hf : ∀ i, i < 6 → f i = true → x_th X i = true ∨ sA σ 40 i = nI (bitsN (x_kn X i) 8)) : rpM (setI σ 33 2 (nI (bitsN f 6))) (xs_th X f) := by
  refine ⟨h.1, h.2.1, rfl, h.2.2.2.1, h.2.2.2.2.1, h.2.2.2.2.2.1, h.2.2.2.2.2.2.1, h.2.2.2.2.2.2.2.1, h.2.2.2.2.2.2.2.2.1, h.2.2.2.2.2.2.2.2.2.1, h.2.2.2.2.2.2.2.2.2.2.1, h.2.2.2.2.2.2.2.2.2.2.2.1, ?_, h.2.2.2.2.2.2.2.2.2.2.2.2.2.1, h.2.2.2.2.2.2.2.2.2.2.2.2.2.2.1, h.2.2.2.2.2.2.2.2.2.2.2.2.2.2.2.1, h.2.2.2.2.2.2.2.2.2.2.2.2.2.2.2.2⟩
  intro i hi ht
  rcases hf i hi ht with h1 | h1
  · exact h.2.2.2.2.2.2.2.2.2.2.2.2.1 i hi h1
  · exact h1
theorem rpM_sth0 {σ : St} {X : XT} (h : rpM σ X) : rpM (setI σ 33 2 (nI 0)) (xs_th X (fun _ => false)) := rpM_sth h (fun _ => false) (fun _ _ h => by cases h)
theorem rpM_spu0 {σ : St} {X : XT} (h : rpM σ X) : rpM (setI σ 33 3 (nI 0)) (xs_pu X (fun _ => false)) := rpM_spu h (fun _ => false)
theorem rpM_sfa {σ : St} {X : XT} (h : rpM σ X) (f : Nat) : rpM (setI σ 33 13 (nI f)) (xs_fa X f) := ⟨h.1, h.2.1, h.2.2.1, h.2.2.2.1, rfl, h.2.2.2.2.2.1, h.2.2.2.2.2.2.1, h.2.2.2.2.2.2.2.1, h.2.2.2.2.2.2.2.2.1, h.2.2.2.2.2.2.2.2.2.1, h.2.2.2.2.2.2.2.2.2.2.1, h.2.2.2.2.2.2.2.2.2.2.2.1, h.2.2.2.2.2.2.2.2.2.2.2.2.1, h.2.2.2.2.2.2.2.2.2.2.2.2.2.1, h.2.2.2.2.2.2.2.2.2.2.2.2.2.2.1, h.2.2.2.2.2.2.2.2.2.2.2.2.2.2.2.1, h.2.2.2.2.2.2.2.2.2.2.2.2.2.2.2.2⟩
theorem rpM_ssg {σ : St} {X : XT} (h : rpM σ X) (f : Nat) : rpM (setI σ 33 16 (nI f)) (xs_sg X f) := ⟨h.1, h.2.1, h.2.2.1, h.2.2.2.1, h.2.2.2.2.1, rfl, h.2.2.2.2.2.2.1, h.2.2.2.2.2.2.2.1, h.2.2.2.2.2.2.2.2.1, h.2.2.2.2.2.2.2.2.2.1, h.2.2.2.2.2.2.2.2.2.2.1, h.2.2.2.2.2.2.2.2.2.2.2.1, h.2.2.2.2.2.2.2.2.2.2.2.2.1, h.2.2.2.2.2.2.2.2.2.2.2.2.2.1, h.2.2.2.2.2.2.2.2.2.2.2.2.2.2.1, h.2.2.2.2.2.2.2.2.2.2.2.2.2.2.2.1, h.2.2.2.2.2.2.2.2.2.2.2.2.2.2.2.2⟩
theorem rpM_slo {σ : St} {X : XT} (h : rpM σ X) (k v : Nat) : rpM (setA σ 34 (upd (sA σ 34) k (nI v))) (xs_lo X (updN (x_lo X) k v)) := by
  refine ⟨h.1, h.2.1, h.2.2.1, h.2.2.2.1, h.2.2.2.2.1, h.2.2.2.2.2.1, ?_, h.2.2.2.2.2.2.2.1, h.2.2.2.2.2.2.2.2.1, h.2.2.2.2.2.2.2.2.2.1, h.2.2.2.2.2.2.2.2.2.2.1, h.2.2.2.2.2.2.2.2.2.2.2.1, h.2.2.2.2.2.2.2.2.2.2.2.2.1, h.2.2.2.2.2.2.2.2.2.2.2.2.2.1, h.2.2.2.2.2.2.2.2.2.2.2.2.2.2.1, h.2.2.2.2.2.2.2.2.2.2.2.2.2.2.2.1, h.2.2.2.2.2.2.2.2.2.2.2.2.2.2.2.2⟩
  exact upd_nI (n := 8) h.2.2.2.2.2.2.1
theorem rpM_shi {σ : St} {X : XT} (h : rpM σ X) (k v : Nat) : rpM (setA σ 35 (upd (sA σ 35) k (nI v))) (xs_hi X (updN (x_hi X) k v)) := by
  refine ⟨h.1, h.2.1, h.2.2.1, h.2.2.2.1, h.2.2.2.2.1, h.2.2.2.2.2.1, h.2.2.2.2.2.2.1, ?_, h.2.2.2.2.2.2.2.2.1, h.2.2.2.2.2.2.2.2.2.1, h.2.2.2.2.2.2.2.2.2.2.1, h.2.2.2.2.2.2.2.2.2.2.2.1, h.2.2.2.2.2.2.2.2.2.2.2.2.1, h.2.2.2.2.2.2.2.2.2.2.2.2.2.1, h.2.2.2.2.2.2.2.2.2.2.2.2.2.2.1, h.2.2.2.2.2.2.2.2.2.2.2.2.2.2.2.1, h.2.2.2.2.2.2.2.2.2.2.2.2.2.2.2.2⟩
  exact upd_nI (n := 8) h.2.2.2.2.2.2.2.1
theorem rpM_sld {σ : St} {X : XT} (h : rpM σ X) (k v : Nat) : rpM (setA σ 36 (upd (sA σ 36) k (nI v))) (xs_ld X (updN (x_ld X) k v)) := by
  refine ⟨h.1, h.2.1, h.2.2.1, h.2.2.2.1, h.2.2.2.2.1, h.2.2.2.2.2.1, h.2.2.2.2.2.2.1, h.2.2.2.2.2.2.2.1, ?_, h.2.2.2.2.2.2.2.2.2.1, h.2.2.2.2.2.2.2.2.2.2.1, h.2.2.2.2.2.2.2.2.2.2.2.1, h.2.2.2.2.2.2.2.2.2.2.2.2.1, h.2.2.2.2.2.2.2.2.2.2.2.2.2.1, h.2.2.2.2.2.2.2.2.2.2.2.2.2.2.1, h.2.2.2.2.2.2.2.2.2.2.2.2.2.2.2.1, h.2.2.2.2.2.2.2.2.2.2.2.2.2.2.2.2⟩
  exact upd_nI (n := 8) h.2.2.2.2.2.2.2.2.1
theorem rpM_sbn {σ : St} {X : XT} (h : rpM σ X) (k v : Nat) : rpM (setA σ 37 (upd (sA σ 37) k (nI v))) (xs_bn X (updN (x_bn X) k v)) := by
  refine ⟨h.1, h.2.1, h.2.2.1, h.2.2.2.1, h.2.2.2.2.1, h.2.2.2.2.2.1, h.2.2.2.2.2.2.1, h.2.2.2.2.2.2.2.1, h.2.2.2.2.2.2.2.2.1, ?_, h.2.2.2.2.2.2.2.2.2.2.1, h.2.2.2.2.2.2.2.2.2.2.2.1, h.2.2.2.2.2.2.2.2.2.2.2.2.1, h.2.2.2.2.2.2.2.2.2.2.2.2.2.1, h.2.2.2.2.2.2.2.2.2.2.2.2.2.2.1, h.2.2.2.2.2.2.2.2.2.2.2.2.2.2.2.1, h.2.2.2.2.2.2.2.2.2.2.2.2.2.2.2.2⟩
  exact upd_nI (n := 8) h.2.2.2.2.2.2.2.2.2.1
theorem rpM_spl {σ : St} {X : XT} (h : rpM σ X) (k v : Nat) : rpM (setA σ 38 (upd (sA σ 38) k (nI v))) (xs_pl X (updN (x_pl X) k v)) := by
  refine ⟨h.1, h.2.1, h.2.2.1, h.2.2.2.1, h.2.2.2.2.1, h.2.2.2.2.2.1, h.2.2.2.2.2.2.1, h.2.2.2.2.2.2.2.1, h.2.2.2.2.2.2.2.2.1, h.2.2.2.2.2.2.2.2.2.1, ?_, h.2.2.2.2.2.2.2.2.2.2.2.1, h.2.2.2.2.2.2.2.2.2.2.2.2.1, h.2.2.2.2.2.2.2.2.2.2.2.2.2.1, h.2.2.2.2.2.2.2.2.2.2.2.2.2.2.1, h.2.2.2.2.2.2.2.2.2.2.2.2.2.2.2.1, h.2.2.2.2.2.2.2.2.2.2.2.2.2.2.2.2⟩
  exact upd_nI (n := 6) h.2.2.2.2.2.2.2.2.2.2.1
theorem rpM_ski {σ : St} {X : XT} (h : rpM σ X) (k v : Nat) : rpM (setA σ 39 (upd (sA σ 39) k (nI v))) (xs_ki X (updN (x_ki X) k v)) := by
  refine ⟨h.1, h.2.1, h.2.2.1, h.2.2.2.1, h.2.2.2.2.1, h.2.2.2.2.2.1, h.2.2.2.2.2.2.1, h.2.2.2.2.2.2.2.1, h.2.2.2.2.2.2.2.2.1, h.2.2.2.2.2.2.2.2.2.1, h.2.2.2.2.2.2.2.2.2.2.1, ?_, h.2.2.2.2.2.2.2.2.2.2.2.2.1, h.2.2.2.2.2.2.2.2.2.2.2.2.2.1, h.2.2.2.2.2.2.2.2.2.2.2.2.2.2.1, h.2.2.2.2.2.2.2.2.2.2.2.2.2.2.2.1, h.2.2.2.2.2.2.2.2.2.2.2.2.2.2.2.2⟩
  exact upd_nI (n := 6) h.2.2.2.2.2.2.2.2.2.2.2.1
theorem rpM_skn {σ : St} {X : XT} (h : rpM σ X) (p : Nat) (f : Nat → Bool) : rpM (setA σ 40 (upd (sA σ 40) p (nI (bitsN f 8)))) (xs_kn X (updF (x_kn X) p f)) := by
  refine ⟨h.1, h.2.1, h.2.2.1, h.2.2.2.1, h.2.2.2.2.1, h.2.2.2.2.2.1, h.2.2.2.2.2.2.1, h.2.2.2.2.2.2.2.1, h.2.2.2.2.2.2.2.2.1, h.2.2.2.2.2.2.2.2.2.1, h.2.2.2.2.2.2.2.2.2.2.1, h.2.2.2.2.2.2.2.2.2.2.2.1, ?_, h.2.2.2.2.2.2.2.2.2.2.2.2.2.1, h.2.2.2.2.2.2.2.2.2.2.2.2.2.2.1, h.2.2.2.2.2.2.2.2.2.2.2.2.2.2.2.1, h.2.2.2.2.2.2.2.2.2.2.2.2.2.2.2.2⟩
  intro i hi ht
  show (if i = p then _ else _) = nI (bitsN (if i = p then _ else _) 8)
  by_cases e : i = p
  · rw [if_pos e, if_pos e]
  · rw [if_neg e, if_neg e]; exact h.2.2.2.2.2.2.2.2.2.2.2.2.1 i hi ht
theorem rpM_skn0 {σ : St} {X : XT} (h : rpM σ X) (p : Nat) : rpM (setA σ 40 (upd (sA σ 40) p (nI 0))) (xs_kn X (updF (x_kn X) p (fun _ => false))) := rpM_skn h p (fun _ => false)
theorem rpM_swt {σ : St} {X : XT} (h : rpM σ X) (k : Nat) (v : Int) : rpM (setA σ 41 (upd (sA σ 41) k (zI v))) (xs_wt X (updF (x_wt X) k v)) := by
  refine ⟨h.1, h.2.1, h.2.2.1, h.2.2.2.1, h.2.2.2.2.1, h.2.2.2.2.2.1, h.2.2.2.2.2.2.1, h.2.2.2.2.2.2.2.1, h.2.2.2.2.2.2.2.2.1, h.2.2.2.2.2.2.2.2.2.1, h.2.2.2.2.2.2.2.2.2.2.1, h.2.2.2.2.2.2.2.2.2.2.2.1, h.2.2.2.2.2.2.2.2.2.2.2.2.1, ?_, h.2.2.2.2.2.2.2.2.2.2.2.2.2.2.1, h.2.2.2.2.2.2.2.2.2.2.2.2.2.2.2.1, h.2.2.2.2.2.2.2.2.2.2.2.2.2.2.2.2⟩
  intro i hi
  show (if i = k then _ else _) = zI (if i = k then _ else _)
  by_cases e : i = k
  · rw [if_pos e, if_pos e]
  · rw [if_neg e, if_neg e]; exact h.2.2.2.2.2.2.2.2.2.2.2.2.2.1 i hi
theorem rpM_swtn {σ : St} {X : XT} (h : rpM σ X) (k v : Nat) : rpM (setA σ 41 (upd (sA σ 41) k (nI v))) (xs_wt X (updF (x_wt X) k (v : Int))) := by rw [nI_zI]; exact rpM_swt h k v
theorem rpM_sab {σ : St} {X : XT} (h : rpM σ X) (k v : Nat) : rpM (setA σ 42 (upd (sA σ 42) k (nI v))) (xs_ab X (updN (x_ab X) k v)) := by
  refine ⟨h.1, h.2.1, h.2.2.1, h.2.2.2.1, h.2.2.2.2.1, h.2.2.2.2.2.1, h.2.2.2.2.2.2.1, h.2.2.2.2.2.2.2.1, h.2.2.2.2.2.2.2.2.1, h.2.2.2.2.2.2.2.2.2.1, h.2.2.2.2.2.2.2.2.2.2.1, h.2.2.2.2.2.2.2.2.2.2.2.1, h.2.2.2.2.2.2.2.2.2.2.2.2.1, h.2.2.2.2.2.2.2.2.2.2.2.2.2.1, ?_, h.2.2.2.2.2.2.2.2.2.2.2.2.2.2.2.1, h.2.2.2.2.2.2.2.2.2.2.2.2.2.2.2.2⟩
  exact upd_nI (n := 8) h.2.2.2.2.2.2.2.2.2.2.2.2.2.2.1
theorem rpM_ssb {σ : St} {X : XT} (h : rpM σ X) (k v : Nat) : rpM (setA σ 43 (upd (sA σ 43) k (nI v))) (xs_sb X (updN (x_sb X) k v)) := by
  refine ⟨h.1, h.2.1, h.2.2.1, h.2.2.2.1, h.2.2.2.2.1, h.2.2.2.2.2.1, h.2.2.2.2.2.2.1, h.2.2.2.2.2.2.2.1, h.2.2.2.2.2.2.2.2.1, h.2.2.2.2.2.2.2.2.2.1, h.2.2.2.2.2.2.2.2.2.2.1, h.2.2.2.2.2.2.2.2.2.2.2.1, h.2.2.2.2.2.2.2.2.2.2.2.2.1, h.2.2.2.2.2.2.2.2.2.2.2.2.2.1, h.2.2.2.2.2.2.2.2.2.2.2.2.2.2.1, ?_, h.2.2.2.2.2.2.2.2.2.2.2.2.2.2.2.2⟩
  exact upd_nI (n := 6) h.2.2.2.2.2.2.2.2.2.2.2.2.2.2.2.1
theorem rpM_ssv {σ : St} {X : XT} (h : rpM σ X) (k v : Nat) : rpM (setA σ 44 (upd (sA σ 44) k (nI v))) (xs_sv X (updN (x_sv X) k v)) := by
  refine ⟨h.1, h.2.1, h.2.2.1, h.2.2.2.1, h.2.2.2.2.1, h.2.2.2.2.2.1, h.2.2.2.2.2.2.1, h.2.2.2.2.2.2.2.1, h.2.2.2.2.2.2.2.2.1, h.2.2.2.2.2.2.2.2.2.1, h.2.2.2.2.2.2.2.2.2.2.1, h.2.2.2.2.2.2.2.2.2.2.2.1, h.2.2.2.2.2.2.2.2.2.2.2.2.1, h.2.2.2.2.2.2.2.2.2.2.2.2.2.1, h.2.2.2.2.2.2.2.2.2.2.2.2.2.2.1, h.2.2.2.2.2.2.2.2.2.2.2.2.2.2.2.1, ?_⟩
  exact upd_nI (n := 6) h.2.2.2.2.2.2.2.2.2.2.2.2.2.2.2.2
/-! the town behind a call -/
def tX_br (X : XT) (b t u v : Nat) : XT := xs_br (xs_bn (xs_ld (xs_hi (xs_lo X (updN (x_lo X) b (if t < u then t else u))) (updN (x_hi X) b (if t < u then u else t))) (updN (x_ld X) b v)) (updN (x_bn X) b 0)) (fun i => x_br X i || i == b)
def tX_fall (X : XT) (b : Nat) : XT := xs_br X (fun i => x_br X i && !(i == b))
def tX_pers (X : XT) (p t k : Nat) : XT := xs_th (xs_kn (xs_ki (xs_pl X (updN (x_pl X) p t)) (updN (x_ki X) p k)) (updF (x_kn X) p (fun _ => false))) (fun i => x_th X i || i == p)
def tX_leave (X : XT) (p : Nat) : XT := xs_kn (xs_th X (fun i => x_th X i && !(i == p))) (updF (x_kn X) p (fun _ => false))
def tX_news (X : XT) (k : Nat) (w : Int) (a : Nat) : XT := xs_pu (xs_ab (xs_wt X (updF (x_wt X) k w)) (updN (x_ab X) k a)) (fun i => x_pu X i && !(i == k))
def tX_learn (X : XT) (p k : Nat) (c : Bool) : XT := xs_kn X (updF (x_kn X) p (if c then (fun i => x_kn X p i || i == k) else (fun i => x_kn X p i && !(i == k))))
def tX_seen (X : XT) (b v : Nat) : XT := xs_sg (xs_sv (xs_sb X (updN (x_sb X) (x_sg X) b)) (updN (x_sv X) (x_sg X) v)) (x_sg X + 1)
def tX_beg (X : XT) (n : Nat) : XT := xs_kn (xs_ab (xs_wt (xs_sg (xs_pu (xs_th (xs_br (xs_sz X n) (fun _ => false)) (fun _ => false)) (fun _ => false)) 0) (fun _ => 0)) (fun _ => 3)) (fun _ _ => false)
abbrev RX : Type := Int32 × XT
def terracesO (X : XT) (x : Int32) : RX := if inN 2 6 x then (nI (x_sz X), tX_beg X (ix 7 x)) else (-2, X)
def bridgeO (X : XT) (w x y v : Int32) : RX := if inN 0 7 w && teI X x && teI X y && !(decide (x = y)) then (if inN 0 99 v then (nI (pop (bitsN (fun i => x_br X i || i == ix 8 w) 8)), tX_br X (ix 8 w) (ix (x_sz X) x) (ix (x_sz X) y) (ix 100 v)) else (-2, X)) else (-1, X)
def fallO (X : XT) (x : Int32) : RX := if brI X x then (nI (pop (bitsN (fun i => x_br X i && !(i == ix 8 x)) 8)), tX_fall X (ix 8 x)) else (-1, X)
def personO (X : XT) (x y z : Int32) : RX := if inN 0 5 x && teI X y then (if inN 0 2 z then (nI (pop (bitsN (fun i => x_th X i || i == ix 6 x) 6)), tX_pers X (ix 6 x) (ix (x_sz X) y) (ix 3 z)) else (-2, X)) else (-1, X)
def leaveO (X : XT) (x : Int32) : RX := if thI X x then (nI (pop (bitsN (fun i => x_th X i && !(i == ix 6 x)) 6)), tX_leave X (ix 6 x)) else (-1, X)
def newsO (X : XT) (x y z : Int32) : RX := if nwI x then (if inI (-20) 99 y && inN 0 3 z then (zI (x_wt X (ix 8 x) + 1000), tX_news X (ix 8 x) y.toInt (ix 4 z)) else (-2, X)) else (-1, X)
def learnO (X : XT) (x y : Int32) (c : Bool) : RX := if thI X x && nwI y then (nI (bitsN (if c then (fun i => x_kn X (ix 6 x) i || i == ix 8 y) else (fun i => x_kn X (ix 6 x) i && !(i == ix 8 y))) 8), tX_learn X (ix 6 x) (ix 8 y) c) else (-1, X)
def fadeO (X : XT) (x : Int32) : RX := if inN 0 9 x then (nI (x_fa X), xs_fa X (ix 10 x)) else (-2, X)
def seenO (X : XT) (x y : Int32) : RX := if inN 0 7 x then (if inN 0 999 y then (if x_sg X = 6 then (-4, X) else (nI (x_sg X + 1), tX_seen X (ix 8 x) (ix 1000 y))) else (-2, X)) else (-1, X)
def forgetO (X : XT) : RX := (nI (x_sg X), xs_sg X 0)
theorem qo {O : RX} {r : Int32} {X' : XT} {P : St → Prop} {Q : Option Value → va_W → Prop} {D : gE} {L : Nat → Nat} {σ' : St} (e : O = (r, X')) (h : ∀ σ', P σ' → rpM σ' O.2 → Q (some (.int O.1)) (wsOf D L σ')) (hp : P σ') (hX : rpM σ' X') : Q (some (.int r)) (wsOf D L σ') := by
  subst e; exact h σ' hp hX
def bgX (X : XT) (n k : Nat) : XT := xs_ab (xs_wt (xs_sg (xs_pu (xs_th (xs_br (xs_sz X n) (fun _ => false)) (fun _ => false)) (fun _ => false)) 0) (fun i => if i < k then 0 else x_wt X i)) (fun i => if i < k then 3 else x_ab X i)
theorem bg_step (X : XT) (n k : Nat) : xs_ab (xs_wt (bgX X n k) (updF (x_wt (bgX X n k)) k ((0 : Nat) : Int))) (updN (x_ab (bgX X n k)) k 3) = bgX X n (k + 1) := by
  have e1 : updF (x_wt (bgX X n k)) k ((0 : Nat) : Int) = fun i => if i < k + 1 then 0 else x_wt X i := by
    funext i
    simp only [updF, bgX, x_wt_ab, x_wt_wt]
    by_cases h : i = k
    · simp [h]
    · by_cases h2 : i < k
      · simp [h, h2, Nat.lt_succ_of_lt h2]
      · simp [h, h2, show ¬ i < k + 1 by omega]
  have e2 : updN (x_ab (bgX X n k)) k 3 = fun i => if i < k + 1 then 3 else x_ab X i := by
    funext i
    simp only [updN, bgX, x_ab_ab]
    by_cases h : i = k
    · simp [h]
    · by_cases h2 : i < k
      · simp [h, h2, Nat.lt_succ_of_lt h2]
      · simp [h, h2, show ¬ i < k + 1 by omega]
  exact x_ext (by simp only [bgX, x_sz_sz, x_sz_br, x_sz_th, x_sz_pu, x_sz_sg, x_sz_wt, x_sz_ab]) (by simp only [bgX, x_br_sz, x_br_br, x_br_th, x_br_pu, x_br_sg, x_br_wt, x_br_ab]) (by simp only [bgX, x_lo_sz, x_lo_br, x_lo_th, x_lo_pu, x_lo_sg, x_lo_wt, x_lo_ab]) (by simp only [bgX, x_hi_sz, x_hi_br, x_hi_th, x_hi_pu, x_hi_sg, x_hi_wt, x_hi_ab]) (by simp only [bgX, x_ld_sz, x_ld_br, x_ld_th, x_ld_pu, x_ld_sg, x_ld_wt, x_ld_ab]) (by simp only [bgX, x_bn_sz, x_bn_br, x_bn_th, x_bn_pu, x_bn_sg, x_bn_wt, x_bn_ab]) (by simp only [bgX, x_th_sz, x_th_br, x_th_th, x_th_pu, x_th_sg, x_th_wt, x_th_ab]) (by simp only [bgX, x_pl_sz, x_pl_br, x_pl_th, x_pl_pu, x_pl_sg, x_pl_wt, x_pl_ab]) (by simp only [bgX, x_ki_sz, x_ki_br, x_ki_th, x_ki_pu, x_ki_sg, x_ki_wt, x_ki_ab]) (by simp only [bgX, x_kn_sz, x_kn_br, x_kn_th, x_kn_pu, x_kn_sg, x_kn_wt, x_kn_ab]) (by simp only [x_wt_ab, x_wt_wt]; rw [e1]; simp only [bgX, x_wt_ab, x_wt_wt]) (by simp only [x_ab_ab]; rw [e2]; simp only [bgX, x_ab_ab]) (by simp only [bgX, x_pu_sz, x_pu_br, x_pu_th, x_pu_pu, x_pu_sg, x_pu_wt, x_pu_ab]) (by simp only [bgX, x_fa_sz, x_fa_br, x_fa_th, x_fa_pu, x_fa_sg, x_fa_wt, x_fa_ab]) (by simp only [bgX, x_sg_sz, x_sg_br, x_sg_th, x_sg_pu, x_sg_sg, x_sg_wt, x_sg_ab]) (by simp only [bgX, x_sb_sz, x_sb_br, x_sb_th, x_sb_pu, x_sb_sg, x_sb_wt, x_sb_ab]) (by simp only [bgX, x_sv_sz, x_sv_br, x_sv_th, x_sv_pu, x_sv_sg, x_sv_wt, x_sv_ab])
theorem bg_0 (X : XT) (n : Nat) : xs_sg (xs_pu (xs_th (xs_br (xs_sz X n) (fun _ => false)) (fun _ => false)) (fun _ => false)) 0 = bgX X n 0 := by
  refine x_ext (by simp only [bgX, x_sz_sz, x_sz_br, x_sz_th, x_sz_pu, x_sz_sg, x_sz_wt, x_sz_ab]) (by simp only [bgX, x_br_sz, x_br_br, x_br_th, x_br_pu, x_br_sg, x_br_wt, x_br_ab]) (by simp only [bgX, x_lo_sz, x_lo_br, x_lo_th, x_lo_pu, x_lo_sg, x_lo_wt, x_lo_ab]) (by simp only [bgX, x_hi_sz, x_hi_br, x_hi_th, x_hi_pu, x_hi_sg, x_hi_wt, x_hi_ab]) (by simp only [bgX, x_ld_sz, x_ld_br, x_ld_th, x_ld_pu, x_ld_sg, x_ld_wt, x_ld_ab]) (by simp only [bgX, x_bn_sz, x_bn_br, x_bn_th, x_bn_pu, x_bn_sg, x_bn_wt, x_bn_ab]) (by simp only [bgX, x_th_sz, x_th_br, x_th_th, x_th_pu, x_th_sg, x_th_wt, x_th_ab]) (by simp only [bgX, x_pl_sz, x_pl_br, x_pl_th, x_pl_pu, x_pl_sg, x_pl_wt, x_pl_ab]) (by simp only [bgX, x_ki_sz, x_ki_br, x_ki_th, x_ki_pu, x_ki_sg, x_ki_wt, x_ki_ab]) (by simp only [bgX, x_kn_sz, x_kn_br, x_kn_th, x_kn_pu, x_kn_sg, x_kn_wt, x_kn_ab]) ?_ ?_ (by simp only [bgX, x_pu_sz, x_pu_br, x_pu_th, x_pu_pu, x_pu_sg, x_pu_wt, x_pu_ab]) (by simp only [bgX, x_fa_sz, x_fa_br, x_fa_th, x_fa_pu, x_fa_sg, x_fa_wt, x_fa_ab]) (by simp only [bgX, x_sg_sz, x_sg_br, x_sg_th, x_sg_pu, x_sg_sg, x_sg_wt, x_sg_ab]) (by simp only [bgX, x_sb_sz, x_sb_br, x_sb_th, x_sb_pu, x_sb_sg, x_sb_wt, x_sb_ab]) (by simp only [bgX, x_sv_sz, x_sv_br, x_sv_th, x_sv_pu, x_sv_sg, x_sv_wt, x_sv_ab])
  · funext i; simp only [bgX, x_wt_sg, x_wt_pu, x_wt_th, x_wt_br, x_wt_sz, x_wt_wt, x_wt_ab]; simp
  · funext i; simp only [bgX, x_ab_sg, x_ab_pu, x_ab_th, x_ab_br, x_ab_sz, x_ab_wt, x_ab_ab]; simp
theorem bg_fin {σ : St} {X : XT} {n : Nat} (h : rpM σ (bgX X n 8)) : rpM σ (tX_beg X n) := by
  refine rpM_cong h (by simp only [tX_beg, bgX, x_sz_sz, x_sz_br, x_sz_th, x_sz_pu, x_sz_sg, x_sz_wt, x_sz_ab, x_sz_kn]) (by simp only [tX_beg, bgX, x_br_sz, x_br_br, x_br_th, x_br_pu, x_br_sg, x_br_wt, x_br_ab, x_br_kn]) (by simp only [tX_beg, bgX, x_th_sz, x_th_br, x_th_th, x_th_pu, x_th_sg, x_th_wt, x_th_ab, x_th_kn]) (by simp only [tX_beg, bgX, x_pu_sz, x_pu_br, x_pu_th, x_pu_pu, x_pu_sg, x_pu_wt, x_pu_ab, x_pu_kn]) (by simp only [tX_beg, bgX, x_fa_sz, x_fa_br, x_fa_th, x_fa_pu, x_fa_sg, x_fa_wt, x_fa_ab, x_fa_kn]) (by simp only [tX_beg, bgX, x_sg_sz, x_sg_br, x_sg_th, x_sg_pu, x_sg_sg, x_sg_wt, x_sg_ab, x_sg_kn]) (fun i hi => ?_) (fun i hi => ?_) (fun i hi ht => ?_)
  · simp only [tX_beg, bgX, x_lo_sz, x_lo_br, x_lo_th, x_lo_pu, x_lo_sg, x_lo_wt, x_lo_ab, x_lo_kn, x_hi_sz, x_hi_br, x_hi_th, x_hi_pu, x_hi_sg, x_hi_wt, x_hi_ab, x_hi_kn, x_ld_sz, x_ld_br, x_ld_th, x_ld_pu, x_ld_sg, x_ld_wt, x_ld_ab, x_ld_kn, x_bn_sz, x_bn_br, x_bn_th, x_bn_pu, x_bn_sg, x_bn_wt, x_bn_ab, x_bn_kn, x_wt_sz, x_wt_br, x_wt_th, x_wt_pu, x_wt_sg, x_wt_wt, x_wt_ab, x_wt_kn, x_ab_sz, x_ab_br, x_ab_th, x_ab_pu, x_ab_sg, x_ab_wt, x_ab_ab, x_ab_kn, hi, if_true, and_self]
  · simp only [tX_beg, bgX, x_pl_sz, x_pl_br, x_pl_th, x_pl_pu, x_pl_sg, x_pl_wt, x_pl_ab, x_pl_kn, x_ki_sz, x_ki_br, x_ki_th, x_ki_pu, x_ki_sg, x_ki_wt, x_ki_ab, x_ki_kn, x_sb_sz, x_sb_br, x_sb_th, x_sb_pu, x_sb_sg, x_sb_wt, x_sb_ab, x_sb_kn, x_sv_sz, x_sv_br, x_sv_th, x_sv_pu, x_sv_sg, x_sv_wt, x_sv_ab, x_sv_kn, and_self]
  · simp only [tX_beg, x_th_sz, x_th_br, x_th_th, x_th_pu, x_th_sg, x_th_wt, x_th_ab, x_th_kn] at ht; cases ht
set_option maxHeartbeats 4000000 in
set_option maxRecDepth 20000 in
theorem lp_X5_begin {l : Launch} {D : gE} {L : Nat → Nat} {σ : St} {Q : Option Value → va_W → Prop} {d : Nat} {X : XT} {n0 : Nat} (h : ∀ σ', fr σ σ' → rpM σ' (tX_beg X n0) → Q none (wsOf D L σ')) : ∀ n k, k + n = 8 → ∀ σ', fr σ σ' → rpM σ' (bgX X n0 k) → G l D yX5_begin cX5_begin 3 none (rr d) Q 0 0 27 [(2, .int (nI k)), (0, .ref (L 33)), (1, .int (nI n0))] [] (wsOf D L σ') := by
  intro n
  induction n with
  | zero =>
    intro k hct σ' hfr hX
    obtain rfl : k = 8 := by omega
    refine g_iload_n dX5_begin_27 rfl 0 rfl ?_
    refine g_bipush dX5_begin_28 bp_8 ?_
    refine n_icmpge 53 dX5_begin_30 (by decide) (by omega) (by omega) (fun h30 => ?_) (fun h30 => absurd h30 (by omega))
    exact g_return dX5_begin_53 (Nat.le_refl _) (Nat.le_refl _) (h _ hfr (bg_fin hX))
  | succ n ih =>
    intro k hct σ' hfr hX
    refine g_iload_n dX5_begin_27 rfl 0 rfl ?_
    refine g_bipush dX5_begin_28 bp_8 ?_
    refine n_icmpge 53 dX5_begin_30 (by decide) (by omega) (by omega) (fun h30 => absurd h30 (by omega)) (fun h30 => ?_)
    refine g_aload_n dX5_begin_33 rfl 1 rfl ?_
    refine s_getM kf_X5_31 (by decide) rfl dX5_begin_34 ?_
    refine g_iload_n dX5_begin_37 rfl 0 rfl ?_
    refine g_iconst dX5_begin_38 ci_0 ?_
    refine s_ast (q := 41) (n := 8) (at_ia (q := 41) rfl) (by omega) (by decide) dX5_begin_39 ?_
    have hX := rpM_swtn hX k 0
    have hfr := fr_A hfr 41 (by omega) (upd (sA σ' 41) k (nI 0))
    generalize setA σ' 41 (upd (sA σ' 41) k (nI 0)) = σw1 at hX hfr ⊢
    refine g_aload_n dX5_begin_40 rfl 1 rfl ?_
    refine s_getM kf_X5_34 (by decide) rfl dX5_begin_41 ?_
    refine g_iload_n dX5_begin_44 rfl 0 rfl ?_
    refine g_iconst dX5_begin_45 ci_3 ?_
    refine s_ast (q := 42) (n := 8) (at_ia (q := 42) rfl) (by omega) (by decide) dX5_begin_46 ?_
    have hX := rpM_sab hX k 3
    simp only [x_ab_wt] at hX
    have hfr := fr_A hfr 42 (by omega) (upd (sA σw1 42) k (nI 3))
    generalize setA σw1 42 (upd (sA σw1 42) k (nI 3)) = σw2 at hX hfr ⊢
    refine g_iinc (v := nI (k + 1)) (lv' := [(2, .int (nI (k + 1))), (0, .ref (L 33)), (1, .int (nI n0))]) dX5_begin_47 0 rfl (inc_n _) (by decide) rfl ?_
    refine g_goto 27 dX5_begin_50 (by decide) ?_
    refine g_pick [0, 1, 2] (lv' := [(2, .int (nI (k + 1))), (0, .ref (L 33)), (1, .int (nI n0))]) rfl ?_
    rw [bg_step] at hX
    exact ih (k + 1) (by omega) _ hfr hX
