theorem x_ext {X Y : XT} (h0 : x_sz X = x_sz Y) (h1 : x_br X = x_br Y) (h2 : x_lo X = x_lo Y) (h3 : x_hi X = x_hi Y) (h4 : x_ld X = x_ld Y) (h5 : x_bn X = x_bn Y) (h6 : x_th X = x_th Y) (h7 : x_pl X = x_pl Y) (h8 : x_ki X = x_ki Y) (h9 : x_kn X = x_kn Y) (h10 : x_wt X = x_wt Y) (h11 : x_ab X = x_ab Y) (h12 : x_pu X = x_pu Y) (h13 : x_fa X = x_fa Y) (h14 : x_sg X = x_sg Y) (h15 : x_sb X = x_sb Y) (h16 : x_sv X = x_sv Y) : X = Y := by
  have e : ∀ Z : XT, Z = (x_sz Z, x_br Z, x_lo Z, x_hi Z, x_ld Z, x_bn Z, x_th Z, x_pl Z, x_ki Z, x_kn Z, x_wt Z, x_ab Z, x_pu Z, x_fa Z, x_sg Z, x_sb Z, x_sv Z) := fun _ => rfl
  rw [e X, e Y, h0, h1, h2, h3, h4, h5, h6, h7, h8, h9, h10, h11, h12, h13, h14, h15, h16]
theorem rpM_cong {σ : St} {X Y : XT} (h : rpM σ X) (h0 : x_sz Y = x_sz X) (h1 : x_br Y = x_br X) (h2 : x_th Y = x_th X) (h3 : x_pu Y = x_pu X) (h4 : x_fa Y = x_fa X) (h5 : x_sg Y = x_sg X) (h6 : ∀ i, i < 8 → x_lo Y i = x_lo X i ∧ x_hi Y i = x_hi X i ∧ x_ld Y i = x_ld X i ∧ x_bn Y i = x_bn X i ∧ x_wt Y i = x_wt X i ∧ x_ab Y i = x_ab X i) (h7 : ∀ i, i < 6 → x_pl Y i = x_pl X i ∧ x_ki Y i = x_ki X i ∧ x_sb Y i = x_sb X i ∧ x_sv Y i = x_sv X i) (h8 : ∀ i, i < 6 → x_th Y i = true → ∀ k, k < 8 → x_kn Y i k = x_kn X i k) : rpM σ Y := by
  refine ⟨?_, ?_, ?_, ?_, ?_, ?_, fun i hi => ?_, fun i hi => ?_, fun i hi => ?_, fun i hi => ?_, fun i hi => ?_, fun i hi => ?_, fun i hi ht => ?_, fun i hi => ?_, fun i hi => ?_, fun i hi => ?_, fun i hi => ?_⟩
  · rw [h0]; exact rpM_sz h
  · rw [h1]; exact rpM_br h
  · rw [h2]; exact rpM_th h
  · rw [h3]; exact rpM_pu h
  · rw [h4]; exact rpM_fa h
  · rw [h5]; exact rpM_sg h
  · rw [(h6 i hi).1]; exact rpM_lo h hi
  · rw [(h6 i hi).2.1]; exact rpM_hi h hi
  · rw [(h6 i hi).2.2.1]; exact rpM_ld h hi
  · rw [(h6 i hi).2.2.2.1]; exact rpM_bn h hi
  · rw [(h7 i hi).1]; exact rpM_pl h hi
  · rw [(h7 i hi).2.1]; exact rpM_ki h hi
  · rw [bitsN_cong (h8 i hi ht)]; exact rpM_kn h hi (by rw [← h2]; exact ht)
  · rw [(h6 i hi).2.2.2.2.1]; exact rpM_wt h hi
  · rw [(h6 i hi).2.2.2.2.2]; exact rpM_ab h hi
  · rw [(h7 i hi).2.2.1]; exact rpM_sb h hi
  · rw [(h7 i hi).2.2.2]; exact rpM_sv h hi
def updF {α : Type} (f : Nat → α) (k : Nat) (v : α) : Nat → α := fun j => if j = k then v else f j
theorem rpM_ssz {σ : St} {X : XT} (h : rpM σ X) (f : Nat) : rpM (setI σ 33 0 (nI f)) (xs_sz X f) := ⟨rfl, h.2.1, h.2.2.1, h.2.2.2.1, h.2.2.2.2.1, h.2.2.2.2.2.1, h.2.2.2.2.2.2.1, h.2.2.2.2.2.2.2.1, h.2.2.2.2.2.2.2.2.1, h.2.2.2.2.2.2.2.2.2.1, h.2.2.2.2.2.2.2.2.2.2.1, h.2.2.2.2.2.2.2.2.2.2.2.1, h.2.2.2.2.2.2.2.2.2.2.2.2.1, h.2.2.2.2.2.2.2.2.2.2.2.2.2.1, h.2.2.2.2.2.2.2.2.2.2.2.2.2.2.1, h.2.2.2.2.2.2.2.2.2.2.2.2.2.2.2.1, h.2.2.2.2.2.2.2.2.2.2.2.2.2.2.2.2⟩
theorem rpM_sbr {σ : St} {X : XT} (h : rpM σ X) (f : Nat → Bool) : rpM (setI σ 33 1 (nI (bitsN f 8))) (xs_br X f) := ⟨h.1, rfl, h.2.2.1, h.2.2.2.1, h.2.2.2.2.1, h.2.2.2.2.2.1, h.2.2.2.2.2.2.1, h.2.2.2.2.2.2.2.1, h.2.2.2.2.2.2.2.2.1, h.2.2.2.2.2.2.2.2.2.1, h.2.2.2.2.2.2.2.2.2.2.1, h.2.2.2.2.2.2.2.2.2.2.2.1, h.2.2.2.2.2.2.2.2.2.2.2.2.1, h.2.2.2.2.2.2.2.2.2.2.2.2.2.1, h.2.2.2.2.2.2.2.2.2.2.2.2.2.2.1, h.2.2.2.2.2.2.2.2.2.2.2.2.2.2.2.1, h.2.2.2.2.2.2.2.2.2.2.2.2.2.2.2.2⟩
theorem rpM_sbr0 {σ : St} {X : XT} (h : rpM σ X) : rpM (setI σ 33 1 (nI 0)) (xs_br X (fun _ => false)) := rpM_sbr h (fun _ => false)
theorem rpM_sth {σ : St} {X : XT} (h : rpM σ X) (f : Nat → Bool) (hf : ∀ i, i < 6 → f i = true → x_th X i = true ∨ sA σ 40 i = nI (bitsN (x_kn X i) 8)) : rpM (setI σ 33 2 (nI (bitsN f 6))) (xs_th X f) := by
  refine ⟨h.1, h.2.1, rfl, h.2.2.2.1, h.2.2.2.2.1, h.2.2.2.2.2.1, h.2.2.2.2.2.2.1, h.2.2.2.2.2.2.2.1, h.2.2.2.2.2.2.2.2.1, h.2.2.2.2.2.2.2.2.2.1, h.2.2.2.2.2.2.2.2.2.2.1, h.2.2.2.2.2.2.2.2.2.2.2.1, ?_, h.2.2.2.2.2.2.2.2.2.2.2.2.2.1, h.2.2.2.2.2.2.2.2.2.2.2.2.2.2.1, h.2.2.2.2.2.2.2.2.2.2.2.2.2.2.2.1, h.2.2.2.2.2.2.2.2.2.2.2.2.2.2.2.2⟩
  intro i hi ht
  rcases hf i hi ht with h1 | h1
  · exact h.2.2.2.2.2.2.2.2.2.2.2.2.1 i hi h1
  · exact h1
theorem rpM_sth0 {σ : St} {X : XT} (h : rpM σ X) : rpM (setI σ 33 2 (nI 0)) (xs_th X (fun _ => false)) := rpM_sth h (fun _ => false) (fun _ _ h => by cases h)
theorem rpM_spu0 {σ : St} {X : XT} (h : rpM σ X) : rpM (setI σ 33 3 (nI 0)) (xs_pu X (fun _ => false)) := rpM_spu h (fun _ => false)
theorem rpM_sfa {σ : St} {X : XT} (h : rpM σ X) (f : Nat) : rpM (setI σ 33 13 (nI f)) (xs_fa X f) := ⟨h.1, h.2.1, h.2.2.1, h.2.2.2.1, rfl, h.2.2.2.2.2.1, h.2.2.2.2.2.2.1, h.2.2.2.2.2.2.2.1, h.2.2.2.2.2.2.2.2.1, h.2.2.2.2.2.2.2.2.2.1, h.2.2.2.2.2.2.2.2.2.2.1, h.2.2.2.2.2.2.2.2.2.2.2.1, h.2.2.2.2.2.2.2.2.2.2.2.2.1, h.2.2.2.2.2.2.2.2.2.2.2.2.2.1, h.2.2.2.2.2.2.2.2.2.2.2.2.2.2.1, h.2.2.2.2.2.2.2.2.2.2.2.2.2.2.2.1, h.2.2.2.2.2.2.2.2.2.2.2.2.2.2.2.2⟩
theorem rpM_ssg {σ : St} {X : XT} (h : rpM σ X) (f : Nat) : rpM (setI σ 33 16 (nI f)) (xs_sg X f) := ⟨h.1, h.2.1, h.2.2.1, h.2.2.2.1, h.2.2.2.2.1, rfl, h.2.2.2.2.2.2.1, h.2.2.2.2.2.2.2.1, h.2.2.2.2.2.2.2.2.1, h.2.2.2.2.2.2.2.2.2.1, h.2.2.2.2.2.2.2.2.2.2.1, h.2.2.2.2.2.2.2.2.2.2.2.1, h.2.2.2.2.2.2.2.2.2.2.2.2.1, h.2.2.2.2.2.2.2.2.2.2.2.2.2.1, h.2.2.2.2.2.2.2.2.2.2.2.2.2.2.1, h.2.2.2.2.2.2.2.2.2.2.2.2.2.2.2.1, h.2.2.2.2.2.2.2.2.2.2.2.2.2.2.2.2⟩
theorem rpM_slo {σ : St} {X : XT} (h : rpM σ X) (k v : Nat) : rpM (setA σ 34 (upd (sA σ 34) k (nI v))) (xs_lo X (updN (x_lo X) k v)) := by
  refine ⟨h.1, h.2.1, h.2.2.1, h.2.2.2.1, h.2.2.2.2.1, h.2.2.2.2.2.1, ?_, h.2.2.2.2.2.2.2.1, h.2.2.2.2.2.2.2.2.1, h.2.2.2.2.2.2.2.2.2.1, h.2.2.2.2.2.2.2.2.2.2.1, h.2.2.2.2.2.2.2.2.2.2.2.1, h.2.2.2.2.2.2.2.2.2.2.2.2.1, h.2.2.2.2.2.2.2.2.2.2.2.2.2.1, h.2.2.2.2.2.2.2.2.2.2.2.2.2.2.1, h.2.2.2.2.2.2.2.2.2.2.2.2.2.2.2.1, h.2.2.2.2.2.2.2.2.2.2.2.2.2.2.2.2⟩
  exact upd_nI (n := 8) h.2.2.2.2.2.2.1
theorem rpM_shi {σ : St} {X : XT} (h : rpM σ X) (k v : Nat) : rpM (setA σ 35 (upd (sA σ 35) k (nI v))) (xs_hi X (updN (x_hi X) k v)) := by
  refine ⟨h.1, h.2.1, h.2.2.1, h.2.2.2.1, h.2.2.2.2.1, h.2.2.2.2.2.1, h.2.2.2.2.2.2.1, ?_, h.2.2.2.2.2.2.2.2.1, h.2.2.2.2.2.2.2.2.2.1, h.2.2.2.2.2.2.2.2.2.2.1, h.2.2.2.2.2.2.2.2.2.2.2.1, h.2.2.2.2.2.2.2.2.2.2.2.2.1, h.2.2.2.2.2.2.2.2.2.2.2.2.2.1, h.2.2.2.2.2.2.2.2.2.2.2.2.2.2.1, h.2.2.2.2.2.2.2.2.2.2.2.2.2.2.2.1, h.2.2.2.2.2.2.2.2.2.2.2.2.2.2.2.2⟩
  exact upd_nI (n := 8) h.2.2.2.2.2.2.2.1
theorem rpM_sld {σ : St} {X : XT} (h : rpM σ X) (k v : Nat) : rpM (setA σ 36 (upd (sA σ 36) k (nI v))) (xs_ld X (updN (x_ld X) k v)) := by
  refine ⟨h.1, h.2.1, h.2.2.1, h.2.2.2.1, h.2.2.2.2.1, h.2.2.2.2.2.1, h.2.2.2.2.2.2.1, h.2.2.2.2.2.2.2.1, ?_, h.2.2.2.2.2.2.2.2.2.1, h.2.2.2.2.2.2.2.2.2.2.1, h.2.2.2.2.2.2.2.2.2.2.2.1, h.2.2.2.2.2.2.2.2.2.2.2.2.1, h.2.2.2.2.2.2.2.2.2.2.2.2.2.1, h.2.2.2.2.2.2.2.2.2.2.2.2.2.2.1, h.2.2.2.2.2.2.2.2.2.2.2.2.2.2.2.1, h.2.2.2.2.2.2.2.2.2.2.2.2.2.2.2.2⟩
  exact upd_nI (n := 8) h.2.2.2.2.2.2.2.2.1
theorem rpM_sbn {σ : St} {X : XT} (h : rpM σ X) (k v : Nat) : rpM (setA σ 37 (upd (sA σ 37) k (nI v))) (xs_bn X (updN (x_bn X) k v)) := by
  refine ⟨h.1, h.2.1, h.2.2.1, h.2.2.2.1, h.2.2.2.2.1, h.2.2.2.2.2.1, h.2.2.2.2.2.2.1, h.2.2.2.2.2.2.2.1, h.2.2.2.2.2.2.2.2.1, ?_, h.2.2.2.2.2.2.2.2.2.2.1, h.2.2.2.2.2.2.2.2.2.2.2.1, h.2.2.2.2.2.2.2.2.2.2.2.2.1, h.2.2.2.2.2.2.2.2.2.2.2.2.2.1, h.2.2.2.2.2.2.2.2.2.2.2.2.2.2.1, h.2.2.2.2.2.2.2.2.2.2.2.2.2.2.2.1, h.2.2.2.2.2.2.2.2.2.2.2.2.2.2.2.2⟩
  exact upd_nI (n := 8) h.2.2.2.2.2.2.2.2.2.1
theorem rpM_spl {σ : St} {X : XT} (h : rpM σ X) (k v : Nat) : rpM (setA σ 38 (upd (sA σ 38) k (nI v))) (xs_pl X (updN (x_pl X) k v)) := by
  refine ⟨h.1, h.2.1, h.2.2.1, h.2.2.2.1, h.2.2.2.2.1, h.2.2.2.2.2.1, h.2.2.2.2.2.2.1, h.2.2.2.2.2.2.2.1, h.2.2.2.2.2.2.2.2.1, h.2.2.2.2.2.2.2.2.2.1, ?_, h.2.2.2.2.2.2.2.2.2.2.2.1, h.2.2.2.2.2.2.2.2.2.2.2.2.1, h.2.2.2.2.2.2.2.2.2.2.2.2.2.1, h.2.2.2.2.2.2.2.2.2.2.2.2.2.2.1, h.2.2.2.2.2.2.2.2.2.2.2.2.2.2.2.1, h.2.2.2.2.2.2.2.2.2.2.2.2.2.2.2.2⟩
  exact upd_nI (n := 6) h.2.2.2.2.2.2.2.2.2.2.1
theorem rpM_ski {σ : St} {X : XT} (h : rpM σ X) (k v : Nat) : rpM (setA σ 39 (upd (sA σ 39) k (nI v))) (xs_ki X (updN (x_ki X) k v)) := by
  refine ⟨h.1, h.2.1, h.2.2.1, h.2.2.2.1, h.2.2.2.2.1, h.2.2.2.2.2.1, h.2.2.2.2.2.2.1, h.2.2.2.2.2.2.2.1, h.2.2.2.2.2.2.2.2.1, h.2.2.2.2.2.2.2.2.2.1, h.2.2.2.2.2.2.2.2.2.2.1, ?_, h.2.2.2.2.2.2.2.2.2.2.2.2.1, h.2.2.2.2.2.2.2.2.2.2.2.2.2.1, h.2.2.2.2.2.2.2.2.2.2.2.2.2.2.1, h.2.2.2.2.2.2.2.2.2.2.2.2.2.2.2.1, h.2.2.2.2.2.2.2.2.2.2.2.2.2.2.2.2⟩
  exact upd_nI (n := 6) h.2.2.2.2.2.2.2.2.2.2.2.1
theorem rpM_skn {σ : St} {X : XT} (h : rpM σ X) (p : Nat) (f : Nat → Bool) : rpM (setA σ 40 (upd (sA σ 40) p (nI (bitsN f 8)))) (xs_kn X (updF (x_kn X) p f)) := by
  refine ⟨h.1, h.2.1, h.2.2.1, h.2.2.2.1, h.2.2.2.2.1, h.2.2.2.2.2.1, h.2.2.2.2.2.2.1, h.2.2.2.2.2.2.2.1, h.2.2.2.2.2.2.2.2.1, h.2.2.2.2.2.2.2.2.2.1, h.2.2.2.2.2.2.2.2.2.2.1, h.2.2.2.2.2.2.2.2.2.2.2.1, ?_, h.2.2.2.2.2.2.2.2.2.2.2.2.2.1, h.2.2.2.2.2.2.2.2.2.2.2.2.2.2.1, h.2.2.2.2.2.2.2.2.2.2.2.2.2.2.2.1, h.2.2.2.2.2.2.2.2.2.2.2.2.2.2.2.2⟩
  intro i hi ht
  show (if i = p then _ else _) = nI (bitsN (if i = p then _ else _) 8)
  by_cases e : i = p
  · rw [if_pos e, if_pos e]
  · rw [if_neg e, if_neg e]; exact h.2.2.2.2.2.2.2.2.2.2.2.2.1 i hi ht
theorem rpM_skn0 {σ : St} {X : XT} (h : rpM σ X) (p : Nat) : rpM (setA σ 40 (upd (sA σ 40) p (nI 0))) (xs_kn X (updF (x_kn X) p (fun _ => false))) := rpM_skn h p (fun _ => false)
theorem rpM_swt {σ : St} {X : XT} (h : rpM σ X) (k : Nat) (v : Int) : rpM (setA σ 41 (upd (sA σ 41) k (zI v))) (xs_wt X (updF (x_wt X) k v)) := by
  refine ⟨h.1, h.2.1, h.2.2.1, h.2.2.2.1, h.2.2.2.2.1, h.2.2.2.2.2.1, h.2.2.2.2.2.2.1, h.2.2.2.2.2.2.2.1, h.2.2.2.2.2.2.2.2.1, h.2.2.2.2.2.2.2.2.2.1, h.2.2.2.2.2.2.2.2.2.2.1, h.2.2.2.2.2.2.2.2.2.2.2.1, h.2.2.2.2.2.2.2.2.2.2.2.2.1, ?_, h.2.2.2.2.2.2.2.2.2.2.2.2.2.2.1, h.2.2.2.2.2.2.2.2.2.2.2.2.2.2.2.1, h.2.2.2.2.2.2.2.2.2.2.2.2.2.2.2.2⟩
  intro i hi
  show (if i = k then _ else _) = zI (if i = k then _ else _)
  by_cases e : i = k
  · rw [if_pos e, if_pos e]
  · rw [if_neg e, if_neg e]; exact h.2.2.2.2.2.2.2.2.2.2.2.2.2.1 i hi
theorem rpM_swtn {σ : St} {X : XT} (h : rpM σ X) (k v : Nat) : rpM (setA σ 41 (upd (sA σ 41) k (nI v))) (xs_wt X (updF (x_wt X) k (v : Int))) := by rw [nI_zI]; exact rpM_swt h k v
theorem rpM_sab {σ : St} {X : XT} (h : rpM σ X) (k v : Nat) : rpM (setA σ 42 (upd (sA σ 42) k (nI v))) (xs_ab X (updN (x_ab X) k v)) := by
  refine ⟨h.1, h.2.1, h.2.2.1, h.2.2.2.1, h.2.2.2.2.1, h.2.2.2.2.2.1, h.2.2.2.2.2.2.1, h.2.2.2.2.2.2.2.1, h.2.2.2.2.2.2.2.2.1, h.2.2.2.2.2.2.2.2.2.1, h.2.2.2.2.2.2.2.2.2.2.1, h.2.2.2.2.2.2.2.2.2.2.2.1, h.2.2.2.2.2.2.2.2.2.2.2.2.1, h.2.2.2.2.2.2.2.2.2.2.2.2.2.1, ?_, h.2.2.2.2.2.2.2.2.2.2.2.2.2.2.2.1, h.2.2.2.2.2.2.2.2.2.2.2.2.2.2.2.2⟩
  exact upd_nI (n := 8) h.2.2.2.2.2.2.2.2.2.2.2.2.2.2.1
theorem rpM_ssb {σ : St} {X : XT} (h : rpM σ X) (k v : Nat) : rpM (setA σ 43 (upd (sA σ 43) k (nI v))) (xs_sb X (updN (x_sb X) k v)) := by
  refine ⟨h.1, h.2.1, h.2.2.1, h.2.2.2.1, h.2.2.2.2.1, h.2.2.2.2.2.1, h.2.2.2.2.2.2.1, h.2.2.2.2.2.2.2.1, h.2.2.2.2.2.2.2.2.1, h.2.2.2.2.2.2.2.2.2.1, h.2.2.2.2.2.2.2.2.2.2.1, h.2.2.2.2.2.2.2.2.2.2.2.1, h.2.2.2.2.2.2.2.2.2.2.2.2.1, h.2.2.2.2.2.2.2.2.2.2.2.2.2.1, h.2.2.2.2.2.2.2.2.2.2.2.2.2.2.1, ?_, h.2.2.2.2.2.2.2.2.2.2.2.2.2.2.2.2⟩
  exact upd_nI (n := 6) h.2.2.2.2.2.2.2.2.2.2.2.2.2.2.2.1
theorem rpM_ssv {σ : St} {X : XT} (h : rpM σ X) (k v : Nat) : rpM (setA σ 44 (upd (sA σ 44) k (nI v))) (xs_sv X (updN (x_sv X) k v)) := by
  refine ⟨h.1, h.2.1, h.2.2.1, h.2.2.2.1, h.2.2.2.2.1, h.2.2.2.2.2.1, h.2.2.2.2.2.2.1, h.2.2.2.2.2.2.2.1, h.2.2.2.2.2.2.2.2.1, h.2.2.2.2.2.2.2.2.2.1, h.2.2.2.2.2.2.2.2.2.2.1, h.2.2.2.2.2.2.2.2.2.2.2.1, h.2.2.2.2.2.2.2.2.2.2.2.2.1, h.2.2.2.2.2.2.2.2.2.2.2.2.2.1, h.2.2.2.2.2.2.2.2.2.2.2.2.2.2.1, h.2.2.2.2.2.2.2.2.2.2.2.2.2.2.2.1, ?_⟩
  exact upd_nI (n := 6) h.2.2.2.2.2.2.2.2.2.2.2.2.2.2.2.2
/-! the town behind a call -/
def tX_br (X : XT) (b t u v : Nat) : XT := xs_br (xs_bn (xs_ld (xs_hi (xs_lo X (updN (x_lo X) b (if t < u then t else u))) (updN (x_hi X) b (if t < u then u else t))) (updN (x_ld X) b v)) (updN (x_bn X) b 0)) (fun i => x_br X i || i == b)
def tX_fall (X : XT) (b : Nat) : XT := xs_br X (fun i => x_br X i && !(i == b))
def tX_pers (X : XT) (p t k : Nat) : XT := xs_th (xs_kn (xs_ki (xs_pl X (updN (x_pl X) p t)) (updN (x_ki X) p k)) (updF (x_kn X) p (fun _ => false))) (fun i => x_th X i || i == p)
def tX_leave (X : XT) (p : Nat) : XT := xs_kn (xs_th X (fun i => x_th X i && !(i == p))) (updF (x_kn X) p (fun _ => false))
def tX_news (X : XT) (k : Nat) (w : Int) (a : Nat) : XT := xs_pu (xs_ab (xs_wt X (updF (x_wt X) k w)) (updN (x_ab X) k a)) (fun i => x_pu X i && !(i == k))
def tX_learn (X : XT) (p k : Nat) (c : Bool) : XT := xs_kn X (updF (x_kn X) p (if c then (fun i => x_kn X p i || i == k) else (fun i => x_kn X p i && !(i == k))))
def tX_seen (X : XT) (b v : Nat) : XT := xs_sg (xs_sv (xs_sb X (updN (x_sb X) (x_sg X) b)) (updN (x_sv X) (x_sg X) v)) (x_sg X + 1)
def tX_beg (X : XT) (n : Nat) : XT := xs_kn (xs_ab (xs_wt (xs_sg (xs_pu (xs_th (xs_br (xs_sz X n) (fun _ => false)) (fun _ => false)) (fun _ => false)) 0) (fun _ => 0)) (fun _ => 3)) (fun _ _ => false)
abbrev RX : Type := Int32 × XT
def terracesO (X : XT) (x : Int32) : RX := if inN 2 6 x then (nI (x_sz X), tX_beg X (ix 7 x)) else (-2, X)
def bridgeO (X : XT) (w x y v : Int32) : RX := if inN 0 7 w && teI X x && teI X y && !(decide (x = y)) then (if inN 0 99 v then (nI (pop (bitsN (fun i => x_br X i || i == ix 8 w) 8)), tX_br X (ix 8 w) (ix (x_sz X) x) (ix (x_sz X) y) (ix 100 v)) else (-2, X)) else (-1, X)
def fallO (X : XT) (x : Int32) : RX := if brI X x then (nI (pop (bitsN (fun i => x_br X i && !(i == ix 8 x)) 8)), tX_fall X (ix 8 x)) else (-1, X)
def personO (X : XT) (x y z : Int32) : RX := if inN 0 5 x && teI X y then (if inN 0 2 z then (nI (pop (bitsN (fun i => x_th X i || i == ix 6 x) 6)), tX_pers X (ix 6 x) (ix (x_sz X) y) (ix 3 z)) else (-2, X)) else (-1, X)
def leaveO (X : XT) (x : Int32) : RX := if thI X x then (nI (pop (bitsN (fun i => x_th X i && !(i == ix 6 x)) 6)), tX_leave X (ix 6 x)) else (-1, X)
def newsO (X : XT) (x y z : Int32) : RX := if nwI x then (if inI (-20) 99 y && inN 0 3 z then (zI (x_wt X (ix 8 x) + 1000), tX_news X (ix 8 x) y.toInt (ix 4 z)) else (-2, X)) else (-1, X)
def learnO (X : XT) (x y : Int32) (c : Bool) : RX := if thI X x && nwI y then (nI (bitsN (if c then (fun i => x_kn X (ix 6 x) i || i == ix 8 y) else (fun i => x_kn X (ix 6 x) i && !(i == ix 8 y))) 8), tX_learn X (ix 6 x) (ix 8 y) c) else (-1, X)
def fadeO (X : XT) (x : Int32) : RX := if inN 0 9 x then (nI (x_fa X), xs_fa X (ix 10 x)) else (-2, X)
def seenO (X : XT) (x y : Int32) : RX := if inN 0 7 x then (if inN 0 999 y then (if x_sg X = 6 then (-4, X) else (nI (x_sg X + 1), tX_seen X (ix 8 x) (ix 1000 y))) else (-2, X)) else (-1, X)
def forgetO (X : XT) : RX := (nI (x_sg X), xs_sg X 0)
theorem qo {O : RX} {r : Int32} {X' : XT} {P : St → Prop} {Q : Option Value → va_W → Prop} {D : gE} {L : Nat → Nat} {σ' : St} (e : O = (r, X')) (h : ∀ σ', P σ' → rpM σ' O.2 → Q (some (.int O.1)) (wsOf D L σ')) (hp : P σ') (hX : rpM σ' X') : Q (some (.int r)) (wsOf D L σ') := by
  subst e; exact h σ' hp hX
def bgX (X : XT) (n k : Nat) : XT := xs_ab (xs_wt (xs_sg (xs_pu (xs_th (xs_br (xs_sz X n) (fun _ => false)) (fun _ => false)) (fun _ => false)) 0) (fun i => if i < k then 0 else x_wt X i)) (fun i => if i < k then 3 else x_ab X i)
theorem bg_step (X : XT) (n k : Nat) : xs_ab (xs_wt (bgX X n k) (updF (x_wt (bgX X n k)) k ((0 : Nat) : Int))) (updN (x_ab (bgX X n k)) k 3) = bgX X n (k + 1) := by
  have e1 : updF (x_wt (bgX X n k)) k ((0 : Nat) : Int) = fun i => if i < k + 1 then 0 else x_wt X i := by
    funext i
    simp only [updF, bgX, x_wt_ab, x_wt_wt]
    by_cases h : i = k
    · simp [h]
    · by_cases h2 : i < k
      · simp [h, h2, Nat.lt_succ_of_lt h2]
      · simp [h, h2, show ¬ i < k + 1 by omega]
  have e2 : updN (x_ab (bgX X n k)) k 3 = fun i => if i < k + 1 then 3 else x_ab X i := by
    funext i
    simp only [updN, bgX, x_ab_ab]
    by_cases h : i = k
    · simp [h]
    · by_cases h2 : i < k
      · simp [h, h2, Nat.lt_succ_of_lt h2]
      · simp [h, h2, show ¬ i < k + 1 by omega]
  exact x_ext (by simp only [bgX, x_sz_sz, x_sz_br, x_sz_th, x_sz_pu, x_sz_sg, x_sz_wt, x_sz_ab]) (by simp only [bgX, x_br_sz, x_br_br, x_br_th, x_br_pu, x_br_sg, x_br_wt, x_br_ab]) (by simp only [bgX, x_lo_sz, x_lo_br, x_lo_th, x_lo_pu, x_lo_sg, x_lo_wt, x_lo_ab]) (by simp only [bgX, x_hi_sz, x_hi_br, x_hi_th, x_hi_pu, x_hi_sg, x_hi_wt, x_hi_ab]) (by simp only [bgX, x_ld_sz, x_ld_br, x_ld_th, x_ld_pu, x_ld_sg, x_ld_wt, x_ld_ab]) (by simp only [bgX, x_bn_sz, x_bn_br, x_bn_th, x_bn_pu, x_bn_sg, x_bn_wt, x_bn_ab]) (by simp only [bgX, x_th_sz, x_th_br, x_th_th, x_th_pu, x_th_sg, x_th_wt, x_th_ab]) (by simp only [bgX, x_pl_sz, x_pl_br, x_pl_th, x_pl_pu, x_pl_sg, x_pl_wt, x_pl_ab]) (by simp only [bgX, x_ki_sz, x_ki_br, x_ki_th, x_ki_pu, x_ki_sg, x_ki_wt, x_ki_ab]) (by simp only [bgX, x_kn_sz, x_kn_br, x_kn_th, x_kn_pu, x_kn_sg, x_kn_wt, x_kn_ab]) (by simp only [x_wt_ab, x_wt_wt]; rw [e1]; simp only [bgX, x_wt_ab, x_wt_wt]) (by simp only [x_ab_ab]; rw [e2]; simp only [bgX, x_ab_ab]) (by simp only [bgX, x_pu_sz, x_pu_br, x_pu_th, x_pu_pu, x_pu_sg, x_pu_wt, x_pu_ab]) (by simp only [bgX, x_fa_sz, x_fa_br, x_fa_th, x_fa_pu, x_fa_sg, x_fa_wt, x_fa_ab]) (by simp only [bgX, x_sg_sz, x_sg_br, x_sg_th, x_sg_pu, x_sg_sg, x_sg_wt, x_sg_ab]) (by simp only [bgX, x_sb_sz, x_sb_br, x_sb_th, x_sb_pu, x_sb_sg, x_sb_wt, x_sb_ab]) (by simp only [bgX, x_sv_sz, x_sv_br, x_sv_th, x_sv_pu, x_sv_sg, x_sv_wt, x_sv_ab])
theorem bg_0 (X : XT) (n : Nat) : xs_sg (xs_pu (xs_th (xs_br (xs_sz X n) (fun _ => false)) (fun _ => false)) (fun _ => false)) 0 = bgX X n 0 := by
  refine x_ext (by simp only [bgX, x_sz_sz, x_sz_br, x_sz_th, x_sz_pu, x_sz_sg, x_sz_wt, x_sz_ab]) (by simp only [bgX, x_br_sz, x_br_br, x_br_th, x_br_pu, x_br_sg, x_br_wt, x_br_ab]) (by simp only [bgX, x_lo_sz, x_lo_br, x_lo_th, x_lo_pu, x_lo_sg, x_lo_wt, x_lo_ab]) (by simp only [bgX, x_hi_sz, x_hi_br, x_hi_th, x_hi_pu, x_hi_sg, x_hi_wt, x_hi_ab]) (by simp only [bgX, x_ld_sz, x_ld_br, x_ld_th, x_ld_pu, x_ld_sg, x_ld_wt, x_ld_ab]) (by simp only [bgX, x_bn_sz, x_bn_br, x_bn_th, x_bn_pu, x_bn_sg, x_bn_wt, x_bn_ab]) (by simp only [bgX, x_th_sz, x_th_br, x_th_th, x_th_pu, x_th_sg, x_th_wt, x_th_ab]) (by simp only [bgX, x_pl_sz, x_pl_br, x_pl_th, x_pl_pu, x_pl_sg, x_pl_wt, x_pl_ab]) (by simp only [bgX, x_ki_sz, x_ki_br, x_ki_th, x_ki_pu, x_ki_sg, x_ki_wt, x_ki_ab]) (by simp only [bgX, x_kn_sz, x_kn_br, x_kn_th, x_kn_pu, x_kn_sg, x_kn_wt, x_kn_ab]) ?_ ?_ (by simp only [bgX, x_pu_sz, x_pu_br, x_pu_th, x_pu_pu, x_pu_sg, x_pu_wt, x_pu_ab]) (by simp only [bgX, x_fa_sz, x_fa_br, x_fa_th, x_fa_pu, x_fa_sg, x_fa_wt, x_fa_ab]) (by simp only [bgX, x_sg_sz, x_sg_br, x_sg_th, x_sg_pu, x_sg_sg, x_sg_wt, x_sg_ab]) (by simp only [bgX, x_sb_sz, x_sb_br, x_sb_th, x_sb_pu, x_sb_sg, x_sb_wt, x_sb_ab]) (by simp only [bgX, x_sv_sz, x_sv_br, x_sv_th, x_sv_pu, x_sv_sg, x_sv_wt, x_sv_ab])
  · funext i; simp only [bgX, x_wt_sg, x_wt_pu, x_wt_th, x_wt_br, x_wt_sz, x_wt_wt, x_wt_ab]; simp
  · funext i; simp only [bgX, x_ab_sg, x_ab_pu, x_ab_th, x_ab_br, x_ab_sz, x_ab_wt, x_ab_ab]; simp
theorem bg_fin {σ : St} {X : XT} {n : Nat} (h : rpM σ (bgX X n 8)) : rpM σ (tX_beg X n) := by
  refine rpM_cong h (by simp only [tX_beg, bgX, x_sz_sz, x_sz_br, x_sz_th, x_sz_pu, x_sz_sg, x_sz_wt, x_sz_ab, x_sz_kn]) (by simp only [tX_beg, bgX, x_br_sz, x_br_br, x_br_th, x_br_pu, x_br_sg, x_br_wt, x_br_ab, x_br_kn]) (by simp only [tX_beg, bgX, x_th_sz, x_th_br, x_th_th, x_th_pu, x_th_sg, x_th_wt, x_th_ab, x_th_kn]) (by simp only [tX_beg, bgX, x_pu_sz, x_pu_br, x_pu_th, x_pu_pu, x_pu_sg, x_pu_wt, x_pu_ab, x_pu_kn]) (by simp only [tX_beg, bgX, x_fa_sz, x_fa_br, x_fa_th, x_fa_pu, x_fa_sg, x_fa_wt, x_fa_ab, x_fa_kn]) (by simp only [tX_beg, bgX, x_sg_sz, x_sg_br, x_sg_th, x_sg_pu, x_sg_sg, x_sg_wt, x_sg_ab, x_sg_kn]) (fun i hi => ?_) (fun i hi => ?_) (fun i hi ht => ?_)
  · simp only [tX_beg, bgX, x_lo_sz, x_lo_br, x_lo_th, x_lo_pu, x_lo_sg, x_lo_wt, x_lo_ab, x_lo_kn, x_hi_sz, x_hi_br, x_hi_th, x_hi_pu, x_hi_sg, x_hi_wt, x_hi_ab, x_hi_kn, x_ld_sz, x_ld_br, x_ld_th, x_ld_pu, x_ld_sg, x_ld_wt, x_ld_ab, x_ld_kn, x_bn_sz, x_bn_br, x_bn_th, x_bn_pu, x_bn_sg, x_bn_wt, x_bn_ab, x_bn_kn, x_wt_sz, x_wt_br, x_wt_th, x_wt_pu, x_wt_sg, x_wt_wt, x_wt_ab, x_wt_kn, x_ab_sz, x_ab_br, x_ab_th, x_ab_pu, x_ab_sg, x_ab_wt, x_ab_ab, x_ab_kn, hi, if_true, and_self]
  · simp only [tX_beg, bgX, x_pl_sz, x_pl_br, x_pl_th, x_pl_pu, x_pl_sg, x_pl_wt, x_pl_ab, x_pl_kn, x_ki_sz, x_ki_br, x_ki_th, x_ki_pu, x_ki_sg, x_ki_wt, x_ki_ab, x_ki_kn, x_sb_sz, x_sb_br, x_sb_th, x_sb_pu, x_sb_sg, x_sb_wt, x_sb_ab, x_sb_kn, x_sv_sz, x_sv_br, x_sv_th, x_sv_pu, x_sv_sg, x_sv_wt, x_sv_ab, x_sv_kn, and_self]
  · simp only [tX_beg, x_th_sz, x_th_br, x_th_th, x_th_pu, x_th_sg, x_th_wt, x_th_ab, x_th_kn] at ht; cases ht
set_option maxHeartbeats 4000000 in
set_option maxRecDepth 20000 in
theorem lp_X5_begin {l : Launch} {D : gE} {L : Nat → Nat} {σ : St} {Q : Option Value → va_W → Prop} {d : Nat} {X : XT} {n0 : Nat} (h : ∀ σ', fr σ σ' → rpM σ' (tX_beg X n0) → Q none (wsOf D L σ')) : ∀ n k, k + n = 8 → ∀ σ', fr σ σ' → rpM σ' (bgX X n0 k) → G l D yX5_begin cX5_begin 3 none (rr d) Q 0 0 27 [(2, .int (nI k)), (0, .ref (L 33)), (1, .int (nI n0))] [] (wsOf D L σ') := by
  intro n
  induction n with
  | zero =>
    intro k hct σ' hfr hX
    obtain rfl : k = 8 := by omega
    refine g_iload_n dX5_begin_27 rfl 0 rfl ?_
    refine g_bipush dX5_begin_28 bp_8 ?_
    refine n_icmpge 53 dX5_begin_30 (by decide) (by omega) (by omega) (fun h30 => ?_) (fun h30 => absurd h30 (by omega))
    exact g_return dX5_begin_53 (Nat.le_refl _) (Nat.le_refl _) (h _ hfr (bg_fin hX))
  | succ n ih =>
    intro k hct σ' hfr hX
    refine g_iload_n dX5_begin_27 rfl 0 rfl ?_
    refine g_bipush dX5_begin_28 bp_8 ?_
    refine n_icmpge 53 dX5_begin_30 (by decide) (by omega) (by omega) (fun h30 => absurd h30 (by omega)) (fun h30 => ?_)
    refine g_aload_n dX5_begin_33 rfl 1 rfl ?_
    refine s_getM kf_X5_31 (by decide) rfl dX5_begin_34 ?_
    refine g_iload_n dX5_begin_37 rfl 0 rfl ?_
    refine g_iconst dX5_begin_38 ci_0 ?_
    refine s_ast (q := 41) (n := 8) (at_ia (q := 41) rfl) (by omega) (by decide) dX5_begin_39 ?_
    have hX := rpM_swtn hX k 0
    have hfr := fr_A hfr 41 (by omega) (upd (sA σ' 41) k (nI 0))
    generalize setA σ' 41 (upd (sA σ' 41) k (nI 0)) = σw1 at hX hfr ⊢
    refine g_aload_n dX5_begin_40 rfl 1 rfl ?_
    refine s_getM kf_X5_34 (by decide) rfl dX5_begin_41 ?_
    refine g_iload_n dX5_begin_44 rfl 0 rfl ?_
    refine g_iconst dX5_begin_45 ci_3 ?_
    refine s_ast (q := 42) (n := 8) (at_ia (q := 42) rfl) (by omega) (by decide) dX5_begin_46 ?_
    have hX := rpM_sab hX k 3
    simp only [x_ab_wt] at hX
    have hfr := fr_A hfr 42 (by omega) (upd (sA σw1 42) k (nI 3))
    generalize setA σw1 42 (upd (sA σw1 42) k (nI 3)) = σw2 at hX hfr ⊢
    refine g_iinc (v := nI (k + 1)) (lv' := [(2, .int (nI (k + 1))), (0, .ref (L 33)), (1, .int (nI n0))]) dX5_begin_47 0 rfl (inc_n _) (by decide) rfl ?_
    refine g_goto 27 dX5_begin_50 (by decide) ?_
    refine g_pick [0, 1, 2] (lv' := [(2, .int (nI (k + 1))), (0, .ref (L 33)), (1, .int (nI n0))]) rfl ?_
    rw [bg_step] at hX
    exact ih (k + 1) (by omega) _ hfr hX
set_option maxHeartbeats 4000000 in
set_option maxRecDepth 20000 in
theorem c_X5_begin {l : Launch} {D : gE} {L : Nat → Nat} {σ : St} {Q : Option Value → va_W → Prop} {d : Nat} {X : XT} (hX : rpM σ X) {n0 : Nat} (h : ∀ σ', fr σ σ' → rpM σ' (tX_beg X n0) → Q none (wsOf D L σ')) : Ctr l D yX5_begin cX5_begin 3 none (rr d) [.ref (L 33), .int (nI n0)] (wsOf D L σ) Q := by
  refine g_start ky_X5_begin (Nat.le_of_ble_eq_true rfl) ?_
  refine g_pick [0, 1] (lv' := [(0, .ref (L 33)), (1, .int (nI n0))]) rfl ?_
  have hfr : fr σ σ := fr_rfl
  refine g_aload_n dX5_begin_0 rfl 0 rfl ?_
  refine g_iload_n dX5_begin_1 rfl 1 rfl ?_
  refine s_putM kf_X5_103 (by decide) dX5_begin_2 ?_
  have hX := rpM_ssz hX n0
  have hfr := fr_I hfr 0 (by omega) (nI n0)
  generalize setI σ 33 0 (nI n0) = σw3 at hX hfr ⊢
  refine g_aload_n dX5_begin_5 rfl 0 rfl ?_
  refine g_iconst dX5_begin_6 ci_0 ?_
  refine s_putM kf_X5_106 (by decide) dX5_begin_7 ?_
  have hX := rpM_sbr0 hX
  have hfr := fr_I hfr 1 (by omega) (nI 0)
  generalize setI σw3 33 1 (nI 0) = σw4 at hX hfr ⊢
  refine g_aload_n dX5_begin_10 rfl 0 rfl ?_
  refine g_iconst dX5_begin_11 ci_0 ?_
  refine s_putM kf_X5_109 (by decide) dX5_begin_12 ?_
  have hX := rpM_sth0 hX
  have hfr := fr_I hfr 2 (by omega) (nI 0)
  generalize setI σw4 33 2 (nI 0) = σw5 at hX hfr ⊢
  refine g_aload_n dX5_begin_15 rfl 0 rfl ?_
  refine g_iconst dX5_begin_16 ci_0 ?_
  refine s_putM kf_X5_112 (by decide) dX5_begin_17 ?_
  have hX := rpM_spu0 hX
  have hfr := fr_I hfr 3 (by omega) (nI 0)
  generalize setI σw5 33 3 (nI 0) = σw6 at hX hfr ⊢
  refine g_aload_n dX5_begin_20 rfl 0 rfl ?_
  refine g_iconst dX5_begin_21 ci_0 ?_
  refine s_putM kf_X5_115 (by decide) dX5_begin_22 ?_
  have hX := rpM_ssg hX 0
  have hfr := fr_I hfr 16 (by omega) (nI 0)
  generalize setI σw6 33 16 (nI 0) = σw7 at hX hfr ⊢
  refine g_iconst dX5_begin_25 ci_0 ?_
  refine g_istore_n (lv' := [(2, .int (nI 0)), (0, .ref (L 33)), (1, .int (nI n0))]) dX5_begin_26 rfl (by decide) rfl ?_
  refine g_pick [0, 1, 2] (lv' := [(2, .int (nI 0)), (0, .ref (L 33)), (1, .int (nI n0))]) rfl ?_
  rw [bg_0] at hX
  exact lp_X5_begin h 8 0 rfl _ hfr hX
set_option maxHeartbeats 4000000 in
set_option maxRecDepth 20000 in
theorem c_X5_terraces {l : Launch} {D : gE} {L : Nat → Nat} {σ : St} {Q : Option Value → va_W → Prop} {d : Nat} {X : XT} (hX : rpM σ X) {x : Int32} (h : ∀ σ', fr σ σ' → rpM σ' (terracesO X x).2 → Q (some (.int (terracesO X x).1)) (wsOf D L σ')) : Ctr l D yX5_terraces cX5_terraces 3 (some .int) (rr (d + 1)) [.ref (L 33), .int x] (wsOf D L σ) Q := by
  refine g_start ky_X5_terraces (Nat.le_of_ble_eq_true rfl) ?_
  refine g_pick [0, 1] (lv' := [(0, .ref (L 33)), (1, .int x)]) rfl ?_
  refine g_iload_n dX5_terraces_0 rfl 1 rfl ?_
  refine g_i2l dX5_terraces_1 ?_
  refine g_ldc2_w kk_X5_126 dX5_terraces_2 ?_
  refine g_tople (z := (nI 2).toInt64) (by decide +kernel) ?_
  refine g_ldc2_w kk_X5_128 dX5_terraces_5 ?_
  refine g_tople (z := (nI 6).toInt64) (by decide +kernel) ?_
  refine g_callS (As := [.long x.toInt64, .long ((nI 2).toInt64), .long ((nI 6).toInt64)]) km_X5_118 ky_X5_in ks_X5_in (by decide) rfl (Nat.le_of_ble_eq_true rfl) dX5_terraces_8 rfl (c_X5_inN (by omega) (by omega) (fun p8 ha8 hb8 he8 => ?_) (fun h8 => ?_))
  · subst he8
    refine t_ifne1 17 dX5_terraces_11 (by decide) ?_
    refine g_aload_n dX5_terraces_17 rfl 0 rfl ?_
    refine s_getM kf_X5_103 (by decide) rfl dX5_terraces_18 ?_
    refine g_tope (z := nI (x_sz X)) (rpM_sz hX) ?_
    refine g_istore_n (lv' := [(2, .int (nI (x_sz X))), (0, .ref (L 33)), (1, .int (nI p8))]) dX5_terraces_21 rfl (by decide) rfl ?_
    refine g_aload_n dX5_terraces_22 rfl 1 rfl ?_
    refine g_iload_n dX5_terraces_23 rfl 2 rfl ?_
    refine g_callV (As := [.int (nI p8)]) km_X5_99 ky_X5_begin ki_X5_begin (by decide) 33 at_33 rfl rfl (Nat.le_of_ble_eq_true rfl) dX5_terraces_24 rfl (c_X5_begin hX (fun σ24 hf24 hX24 => ?_))
    refine g_iload_n dX5_terraces_27 rfl 0 rfl ?_
    exact g_ireturn dX5_terraces_28 (Nat.le_refl _) (Nat.le_refl _) (qo (P := fr σ) (by unfold terracesO; rw [inN_t (a := 2) (b := 6) (by omega) (by omega) (by omega), ix_nI (by omega) (by decide), if_pos rfl]) h hf24 hX24)
  · refine t_ifne0 (tgt := 17) dX5_terraces_11 (by decide) ?_
    refine g_bipush dX5_terraces_14 bp_m2 ?_
    exact g_ireturn dX5_terraces_16 (Nat.le_refl _) (Nat.le_refl _) (qo (P := fr σ) (by unfold terracesO; rw [inN_f (a := 2) (b := 6) (by omega) h8, if_neg (by decide)]) h fr_rfl hX)
set_option maxHeartbeats 4000000 in
set_option maxRecDepth 20000 in
theorem c_X5_bridge {l : Launch} {D : gE} {L : Nat → Nat} {σ : St} {Q : Option Value → va_W → Prop} {d : Nat} {X : XT} (hX : rpM σ X) (ho : okX X) {w x y v : Int32} (h : ∀ σ', fr σ σ' → rpM σ' (bridgeO X w x y v).2 → Q (some (.int (bridgeO X w x y v).1)) (wsOf D L σ')) : Ctr l D yX5_bridge cX5_bridge 5 (some .int) (rr (d + 2)) [.ref (L 33), .int w, .int x, .int y, .int v] (wsOf D L σ) Q := by
  refine g_start ky_X5_bridge (Nat.le_of_ble_eq_true rfl) ?_
  refine g_pick [0, 1, 2, 3, 4] (lv' := [(0, .ref (L 33)), (1, .int w), (2, .int x), (3, .int y), (4, .int v)]) rfl ?_
  have hfr : fr σ σ := fr_rfl
  have hsz := ok_sz ho
  refine g_iload_n dX5_bridge_0 rfl 1 rfl ?_
  refine g_i2l dX5_bridge_1 ?_
  refine g_lconst dX5_bridge_2 lc_0 ?_
  refine g_ldc2_w kk_X5_122 dX5_bridge_3 ?_
  refine g_tople (z := (nI 7).toInt64) (by decide +kernel) ?_
  refine g_callS (As := [.long w.toInt64, .long ((nI 0).toInt64), .long ((nI 7).toInt64)]) km_X5_118 ky_X5_in ks_X5_in (by decide) rfl (Nat.le_of_ble_eq_true rfl) dX5_bridge_6 rfl (c_X5_inN (by omega) (by omega) (fun p6 ha6 hb6 he6 => ?_) (fun h6 => ?_))
  · subst he6
    refine t_ifeq1 (tgt := 33) dX5_bridge_9 (by decide) ?_
    refine g_aload_n dX5_bridge_12 rfl 0 rfl ?_
    refine g_iload_n dX5_bridge_13 rfl 2 rfl ?_
    refine g_callV (As := [.int x]) km_X5_130 ky_X5_isTerrace ki_X5_isTerrace (by decide) 33 at_33 rfl rfl (Nat.le_of_ble_eq_true rfl) dX5_bridge_14 rfl (c_X5_isTerrace hX ho (fun t14 ht14 he14 => ?_) (fun h14 => ?_))
    · subst he14
      refine t_ifeq1 (tgt := 33) dX5_bridge_17 (by decide) ?_
      refine g_aload_n dX5_bridge_20 rfl 0 rfl ?_
      refine g_iload_n dX5_bridge_21 rfl 3 rfl ?_
      refine g_callV (As := [.int y]) km_X5_130 ky_X5_isTerrace ki_X5_isTerrace (by decide) 33 at_33 rfl rfl (Nat.le_of_ble_eq_true rfl) dX5_bridge_22 rfl (c_X5_isTerrace hX ho (fun t22 ht22 he22 => ?_) (fun h22 => ?_))
      · subst he22
        refine t_ifeq1 (tgt := 33) dX5_bridge_25 (by decide) ?_
        refine g_iload_n dX5_bridge_28 rfl 2 rfl ?_
        refine g_iload_n dX5_bridge_29 rfl 3 rfl ?_
        refine n_icmpne 35 dX5_bridge_30 (by decide) (by omega) (by omega) (fun h30 => ?_) (fun h30 => ?_)
        · refine g_iload dX5_bridge_35 4 rfl ?_
          refine g_i2l dX5_bridge_37 ?_
          refine g_lconst dX5_bridge_38 lc_0 ?_
          refine g_ldc2_w kk_X5_134 dX5_bridge_39 ?_
          refine g_tople (z := (nI 99).toInt64) (by decide +kernel) ?_
          refine g_callS (As := [.long v.toInt64, .long ((nI 0).toInt64), .long ((nI 99).toInt64)]) km_X5_118 ky_X5_in ks_X5_in (by decide) rfl (Nat.le_of_ble_eq_true rfl) dX5_bridge_42 rfl (c_X5_inN (by omega) (by omega) (fun p42 ha42 hb42 he42 => ?_) (fun h42 => ?_))
          · subst he42
            refine t_ifne1 51 dX5_bridge_45 (by decide) ?_
            refine g_aload_n dX5_bridge_51 rfl 0 rfl ?_
            refine s_getM kf_X5_7 (by decide) rfl dX5_bridge_52 ?_
            refine g_iload_n dX5_bridge_55 rfl 1 rfl ?_
            refine g_iload_n dX5_bridge_56 rfl 2 rfl ?_
            refine g_iload_n dX5_bridge_57 rfl 3 rfl ?_
            refine n_icmpge 65 dX5_bridge_58 (by decide) (by omega) (by omega) (fun h58 => ?_) (fun h58 => ?_)
            · refine g_iload_n dX5_bridge_65 rfl 3 rfl ?_
              refine s_ast (q := 34) (n := 8) (at_ia (q := 34) rfl) (by omega) (by decide) dX5_bridge_66 ?_
              have hX := rpM_slo hX p6 t22
              have hfr := fr_A hfr 34 (by omega) (upd (sA σ 34) p6 (nI t22))
              generalize setA σ 34 (upd (sA σ 34) p6 (nI t22)) = σw8 at hX hfr ⊢
              refine g_aload_n dX5_bridge_67 rfl 0 rfl ?_
              refine s_getM kf_X5_13 (by decide) rfl dX5_bridge_68 ?_
              refine g_iload_n dX5_bridge_71 rfl 1 rfl ?_
              refine g_iload_n dX5_bridge_72 rfl 2 rfl ?_
              refine g_iload_n dX5_bridge_73 rfl 3 rfl ?_
              refine n_icmpge 81 dX5_bridge_74 (by decide) (by omega) (by omega) (fun h74 => ?_) (fun h74 => absurd h74 (by omega))
              refine g_iload_n dX5_bridge_81 rfl 2 rfl ?_
              refine s_ast (q := 35) (n := 8) (at_ia (q := 35) rfl) (by omega) (by decide) dX5_bridge_82 ?_
              have hX := rpM_shi hX p6 t14
              simp only [x_hi_lo] at hX
              have hfr := fr_A hfr 35 (by omega) (upd (sA σw8 35) p6 (nI t14))
              generalize setA σw8 35 (upd (sA σw8 35) p6 (nI t14)) = σw9 at hX hfr ⊢
              refine g_aload_n dX5_bridge_83 rfl 0 rfl ?_
              refine s_getM kf_X5_16 (by decide) rfl dX5_bridge_84 ?_
              refine g_iload_n dX5_bridge_87 rfl 1 rfl ?_
              refine g_iload dX5_bridge_88 4 rfl ?_
              refine s_ast (q := 36) (n := 8) (at_ia (q := 36) rfl) (by omega) (by decide) dX5_bridge_90 ?_
              have hX := rpM_sld hX p6 p42
              simp only [x_ld_hi, x_ld_lo] at hX
              have hfr := fr_A hfr 36 (by omega) (upd (sA σw9 36) p6 (nI p42))
              generalize setA σw9 36 (upd (sA σw9 36) p6 (nI p42)) = σw10 at hX hfr ⊢
              refine g_aload_n dX5_bridge_91 rfl 0 rfl ?_
              refine s_getM kf_X5_19 (by decide) rfl dX5_bridge_92 ?_
              refine g_iload_n dX5_bridge_95 rfl 1 rfl ?_
              refine g_iconst dX5_bridge_96 ci_0 ?_
              refine s_ast (q := 37) (n := 8) (at_ia (q := 37) rfl) (by omega) (by decide) dX5_bridge_97 ?_
              have hX := rpM_sbn hX p6 0
              simp only [x_bn_hi, x_bn_ld, x_bn_lo] at hX
              have hfr := fr_A hfr 37 (by omega) (upd (sA σw10 37) p6 (nI 0))
              generalize setA σw10 37 (upd (sA σw10 37) p6 (nI 0)) = σw11 at hX hfr ⊢
              refine g_aload_n dX5_bridge_98 rfl 0 rfl ?_
              refine g_dup dX5_bridge_99 rfl ?_
              refine s_getM kf_X5_106 (by decide) rfl dX5_bridge_100 ?_
              refine g_tope (z := nI (bitsN (x_br X) 8)) ((rpM_br hX).trans (by simp only [x_br_bn, x_br_hi, x_br_ld, x_br_lo])) ?_
              refine g_iconst dX5_bridge_103 ci_1 ?_
              refine g_iload_n dX5_bridge_104 rfl 1 rfl ?_
              refine g_ishl dX5_bridge_105 ?_
              refine g_ior dX5_bridge_106 ?_
              refine g_tope (z := nI (bitsN (fun i => (x_br X) i || i == p6) 8)) (obB _ (by decide) (by omega)) ?_
              refine s_putM kf_X5_106 (by decide) dX5_bridge_107 ?_
              have hX := rpM_sbr hX (fun i => (x_br X) i || i == p6)
              have hfr := fr_I hfr 1 (by omega) (nI (bitsN (fun i => (x_br X) i || i == p6) 8))
              generalize setI σw11 33 1 (nI (bitsN (fun i => (x_br X) i || i == p6) 8)) = σw12 at hX hfr ⊢
              refine g_aload_n dX5_bridge_110 rfl 0 rfl ?_
              refine s_getM kf_X5_106 (by decide) rfl dX5_bridge_111 ?_
              refine g_tope (z := nI (bitsN (fun i => (x_br X) i || i == p6) 8)) ((rpM_br hX).trans (by simp only [x_br_bn, x_br_br, x_br_hi, x_br_ld, x_br_lo])) ?_
              refine g_callS (As := [.int (nI (bitsN (fun i => (x_br X) i || i == p6) 8))]) km_X5_136 ky_X5_ones ks_X5_ones (by decide) rfl (Nat.le_of_ble_eq_true rfl) dX5_bridge_114 rfl (c_X5_ones (Nat.lt_of_lt_of_le (bitsN_lt _ 8) (by decide)) ?_)
              exact g_ireturn dX5_bridge_117 (Nat.le_refl _) (Nat.le_refl _) (qo (P := fr σ) (by unfold bridgeO tX_br; rw [inN_t (a := 0) (b := 7) (by omega) (by omega) (by omega), teI_t ho ht14, teI_t ho ht22, decide_eq_false (fun e => h30 ((nI_eq (by omega) (by omega)).mp e)), if_pos (by rfl), inN_t (a := 0) (b := 99) (by omega) (by omega) (by omega), if_pos rfl, ix8 (by omega), ixt ho ht14, ixt ho ht22, ix_nI (n := 100) (by omega) (by decide), if_neg (show ¬ t14 < t22 by omega), if_neg (show ¬ t14 < t22 by omega)]) h hfr hX)
            · refine g_iload_n dX5_bridge_61 rfl 2 rfl ?_
              refine g_goto 66 dX5_bridge_62 (by decide) ?_
              refine s_ast (q := 34) (n := 8) (at_ia (q := 34) rfl) (by omega) (by decide) dX5_bridge_66 ?_
              have hX := rpM_slo hX p6 t14
              have hfr := fr_A hfr 34 (by omega) (upd (sA σ 34) p6 (nI t14))
              generalize setA σ 34 (upd (sA σ 34) p6 (nI t14)) = σw13 at hX hfr ⊢
              refine g_aload_n dX5_bridge_67 rfl 0 rfl ?_
              refine s_getM kf_X5_13 (by decide) rfl dX5_bridge_68 ?_
              refine g_iload_n dX5_bridge_71 rfl 1 rfl ?_
              refine g_iload_n dX5_bridge_72 rfl 2 rfl ?_
              refine g_iload_n dX5_bridge_73 rfl 3 rfl ?_
              refine n_icmpge 81 dX5_bridge_74 (by decide) (by omega) (by omega) (fun h74 => absurd h74 (by omega)) (fun h74 => ?_)
              refine g_iload_n dX5_bridge_77 rfl 3 rfl ?_
              refine g_goto 82 dX5_bridge_78 (by decide) ?_
              refine s_ast (q := 35) (n := 8) (at_ia (q := 35) rfl) (by omega) (by decide) dX5_bridge_82 ?_
              have hX := rpM_shi hX p6 t22
              simp only [x_hi_lo] at hX
              have hfr := fr_A hfr 35 (by omega) (upd (sA σw13 35) p6 (nI t22))
              generalize setA σw13 35 (upd (sA σw13 35) p6 (nI t22)) = σw14 at hX hfr ⊢
              refine g_aload_n dX5_bridge_83 rfl 0 rfl ?_
              refine s_getM kf_X5_16 (by decide) rfl dX5_bridge_84 ?_
              refine g_iload_n dX5_bridge_87 rfl 1 rfl ?_
              refine g_iload dX5_bridge_88 4 rfl ?_
              refine s_ast (q := 36) (n := 8) (at_ia (q := 36) rfl) (by omega) (by decide) dX5_bridge_90 ?_
              have hX := rpM_sld hX p6 p42
              simp only [x_ld_hi, x_ld_lo] at hX
              have hfr := fr_A hfr 36 (by omega) (upd (sA σw14 36) p6 (nI p42))
              generalize setA σw14 36 (upd (sA σw14 36) p6 (nI p42)) = σw15 at hX hfr ⊢
              refine g_aload_n dX5_bridge_91 rfl 0 rfl ?_
              refine s_getM kf_X5_19 (by decide) rfl dX5_bridge_92 ?_
              refine g_iload_n dX5_bridge_95 rfl 1 rfl ?_
              refine g_iconst dX5_bridge_96 ci_0 ?_
              refine s_ast (q := 37) (n := 8) (at_ia (q := 37) rfl) (by omega) (by decide) dX5_bridge_97 ?_
              have hX := rpM_sbn hX p6 0
              simp only [x_bn_hi, x_bn_ld, x_bn_lo] at hX
              have hfr := fr_A hfr 37 (by omega) (upd (sA σw15 37) p6 (nI 0))
              generalize setA σw15 37 (upd (sA σw15 37) p6 (nI 0)) = σw16 at hX hfr ⊢
              refine g_aload_n dX5_bridge_98 rfl 0 rfl ?_
              refine g_dup dX5_bridge_99 rfl ?_
              refine s_getM kf_X5_106 (by decide) rfl dX5_bridge_100 ?_
              refine g_tope (z := nI (bitsN (x_br X) 8)) ((rpM_br hX).trans (by simp only [x_br_bn, x_br_hi, x_br_ld, x_br_lo])) ?_
              refine g_iconst dX5_bridge_103 ci_1 ?_
              refine g_iload_n dX5_bridge_104 rfl 1 rfl ?_
              refine g_ishl dX5_bridge_105 ?_
              refine g_ior dX5_bridge_106 ?_
              refine g_tope (z := nI (bitsN (fun i => (x_br X) i || i == p6) 8)) (obB _ (by decide) (by omega)) ?_
              refine s_putM kf_X5_106 (by decide) dX5_bridge_107 ?_
              have hX := rpM_sbr hX (fun i => (x_br X) i || i == p6)
              have hfr := fr_I hfr 1 (by omega) (nI (bitsN (fun i => (x_br X) i || i == p6) 8))
              generalize setI σw16 33 1 (nI (bitsN (fun i => (x_br X) i || i == p6) 8)) = σw17 at hX hfr ⊢
              refine g_aload_n dX5_bridge_110 rfl 0 rfl ?_
              refine s_getM kf_X5_106 (by decide) rfl dX5_bridge_111 ?_
              refine g_tope (z := nI (bitsN (fun i => (x_br X) i || i == p6) 8)) ((rpM_br hX).trans (by simp only [x_br_bn, x_br_br, x_br_hi, x_br_ld, x_br_lo])) ?_
              refine g_callS (As := [.int (nI (bitsN (fun i => (x_br X) i || i == p6) 8))]) km_X5_136 ky_X5_ones ks_X5_ones (by decide) rfl (Nat.le_of_ble_eq_true rfl) dX5_bridge_114 rfl (c_X5_ones (Nat.lt_of_lt_of_le (bitsN_lt _ 8) (by decide)) ?_)
              exact g_ireturn dX5_bridge_117 (Nat.le_refl _) (Nat.le_refl _) (qo (P := fr σ) (by unfold bridgeO tX_br; rw [inN_t (a := 0) (b := 7) (by omega) (by omega) (by omega), teI_t ho ht14, teI_t ho ht22, decide_eq_false (fun e => h30 ((nI_eq (by omega) (by omega)).mp e)), if_pos (by rfl), inN_t (a := 0) (b := 99) (by omega) (by omega) (by omega), if_pos rfl, ix8 (by omega), ixt ho ht14, ixt ho ht22, ix_nI (n := 100) (by omega) (by decide), if_pos h58, if_pos h58]) h hfr hX)
          · refine t_ifne0 (tgt := 51) dX5_bridge_45 (by decide) ?_
            refine g_bipush dX5_bridge_48 bp_m2 ?_
            exact g_ireturn dX5_bridge_50 (Nat.le_refl _) (Nat.le_refl _) (qo (P := fr σ) (by unfold bridgeO; rw [inN_t (a := 0) (b := 7) (by omega) (by omega) (by omega), teI_t ho ht14, teI_t ho ht22, decide_eq_false (fun e => h30 ((nI_eq (by omega) (by omega)).mp e)), if_pos (by rfl), inN_f (a := 0) (b := 99) (by omega) h42, if_neg (by decide)]) h fr_rfl hX)
        · refine g_iconst dX5_bridge_33 ci_m1 ?_
          exact g_ireturn dX5_bridge_34 (Nat.le_refl _) (Nat.le_refl _) (qo (P := fr σ) (by unfold bridgeO; rw [h30]; simp) h fr_rfl hX)
      · refine t_ifeq0 33 dX5_bridge_25 (by decide) ?_
        refine g_iconst dX5_bridge_33 ci_m1 ?_
        exact g_ireturn dX5_bridge_34 (Nat.le_refl _) (Nat.le_refl _) (qo (P := fr σ) (by unfold bridgeO; rw [teI_f h22, Bool.and_false]; rfl) h fr_rfl hX)
    · refine t_ifeq0 33 dX5_bridge_17 (by decide) ?_
      refine g_iconst dX5_bridge_33 ci_m1 ?_
      exact g_ireturn dX5_bridge_34 (Nat.le_refl _) (Nat.le_refl _) (qo (P := fr σ) (by unfold bridgeO; rw [teI_f h14, Bool.and_false]; rfl) h fr_rfl hX)
  · refine t_ifeq0 33 dX5_bridge_9 (by decide) ?_
    refine g_iconst dX5_bridge_33 ci_m1 ?_
    exact g_ireturn dX5_bridge_34 (Nat.le_refl _) (Nat.le_refl _) (qo (P := fr σ) (by unfold bridgeO; rw [inN_f (a := 0) (b := 7) (by omega) h6]; rfl) h fr_rfl hX)
set_option maxHeartbeats 4000000 in
set_option maxRecDepth 20000 in
theorem c_X5_fall {l : Launch} {D : gE} {L : Nat → Nat} {σ : St} {Q : Option Value → va_W → Prop} {d : Nat} {X : XT} (hX : rpM σ X) (ho : okX X) {x : Int32} (h : ∀ σ', fr σ σ' → rpM σ' (fallO X x).2 → Q (some (.int (fallO X x).1)) (wsOf D L σ')) : Ctr l D yX5_fall cX5_fall 2 (some .int) (rr (d + 2)) [.ref (L 33), .int x] (wsOf D L σ) Q := by
  refine g_start ky_X5_fall (Nat.le_of_ble_eq_true rfl) ?_
  refine g_pick [0, 1] (lv' := [(0, .ref (L 33)), (1, .int x)]) rfl ?_
  have hfr : fr σ σ := fr_rfl
  refine g_aload_n dX5_fall_0 rfl 0 rfl ?_
  refine g_iload_n dX5_fall_1 rfl 1 rfl ?_
  refine g_callV (As := [.int x]) km_X5_140 ky_X5_isBridge ki_X5_isBridge (by decide) 33 at_33 rfl rfl (Nat.le_of_ble_eq_true rfl) dX5_fall_2 rfl (c_X5_isBridge hX (fun p2 hp2 he2 h2 => ?_) (fun h2 => ?_))
  · subst he2
    refine t_ifne1 10 dX5_fall_5 (by decide) ?_
    refine g_aload_n dX5_fall_10 rfl 0 rfl ?_
    refine g_dup dX5_fall_11 rfl ?_
    refine s_getM kf_X5_106 (by decide) rfl dX5_fall_12 ?_
    refine g_tope (z := nI (bitsN (x_br X) 8)) (rpM_br hX) ?_
    refine g_iconst dX5_fall_15 ci_1 ?_
    refine g_iload_n dX5_fall_16 rfl 1 rfl ?_
    refine g_ishl dX5_fall_17 ?_
    refine g_iconst dX5_fall_18 ci_m1 ?_
    refine g_ixor dX5_fall_19 ?_
    refine g_iand dX5_fall_20 ?_
    refine g_tope (z := nI (bitsN (fun i => (x_br X) i && !(i == p2)) 8)) (nbB _ (by decide) (by omega)) ?_
    refine s_putM kf_X5_106 (by decide) dX5_fall_21 ?_
    have hX := rpM_sbr hX (fun i => (x_br X) i && !(i == p2))
    have hfr := fr_I hfr 1 (by omega) (nI (bitsN (fun i => (x_br X) i && !(i == p2)) 8))
    generalize setI σ 33 1 (nI (bitsN (fun i => (x_br X) i && !(i == p2)) 8)) = σw18 at hX hfr ⊢
    refine g_aload_n dX5_fall_24 rfl 0 rfl ?_
    refine s_getM kf_X5_106 (by decide) rfl dX5_fall_25 ?_
    refine g_tope (z := nI (bitsN (fun i => (x_br X) i && !(i == p2)) 8)) ((rpM_br hX).trans (by simp only [x_br_br])) ?_
    refine g_callS (As := [.int (nI (bitsN (fun i => (x_br X) i && !(i == p2)) 8))]) km_X5_136 ky_X5_ones ks_X5_ones (by decide) rfl (Nat.le_of_ble_eq_true rfl) dX5_fall_28 rfl (c_X5_ones (Nat.lt_of_lt_of_le (bitsN_lt _ 8) (by decide)) ?_)
    exact g_ireturn dX5_fall_31 (Nat.le_refl _) (Nat.le_refl _) (qo (P := fr σ) (by unfold fallO tX_fall; rw [brI_t hp2 h2, ix8 hp2]; rfl) h hfr hX)
  · refine t_ifne0 (tgt := 10) dX5_fall_5 (by decide) ?_
    refine g_iconst dX5_fall_8 ci_m1 ?_
    exact g_ireturn dX5_fall_9 (Nat.le_refl _) (Nat.le_refl _) (qo (P := fr σ) (by unfold fallO; rw [brI_f h2]; rfl) h fr_rfl hX)
set_option maxHeartbeats 4000000 in
set_option maxRecDepth 20000 in
theorem c_X5_person {l : Launch} {D : gE} {L : Nat → Nat} {σ : St} {Q : Option Value → va_W → Prop} {d : Nat} {X : XT} (hX : rpM σ X) (ho : okX X) {x y z : Int32} (h : ∀ σ', fr σ σ' → rpM σ' (personO X x y z).2 → Q (some (.int (personO X x y z).1)) (wsOf D L σ')) : Ctr l D yX5_person cX5_person 4 (some .int) (rr (d + 2)) [.ref (L 33), .int x, .int y, .int z] (wsOf D L σ) Q := by
  refine g_start ky_X5_person (Nat.le_of_ble_eq_true rfl) ?_
  refine g_pick [0, 1, 2, 3] (lv' := [(0, .ref (L 33)), (1, .int x), (2, .int y), (3, .int z)]) rfl ?_
  have hfr : fr σ σ := fr_rfl
  have hsz := ok_sz ho
  refine g_iload_n dX5_person_0 rfl 1 rfl ?_
  refine g_i2l dX5_person_1 ?_
  refine g_lconst dX5_person_2 lc_0 ?_
  refine g_ldc2_w kk_X5_124 dX5_person_3 ?_
  refine g_tople (z := (nI 5).toInt64) (by decide +kernel) ?_
  refine g_callS (As := [.long x.toInt64, .long ((nI 0).toInt64), .long ((nI 5).toInt64)]) km_X5_118 ky_X5_in ks_X5_in (by decide) rfl (Nat.le_of_ble_eq_true rfl) dX5_person_6 rfl (c_X5_inN (by omega) (by omega) (fun p6 ha6 hb6 he6 => ?_) (fun h6 => ?_))
  · subst he6
    refine t_ifeq1 (tgt := 20) dX5_person_9 (by decide) ?_
    refine g_aload_n dX5_person_12 rfl 0 rfl ?_
    refine g_iload_n dX5_person_13 rfl 2 rfl ?_
    refine g_callV (As := [.int y]) km_X5_130 ky_X5_isTerrace ki_X5_isTerrace (by decide) 33 at_33 rfl rfl (Nat.le_of_ble_eq_true rfl) dX5_person_14 rfl (c_X5_isTerrace hX ho (fun t14 ht14 he14 => ?_) (fun h14 => ?_))
    · subst he14
      refine t_ifne1 22 dX5_person_17 (by decide) ?_
      refine g_iload_n dX5_person_22 rfl 3 rfl ?_
      refine g_i2l dX5_person_23 ?_
      refine g_lconst dX5_person_24 lc_0 ?_
      refine g_ldc2_w kk_X5_126 dX5_person_25 ?_
      refine g_tople (z := (nI 2).toInt64) (by decide +kernel) ?_
      refine g_callS (As := [.long z.toInt64, .long ((nI 0).toInt64), .long ((nI 2).toInt64)]) km_X5_118 ky_X5_in ks_X5_in (by decide) rfl (Nat.le_of_ble_eq_true rfl) dX5_person_28 rfl (c_X5_inN (by omega) (by omega) (fun p28 ha28 hb28 he28 => ?_) (fun h28 => ?_))
      · subst he28
        refine t_ifne1 37 dX5_person_31 (by decide) ?_
        refine g_aload_n dX5_person_37 rfl 0 rfl ?_
        refine s_getM kf_X5_22 (by decide) rfl dX5_person_38 ?_
        refine g_iload_n dX5_person_41 rfl 1 rfl ?_
        refine g_iload_n dX5_person_42 rfl 2 rfl ?_
        refine s_ast (q := 38) (n := 6) (at_ia (q := 38) rfl) (by omega) (by decide) dX5_person_43 ?_
        have hX := rpM_spl hX p6 t14
        have hfr := fr_A hfr 38 (by omega) (upd (sA σ 38) p6 (nI t14))
        generalize setA σ 38 (upd (sA σ 38) p6 (nI t14)) = σw19 at hX hfr ⊢
        refine g_aload_n dX5_person_44 rfl 0 rfl ?_
        refine s_getM kf_X5_25 (by decide) rfl dX5_person_45 ?_
        refine g_iload_n dX5_person_48 rfl 1 rfl ?_
        refine g_iload_n dX5_person_49 rfl 3 rfl ?_
        refine s_ast (q := 39) (n := 6) (at_ia (q := 39) rfl) (by omega) (by decide) dX5_person_50 ?_
        have hX := rpM_ski hX p6 p28
        simp only [x_ki_pl] at hX
        have hfr := fr_A hfr 39 (by omega) (upd (sA σw19 39) p6 (nI p28))
        generalize setA σw19 39 (upd (sA σw19 39) p6 (nI p28)) = σw20 at hX hfr ⊢
        refine g_aload_n dX5_person_51 rfl 0 rfl ?_
        refine s_getM kf_X5_28 (by decide) rfl dX5_person_52 ?_
        refine g_iload_n dX5_person_55 rfl 1 rfl ?_
        refine g_iconst dX5_person_56 ci_0 ?_
        refine s_ast (q := 40) (n := 6) (at_ia (q := 40) rfl) (by omega) (by decide) dX5_person_57 ?_
        have hX := rpM_skn0 hX p6
        simp only [x_kn_ki, x_kn_pl] at hX
        have hfr := fr_A hfr 40 (by omega) (upd (sA σw20 40) p6 (nI 0))
        have hK : sA (setA σw20 40 (upd (sA σw20 40) p6 (nI 0))) 40 p6 = nI (bitsN (updF (x_kn X) p6 (fun _ => false) p6) 8) := by show (if p6 = p6 then _ else _) = nI (bitsN (if p6 = p6 then _ else _) 8); rw [if_pos rfl, if_pos rfl]; rfl
        generalize setA σw20 40 (upd (sA σw20 40) p6 (nI 0)) = σw21 at hX hfr hK ⊢
        refine g_aload_n dX5_person_58 rfl 0 rfl ?_
        refine g_dup dX5_person_59 rfl ?_
        refine s_getM kf_X5_109 (by decide) rfl dX5_person_60 ?_
        refine g_tope (z := nI (bitsN (x_th X) 6)) ((rpM_th hX).trans (by simp only [x_th_ki, x_th_kn, x_th_pl])) ?_
        refine g_iconst dX5_person_63 ci_1 ?_
        refine g_iload_n dX5_person_64 rfl 1 rfl ?_
        refine g_ishl dX5_person_65 ?_
        refine g_ior dX5_person_66 ?_
        refine g_tope (z := nI (bitsN (fun i => (x_th X) i || i == p6) 6)) (obB _ (by decide) (by omega)) ?_
        refine s_putM kf_X5_109 (by decide) dX5_person_67 ?_
        have hX := rpM_sth hX (fun i => (x_th X) i || i == p6) (fun i hi hh => by simp only [x_th_kn, x_th_ki, x_th_pl, x_kn_kn]; by_cases e : i = p6; subst e; right; exact hK; left; simpa [e] using hh)
        have hfr := fr_I hfr 2 (by omega) (nI (bitsN (fun i => (x_th X) i || i == p6) 6))
        generalize setI σw21 33 2 (nI (bitsN (fun i => (x_th X) i || i == p6) 6)) = σw22 at hX hfr ⊢
        refine g_aload_n dX5_person_70 rfl 0 rfl ?_
        refine s_getM kf_X5_109 (by decide) rfl dX5_person_71 ?_
        refine g_tope (z := nI (bitsN (fun i => (x_th X) i || i == p6) 6)) ((rpM_th hX).trans (by simp only [x_th_ki, x_th_kn, x_th_pl, x_th_th])) ?_
        refine g_callS (As := [.int (nI (bitsN (fun i => (x_th X) i || i == p6) 6))]) km_X5_136 ky_X5_ones ks_X5_ones (by decide) rfl (Nat.le_of_ble_eq_true rfl) dX5_person_74 rfl (c_X5_ones (Nat.lt_of_lt_of_le (bitsN_lt _ 6) (by decide)) ?_)
        exact g_ireturn dX5_person_77 (Nat.le_refl _) (Nat.le_refl _) (qo (P := fr σ) (by unfold personO; rw [inN_t (a := 0) (b := 5) (by omega) (by omega) (by omega), teI_t ho ht14, if_pos (by rfl), inN_t (a := 0) (b := 2) (by omega) (by omega) (by omega), if_pos rfl, ix6 (by omega), ixt ho ht14, ix_nI (n := 3) (by omega) (by decide)]; rfl) h hfr hX)
      · refine t_ifne0 (tgt := 37) dX5_person_31 (by decide) ?_
        refine g_bipush dX5_person_34 bp_m2 ?_
        exact g_ireturn dX5_person_36 (Nat.le_refl _) (Nat.le_refl _) (qo (P := fr σ) (by unfold personO; rw [inN_t (a := 0) (b := 5) (by omega) (by omega) (by omega), teI_t ho ht14, if_pos (by rfl), inN_f (a := 0) (b := 2) (by omega) h28, if_neg (by decide)]) h fr_rfl hX)
    · refine t_ifne0 (tgt := 22) dX5_person_17 (by decide) ?_
      refine g_iconst dX5_person_20 ci_m1 ?_
      exact g_ireturn dX5_person_21 (Nat.le_refl _) (Nat.le_refl _) (qo (P := fr σ) (by unfold personO; rw [teI_f h14, Bool.and_false]; rfl) h fr_rfl hX)
  · refine t_ifeq0 20 dX5_person_9 (by decide) ?_
    refine g_iconst dX5_person_20 ci_m1 ?_
    exact g_ireturn dX5_person_21 (Nat.le_refl _) (Nat.le_refl _) (qo (P := fr σ) (by unfold personO; rw [inN_f (a := 0) (b := 5) (by omega) h6]; rfl) h fr_rfl hX)
theorem rpM_lv {σ : St} {X : XT} {p : Nat} (h : rpM σ (xs_th X (fun i => x_th X i && !(i == p)))) : rpM σ (tX_leave X p) := by
  refine rpM_cong h (by simp only [tX_leave, x_sz_th, x_sz_kn]) (by simp only [tX_leave, x_br_th, x_br_kn]) (by simp only [tX_leave, x_th_th, x_th_kn]) (by simp only [tX_leave, x_pu_th, x_pu_kn]) (by simp only [tX_leave, x_fa_th, x_fa_kn]) (by simp only [tX_leave, x_sg_th, x_sg_kn]) (fun i hi => ?_) (fun i hi => ?_) (fun i hi ht k hk => ?_)
  · simp only [tX_leave, x_lo_th, x_lo_kn, x_hi_th, x_hi_kn, x_ld_th, x_ld_kn, x_bn_th, x_bn_kn, x_wt_th, x_wt_kn, x_ab_th, x_ab_kn, and_self]
  · simp only [tX_leave, x_pl_th, x_pl_kn, x_ki_th, x_ki_kn, x_sb_th, x_sb_kn, x_sv_th, x_sv_kn, and_self]
  · simp only [tX_leave, x_th_th, x_th_kn, x_kn_th, x_kn_kn] at ht ⊢
    have hne : i ≠ p := by simp at ht; exact ht.2
    simp only [updF, if_neg hne]
set_option maxHeartbeats 4000000 in
set_option maxRecDepth 20000 in
theorem c_X5_leave {l : Launch} {D : gE} {L : Nat → Nat} {σ : St} {Q : Option Value → va_W → Prop} {d : Nat} {X : XT} (hX : rpM σ X) (ho : okX X) {x : Int32} (h : ∀ σ', fr σ σ' → rpM σ' (leaveO X x).2 → Q (some (.int (leaveO X x).1)) (wsOf D L σ')) : Ctr l D yX5_leave cX5_leave 2 (some .int) (rr (d + 2)) [.ref (L 33), .int x] (wsOf D L σ) Q := by
  refine g_start ky_X5_leave (Nat.le_of_ble_eq_true rfl) ?_
  refine g_pick [0, 1] (lv' := [(0, .ref (L 33)), (1, .int x)]) rfl ?_
  have hfr : fr σ σ := fr_rfl
  refine g_aload_n dX5_leave_0 rfl 0 rfl ?_
  refine g_iload_n dX5_leave_1 rfl 1 rfl ?_
  refine g_callV (As := [.int x]) km_X5_143 ky_X5_isThere ki_X5_isThere (by decide) 33 at_33 rfl rfl (Nat.le_of_ble_eq_true rfl) dX5_leave_2 rfl (c_X5_isThere hX (fun p2 hp2 he2 h2 => ?_) (fun h2 => ?_))
  · subst he2
    refine t_ifne1 10 dX5_leave_5 (by decide) ?_
    refine g_aload_n dX5_leave_10 rfl 0 rfl ?_
    refine g_dup dX5_leave_11 rfl ?_
    refine s_getM kf_X5_109 (by decide) rfl dX5_leave_12 ?_
    refine g_tope (z := nI (bitsN (x_th X) 6)) (rpM_th hX) ?_
    refine g_iconst dX5_leave_15 ci_1 ?_
    refine g_iload_n dX5_leave_16 rfl 1 rfl ?_
    refine g_ishl dX5_leave_17 ?_
    refine g_iconst dX5_leave_18 ci_m1 ?_
    refine g_ixor dX5_leave_19 ?_
    refine g_iand dX5_leave_20 ?_
    refine g_tope (z := nI (bitsN (fun i => (x_th X) i && !(i == p2)) 6)) (nbB _ (by decide) (by omega)) ?_
    refine s_putM kf_X5_109 (by decide) dX5_leave_21 ?_
    have hX := rpM_sth hX (fun i => (x_th X) i && !(i == p2)) (fun i hi hh => by simp at hh; exact Or.inl hh.1)
    have hfr := fr_I hfr 2 (by omega) (nI (bitsN (fun i => (x_th X) i && !(i == p2)) 6))
    generalize setI σ 33 2 (nI (bitsN (fun i => (x_th X) i && !(i == p2)) 6)) = σw23 at hX hfr ⊢
    refine g_aload_n dX5_leave_24 rfl 0 rfl ?_
    refine s_getM kf_X5_109 (by decide) rfl dX5_leave_25 ?_
    refine g_tope (z := nI (bitsN (fun i => (x_th X) i && !(i == p2)) 6)) ((rpM_th hX).trans (by simp only [x_th_th])) ?_
    refine g_callS (As := [.int (nI (bitsN (fun i => (x_th X) i && !(i == p2)) 6))]) km_X5_136 ky_X5_ones ks_X5_ones (by decide) rfl (Nat.le_of_ble_eq_true rfl) dX5_leave_28 rfl (c_X5_ones (Nat.lt_of_lt_of_le (bitsN_lt _ 6) (by decide)) ?_)
    exact g_ireturn dX5_leave_31 (Nat.le_refl _) (Nat.le_refl _) (qo (P := fr σ) (by unfold leaveO; rw [thI_t hp2 h2, ix6 hp2]; rfl) h hfr (rpM_lv hX))
  · refine t_ifne0 (tgt := 10) dX5_leave_5 (by decide) ?_
    refine g_iconst dX5_leave_8 ci_m1 ?_
    exact g_ireturn dX5_leave_9 (Nat.le_refl _) (Nat.le_refl _) (qo (P := fr σ) (by unfold leaveO; rw [thI_f h2]; rfl) h fr_rfl hX)
theorem c_X5_inZ {l : Launch} {D : gE} {L : Nat → Nat} {σ : St} {Q : Option Value → va_W → Prop} {d : Nat} {x : Int32} {a b : Int} (ha : -2147483648 ≤ a ∧ a < 2147483648) (hb : -2147483648 ≤ b ∧ b < 2147483648) (ht : inI a b x = true → Q (some (.int (nI 1))) (wsOf D L σ)) (hf : inI a b x = false → Q (some (.int (nI 0))) (wsOf D L σ)) : Ctr l D yX5_in cX5_in 6 (some .boolean) (rr d) [.long x.toInt64, .long ((zI a).toInt64), .long ((zI b).toInt64)] (wsOf D L σ) Q := by
  refine c_X5_in (fun h1 h2 => ht ?_) (fun h => hf ?_)
  · rw [fa_wide_le, fa_le, zI_to ha.1 ha.2] at h1
    rw [fa_wide_le, fa_le, zI_to hb.1 hb.2] at h2
    unfold inI; simp; omega
  · unfold inI
    simp only [decide_eq_false_iff_not]
    rintro ⟨h1, h2⟩
    refine h ⟨?_, ?_⟩
    · rw [fa_wide_le, fa_le, zI_to ha.1 ha.2]; exact h1
    · rw [fa_wide_le, fa_le, zI_to hb.1 hb.2]; exact h2
set_option maxHeartbeats 4000000 in
set_option maxRecDepth 20000 in
theorem c_X5_news {l : Launch} {D : gE} {L : Nat → Nat} {σ : St} {Q : Option Value → va_W → Prop} {d : Nat} {X : XT} (hX : rpM σ X) (ho : okX X) {x y z : Int32} (h : ∀ σ', fr σ σ' → rpM σ' (newsO X x y z).2 → Q (some (.int (newsO X x y z).1)) (wsOf D L σ')) : Ctr l D yX5_news cX5_news 5 (some .int) (rr (d + 2)) [.ref (L 33), .int x, .int y, .int z] (wsOf D L σ) Q := by
  refine g_start ky_X5_news (Nat.le_of_ble_eq_true rfl) ?_
  refine g_pick [0, 1, 2, 3] (lv' := [(0, .ref (L 33)), (1, .int x), (2, .int y), (3, .int z)]) rfl ?_
  have hfr : fr σ σ := fr_rfl
  refine g_iload_n dX5_news_0 rfl 1 rfl ?_
  refine g_callS (As := [.int x]) km_X5_146 ky_X5_isNews ks_X5_isNews (by decide) rfl (Nat.le_of_ble_eq_true rfl) dX5_news_1 rfl (c_X5_isNews (fun k1 hk1 he1 => ?_) (fun h1 => ?_))
  · subst he1
    refine t_ifne1 9 dX5_news_4 (by decide) ?_
    refine g_iload_n dX5_news_9 rfl 2 rfl ?_
    refine g_i2l dX5_news_10 ?_
    refine g_ldc2_w kk_X5_149 dX5_news_11 ?_
    refine g_tople (z := (zI (-20)).toInt64) (by decide +kernel) ?_
    refine g_ldc2_w kk_X5_134 dX5_news_14 ?_
    refine g_tople (z := (zI 99).toInt64) (by decide +kernel) ?_
    refine g_callS (As := [.long y.toInt64, .long ((zI (-20)).toInt64), .long ((zI 99).toInt64)]) km_X5_118 ky_X5_in ks_X5_in (by decide) rfl (Nat.le_of_ble_eq_true rfl) dX5_news_17 rfl (c_X5_inZ (by omega) (by omega) (fun h17 => ?_) (fun h17 => ?_))
    · refine t_ifeq1 (tgt := 35) dX5_news_20 (by decide) ?_
      refine g_iload_n dX5_news_23 rfl 3 rfl ?_
      refine g_i2l dX5_news_24 ?_
      refine g_lconst dX5_news_25 lc_0 ?_
      refine g_ldc2_w kk_X5_151 dX5_news_26 ?_
      refine g_tople (z := (nI 3).toInt64) (by decide +kernel) ?_
      refine g_callS (As := [.long z.toInt64, .long ((nI 0).toInt64), .long ((nI 3).toInt64)]) km_X5_118 ky_X5_in ks_X5_in (by decide) rfl (Nat.le_of_ble_eq_true rfl) dX5_news_29 rfl (c_X5_inN (by omega) (by omega) (fun p29 ha29 hb29 he29 => ?_) (fun h29 => ?_))
      · subst he29
        refine t_ifne1 38 dX5_news_32 (by decide) ?_
        refine g_aload_n dX5_news_38 rfl 0 rfl ?_
        refine s_getM kf_X5_31 (by decide) rfl dX5_news_39 ?_
        refine g_iload_n dX5_news_42 rfl 1 rfl ?_
        refine s_ald (q := 41) (n := 8) (at_ia (q := 41) rfl) (by omega) (by decide) dX5_news_43 ?_
        refine g_tope (z := zI (x_wt X k1)) (rpM_wt hX (by omega)) ?_
        refine g_istore (lv' := [(4, .int (zI (x_wt X k1))), (0, .ref (L 33)), (1, .int (nI k1)), (2, .int y), (3, .int (nI p29))]) dX5_news_44 (by decide) rfl ?_
        refine g_aload_n dX5_news_46 rfl 1 rfl ?_
        refine s_getM kf_X5_31 (by decide) rfl dX5_news_47 ?_
        refine g_iload_n dX5_news_50 rfl 2 rfl ?_
        refine g_iload_n dX5_news_51 rfl 3 rfl ?_
        refine g_tope (z := zI y.toInt) (fb_asI y).symm ?_
        refine s_ast (q := 41) (n := 8) (at_ia (q := 41) rfl) (by omega) (by decide) dX5_news_52 ?_
        have hX := rpM_swt hX k1 y.toInt
        have hfr := fr_A hfr 41 (by omega) (upd (sA σ 41) k1 (zI y.toInt))
        generalize setA σ 41 (upd (sA σ 41) k1 (zI y.toInt)) = σw24 at hX hfr ⊢
        refine g_aload_n dX5_news_53 rfl 1 rfl ?_
        refine s_getM kf_X5_34 (by decide) rfl dX5_news_54 ?_
        refine g_iload_n dX5_news_57 rfl 2 rfl ?_
        refine g_iload_n dX5_news_58 rfl 4 rfl ?_
        refine s_ast (q := 42) (n := 8) (at_ia (q := 42) rfl) (by omega) (by decide) dX5_news_59 ?_
        have hX := rpM_sab hX k1 p29
        simp only [x_ab_wt] at hX
        have hfr := fr_A hfr 42 (by omega) (upd (sA σw24 42) k1 (nI p29))
        generalize setA σw24 42 (upd (sA σw24 42) k1 (nI p29)) = σw25 at hX hfr ⊢
        refine g_aload_n dX5_news_60 rfl 1 rfl ?_
        refine g_dup dX5_news_61 rfl ?_
        refine s_getM kf_X5_112 (by decide) rfl dX5_news_62 ?_
        refine g_tope (z := nI (bitsN (x_pu X) 8)) ((rpM_pu hX).trans (by simp only [x_pu_ab, x_pu_wt])) ?_
        refine g_iconst dX5_news_65 ci_1 ?_
        refine g_iload_n dX5_news_66 rfl 2 rfl ?_
        refine g_ishl dX5_news_67 ?_
        refine g_iconst dX5_news_68 ci_m1 ?_
        refine g_ixor dX5_news_69 ?_
        refine g_iand dX5_news_70 ?_
        refine g_tope (z := nI (bitsN (fun i => (x_pu X) i && !(i == k1)) 8)) (nbB _ (by decide) (by omega)) ?_
        refine s_putM kf_X5_112 (by decide) dX5_news_71 ?_
        have hX := rpM_spu hX (fun i => (x_pu X) i && !(i == k1))
        have hfr := fr_I hfr 3 (by omega) (nI (bitsN (fun i => (x_pu X) i && !(i == k1)) 8))
        generalize setI σw25 33 3 (nI (bitsN (fun i => (x_pu X) i && !(i == k1)) 8)) = σw26 at hX hfr ⊢
        refine g_iload dX5_news_74 0 rfl ?_
        refine g_sipush dX5_news_76 sp_1000 ?_
        refine g_iadd dX5_news_79 ?_
        refine g_tope (z := zI (x_wt X k1 + 1000)) (by rw [show nI 1000 = zI 1000 from by decide +kernel]; exact zI_add _ _) ?_
        exact g_ireturn dX5_news_80 (Nat.le_refl _) (Nat.le_refl _) (qo (P := fr σ) (by unfold newsO; rw [nwI_t hk1, if_pos rfl, h17, inN_t (a := 0) (b := 3) (by omega) (by omega) (by omega), if_pos (by rfl), ix8 hk1, ix_nI (n := 4) (by omega) (by decide)]; rfl) h hfr hX)
      · refine t_ifne0 (tgt := 38) dX5_news_32 (by decide) ?_
        refine g_bipush dX5_news_35 bp_m2 ?_
        exact g_ireturn dX5_news_37 (Nat.le_refl _) (Nat.le_refl _) (qo (P := fr σ) (by unfold newsO; rw [nwI_t hk1, if_pos rfl, h17, inN_f (a := 0) (b := 3) (by omega) h29]; rfl) h fr_rfl hX)
    · refine t_ifeq0 35 dX5_news_20 (by decide) ?_
      refine g_bipush dX5_news_35 bp_m2 ?_
      exact g_ireturn dX5_news_37 (Nat.le_refl _) (Nat.le_refl _) (qo (P := fr σ) (by unfold newsO; rw [nwI_t hk1, if_pos rfl, h17]; rfl) h fr_rfl hX)
  · refine t_ifne0 (tgt := 9) dX5_news_4 (by decide) ?_
    refine g_iconst dX5_news_7 ci_m1 ?_
    exact g_ireturn dX5_news_8 (Nat.le_refl _) (Nat.le_refl _) (qo (P := fr σ) (by unfold newsO; rw [nwI_f h1]; rfl) h fr_rfl hX)
set_option maxHeartbeats 4000000 in
set_option maxRecDepth 20000 in
theorem c_X5_learn {l : Launch} {D : gE} {L : Nat → Nat} {σ : St} {Q : Option Value → va_W → Prop} {d : Nat} {X : XT} (hX : rpM σ X) (ho : okX X) {x y : Int32} {c : Bool} (h : ∀ σ', fr σ σ' → rpM σ' (learnO X x y c).2 → Q (some (.int (learnO X x y c).1)) (wsOf D L σ')) : Ctr l D yX5_learn cX5_learn 5 (some .int) (rr (d + 2)) [.ref (L 33), .int x, .int y, .int (nI (b2n c))] (wsOf D L σ) Q := by
  refine g_start ky_X5_learn (Nat.le_of_ble_eq_true rfl) ?_
  refine g_pick [0, 1, 2, 3] (lv' := [(0, .ref (L 33)), (1, .int x), (2, .int y), (3, .int (nI (b2n c)))]) rfl ?_
  have hfr : fr σ σ := fr_rfl
  refine g_aload_n dX5_learn_0 rfl 0 rfl ?_
  refine g_iload_n dX5_learn_1 rfl 1 rfl ?_
  refine g_callV (As := [.int x]) km_X5_143 ky_X5_isThere ki_X5_isThere (by decide) 33 at_33 rfl rfl (Nat.le_of_ble_eq_true rfl) dX5_learn_2 rfl (c_X5_isThere hX (fun p2 hp2 he2 h2 => ?_) (fun h2 => ?_))
  · subst he2
    refine t_ifeq1 (tgt := 15) dX5_learn_5 (by decide) ?_
    refine g_iload_n dX5_learn_8 rfl 2 rfl ?_
    refine g_callS (As := [.int y]) km_X5_146 ky_X5_isNews ks_X5_isNews (by decide) rfl (Nat.le_of_ble_eq_true rfl) dX5_learn_9 rfl (c_X5_isNews (fun k9 hk9 he9 => ?_) (fun h9 => ?_))
    · subst he9
      refine t_ifne1 17 dX5_learn_12 (by decide) ?_
      refine g_iconst dX5_learn_17 ci_1 ?_
      refine g_iload_n dX5_learn_18 rfl 2 rfl ?_
      refine g_ishl dX5_learn_19 ?_
      refine g_istore (lv' := [(4, .int (nI 1 <<< (nI k9 &&& 31))), (0, .ref (L 33)), (1, .int (nI p2)), (2, .int (nI k9)), (3, .int (nI (b2n c)))]) dX5_learn_20 (by decide) rfl ?_
      refine g_aload_n dX5_learn_22 rfl 1 rfl ?_
      refine s_getM kf_X5_28 (by decide) rfl dX5_learn_23 ?_
      refine g_iload_n dX5_learn_26 rfl 2 rfl ?_
      refine g_iload_n dX5_learn_27 rfl 4 rfl ?_
      refine b_ifeq 43 dX5_learn_28 (by decide) (fun h28 => ?_) (fun h28 => ?_)
      · refine g_aload_n dX5_learn_43 rfl 1 rfl ?_
        refine s_getM kf_X5_28 (by decide) rfl dX5_learn_44 ?_
        refine g_iload_n dX5_learn_47 rfl 2 rfl ?_
        refine s_ald (q := 40) (n := 6) (at_ia (q := 40) rfl) (by omega) (by decide) dX5_learn_48 ?_
        refine g_tope (z := nI (bitsN (x_kn X p2) 8)) (rpM_kn hX (by omega) (by assumption)) ?_
        refine g_iload dX5_learn_49 0 rfl ?_
        refine g_iconst dX5_learn_51 ci_m1 ?_
        refine g_ixor dX5_learn_52 ?_
        refine g_iand dX5_learn_53 ?_
        refine g_tope (z := nI (bitsN (fun i => (x_kn X p2) i && !(i == k9)) 8)) (nbB _ (by decide) (by omega)) ?_
        refine s_ast (q := 40) (n := 6) (at_ia (q := 40) rfl) (by omega) (by decide) dX5_learn_54 ?_
        have hX := rpM_skn hX p2 (fun i => (x_kn X p2) i && !(i == k9))
        have hfr := fr_A hfr 40 (by omega) (upd (sA σ 40) p2 (nI (bitsN (fun i => (x_kn X p2) i && !(i == k9)) 8)))
        generalize setA σ 40 (upd (sA σ 40) p2 (nI (bitsN (fun i => (x_kn X p2) i && !(i == k9)) 8))) = σw27 at hX hfr ⊢
        refine g_aload_n dX5_learn_55 rfl 1 rfl ?_
        refine s_getM kf_X5_28 (by decide) rfl dX5_learn_56 ?_
        refine g_iload_n dX5_learn_59 rfl 2 rfl ?_
        refine s_ald (q := 40) (n := 6) (at_ia (q := 40) rfl) (by omega) (by decide) dX5_learn_60 ?_
        refine g_tope (z := nI (bitsN (fun i => x_kn X p2 i && !(i == k9)) 8)) ((rpM_kn hX hp2 (by simp only [x_th_kn]; exact h2)).trans (by simp only [x_kn_kn, updF, if_true])) ?_
        exact g_ireturn dX5_learn_61 (Nat.le_refl _) (Nat.le_refl _) (qo (P := fr σ) (by unfold learnO tX_learn; rw [thI_t hp2 h2, nwI_t hk9, ix6 hp2, ix8 hk9, h28]; rfl) h hfr hX)
      · refine g_aload_n dX5_learn_31 rfl 1 rfl ?_
        refine s_getM kf_X5_28 (by decide) rfl dX5_learn_32 ?_
        refine g_iload_n dX5_learn_35 rfl 2 rfl ?_
        refine s_ald (q := 40) (n := 6) (at_ia (q := 40) rfl) (by omega) (by decide) dX5_learn_36 ?_
        refine g_tope (z := nI (bitsN (x_kn X p2) 8)) (rpM_kn hX (by omega) (by assumption)) ?_
        refine g_iload dX5_learn_37 0 rfl ?_
        refine g_ior dX5_learn_39 ?_
        refine g_tope (z := nI (bitsN (fun i => (x_kn X p2) i || i == k9) 8)) (obB _ (by decide) (by omega)) ?_
        refine g_goto 54 dX5_learn_40 (by decide) ?_
        refine s_ast (q := 40) (n := 6) (at_ia (q := 40) rfl) (by omega) (by decide) dX5_learn_54 ?_
        have hX := rpM_skn hX p2 (fun i => (x_kn X p2) i || i == k9)
        have hfr := fr_A hfr 40 (by omega) (upd (sA σ 40) p2 (nI (bitsN (fun i => (x_kn X p2) i || i == k9) 8)))
        generalize setA σ 40 (upd (sA σ 40) p2 (nI (bitsN (fun i => (x_kn X p2) i || i == k9) 8))) = σw28 at hX hfr ⊢
        refine g_aload_n dX5_learn_55 rfl 1 rfl ?_
        refine s_getM kf_X5_28 (by decide) rfl dX5_learn_56 ?_
        refine g_iload_n dX5_learn_59 rfl 2 rfl ?_
        refine s_ald (q := 40) (n := 6) (at_ia (q := 40) rfl) (by omega) (by decide) dX5_learn_60 ?_
        refine g_tope (z := nI (bitsN (fun i => x_kn X p2 i || i == k9) 8)) ((rpM_kn hX hp2 (by simp only [x_th_kn]; exact h2)).trans (by simp only [x_kn_kn, updF, if_true])) ?_
        exact g_ireturn dX5_learn_61 (Nat.le_refl _) (Nat.le_refl _) (qo (P := fr σ) (by unfold learnO tX_learn; rw [thI_t hp2 h2, nwI_t hk9, ix6 hp2, ix8 hk9, h28]; rfl) h hfr hX)
    · refine t_ifne0 (tgt := 17) dX5_learn_12 (by decide) ?_
      refine g_iconst dX5_learn_15 ci_m1 ?_
      exact g_ireturn dX5_learn_16 (Nat.le_refl _) (Nat.le_refl _) (qo (P := fr σ) (by unfold learnO; rw [nwI_f h9, Bool.and_false]; rfl) h fr_rfl hX)
  · refine t_ifeq0 15 dX5_learn_5 (by decide) ?_
    refine g_iconst dX5_learn_15 ci_m1 ?_
    exact g_ireturn dX5_learn_16 (Nat.le_refl _) (Nat.le_refl _) (qo (P := fr σ) (by unfold learnO; rw [thI_f h2]; rfl) h fr_rfl hX)
set_option maxHeartbeats 4000000 in
set_option maxRecDepth 20000 in
theorem c_X5_fade {l : Launch} {D : gE} {L : Nat → Nat} {σ : St} {Q : Option Value → va_W → Prop} {d : Nat} {X : XT} (hX : rpM σ X) (ho : okX X) {x : Int32} (h : ∀ σ', fr σ σ' → rpM σ' (fadeO X x).2 → Q (some (.int (fadeO X x).1)) (wsOf D L σ')) : Ctr l D yX5_fade cX5_fade 3 (some .int) (rr (d + 1)) [.ref (L 33), .int x] (wsOf D L σ) Q := by
  refine g_start ky_X5_fade (Nat.le_of_ble_eq_true rfl) ?_
  refine g_pick [0, 1] (lv' := [(0, .ref (L 33)), (1, .int x)]) rfl ?_
  have hfr : fr σ σ := fr_rfl
  refine g_iload_n dX5_fade_0 rfl 1 rfl ?_
  refine g_i2l dX5_fade_1 ?_
  refine g_lconst dX5_fade_2 lc_0 ?_
  refine g_ldc2_w kk_X5_153 dX5_fade_3 ?_
  refine g_tople (z := (nI 9).toInt64) (by decide +kernel) ?_
  refine g_callS (As := [.long x.toInt64, .long ((nI 0).toInt64), .long ((nI 9).toInt64)]) km_X5_118 ky_X5_in ks_X5_in (by decide) rfl (Nat.le_of_ble_eq_true rfl) dX5_fade_6 rfl (c_X5_inN (by omega) (by omega) (fun p6 ha6 hb6 he6 => ?_) (fun h6 => ?_))
  · subst he6
    refine t_ifne1 15 dX5_fade_9 (by decide) ?_
    refine g_aload_n dX5_fade_15 rfl 0 rfl ?_
    refine s_getM kf_X5_95 (by decide) rfl dX5_fade_16 ?_
    refine g_tope (z := nI (x_fa X)) (rpM_fa hX) ?_
    refine g_istore_n (lv' := [(2, .int (nI (x_fa X))), (0, .ref (L 33)), (1, .int (nI p6))]) dX5_fade_19 rfl (by decide) rfl ?_
    refine g_aload_n dX5_fade_20 rfl 1 rfl ?_
    refine g_iload_n dX5_fade_21 rfl 2 rfl ?_
    refine s_putM kf_X5_95 (by decide) dX5_fade_22 ?_
    have hX := rpM_sfa hX p6
    have hfr := fr_I hfr 13 (by omega) (nI p6)
    generalize setI σ 33 13 (nI p6) = σw29 at hX hfr ⊢
    refine g_iload_n dX5_fade_25 rfl 0 rfl ?_
    exact g_ireturn dX5_fade_26 (Nat.le_refl _) (Nat.le_refl _) (qo (P := fr σ) (by unfold fadeO; rw [inN_t (a := 0) (b := 9) (by omega) (by omega) (by omega), if_pos rfl, ix_nI (n := 10) (by omega) (by decide)]) h hfr hX)
  · refine t_ifne0 (tgt := 15) dX5_fade_9 (by decide) ?_
    refine g_bipush dX5_fade_12 bp_m2 ?_
    exact g_ireturn dX5_fade_14 (Nat.le_refl _) (Nat.le_refl _) (qo (P := fr σ) (by unfold fadeO; rw [inN_f (a := 0) (b := 9) (by omega) h6]; rfl) h fr_rfl hX)
set_option maxHeartbeats 4000000 in
set_option maxRecDepth 20000 in
theorem c_X5_forget {l : Launch} {D : gE} {L : Nat → Nat} {σ : St} {Q : Option Value → va_W → Prop} {d : Nat} {X : XT} (hX : rpM σ X) (ho : okX X) (h : ∀ σ', fr σ σ' → rpM σ' (forgetO X).2 → Q (some (.int (forgetO X).1)) (wsOf D L σ')) : Ctr l D yX5_forget cX5_forget 2 (some .int) (rr d) [.ref (L 33)] (wsOf D L σ) Q := by
  refine g_start ky_X5_forget (Nat.le_of_ble_eq_true rfl) ?_
  refine g_pick [0] (lv' := [(0, .ref (L 33))]) rfl ?_
  have hfr : fr σ σ := fr_rfl
  refine g_aload_n dX5_forget_0 rfl 0 rfl ?_
  refine s_getM kf_X5_115 (by decide) rfl dX5_forget_1 ?_
  refine g_tope (z := nI (x_sg X)) (rpM_sg hX) ?_
  refine g_istore_n (lv' := [(1, .int (nI (x_sg X))), (0, .ref (L 33))]) dX5_forget_4 rfl (by decide) rfl ?_
  refine g_aload_n dX5_forget_5 rfl 1 rfl ?_
  refine g_iconst dX5_forget_6 ci_0 ?_
  refine s_putM kf_X5_115 (by decide) dX5_forget_7 ?_
  have hX := rpM_ssg hX 0
  have hfr := fr_I hfr 16 (by omega) (nI 0)
  generalize setI σ 33 16 (nI 0) = σw30 at hX hfr ⊢
  refine g_iload_n dX5_forget_10 rfl 0 rfl ?_
  exact g_ireturn dX5_forget_11 (Nat.le_refl _) (Nat.le_refl _) (qo (P := fr σ) (by rfl) h hfr hX)
set_option maxHeartbeats 4000000 in
set_option maxRecDepth 20000 in
theorem c_X5_seen {l : Launch} {D : gE} {L : Nat → Nat} {σ : St} {Q : Option Value → va_W → Prop} {d : Nat} {X : XT} (hX : rpM σ X) (ho : okX X) {x y : Int32} (h : ∀ σ', fr σ σ' → rpM σ' (seenO X x y).2 → Q (some (.int (seenO X x y).1)) (wsOf D L σ')) : Ctr l D yX5_seen cX5_seen 3 (some .int) (rr (d + 1)) [.ref (L 33), .int x, .int y] (wsOf D L σ) Q := by
  refine g_start ky_X5_seen (Nat.le_of_ble_eq_true rfl) ?_
  refine g_pick [0, 1, 2] (lv' := [(0, .ref (L 33)), (1, .int x), (2, .int y)]) rfl ?_
  have hfr : fr σ σ := fr_rfl
  have hsg := ok_sg ho
  refine g_iload_n dX5_seen_0 rfl 1 rfl ?_
  refine g_i2l dX5_seen_1 ?_
  refine g_lconst dX5_seen_2 lc_0 ?_
  refine g_ldc2_w kk_X5_122 dX5_seen_3 ?_
  refine g_tople (z := (nI 7).toInt64) (by decide +kernel) ?_
  refine g_callS (As := [.long x.toInt64, .long ((nI 0).toInt64), .long ((nI 7).toInt64)]) km_X5_118 ky_X5_in ks_X5_in (by decide) rfl (Nat.le_of_ble_eq_true rfl) dX5_seen_6 rfl (c_X5_inN (by omega) (by omega) (fun p6 ha6 hb6 he6 => ?_) (fun h6 => ?_))
  · subst he6
    refine t_ifne1 14 dX5_seen_9 (by decide) ?_
    refine g_iload_n dX5_seen_14 rfl 2 rfl ?_
    refine g_i2l dX5_seen_15 ?_
    refine g_lconst dX5_seen_16 lc_0 ?_
    refine g_ldc2_w kk_X5_334 dX5_seen_17 ?_
    refine g_tople (z := (nI 999).toInt64) (by decide +kernel) ?_
    refine g_callS (As := [.long y.toInt64, .long ((nI 0).toInt64), .long ((nI 999).toInt64)]) km_X5_118 ky_X5_in ks_X5_in (by decide) rfl (Nat.le_of_ble_eq_true rfl) dX5_seen_20 rfl (c_X5_inN (by omega) (by omega) (fun p20 ha20 hb20 he20 => ?_) (fun h20 => ?_))
    · subst he20
      refine t_ifne1 29 dX5_seen_23 (by decide) ?_
      refine g_aload_n dX5_seen_29 rfl 0 rfl ?_
      refine s_getM kf_X5_115 (by decide) rfl dX5_seen_30 ?_
      refine g_tope (z := nI (x_sg X)) (rpM_sg hX) ?_
      refine g_bipush dX5_seen_33 bp_6 ?_
      refine n_icmpne 41 dX5_seen_35 (by decide) (by omega) (by omega) (fun h35 => ?_) (fun h35 => ?_)
      · refine g_aload_n dX5_seen_41 rfl 0 rfl ?_
        refine s_getM kf_X5_37 (by decide) rfl dX5_seen_42 ?_
        refine g_aload_n dX5_seen_45 rfl 0 rfl ?_
        refine s_getM kf_X5_115 (by decide) rfl dX5_seen_46 ?_
        refine g_tope (z := nI (x_sg X)) (rpM_sg hX) ?_
        refine g_iload_n dX5_seen_49 rfl 1 rfl ?_
        refine s_ast (q := 43) (n := 6) (at_ia (q := 43) rfl) (by omega) (by decide) dX5_seen_50 ?_
        have hX := rpM_ssb hX (x_sg X) p6
        have hfr := fr_A hfr 43 (by omega) (upd (sA σ 43) (x_sg X) (nI p6))
        generalize setA σ 43 (upd (sA σ 43) (x_sg X) (nI p6)) = σw31 at hX hfr ⊢
        refine g_aload_n dX5_seen_51 rfl 0 rfl ?_
        refine s_getM kf_X5_40 (by decide) rfl dX5_seen_52 ?_
        refine g_aload_n dX5_seen_55 rfl 0 rfl ?_
        refine s_getM kf_X5_115 (by decide) rfl dX5_seen_56 ?_
        refine g_tope (z := nI (x_sg X)) ((rpM_sg hX).trans (by simp only [x_sg_sb])) ?_
        refine g_iload_n dX5_seen_59 rfl 2 rfl ?_
        refine s_ast (q := 44) (n := 6) (at_ia (q := 44) rfl) (by omega) (by decide) dX5_seen_60 ?_
        have hX := rpM_ssv hX (x_sg X) p20
        simp only [x_sv_sb] at hX
        have hfr := fr_A hfr 44 (by omega) (upd (sA σw31 44) (x_sg X) (nI p20))
        generalize setA σw31 44 (upd (sA σw31 44) (x_sg X) (nI p20)) = σw32 at hX hfr ⊢
        refine g_aload_n dX5_seen_61 rfl 0 rfl ?_
        refine g_dup dX5_seen_62 rfl ?_
        refine s_getM kf_X5_115 (by decide) rfl dX5_seen_63 ?_
        refine g_tope (z := nI (x_sg X)) ((rpM_sg hX).trans (by simp only [x_sg_sb, x_sg_sv])) ?_
        refine g_iconst dX5_seen_66 ci_1 ?_
        refine g_iadd dX5_seen_67 ?_
        refine g_tope (z := nI (x_sg X + 1)) (nI_add _ _) ?_
        refine s_putM kf_X5_115 (by decide) dX5_seen_68 ?_
        have hX := rpM_ssg hX (x_sg X + 1)
        have hfr := fr_I hfr 16 (by omega) (nI (x_sg X + 1))
        generalize setI σw32 33 16 (nI (x_sg X + 1)) = σw33 at hX hfr ⊢
        refine g_aload_n dX5_seen_71 rfl 0 rfl ?_
        refine s_getM kf_X5_115 (by decide) rfl dX5_seen_72 ?_
        refine g_tope (z := nI (x_sg X + 1)) ((rpM_sg hX).trans (by simp only [x_sg_sb, x_sg_sg, x_sg_sv])) ?_
        exact g_ireturn dX5_seen_75 (Nat.le_refl _) (Nat.le_refl _) (qo (P := fr σ) (by unfold seenO; rw [inN_t (a := 0) (b := 7) (by omega) (by omega) (by omega), if_pos rfl, inN_t (a := 0) (b := 999) (by omega) (by omega) (by omega), if_pos rfl, if_neg h35, ix8 (by omega), ix_nI (n := 1000) (by omega) (by decide)]; rfl) h hfr hX)
      · refine g_bipush dX5_seen_38 bp_m4 ?_
        exact g_ireturn dX5_seen_40 (Nat.le_refl _) (Nat.le_refl _) (qo (P := fr σ) (by unfold seenO; rw [inN_t (a := 0) (b := 7) (by omega) (by omega) (by omega), if_pos rfl, inN_t (a := 0) (b := 999) (by omega) (by omega) (by omega), if_pos rfl, if_pos h35]) h fr_rfl hX)
    · refine t_ifne0 (tgt := 29) dX5_seen_23 (by decide) ?_
      refine g_bipush dX5_seen_26 bp_m2 ?_
      exact g_ireturn dX5_seen_28 (Nat.le_refl _) (Nat.le_refl _) (qo (P := fr σ) (by unfold seenO; rw [inN_t (a := 0) (b := 7) (by omega) (by omega) (by omega), if_pos rfl, inN_f (a := 0) (b := 999) (by omega) h20]; rfl) h fr_rfl hX)
  · refine t_ifne0 (tgt := 14) dX5_seen_9 (by decide) ?_
    refine g_iconst dX5_seen_12 ci_m1 ?_
    exact g_ireturn dX5_seen_13 (Nat.le_refl _) (Nat.le_refl _) (qo (P := fr σ) (by unfold seenO; rw [inN_f (a := 0) (b := 7) (by omega) h6]; rfl) h fr_rfl hX)
