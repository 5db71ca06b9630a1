/-! IMAGES of the reference: the town's cells in the order in which they are passed -/
def twI (e : Nat) : Nat := if e < 4 then e else if e = 4 then 13 else 16
def tw8 (j : Nat) : Nat := if j < 4 then 34 + j else 37 + j
def tw6 (j : Nat) : Nat := if j < 3 then 38 + j else 40 + j
def tw (σ : St) (e : Nat) : Int32 := if e < 6 then sI σ 33 (twI e) else if e < 54 then sA σ (tw8 ((e - 6) % 6)) ((e - 6) / 6) else sA σ (tw6 ((e - 54) % 5)) ((e - 54) / 5)
theorem tw_i (σ : St) {e : Nat} (h : e < 6) : tw σ e = sI σ 33 (twI e) := if_pos h
theorem tw_8 (σ : St) {i j : Nat} (hi : i < 8) (hj : j < 6) : tw σ (6 + 6 * i + j) = sA σ (tw8 j) i := by
  unfold tw
  rw [if_neg (by omega), if_pos (by omega), show (6 + 6 * i + j - 6) % 6 = j by omega, show (6 + 6 * i + j - 6) / 6 = i by omega]
theorem tw_6 (σ : St) {i j : Nat} (hj : j < 5) : tw σ (54 + 5 * i + j) = sA σ (tw6 j) i := by
  unfold tw
  rw [if_neg (by omega), if_neg (by omega), show (54 + 5 * i + j - 54) % 5 = j by omega, show (54 + 5 * i + j - 54) / 5 = i by omega]
theorem tw_cong {σ σ' : St} (hA : ∀ q, 34 ≤ q → q ≤ 44 → sA σ' q = sA σ q) (hI : ∀ e, e < 6 → sI σ' 33 (twI e) = sI σ 33 (twI e)) (e : Nat) : tw σ' e = tw σ e := by
  unfold tw
  split
  · rename_i h; exact hI e h
  split
  · rw [hA _ (by unfold tw8; split <;> omega) (by unfold tw8; split <;> omega)]
  · rw [hA _ (by unfold tw6; split <;> omega) (by unfold tw6; split <;> omega)]
theorem tw_setI (σ : St) {a : Nat} (ha : a < 6) (x : Int32) (e : Nat) : tw (setI σ 33 (twI a) x) e = if e = a then x else tw σ e := by
  by_cases h : e < 6
  · rw [tw_i _ h, tw_i _ h]
    by_cases c : e = a
    · rw [c, if_pos rfl]; exact sI_same _ _ _ _
    · rw [if_neg c]
      exact sI_ne _ _ _ _ (by unfold twI; split <;> split <;> (try split) <;> (try split) <;> omega) _
  · rw [if_neg (by omega)]
    unfold tw
    rw [if_neg h, if_neg h]
    rfl
theorem tw_set8 (σ : St) {i j : Nat} (hi : i < 8) (hj : j < 6) (x : Int32) (e : Nat) : tw (setA σ (tw8 j) (upd (sA σ (tw8 j)) i x)) e = if e = 6 + 6 * i + j then x else tw σ e := by
  have hq : 34 ≤ tw8 j ∧ tw8 j ≤ 42 ∧ tw8 j ≠ 38 ∧ tw8 j ≠ 39 ∧ tw8 j ≠ 40 := by unfold tw8; split <;> omega
  by_cases c : e = 6 + 6 * i + j
  · rw [if_pos c, c, tw_8 _ hi hj, sA_same]; exact pk_us
  · rw [if_neg c]
    unfold tw
    split
    · rfl
    split
    · by_cases d : (e - 6) % 6 = j
      · rw [d, sA_same, pk_un (by omega)]
      · rw [sA_ne _ _ _ (by have h1 : (e - 6) % 6 < 6 := Nat.mod_lt _ (by decide)
                            generalize (e - 6) % 6 = u at d h1 ⊢
                            unfold tw8; split <;> split <;> omega)]
    · rw [sA_ne _ _ _ (by have h1 : (e - 54) % 5 < 5 := Nat.mod_lt _ (by decide)
                          generalize (e - 54) % 5 = u at h1 ⊢
                          unfold tw6; split <;> omega)]
theorem tw_set6 (σ : St) {i j : Nat} (hi : i < 6) (hj : j < 5) (x : Int32) {e : Nat} (he : e < 84) : tw (setA σ (tw6 j) (upd (sA σ (tw6 j)) i x)) e = if e = 54 + 5 * i + j then x else tw σ e := by
  have hq : 38 ≤ tw6 j ∧ tw6 j ≤ 44 ∧ tw6 j ≠ 41 ∧ tw6 j ≠ 42 := by unfold tw6; split <;> omega
  by_cases c : e = 54 + 5 * i + j
  · rw [if_pos c, c, tw_6 _ hj, sA_same]; exact pk_us
  · rw [if_neg c]
    unfold tw
    split
    · rfl
    split
    · rw [sA_ne _ _ _ (by have h1 : (e - 6) % 6 < 6 := Nat.mod_lt _ (by decide)
                          generalize (e - 6) % 6 = u at h1 ⊢
                          unfold tw8; split <;> omega)]
    · by_cases d : (e - 54) % 5 = j
      · rw [d, sA_same, pk_un (by omega)]
      · rw [sA_ne _ _ _ (by have h1 : (e - 54) % 5 < 5 := Nat.mod_lt _ (by decide)
                            generalize (e - 54) % 5 = u at d h1 ⊢
                            unfold tw6; split <;> split <;> omega)]
/-- a town in a row of 84 -/
def ksl (k : Nat) : Nat := if k = 6 then 2 else if k = 12 then 3 else if k = 13 then 4 else if k = 14 then 5 else k
def kar (j i : Nat) : Nat := if j ≤ 4 then 5 + 6 * i + j else if j ≤ 7 then 49 + 5 * i + j else if j ≤ 9 then 2 + 6 * i + j else 47 + 5 * i + j
def rpK (F : Nat → Int32) (X : XT) : Prop := rp (fun k => F (ksl k)) (fun j i => F (kar j i)) X
theorem rpK_cong {F G : Nat → Int32} {X : XT} (h : ∀ e, e < 84 → G e = F e) (hF : rpK F X) : rpK G X := by
  obtain ⟨h0, h1, h2, h3, h4, h5, a1, a2, a3, a4, a5, a6, a7, a8, a9, a10, a11⟩ := hF
  refine ⟨(h _ (by decide)).trans h0, (h _ (by decide)).trans h1, (h _ (by decide)).trans h2, (h _ (by decide)).trans h3, (h _ (by decide)).trans h4, (h _ (by decide)).trans h5, ?_, ?_, ?_, ?_, ?_, ?_, ?_, ?_, ?_, ?_, ?_⟩
  · exact fun i hi => (h _ (by show 5 + 6 * i + 1 < 84; omega)).trans (a1 i hi)
  · exact fun i hi => (h _ (by show 5 + 6 * i + 2 < 84; omega)).trans (a2 i hi)
  · exact fun i hi => (h _ (by show 5 + 6 * i + 3 < 84; omega)).trans (a3 i hi)
  · exact fun i hi => (h _ (by show 5 + 6 * i + 4 < 84; omega)).trans (a4 i hi)
  · exact fun i hi => (h _ (by show 49 + 5 * i + 5 < 84; omega)).trans (a5 i hi)
  · exact fun i hi => (h _ (by show 49 + 5 * i + 6 < 84; omega)).trans (a6 i hi)
  · exact fun i hi ht => (h _ (by show 49 + 5 * i + 7 < 84; omega)).trans (a7 i hi ht)
  · exact fun i hi => (h _ (by show 2 + 6 * i + 8 < 84; omega)).trans (a8 i hi)
  · exact fun i hi => (h _ (by show 2 + 6 * i + 9 < 84; omega)).trans (a9 i hi)
  · exact fun i hi => (h _ (by show 47 + 5 * i + 10 < 84; omega)).trans (a10 i hi)
  · exact fun i hi => (h _ (by show 47 + 5 * i + 11 < 84; omega)).trans (a11 i hi)
theorem tw8e (σ : St) {i : Nat} (hi : i < 8) {j e : Nat} (hj : j < 6) (he : e = 6 + 6 * i + j) : tw σ e = sA σ (tw8 j) i := by rw [he]; exact tw_8 σ hi hj
theorem tw6e (σ : St) {i : Nat} {j e : Nat} (hj : j < 5) (he : e = 54 + 5 * i + j) : tw σ e = sA σ (tw6 j) i := by rw [he]; exact tw_6 σ hj
theorem rpM_tw {σ : St} {X : XT} : rpM σ X ↔ rpK (tw σ) X := by
  constructor
  · rintro ⟨h0, h1, h2, h3, h4, h5, a1, a2, a3, a4, a5, a6, a7, a8, a9, a10, a11⟩
    refine ⟨h0, h1, h2, h3, h4, h5, ?_, ?_, ?_, ?_, ?_, ?_, ?_, ?_, ?_, ?_, ?_⟩
    · exact fun i hi => (tw8e σ hi (j := 0) (by decide) (by show 5 + 6 * i + 1 = _; omega)).trans (a1 i hi)
    · exact fun i hi => (tw8e σ hi (j := 1) (by decide) (by show 5 + 6 * i + 2 = _; omega)).trans (a2 i hi)
    · exact fun i hi => (tw8e σ hi (j := 2) (by decide) (by show 5 + 6 * i + 3 = _; omega)).trans (a3 i hi)
    · exact fun i hi => (tw8e σ hi (j := 3) (by decide) (by show 5 + 6 * i + 4 = _; omega)).trans (a4 i hi)
    · exact fun i hi => (tw6e σ (j := 0) (by decide) (by show 49 + 5 * i + 5 = _; omega)).trans (a5 i hi)
    · exact fun i hi => (tw6e σ (j := 1) (by decide) (by show 49 + 5 * i + 6 = _; omega)).trans (a6 i hi)
    · exact fun i hi ht => (tw6e σ (j := 2) (by decide) (by show 49 + 5 * i + 7 = _; omega)).trans (a7 i hi ht)
    · exact fun i hi => (tw8e σ hi (j := 4) (by decide) (by show 2 + 6 * i + 8 = _; omega)).trans (a8 i hi)
    · exact fun i hi => (tw8e σ hi (j := 5) (by decide) (by show 2 + 6 * i + 9 = _; omega)).trans (a9 i hi)
    · exact fun i hi => (tw6e σ (j := 3) (by decide) (by show 47 + 5 * i + 10 = _; omega)).trans (a10 i hi)
    · exact fun i hi => (tw6e σ (j := 4) (by decide) (by show 47 + 5 * i + 11 = _; omega)).trans (a11 i hi)
  · rintro ⟨h0, h1, h2, h3, h4, h5, a1, a2, a3, a4, a5, a6, a7, a8, a9, a10, a11⟩
    refine ⟨h0, h1, h2, h3, h4, h5, ?_, ?_, ?_, ?_, ?_, ?_, ?_, ?_, ?_, ?_, ?_⟩
    · exact fun i hi => (tw8e σ hi (j := 0) (by decide) (by show 5 + 6 * i + 1 = _; omega)).symm.trans (a1 i hi)
    · exact fun i hi => (tw8e σ hi (j := 1) (by decide) (by show 5 + 6 * i + 2 = _; omega)).symm.trans (a2 i hi)
    · exact fun i hi => (tw8e σ hi (j := 2) (by decide) (by show 5 + 6 * i + 3 = _; omega)).symm.trans (a3 i hi)
    · exact fun i hi => (tw8e σ hi (j := 3) (by decide) (by show 5 + 6 * i + 4 = _; omega)).symm.trans (a4 i hi)
    · exact fun i hi => (tw6e σ (j := 0) (by decide) (by show 49 + 5 * i + 5 = _; omega)).symm.trans (a5 i hi)
    · exact fun i hi => (tw6e σ (j := 1) (by decide) (by show 49 + 5 * i + 6 = _; omega)).symm.trans (a6 i hi)
    · exact fun i hi ht => (tw6e σ (j := 2) (by decide) (by show 49 + 5 * i + 7 = _; omega)).symm.trans (a7 i hi ht)
    · exact fun i hi => (tw8e σ hi (j := 4) (by decide) (by show 2 + 6 * i + 8 = _; omega)).symm.trans (a8 i hi)
    · exact fun i hi => (tw8e σ hi (j := 5) (by decide) (by show 2 + 6 * i + 9 = _; omega)).symm.trans (a9 i hi)
    · exact fun i hi => (tw6e σ (j := 3) (by decide) (by show 47 + 5 * i + 10 = _; omega)).symm.trans (a10 i hi)
    · exact fun i hi => (tw6e σ (j := 4) (by decide) (by show 47 + 5 * i + 11 = _; omega)).symm.trans (a11 i hi)
/-- what is passed: written (w) or read -/
def pvT (σ0 : St) (n : Nat) (w : Bool) (e : Nat) : Int32 := if w = true then tw σ0 e else sA σ0 60 (100 * n + e)
def pvF (σ0 σ : St) : Prop := (∀ q, q < 34 ∨ (44 < q ∧ q ≠ 60) → sA σ q = sA σ0 q) ∧ (∀ o, o ≠ 33 → sI σ o = sI σ0 o) ∧ sI σ 33 18 = sI σ0 33 18 ∧ sK σ = sK σ0 ∧ sM σ = sM σ0
def PV (σ0 : St) (n : Nat) (w : Bool) (c : Nat) (σ : St) : Prop :=
  (∀ e, e < 84 → e < c → tw σ e = pvT σ0 n w e ∧ sA σ 60 (100 * n + e) = pvT σ0 n w e) ∧ (∀ e, e < 84 → c ≤ e → tw σ e = tw σ0 e ∧ sA σ 60 (100 * n + e) = sA σ0 60 (100 * n + e)) ∧ (∀ e, e < 100 * n ∨ 100 * n + 84 ≤ e → sA σ 60 e = sA σ0 60 e) ∧ sI σ 33 45 = nI (100 * n + c) ∧ sI σ 33 46 = nI (b2n w) ∧ pvF σ0 σ
def psV (σ : St) (w : Bool) (a : Nat) (v : Int32) : Int32 := if w = true then v else sA σ 60 a
/-- the state behind pass -/
def psS' (σ : St) (w : Bool) (a : Nat) (v : Int32) : St := setI (setA σ 60 (upd (sA σ 60) a (psV σ w a v))) 33 45 (nI (a + 1))
theorem pv_val {σ0 σ : St} {n c : Nat} {w : Bool} (h : PV σ0 n w c σ) (hc : c < 84) : psV σ w (100 * n + c) (tw σ c) = pvT σ0 n w c := by
  unfold psV pvT
  rw [(h.2.1 c hc (Nat.le_refl c)).1, (h.2.1 c hc (Nat.le_refl c)).2]
/-- a store of the passed cell -/
theorem pv_step {σ0 σ σ' : St} {n c : Nat} {w : Bool} (h : PV σ0 n w c σ) (hc : c < 84) (htw : ∀ e, e < 84 → tw σ' e = if e = c then pvT σ0 n w c else tw σ e) (h60 : sA σ' 60 = upd (sA σ 60) (100 * n + c) (pvT σ0 n w c)) (h45 : sI σ' 33 45 = nI (100 * n + c + 1)) (h46 : sI σ' 33 46 = sI σ 33 46) (hf : pvF σ σ') : PV σ0 n w (c + 1) σ' := by
  refine ⟨fun e he hl => ?_, fun e he hl => ?_, fun e he => ?_, h45, h46.trans h.2.2.2.2.1, ?_⟩
  · by_cases q : e = c
    · rw [htw e he, if_pos q, q, h60]; exact ⟨rfl, pk_us⟩
    · rw [htw e he, if_neg q, h60, pk_un (by omega)]; exact h.1 e he (by omega)
  · rw [htw e he, if_neg (by omega), h60, pk_un (by omega)]; exact h.2.1 e he (by omega)
  · rw [h60, pk_un (by omega)]; exact h.2.2.1 e he
  · have g := h.2.2.2.2.2
    exact ⟨fun q hq => (hf.1 q hq).trans (g.1 q hq), fun o ho => (hf.2.1 o ho).trans (g.2.1 o ho), hf.2.2.1.trans g.2.2.1, hf.2.2.2.1.trans g.2.2.2.1, hf.2.2.2.2.trans g.2.2.2.2⟩
theorem tw_ps (σ : St) (w : Bool) (a : Nat) (v : Int32) (e : Nat) : tw (psS' σ w a v) e = tw σ e := by
  refine tw_cong (fun q h1 h2 => ?_) (fun e he => ?_) e
  · show (if q = 60 then _ else sA σ q) = sA σ q
    rw [if_neg (by omega)]
  · exact sI_ne _ 33 45 (twI e) (by unfold twI; split <;> (try split) <;> omega) _
theorem pv_I {σ0 σ : St} {n c : Nat} {w : Bool} (h : PV σ0 n w c σ) (hc : c < 6) {k : Nat} (hk : k = twI c) {v : Int32} (hv : v = sI σ 33 k) : PV σ0 n w (c + 1) (setI (psS' σ w (100 * n + c) v) 33 k (psV σ w (100 * n + c) v)) := by
  subst hk
  have hv2 : v = tw σ c := hv.trans (tw_i σ hc).symm
  have e := pv_val h (by omega : c < 84)
  rw [← hv2] at e
  rw [e]
  have hne : twI c ≠ 45 ∧ twI c ≠ 46 ∧ twI c ≠ 18 := by unfold twI; split <;> (try split) <;> omega
  refine pv_step h (by omega) (fun a ha => ?_) ?_ ?_ ?_ ?_
  · rw [tw_setI _ hc, tw_ps]
  · show upd (sA σ 60) _ (psV σ w (100 * n + c) v) = _
    rw [e]
  · exact (sI_ne _ 33 (twI c) 45 (Ne.symm hne.1) _).trans (sI_same _ _ _ _)
  · exact (sI_ne _ 33 (twI c) 46 (Ne.symm hne.2.1) _).trans (sI_ne _ 33 45 46 (by decide) _)
  · refine ⟨fun q hq => ?_, fun o ho => ?_, ?_, rfl, rfl⟩
    · show (if q = 60 then _ else sA σ q) = sA σ q
      rw [if_neg (by omega)]
    · exact (if_neg ho).trans (if_neg ho)
    · exact (sI_ne _ 33 (twI c) 18 (Ne.symm hne.2.2) _).trans (sI_ne _ 33 45 18 (by decide) _)
theorem pv_A {σ0 σ : St} {n c : Nat} {w : Bool} (h : PV σ0 n w c σ) (hc : c < 84) {q i : Nat} (hq : 34 ≤ q ∧ q ≤ 44) {v : Int32} (hv : v = sA σ q i) (hv2 : tw σ c = sA σ q i) (hs : ∀ (σ' : St) (x : Int32) (e : Nat), e < 84 → tw (setA σ' q (upd (sA σ' q) i x)) e = if e = c then x else tw σ' e) : PV σ0 n w (c + 1) (setA (psS' σ w (100 * n + c) v) q (upd (sA (psS' σ w (100 * n + c) v) q) i (psV σ w (100 * n + c) v))) := by
  have e := pv_val h hc
  rw [hv2, ← hv] at e
  rw [e]
  refine pv_step h hc (fun a ha => ?_) ?_ ?_ ?_ ?_
  · rw [hs _ _ _ ha, tw_ps]
  · rw [sA_ne _ _ _ (by omega)]
    show upd (sA σ 60) _ (psV σ w (100 * n + c) v) = _
    rw [e]
  · show sI (psS' σ w (100 * n + c) v) 33 45 = _
    exact sI_same _ _ _ _
  · show sI (psS' σ w (100 * n + c) v) 33 46 = _
    exact sI_ne _ 33 45 46 (by decide) _
  · refine ⟨fun r hr => ?_, fun o ho => if_neg ho, (show sI (psS' σ w (100 * n + c) v) 33 18 = _ from sI_ne _ 33 45 18 (by decide) _), rfl, rfl⟩
    rw [sA_ne _ _ _ (by omega)]
    show (if r = 60 then _ else sA σ r) = sA σ r
    rw [if_neg (by omega)]
theorem pv_8 {σ0 σ : St} {n c : Nat} {w : Bool} (h : PV σ0 n w c σ) {i j q : Nat} (hi : i < 8) (hj : j < 6) (hq : q = tw8 j) (hc : c = 6 + 6 * i + j) {v : Int32} (hv : v = sA σ q i) : PV σ0 n w (c + 1) (setA (psS' σ w (100 * n + c) v) q (upd (sA (psS' σ w (100 * n + c) v) q) i (psV σ w (100 * n + c) v))) := by
  subst hq
  exact pv_A h (by omega) (by unfold tw8; split <;> omega) hv (by rw [hc]; exact tw_8 σ hi hj) (fun σ' x e _ => by rw [hc]; exact tw_set8 σ' hi hj x e)
theorem pv_6 {σ0 σ : St} {n c : Nat} {w : Bool} (h : PV σ0 n w c σ) {i j q : Nat} (hi : i < 6) (hj : j < 5) (hq : q = tw6 j) (hc : c = 54 + 5 * i + j) {v : Int32} (hv : v = sA σ q i) : PV σ0 n w (c + 1) (setA (psS' σ w (100 * n + c) v) q (upd (sA (psS' σ w (100 * n + c) v) q) i (psV σ w (100 * n + c) v))) := by
  subst hq
  exact pv_A h (by omega) (by unfold tw6; split <;> omega) hv (by rw [hc]; exact tw_6 σ hj) (fun σ' x e he => by rw [hc]; exact tw_set6 σ' hi hj x he)
theorem pv_0 {σ : St} {n : Nat} {w : Bool} (h45 : sI σ 33 45 = nI (100 * n)) (h46 : sI σ 33 46 = nI (b2n w)) : PV σ n w 0 σ := ⟨fun e _ h => absurd h (Nat.not_lt_zero e), fun _ _ _ => ⟨rfl, rfl⟩, fun _ _ => rfl, h45, h46, fun _ _ => rfl, fun _ _ => rfl, rfl, rfl, rfl⟩
/-- behind a writing, behind a reading -/
theorem pv_w {σ0 σ : St} {n : Nat} {X : XT} (h : PV σ0 n true 84 σ) (hX : rpM σ0 X) : rpM σ X ∧ rpK (fun e => sA σ 60 (100 * n + e)) X := by
  have h1 := rpM_tw.mp hX
  refine ⟨rpM_tw.mpr (rpK_cong (fun e he => ?_) h1), rpK_cong (fun e he => ?_) h1⟩
  · exact (h.1 e he he).1.trans (if_pos rfl)
  · exact (h.1 e he he).2.trans (if_pos rfl)
theorem pv_r {σ0 σ : St} {n : Nat} {X : XT} (h : PV σ0 n false 84 σ) (hX : rpK (fun e => sA σ0 60 (100 * n + e)) X) : rpM σ X ∧ ∀ e, sA σ 60 e = sA σ0 60 e := by
  refine ⟨rpM_tw.mpr (rpK_cong (fun e he => ?_) hX), fun e => ?_⟩
  · exact (h.1 e he he).1.trans (if_neg (by decide))
  · by_cases q : e < 100 * n ∨ 100 * n + 84 ≤ e
    · exact h.2.2.1 e q
    · have := (h.1 (e - 100 * n) (by omega) (by omega)).2
      rw [show 100 * n + (e - 100 * n) = e by omega] at this
      rw [this]
      show (if false = true then _ else sA σ0 60 (100 * n + (e - 100 * n))) = _
      rw [if_neg (by decide), show 100 * n + (e - 100 * n) = e by omega]
