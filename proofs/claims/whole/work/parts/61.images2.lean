/-! IMAGES OF THE CLASS -/
def cN1 (o : Option Nat) : Nat := if o.isSome then 1 else 0
theorem cN1_le (o : Option Nat) : cN1 o ≤ 1 := by unfold cN1; split <;> omega
def imC (σ : St) (M : Nat → Option XT) : Prop := (∀ n, n < 2 → ∀ X, M n = some X → ∃ b, sM σ n = some b ∧ rzT σ b X) ∧ (∀ n, n < 2 → M n = none → sM σ n = none) ∧ (∀ n m b, sM σ n = some b → sM σ m = some b → n = m) ∧ (∀ n b, sM σ n = some b → n < 2 ∧ tn σ b ∧ 62 ≤ b) ∧ sK σ = cN1 (sM σ 0) + cN1 (sM σ 1)
theorem imC_keep {σ σ' : St} {M : Nat → Option XT} (h : imC σ M) (hA : ∀ q, 62 ≤ q → sA σ' q = sA σ q) (hI : ∀ o, 62 ≤ o → sI σ' o = sI σ o) (hK : sK σ' = sK σ) (hM : sM σ' = sM σ) : imC σ' M := by
  obtain ⟨h1, h2, h3, h4, h5⟩ := h
  refine ⟨fun n hn X hX => ?_, fun n hn hm => by rw [hM]; exact h2 n hn hm, by rw [hM]; exact h3, fun n b hb => ?_, by rw [hK, hM]; exact h5⟩
  · obtain ⟨b, hb, hr⟩ := h1 n hn X hX
    have h62 := (h4 n b hb).2.2
    exact ⟨b, by rw [hM]; exact hb, rz_gen (fun j _ _ => hA _ (by omega)) (hI _ h62) hr⟩
  · rw [hM] at hb
    obtain ⟨g1, g2, g3⟩ := h4 n b hb
    exact ⟨g1, by unfold tn; rw [hK]; exact g2, g3⟩
section IMG
variable {l : Launch} {D : gE} {y : MethodName} {cc : ByteArray} {nL : Nat} {rt : Option FieldType} {rm : Room} {Q : Option Value → va_W → Prop} {cells slots pc : Nat} {lv : List (Nat × Value)} {st : List Value} {L : Nat → Nat} {σ : St}
theorem s_aal {p : Nat} (hp : p < 2) {o : Option Nat} (ho : sM σ p = o) (hd : decode cc pc = .ok (.aaload, 1)) (kk : G l D y cc nL rt rm Q cells slots (pc + 1) lv (va_rf (o.map L) :: st) (wsOf D L σ)) : G l D y cc nL rt rm Q cells slots pc lv (.int (nI p) :: .ref (L 25) :: st) (wsOf D L σ) := by
  refine g_aaload 25 at_25 (vp_in_nI hp (by decide)) hd ?_
  rw [nI_clamp (by omega)]
  subst ho
  exact kk
def setM (σ : St) (p b : Nat) : St := (sI σ, sA σ, sK σ, fun i => if i = p then some b else sM σ i)
theorem s_aast {p b : Nat} (hp : p < 2) (hb : tn σ b) (hd : decode cc pc = .ok (.aastore, 1)) (kk : G l D y cc nL rt rm Q cells slots (pc + 1) lv st (wsOf D L (setM σ p b))) : G l D y cc nL rt rm Q cells slots pc lv (.ref (L b) :: .int (nI p) :: .ref (L 25) :: st) (wsOf D L σ) := by
  refine g_aastore (ws' := wsOf D L (setM σ p b)) 25 b at_25 (at_tn hb) kC_X3.1 rfl (vp_in_nI hp (by decide)) hd ?_ kk
  rw [nI_clamp (by omega)]
  refine ws_ext rfl (by omega) ?_ (fun r hr => ?_)
  · show (Sum.inl (D.2.2.2.2, 2, .inr (.inr (.inr (.inr (fun i => (if i = p then some b else sM σ i).map L))))) : va_E) = _
    congr 7
    funext i
    unfold va_up
    by_cases c : i = p
    · rw [if_pos c, if_pos c]; rfl
    · rw [if_neg c, if_neg c]
  · unfold cellE
    rw [if_neg hr, if_neg hr]
    rfl
theorem cellE_cong {L' : Nat → Nat} {q n : Nat} {I A : Nat → Int32} {im : Nat → Option Nat} (hL : ∀ r, r < n → L' r = L r) (hn : n = 62 ∨ n = 74 ∨ n = 86) (hq : q < n) (him : ∀ i c, im i = some c → c < n) : cellE D L' q I A im = cellE D L q I A im := by
  unfold cellE
  split
  · rename_i h
    have h11 : q + 11 < n := by omega
    simp only [tnF, hL (q + 1) (by omega), hL (q + 2) (by omega), hL (q + 3) (by omega), hL (q + 4) (by omega), hL (q + 5) (by omega), hL (q + 6) (by omega), hL (q + 7) (by omega), hL (q + 8) (by omega), hL (q + 9) (by omega), hL (q + 10) (by omega), hL (q + 11) (by omega)]
  split
  · simp only [hL 0 (by omega), hL 12 (by omega), hL 25 (by omega), hL 26 (by omega), hL 28 (by omega), hL 29 (by omega)]
  split
  · congr 7
    funext i
    cases e : im i with
    | none => rfl
    | some c => exact congrArg some (hL c (him i c e))
  split
  · simp only [hL 27 (by omega)]
  split
  · rfl
  split
  · simp only [hL 30 (by omega), hL 31 (by omega), hL 32 (by omega)]
  split
  · simp only [mdF, hL 34 (by omega), hL 35 (by omega), hL 36 (by omega), hL 37 (by omega), hL 38 (by omega), hL 39 (by omega), hL 40 (by omega), hL 41 (by omega), hL 42 (by omega), hL 43 (by omega), hL 44 (by omega), hL 45 (by omega), hL 46 (by omega), hL 47 (by omega), hL 48 (by omega), hL 49 (by omega), hL 50 (by omega), hL 51 (by omega), hL 52 (by omega), hL 53 (by omega), hL 54 (by omega), hL 55 (by omega), hL 56 (by omega), hL 57 (by omega), hL 58 (by omega), hL 59 (by omega), hL 60 (by omega), hL 61 (by omega)]
  split
  · rfl
  · rfl
def grL (L T : Nat → Nat) (b : Nat) : Nat → Nat := fun q => if b ≤ q ∧ q < b + 12 then T (q - b) else L q
def grS (σ : St) (b : Nat) : St := (fun o => if o = b then tzI else sI σ o, fun q => if b ≤ q ∧ q < b + 12 then tzA (q - b) else sA σ q, sK σ + 1, sM σ)
theorem grL_lt {T : Nat → Nat} {b q : Nat} (h : q < b) : grL L T b q = L q := if_neg (by omega)
theorem ws_grow {T : Nat → Nat} {b : Nat} (hb : b = 62 + 12 * sK σ) (hk : sK σ ≤ 1) (hs : ∀ i c, sM σ i = some c → c < b) : wsOf D L σ ++ twn D T tzI tzA = wsOf D (grL L T b) (grS σ b) := by
  apply List.ext_getElem?
  intro r
  have hK : sK (grS σ b) = sK σ + 1 := rfl
  by_cases h1 : r < b
  · rw [List.getElem?_append_left (by rw [ws_len]; omega), ws_at (by omega), ws_at (σ := grS σ b) (by rw [hK]; omega), grL_lt h1]
    have e1 : sI (grS σ b) r = sI σ r := if_neg (by omega)
    have e2 : sA (grS σ b) r = sA σ r := if_neg (by omega)
    rw [e1, e2, show sM (grS σ b) = sM σ from rfl, cellE_cong (n := b) (fun r hr => grL_lt hr) (by omega) h1 hs]
  · rw [List.getElem?_append_right (by rw [ws_len]; omega), ws_len, ← hb]
    by_cases h2 : r < b + 12
    · rw [ws_at (σ := grS σ b) (by rw [hK]; omega)]
      obtain ⟨j, rfl⟩ : ∃ j, r = b + j := ⟨r - b, by omega⟩
      rw [show b + j - b = j by omega]
      have hj : j = 0 ∨ j = 1 ∨ j = 2 ∨ j = 3 ∨ j = 4 ∨ j = 5 ∨ j = 6 ∨ j = 7 ∨ j = 8 ∨ j = 9 ∨ j = 10 ∨ j = 11 := by omega
      have hb2 : b = 62 ∨ b = 74 := by omega
      clear hb hK h1 h2 hs
      rcases hb2 with rfl | rfl <;> rcases hj with rfl | rfl | rfl | rfl | rfl | rfl | rfl | rfl | rfl | rfl | rfl | rfl <;> rfl
    · rw [List.getElem?_eq_none (by show 12 ≤ _; omega), List.getElem?_eq_none (by rw [ws_len, hK]; omega)]
end IMG
theorem rest_in {X : XT} {M : Nat → Option XT} {p : Nat} (hp : p ≤ 1) : restoreM X M (nI p) = (match M p with
  | some Y => (1, Y)
  | none => (-3, X)) := by
  unfold restoreM
  rw [inN_t (a := 0) (b := 1) (by omega) (by omega) (by omega), if_pos rfl, ix_nI (n := 2) (by omega) (by decide)]
  cases M p <;> rfl
theorem rest_out {X : XT} {M : Nat → Option XT} {x : Int32} (h : ∀ p, 0 ≤ p → p ≤ 1 → ¬ x = nI p) : restoreM X M x = (-2, X) := by
  unfold restoreM
  rw [inN_f (a := 0) (b := 1) (by omega) h]; rfl
theorem img_in {X : XT} {M : Nat → Option XT} {p : Nat} (hp : p ≤ 1) : imageM X M (nI p) = (1, updF M p (some X)) := by
  unfold imageM
  rw [inN_t (a := 0) (b := 1) (by omega) (by omega) (by omega), if_pos rfl, ix_nI (n := 2) (by omega) (by decide)]
theorem img_out {X : XT} {M : Nat → Option XT} {x : Int32} (h : ∀ p, 0 ≤ p → p ≤ 1 → ¬ x = nI p) : imageM X M x = (-2, M) := by
  unfold imageM
  rw [inN_f (a := 0) (b := 1) (by omega) h]; rfl
set_option maxHeartbeats 4000000 in
set_option maxRecDepth 20000 in
theorem c_X4_restore {l : Launch} {D : gE} {L : Nat → Nat} {σ : St} {Q : Option Value → va_W → Prop} {d : Nat} {X : XT} (hX : rzT σ 0 X) {M : Nat → Option XT} (hm : imC σ M) {x : Int32} (h : ∀ σ', ft 0 σ σ' → rzT σ' 0 (restoreM X M x).2 → Q (some (.int (restoreM X M x).1)) (wsOf D L σ')) : Ctr l D yX4_restore cX4_restore 2 (some .int) (rr (d + 2)) [.ref (L 24), .int x] (wsOf D L σ) Q := by
  refine g_start ky_X4_restore (Nat.le_of_ble_eq_true rfl) ?_
  refine g_pick [0, 1] (lv' := [(0, .ref (L 24)), (1, .int x)]) rfl ?_
  refine g_iload_n dX4_restore_0 rfl 1 rfl ?_
  refine g_iconst dX4_restore_1 ci_0 ?_
  refine g_iconst dX4_restore_2 ci_1 ?_
  refine g_callS (As := [.int x, .int (nI 0), .int (nI 1)]) km_X4_44 ky_X4_within ks_X4_within (by decide) rfl (Nat.le_of_ble_eq_true rfl) dX4_restore_3 rfl (c_X4_withinN (by omega) (by omega) (fun p ha hb he => ?_) (fun h4 => ?_))
  · subst he
    rw [rest_in hb] at h
    refine t_ifne1 12 dX4_restore_6 (by decide) ?_
    refine g_aload_n dX4_restore_12 rfl 0 rfl ?_
    refine g_get kf_X4_19 kC_X4 (by decide) 24 at_24 rfl dX4_restore_13 ?_
    refine g_iload_n dX4_restore_16 rfl 1 rfl ?_
    cases e : M p with
    | none =>
      rw [e] at h
      refine s_aal (by omega) (hm.2.1 p (by omega) e) dX4_restore_17 ?_
      refine g_ifnonnullN dX4_restore_18 ?_
      refine g_bipush dX4_restore_21 bp_m3 ?_
      exact g_ireturn dX4_restore_23 (Nat.le_refl _) (Nat.le_refl _) (h σ ft_rfl hX)
    | some Y =>
      rw [e] at h
      obtain ⟨b, hs, hY⟩ := hm.1 p (by omega) Y e
      obtain ⟨-, hbt, hb62⟩ := hm.2.2.2.1 p b hs
      refine s_aal (by omega) hs dX4_restore_17 ?_
      refine g_ifnonnull 24 dX4_restore_18 (by decide) ?_
      refine g_aload_n dX4_restore_24 rfl 0 rfl ?_
      refine g_get kf_X4_10 kC_X4 (by decide) 24 at_24 rfl dX4_restore_25 ?_
      refine g_aload_n dX4_restore_28 rfl 0 rfl ?_
      refine g_get kf_X4_19 kC_X4 (by decide) 24 at_24 rfl dX4_restore_29 ?_
      refine g_iload_n dX4_restore_32 rfl 1 rfl ?_
      refine s_aal (by omega) hs dX4_restore_33 ?_
      refine g_callV (As := [.ref (L b)]) km_X4_159 ky_X3_copy ki_X3_copy (by decide) 0 (at_tn (Or.inl rfl)) kC_X3.1 rfl (Nat.le_of_ble_eq_true rfl) dX4_restore_34 rfl (c_X3_copy (Or.inl rfl) hbt (by omega) hY (fun σ2 hf2 hX2 => ?_))
      refine g_iconst dX4_restore_37 ci_1 ?_
      exact g_ireturn dX4_restore_38 (Nat.le_refl _) (Nat.le_refl _) (h σ2 hf2 hX2)
  · rw [rest_out h4] at h
    refine t_ifne0 (tgt := 12) dX4_restore_6 (by decide) ?_
    refine g_bipush dX4_restore_9 bp_m2 ?_
    exact g_ireturn dX4_restore_11 (Nat.le_refl _) (Nat.le_refl _) (h σ ft_rfl hX)
set_option maxHeartbeats 4000000 in
set_option maxRecDepth 20000 in
theorem img_tail {l : Launch} {D : gE} {L : Nat → Nat} {σ : St} {Q : Option Value → va_W → Prop} {d : Nat} {X : XT} (hX : rzT σ 0 X) {p b cells slots : Nat} (hp : p ≤ 1) (hs : sM σ p = some b) (hbt : tn σ b) (hb62 : 62 ≤ b) (hc : cells ≤ 12) (hsl : slots ≤ 95) (h : ∀ σ', ft b σ σ' → rzT σ' b X → Q (some (.int (nI 1))) (wsOf D L σ')) : G l D yX4_image cX4_image 2 (some .int) (rk (d + 4) 12 95) Q cells slots 34 [(0, .ref (L 24)), (1, .int (nI p))] [] (wsOf D L σ) := by
  refine g_aload_n dX4_image_34 rfl 0 rfl ?_
  refine g_get kf_X4_19 kC_X4 (by decide) 24 at_24 rfl dX4_image_35 ?_
  refine g_iload_n dX4_image_38 rfl 1 rfl ?_
  refine s_aal (by omega) hs dX4_image_39 ?_
  refine g_aload_n dX4_image_40 rfl 0 rfl ?_
  refine g_get kf_X4_10 kC_X4 (by decide) 24 at_24 rfl dX4_image_41 ?_
  refine g_callVA (rm' := rr (d + 3)) (As := [.ref (L 0)]) km_X4_159 ky_X3_copy ki_X3_copy (rk_ok (d := d + 3) (by decide) rfl rfl rfl rfl) ⟨hc, hsl⟩ b (at_tn hbt) kC_X3.1 rfl (Nat.le_of_ble_eq_true rfl) dX4_image_44 rfl (c_X3_copy hbt (Or.inl rfl) (by omega) hX (fun σ2 hf2 hX2 => ?_))
  refine g_iconst dX4_image_47 ci_1 ?_
  exact g_ireturn dX4_image_48 hc hsl (h σ2 hf2 hX2)
def fcI (σ σ' : St) : Prop := (∀ q, q < 62 → sA σ' q = sA σ q) ∧ (∀ o, o < 62 → sI σ' o = sI σ o)
theorem imC_put {σ σ' : St} {M : Nat → Option XT} {X : XT} {p b : Nat} (h : imC σ M) (hp : p ≤ 1) (hs : sM σ p = some b) (hf : ft b σ σ') (hX : rzT σ' b X) : imC σ' (updF M p (some X)) := by
  obtain ⟨h1, h2, h3, h4, h5⟩ := h
  have hM := hf.2.2.2
  have hK := hf.2.2.1
  refine ⟨fun n hn Y hY => ?_, fun n hn hm => ?_, by rw [hM]; exact h3, fun n c hc => ?_, by rw [hK, hM]; exact h5⟩
  · by_cases c : n = p
    · subst c
      have e : X = Y := by simpa [updF] using hY
      exact ⟨b, by rw [hM]; exact hs, e ▸ hX⟩
    · have hY : M n = some Y := by simpa [updF, c] using hY
      obtain ⟨b', hb', hr⟩ := h1 n hn Y hY
      have hne : b' ≠ b := fun z => c (h3 n p b (z ▸ hb') hs)
      have g1 := h4 n b' hb'
      have g2 := h4 p b hs
      have q1 : b' = 62 ∨ b' = 74 := by rcases g1.2.1 with z | z | z | z <;> omega
      have q2 : b = 62 ∨ b = 74 := by rcases g2.2.1 with z | z | z | z <;> omega
      exact ⟨b', by rw [hM]; exact hb', rz_ft hf (by omega) hr⟩
  · by_cases c : n = p
    · subst c; simp [updF] at hm
    · rw [hM]; exact h2 n hn (by simpa [updF, c] using hm)
  · rw [hM] at hc
    obtain ⟨g1, g2, g3⟩ := h4 n c hc
    exact ⟨g1, by unfold tn; rw [hK]; exact g2, g3⟩
theorem imC_new {σ : St} {M : Nat → Option XT} {p b : Nat} {X : XT} (h : imC σ M) (hp : p ≤ 1) (hs : M p = none) (hb : b = 62 + 12 * sK σ) {σ' : St} (hf : ft b (setM (grS σ b) p b) σ') (hX : rzT σ' b X) : imC σ' (updF M p (some X)) := by
  obtain ⟨h1, h2, h3, h4, h5⟩ := h
  have hn0 := h2 p (by omega) hs
  have hK : sK σ' = sK σ + 1 := hf.2.2.1
  have hM : sM σ' = fun i => if i = p then some b else sM σ i := hf.2.2.2
  have old : ∀ n c, sM σ n = some c → c + 11 < b := fun n c hc => by
    rcases (h4 n c hc).2.1 with z | z | z | z <;> have := (h4 n c hc).2.2 <;> omega
  refine ⟨fun n hn Y hY => ?_, fun n hn hm => ?_, fun n m c hn hm => ?_, fun n c hc => ?_, ?_⟩
  · by_cases c : n = p
    · subst c
      have e : X = Y := by simpa [updF] using hY
      exact ⟨b, by rw [hM]; exact if_pos rfl, e ▸ hX⟩
    · have hY : M n = some Y := by simpa [updF, c] using hY
      obtain ⟨b', hb', hr⟩ := h1 n hn Y hY
      have hlt := old n b' hb'
      refine ⟨b', by rw [hM]; exact (if_neg c).trans hb', rz_ft hf (Or.inl hlt) (rz_gen (fun j _ _ => ?_) ?_ hr)⟩
      · exact if_neg (by omega)
      · exact if_neg (by omega)
  · by_cases c : n = p
    · subst c; simp [updF] at hm
    · rw [hM]; exact (if_neg c).trans (h2 n hn (by simpa [updF, c] using hm))
  · rw [hM] at hn hm
    by_cases c1 : n = p <;> by_cases c2 : m = p
    · rw [c1, c2]
    · have e1 : some b = some c := (if_pos c1).symm.trans hn
      have e2 : sM σ m = some c := (if_neg c2).symm.trans hm
      have := old m c e2
      have := Option.some.inj e1
      omega
    · have e1 : some b = some c := (if_pos c2).symm.trans hm
      have e2 : sM σ n = some c := (if_neg c1).symm.trans hn
      have := old n c e2
      have := Option.some.inj e1
      omega
    · exact h3 n m c ((if_neg c1).symm.trans hn) ((if_neg c2).symm.trans hm)
  · rw [hM] at hc
    unfold tn
    rw [hK]
    by_cases c1 : n = p
    · have e1 : some b = some c := (if_pos c1).symm.trans hc
      have e1 := Option.some.inj e1
      have hk : sK σ ≤ 1 := by
        have e2 : p = 0 ∨ p = 1 := by omega
        have e0 : cN1 none = 0 := rfl
        have l0 := cN1_le (sM σ 0)
        have l1 := cN1_le (sM σ 1)
        rcases e2 with rfl | rfl <;> rw [hn0, e0] at h5 <;> omega
      refine ⟨by omega, ?_, by omega⟩
      omega
    · have e2 : sM σ n = some c := (if_neg c1).symm.trans hc
      obtain ⟨g1, g2, g3⟩ := h4 n c e2
      refine ⟨g1, ?_, g3⟩
      rcases g2 with z | z | z | z <;> omega
  · rw [hK, hM, h5]
    have e2 : p = 0 ∨ p = 1 := by omega
    rcases e2 with rfl | rfl <;> simp [cN1, hn0] <;> omega
set_option maxHeartbeats 4000000 in
set_option maxRecDepth 20000 in
theorem c_X4_image {l : Launch} {D : gE} {L : Nat → Nat} {σ : St} {Q : Option Value → va_W → Prop} {d : Nat} {X : XT} (hX : rzT σ 0 X) {M : Nat → Option XT} (hm : imC σ M) {x : Int32} (h : ∀ L' σ', (∀ q, q < 62 → L' q = L q) → fcI σ σ' → rzT σ' 0 X → imC σ' (imageM X M x).2 → Q (some (.int (imageM X M x).1)) (wsOf D L' σ')) : Ctr l D yX4_image cX4_image 2 (some .int) (rk (d + 4) 12 95) [.ref (L 24), .int x] (wsOf D L σ) Q := by
  refine g_start ky_X4_image (Nat.le_of_ble_eq_true rfl) ?_
  refine g_pick [0, 1] (lv' := [(0, .ref (L 24)), (1, .int x)]) rfl ?_
  refine g_iload_n dX4_image_0 rfl 1 rfl ?_
  refine g_iconst dX4_image_1 ci_0 ?_
  refine g_iconst dX4_image_2 ci_1 ?_
  refine g_callSA (rm' := rr (d + 3)) (As := [.int x, .int (nI 0), .int (nI 1)]) km_X4_44 ky_X4_within ks_X4_within (rk_ok (d := d + 3) (by decide) rfl rfl rfl rfl) ⟨show 0 + 0 ≤ 12 by decide, show 0 + 0 ≤ 95 by decide⟩ rfl (Nat.le_of_ble_eq_true rfl) dX4_image_3 rfl (c_X4_withinN (by omega) (by omega) (fun p ha hb he => ?_) (fun h4 => ?_))
  · subst he
    rw [img_in hb] at h
    refine t_ifne1 12 dX4_image_6 (by decide) ?_
    refine g_aload_n dX4_image_12 rfl 0 rfl ?_
    refine g_get kf_X4_19 kC_X4 (by decide) 24 at_24 rfl dX4_image_13 ?_
    refine g_iload_n dX4_image_16 rfl 1 rfl ?_
    cases e : M p with
    | none =>
      have hn0 := hm.2.1 p (by omega) e
      have hk : sK σ ≤ 1 := by
        have e2 : p = 0 ∨ p = 1 := by omega
        have e0 : cN1 none = 0 := rfl
        have h5 := hm.2.2.2.2
        have l0 := cN1_le (sM σ 0)
        have l1 := cN1_le (sM σ 1)
        rcases e2 with rfl | rfl <;> rw [hn0, e0] at h5 <;> omega
      refine s_aal (by omega) hn0 dX4_image_17 ?_
      refine g_ifnonnullN dX4_image_18 ?_
      refine g_aload_n dX4_image_21 rfl 0 rfl ?_
      refine g_get kf_X4_19 kC_X4 (by decide) 24 at_24 rfl dX4_image_22 ?_
      refine g_iload_n dX4_image_25 rfl 1 rfl ?_
      refine g_new (fs := fz3) kcl_X4_7 kC_X3 kT_X3 kin_X3 (by decide) (show 0 + 1 ≤ 12 by decide) (show 0 + 17 ≤ 95 by decide) dX4_image_26 (fun q => ?_)
      refine g_dup dX4_image_29 rfl ?_
      refine g_callIA (rm' := rk (d + 3) 11 78) (As := []) km_X4_9 ky_X3_init kn_X3_init (rk_ok (d := d + 3) (by decide) rfl rfl rfl rfl) ⟨show 1 + 11 ≤ 12 by decide, show 17 + 78 ≤ 95 by decide⟩ rfl (Nat.le_of_ble_eq_true rfl) dX4_image_30 rfl (Ctr.frame (c_X3_init (d := d) (fun T hT => ?_)))
      obtain ⟨b, hbe⟩ : ∃ b, b = 62 + 12 * sK σ := ⟨_, rfl⟩
      have hlt : ∀ i c, sM σ i = some c → c < b := fun i c hc => by
        rcases (hm.2.2.2.1 i c hc).2.1 with z | z | z | z <;> have := (hm.2.2.2.1 i c hc).2.2 <;> omega
      refine g_ws (ws_grow hbe hk hlt) ?_
      have hbt : tn (grS σ b) b := by
        show b = 0 ∨ b = 12 ∨ (b = 62 ∧ 1 ≤ sK σ + 1) ∨ (b = 74 ∧ 2 ≤ sK σ + 1)
        omega
      have eb : grL L T b b = q := (if_pos (by omega)).trans ((congrArg T (Nat.sub_self b)).trans hT)
      refine g_st (st' := [.ref (grL L T b b), .int (nI p), .ref (grL L T b 25)]) (by rw [eb, grL_lt (by omega)]) ?_
      refine s_aast (by omega) hbt dX4_image_33 ?_
      have hX1 : rzT (setM (grS σ b) p b) 0 X := rz_gen (fun j _ _ => if_neg (by omega)) (if_neg (by omega)) hX
      have e24 : grL L T b 24 = L 24 := grL_lt (by omega)
      rw [← e24]
      refine img_tail hX1 hb (if_pos rfl) hbt (by omega) (Nat.le_refl _) (Nat.le_refl _) (fun σ' hf hX' => ?_)
      refine h _ σ' (fun q hq => grL_lt (by omega)) ⟨fun r hr => (hf.1 r (by omega)).trans (if_neg (by omega)), fun r hr => (hf.2.1 r (by omega)).trans (if_neg (by omega))⟩ (rz_ft hf (by omega) hX1) (imC_new hm hb e hbe hf hX')
    | some Y =>
      obtain ⟨b, hs, hY⟩ := hm.1 p (by omega) Y e
      obtain ⟨-, hbt, hb62⟩ := hm.2.2.2.1 p b hs
      refine s_aal (by omega) hs dX4_image_17 ?_
      refine g_ifnonnull 34 dX4_image_18 (by decide) ?_
      refine img_tail hX hb hs hbt hb62 (Nat.zero_le _) (Nat.zero_le _) (fun σ' hf hX' => ?_)
      exact h L σ' (fun _ _ => rfl) ⟨fun r hr => hf.1 r (by omega), fun r hr => hf.2.1 r (by omega)⟩ (rz_ft hf (by omega) hX) (imC_put hm hb hs hf hX')
  · rw [img_out h4] at h
    refine t_ifne0 (tgt := 12) dX4_image_6 (by decide) ?_
    refine g_bipush dX4_image_9 bp_m2 ?_
    exact g_ireturn dX4_image_11 (Nat.zero_le _) (Nat.zero_le _) (h L σ (fun _ _ => rfl) ⟨fun _ _ => rfl, fun _ _ => rfl⟩ hX hm)
