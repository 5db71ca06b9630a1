theorem qs {D : gE} {L : Nat → Nat} {σ : St} {Q : Option Value → va_W → Prop} {v : Option Value} {o k : Nat} {a b : Int32} (e : a = b) (h : Q v (wsOf D L (setI σ o k b))) : Q v (wsOf D L (setI σ o k a)) := e ▸ h
theorem sI_same (σ : St) (o k : Nat) (x : Int32) : sI (setI σ o k x) o k = x := by
  show (if o = o then upd (sI σ o) k x else sI σ o) k = x
  rw [if_pos rfl]
  exact if_pos rfl
set_option maxHeartbeats 4000000 in
theorem c_X5_offerSet {l : Launch} {D : gE} {L : Nat → Nat} {σ : St} {Q : Option Value → va_W → Prop} {d : Nat} {best : Option Nat} {a : Nat} {good : Bool} (ha : a < 256) (hbs : sI σ 33 36 = mdf best) (hb : ∀ c, best = some c → c < 256) (h : Q none (wsOf D L (setI σ 33 36 (mdf (osN best a good))))) : Ctr l D yX5_offerSet cX5_offerSet 4 none (rr (d + 1)) [.ref (L 33), .int (nI a), .int (nI (b2n good))] (wsOf D L σ) Q := by
  refine g_start ky_X5_offerSet (Nat.le_of_ble_eq_true rfl) ?_
  refine g_pick [0, 1, 2] (lv' := [(0, .ref (L 33)), (1, .int (nI a)), (2, .int (nI (b2n good)))]) rfl ?_
  have hpa := pop_le a
  cases best with
  | none =>
    have hbs : sI σ 33 36 = (-6) := hbs
    refine g_aload_n dX5_offerSet_0 rfl 0 rfl ?_
    refine s_getM kf_X5_275 (by decide) rfl dX5_offerSet_1 ?_
    refine g_tope (z := (-6)) (hbs) ?_
    refine g_iflt 21 dX5_offerSet_4 (by decide) (fun h4 => ?_) (fun h4 => absurd h4 (by decide +kernel))
    refine g_iconst dX5_offerSet_21 ci_1 ?_
    refine g_goto 26 dX5_offerSet_22 (by decide) ?_
    refine g_istore_n (lv' := [(3, .int (nI 1)), (0, .ref (L 33)), (1, .int (nI a)), (2, .int (nI (b2n good)))]) dX5_offerSet_26 rfl (by decide) rfl ?_
    refine g_aload_n dX5_offerSet_27 rfl 1 rfl ?_
    refine g_iload_n dX5_offerSet_28 rfl 3 rfl ?_
    refine b_ifeq 40 dX5_offerSet_29 (by decide) (fun h29 => ?_) (fun h29 => ?_)
    · refine g_aload_n dX5_offerSet_40 rfl 1 rfl ?_
      refine s_getM kf_X5_275 (by decide) rfl dX5_offerSet_41 ?_
      refine g_tope (z := (-6)) (hbs) ?_
      refine s_putM kf_X5_275 (by decide) dX5_offerSet_44 ?_
      exact g_return dX5_offerSet_47 (Nat.le_refl _) (Nat.le_refl _) (qs (by rw [h29]; rfl) h)
    · refine g_iload_n dX5_offerSet_32 rfl 0 rfl ?_
      refine t_ifeq1 (tgt := 40) dX5_offerSet_33 (by decide) ?_
      refine g_iload_n dX5_offerSet_36 rfl 2 rfl ?_
      refine g_goto 44 dX5_offerSet_37 (by decide) ?_
      refine s_putM kf_X5_275 (by decide) dX5_offerSet_44 ?_
      exact g_return dX5_offerSet_47 (Nat.le_refl _) (Nat.le_refl _) (qs (by rw [h29]; rfl) h)
  | some c =>
    have hc := hb c rfl
    have hpc := pop_le c
    have hbs : sI σ 33 36 = nI c := hbs
    refine g_aload_n dX5_offerSet_0 rfl 0 rfl ?_
    refine s_getM kf_X5_275 (by decide) rfl dX5_offerSet_1 ?_
    refine g_tope (z := nI c) (hbs) ?_
    refine n_iflt (tgt := 21) dX5_offerSet_4 (by decide) (by omega) ?_
    refine g_iload_n dX5_offerSet_7 rfl 1 rfl ?_
    refine g_callS (As := [.int (nI a)]) km_X5_136 ky_X5_ones ks_X5_ones (by decide) rfl (Nat.le_of_ble_eq_true rfl) dX5_offerSet_8 rfl (c_X5_ones (by omega) ?_)
    refine g_aload_n dX5_offerSet_11 rfl 0 rfl ?_
    refine s_getM kf_X5_275 (by decide) rfl dX5_offerSet_12 ?_
    refine g_tope (z := nI c) (hbs) ?_
    refine g_callS (As := [.int (nI c)]) km_X5_136 ky_X5_ones ks_X5_ones (by decide) rfl (Nat.le_of_ble_eq_true rfl) dX5_offerSet_15 rfl (c_X5_ones (by omega) ?_)
    refine n_icmpge 25 dX5_offerSet_18 (by decide) (by omega) (by omega) (fun h18 => ?_) (fun h18 => ?_)
    · refine g_iconst dX5_offerSet_25 ci_0 ?_
      refine g_istore_n (lv' := [(3, .int (nI 0)), (0, .ref (L 33)), (1, .int (nI a)), (2, .int (nI (b2n good)))]) dX5_offerSet_26 rfl (by decide) rfl ?_
      refine g_aload_n dX5_offerSet_27 rfl 1 rfl ?_
      refine g_iload_n dX5_offerSet_28 rfl 3 rfl ?_
      refine b_ifeq 40 dX5_offerSet_29 (by decide) (fun h29 => ?_) (fun h29 => ?_)
      · refine g_aload_n dX5_offerSet_40 rfl 1 rfl ?_
        refine s_getM kf_X5_275 (by decide) rfl dX5_offerSet_41 ?_
        refine g_tope (z := nI c) (hbs) ?_
        refine s_putM kf_X5_275 (by decide) dX5_offerSet_44 ?_
        exact g_return dX5_offerSet_47 (Nat.le_refl _) (Nat.le_refl _) (qs (by simp only [osN]; rw [if_neg (by simp; intro; omega)]; rfl) h)
      · refine g_iload_n dX5_offerSet_32 rfl 0 rfl ?_
        refine t_ifeq0 40 dX5_offerSet_33 (by decide) ?_
        refine g_aload_n dX5_offerSet_40 rfl 1 rfl ?_
        refine s_getM kf_X5_275 (by decide) rfl dX5_offerSet_41 ?_
        refine g_tope (z := nI c) (hbs) ?_
        refine s_putM kf_X5_275 (by decide) dX5_offerSet_44 ?_
        exact g_return dX5_offerSet_47 (Nat.le_refl _) (Nat.le_refl _) (qs (by simp only [osN]; rw [if_neg (by simp; intro; omega)]; rfl) h)
    · refine g_iconst dX5_offerSet_21 ci_1 ?_
      refine g_goto 26 dX5_offerSet_22 (by decide) ?_
      refine g_istore_n (lv' := [(3, .int (nI 1)), (0, .ref (L 33)), (1, .int (nI a)), (2, .int (nI (b2n good)))]) dX5_offerSet_26 rfl (by decide) rfl ?_
      refine g_aload_n dX5_offerSet_27 rfl 1 rfl ?_
      refine g_iload_n dX5_offerSet_28 rfl 3 rfl ?_
      refine b_ifeq 40 dX5_offerSet_29 (by decide) (fun h29 => ?_) (fun h29 => ?_)
      · refine g_aload_n dX5_offerSet_40 rfl 1 rfl ?_
        refine s_getM kf_X5_275 (by decide) rfl dX5_offerSet_41 ?_
        refine g_tope (z := nI c) (hbs) ?_
        refine s_putM kf_X5_275 (by decide) dX5_offerSet_44 ?_
        exact g_return dX5_offerSet_47 (Nat.le_refl _) (Nat.le_refl _) (qs (by rw [h29]; rfl) h)
      · refine g_iload_n dX5_offerSet_32 rfl 0 rfl ?_
        refine t_ifeq1 (tgt := 40) dX5_offerSet_33 (by decide) ?_
        refine g_iload_n dX5_offerSet_36 rfl 2 rfl ?_
        refine g_goto 44 dX5_offerSet_37 (by decide) ?_
        refine s_putM kf_X5_275 (by decide) dX5_offerSet_44 ?_
        exact g_return dX5_offerSet_47 (Nat.le_refl _) (Nat.le_refl _) (qs (by rw [h29]; simp only [osN]; rw [if_pos (by simp; omega)]; rfl) h)
set_option maxHeartbeats 4000000 in
theorem c_X5_tellSet {l : Launch} {D : gE} {L : Nat → Nat} {σ : St} {Q : Option Value → va_W → Prop} {d : Nat} {best : Option Nat} {w : Nat} (hw : w ≤ 1) (hbs : sI σ 33 36 = mdf best) (hb : ∀ c, best = some c → c < 256) (h : Q (some (.int (fsR best (nI w)))) (wsOf D L σ)) : Ctr l D yX5_tellSet cX5_tellSet 2 (some .int) (rr (d + 1)) [.ref (L 33), .int (nI w)] (wsOf D L σ) Q := by
  refine g_start ky_X5_tellSet (Nat.le_of_ble_eq_true rfl) ?_
  refine g_pick [0, 1] (lv' := [(0, .ref (L 33)), (1, .int (nI w))]) rfl ?_
  cases best with
  | none =>
    have hbs : sI σ 33 36 = (-6) := hbs
    refine g_aload_n dX5_tellSet_0 rfl 0 rfl ?_
    refine s_getM kf_X5_275 (by decide) rfl dX5_tellSet_1 ?_
    refine g_tope (z := (-6)) (hbs) ?_
    refine g_iflt 12 dX5_tellSet_4 (by decide) (fun h4 => ?_) (fun h4 => absurd h4 (by decide +kernel))
    refine g_aload_n dX5_tellSet_12 rfl 0 rfl ?_
    refine s_getM kf_X5_275 (by decide) rfl dX5_tellSet_13 ?_
    refine g_tope (z := (-6)) (hbs) ?_
    refine g_goto 26 dX5_tellSet_16 (by decide) ?_
    exact g_ireturn dX5_tellSet_26 (Nat.le_refl _) (Nat.le_refl _) (h)
  | some c =>
    have hc := hb c rfl
    have hbs : sI σ 33 36 = nI c := hbs
    refine g_aload_n dX5_tellSet_0 rfl 0 rfl ?_
    refine s_getM kf_X5_275 (by decide) rfl dX5_tellSet_1 ?_
    refine g_tope (z := nI c) (hbs) ?_
    refine n_iflt (tgt := 12) dX5_tellSet_4 (by decide) (by omega) ?_
    refine g_iload_n dX5_tellSet_7 rfl 1 rfl ?_
    refine g_iconst dX5_tellSet_8 ci_1 ?_
    refine n_icmpne 19 dX5_tellSet_9 (by decide) (by omega) (by omega) (fun h9 => ?_) (fun h9 => ?_)
    · refine g_aload_n dX5_tellSet_19 rfl 0 rfl ?_
      refine s_getM kf_X5_275 (by decide) rfl dX5_tellSet_20 ?_
      refine g_tope (z := nI c) (hbs) ?_
      refine g_callS (As := [.int (nI c)]) km_X5_136 ky_X5_ones ks_X5_ones (by decide) rfl (Nat.le_of_ble_eq_true rfl) dX5_tellSet_23 rfl (c_X5_ones (by omega) ?_)
      exact g_ireturn dX5_tellSet_26 (Nat.le_refl _) (Nat.le_refl _) (qi (by simp only [fsR]; rw [if_neg (fun e => h9 ((nI_eq (by omega) (by omega)).mp e))]) h)
    · refine g_aload_n dX5_tellSet_12 rfl 0 rfl ?_
      refine s_getM kf_X5_275 (by decide) rfl dX5_tellSet_13 ?_
      refine g_tope (z := nI c) (hbs) ?_
      refine g_goto 26 dX5_tellSet_16 (by decide) ?_
      exact g_ireturn dX5_tellSet_26 (Nat.le_refl _) (Nat.le_refl _) (qi (by simp only [fsR]; rw [h9, if_pos rfl]) h)
set_option maxHeartbeats 4000000 in
set_option maxRecDepth 20000 in
theorem lp_X5_left {l : Launch} {D : gE} {L : Nat → Nat} {σ : St} {Q : Option Value → va_W → Prop} {d : Nat} {X : XT} (ho : okX X) {p g w : Nat} (hp : p < 6) (hg : g < 6) (hw : w ≤ 1) (hth : x_th X p = true) (h : ∀ σ', fr σ σ' → rpM σ' X → Q (some (.int (fsR (leftF X p g) (nI w)))) (wsOf D L σ')) : ∀ n a, a + n = 256 → ∀ σ', fr σ σ' → rpM σ' X → sI σ' 33 36 = mdf (fwN (fun a => subB (x_kn X p) a && gdX X p g a) a) → G l D yX5_left cX5_left 5 (some .int) (rr (d + 5)) Q 0 0 33 [(4, .int (nI a)), (0, .ref (L 33)), (1, .int (nI p)), (2, .int (nI g)), (3, .int (nI w))] [] (wsOf D L σ') := by
  intro n
  induction n with
  | zero =>
    intro a hct σ' hfr hX hbs
    obtain rfl : a = 256 := by omega
    refine g_iload dX5_left_33 0 rfl ?_
    refine g_sipush dX5_left_35 sp_256 ?_
    refine n_icmpge 92 dX5_left_38 (by decide) (by omega) (by omega) (fun h38 => ?_) (fun h38 => absurd h38 (by omega))
    refine g_aload_n dX5_left_92 rfl 1 rfl ?_
    refine g_iload_n dX5_left_93 rfl 4 rfl ?_
    refine g_callV (As := [.int (nI w)]) km_X5_288 ky_X5_tellSet ki_X5_tellSet (by decide) 33 at_33 rfl rfl (Nat.le_of_ble_eq_true rfl) dX5_left_94 rfl (c_X5_tellSet hw hbs (fun c hc => fw_lt 256 c hc) ?_)
    exact g_ireturn dX5_left_97 (Nat.le_refl _) (Nat.le_refl _) (h _ hfr hX)
  | succ n ih =>
    intro a hct σ' hfr hX hbs
    have hsm := sm_bd ho (p := p) (s := fun i => x_kn X p i && !a.testBit i) (n := 8) (Nat.le_refl 8)
    refine g_iload dX5_left_33 0 rfl ?_
    refine g_sipush dX5_left_35 sp_256 ?_
    refine n_icmpge 92 dX5_left_38 (by decide) (by omega) (by omega) (fun h38 => absurd h38 (by omega)) (fun h38 => ?_)
    refine g_iload dX5_left_41 0 rfl ?_
    refine g_aload_n dX5_left_43 rfl 1 rfl ?_
    refine s_getM kf_X5_28 (by decide) rfl dX5_left_44 ?_
    refine g_iload_n dX5_left_47 rfl 2 rfl ?_
    refine s_ald (q := 40) (n := 6) (at_ia (q := 40) rfl) (by omega) (by decide) dX5_left_48 ?_
    refine g_tope (z := nI (bitsN (x_kn X p) 8)) (rpM_kn hX (by omega) (by assumption)) ?_
    refine g_iconst dX5_left_49 ci_m1 ?_
    refine g_ixor dX5_left_50 ?_
    refine g_iand dX5_left_51 ?_
    refine sb_ifne 86 dX5_left_52 (by decide) (by omega) (fun h52 => ?_) (fun h52 => ?_)
    · refine g_iinc (v := nI (a + 1)) (lv' := [(4, .int (nI (a + 1))), (0, .ref (L 33)), (1, .int (nI p)), (2, .int (nI g)), (3, .int (nI w))]) dX5_left_86 0 rfl (inc_n _) (by decide) rfl ?_
      refine g_goto 33 dX5_left_89 (by decide) ?_
      refine g_pick [0, 1, 2, 3, 4] (lv' := [(4, .int (nI (a + 1))), (0, .ref (L 33)), (1, .int (nI p)), (2, .int (nI g)), (3, .int (nI w))]) rfl ?_
      exact ih (a + 1) (by omega) _ hfr hX (by rw [hbs, fw_step rfl (show (fun a => subB (x_kn X p) a && gdX X p g a) a = false by dsimp only; rw [h52, Bool.false_and]), os_no])
    · refine g_aload_n dX5_left_55 rfl 1 rfl ?_
      refine g_iload dX5_left_56 0 rfl ?_
      refine g_aload_n dX5_left_58 rfl 1 rfl ?_
      refine g_iload_n dX5_left_59 rfl 2 rfl ?_
      refine g_iload_n dX5_left_60 rfl 3 rfl ?_
      refine g_aload_n dX5_left_61 rfl 1 rfl ?_
      refine g_iload_n dX5_left_62 rfl 2 rfl ?_
      refine g_aload_n dX5_left_63 rfl 1 rfl ?_
      refine s_getM kf_X5_28 (by decide) rfl dX5_left_64 ?_
      refine g_iload_n dX5_left_67 rfl 2 rfl ?_
      refine s_ald (q := 40) (n := 6) (at_ia (q := 40) rfl) (by omega) (by decide) dX5_left_68 ?_
      refine g_tope (z := nI (bitsN (x_kn X p) 8)) (rpM_kn hX (by omega) (by assumption)) ?_
      refine g_iload dX5_left_69 0 rfl ?_
      refine g_iconst dX5_left_71 ci_m1 ?_
      refine g_ixor dX5_left_72 ?_
      refine g_iand dX5_left_73 ?_
      refine g_tope (z := nI (bitsN (fun i => (x_kn X p) i && !a.testBit i) 8)) (nbS _ _) ?_
      refine g_callV (As := [.int (nI p), .int (nI (bitsN (fun i => (x_kn X p) i && !a.testBit i) 8))]) km_X5_202 ky_X5_sumOf ki_X5_sumOf (by decide) 33 at_33 rfl rfl (Nat.le_of_ble_eq_true rfl) dX5_left_74 rfl (c_X5_sumOf hX ho (by omega) (fun _ _ h => by simp at h; exact h.1) ?_)
      refine g_callS (As := [.int (zI (smX X p (fun i => (x_kn X p) i && !a.testBit i) 8))]) km_X5_278 ky_X5_least0 ks_X5_least0 (by decide) rfl (Nat.le_of_ble_eq_true rfl) dX5_left_77 rfl (c_X5_least0 (by omega) ?_)
      refine g_callV (As := [.int (nI p), .int (nI g), .int (nI ((smX X p (fun i => (x_kn X p) i && !a.testBit i) 8).toNat))]) km_X5_281 ky_X5_hasWay ki_X5_hasWay (by decide) 33 at_33 rfl rfl (Nat.le_of_ble_eq_true rfl) dX5_left_80 rfl (c_X5_hasWay hX ho (by omega) (by omega) (by omega) (fun h80 f80 => ?_) (fun h80 f80 => ?_))
      · have hX := rpM_A hX 54 (by omega) f80
        have hfr := fr_A hfr 54 (by omega) f80
        have hbs : sI (setA σ' 54 f80) 33 36 = _ := hbs
        generalize setA σ' 54 f80 = σ80 at hX hfr hbs ⊢
        refine g_callV (As := [.int (nI a), .int (nI 1)]) km_X5_284 ky_X5_offerSet ki_X5_offerSet (by decide) 33 at_33 rfl rfl (Nat.le_of_ble_eq_true rfl) dX5_left_83 rfl (c_X5_offerSet (good := true) (by omega) hbs (fun c hc => by have := fw_lt a c hc; omega) ?_)
        have hX := rpM_I hX 36 (by omega) (mdf (osN (fwN (fun a => subB (x_kn X p) a && gdX X p g a) a) a true))
        have hfr := fr_I hfr 36 (by omega) (mdf (osN (fwN (fun a => subB (x_kn X p) a && gdX X p g a) a) a true))
        refine g_iinc (v := nI (a + 1)) (lv' := [(4, .int (nI (a + 1))), (0, .ref (L 33)), (1, .int (nI p)), (2, .int (nI g)), (3, .int (nI w))]) dX5_left_86 0 rfl (inc_n _) (by decide) rfl ?_
        refine g_goto 33 dX5_left_89 (by decide) ?_
        refine g_pick [0, 1, 2, 3, 4] (lv' := [(4, .int (nI (a + 1))), (0, .ref (L 33)), (1, .int (nI p)), (2, .int (nI g)), (3, .int (nI w))]) rfl ?_
        exact ih (a + 1) (by omega) _ hfr hX (by rw [sI_same, fw_step rfl (show (fun a => subB (x_kn X p) a && gdX X p g a) a = true by dsimp only; rw [h52, Bool.true_and, gd_left h52]; exact h80)])
      · have hX := rpM_A hX 54 (by omega) f80
        have hfr := fr_A hfr 54 (by omega) f80
        have hbs : sI (setA σ' 54 f80) 33 36 = _ := hbs
        generalize setA σ' 54 f80 = σ80 at hX hfr hbs ⊢
        refine g_callV (As := [.int (nI a), .int (nI 0)]) km_X5_284 ky_X5_offerSet ki_X5_offerSet (by decide) 33 at_33 rfl rfl (Nat.le_of_ble_eq_true rfl) dX5_left_83 rfl (c_X5_offerSet (good := false) (by omega) hbs (fun c hc => by have := fw_lt a c hc; omega) ?_)
        have hX := rpM_I hX 36 (by omega) (mdf (osN (fwN (fun a => subB (x_kn X p) a && gdX X p g a) a) a false))
        have hfr := fr_I hfr 36 (by omega) (mdf (osN (fwN (fun a => subB (x_kn X p) a && gdX X p g a) a) a false))
        refine g_iinc (v := nI (a + 1)) (lv' := [(4, .int (nI (a + 1))), (0, .ref (L 33)), (1, .int (nI p)), (2, .int (nI g)), (3, .int (nI w))]) dX5_left_86 0 rfl (inc_n _) (by decide) rfl ?_
        refine g_goto 33 dX5_left_89 (by decide) ?_
        refine g_pick [0, 1, 2, 3, 4] (lv' := [(4, .int (nI (a + 1))), (0, .ref (L 33)), (1, .int (nI p)), (2, .int (nI g)), (3, .int (nI w))]) rfl ?_
        exact ih (a + 1) (by omega) _ hfr hX (by rw [sI_same, fw_step rfl (show (fun a => subB (x_kn X p) a && gdX X p g a) a = false by dsimp only; rw [h52, Bool.true_and, gd_left h52]; exact h80)])
set_option maxHeartbeats 4000000 in
set_option maxRecDepth 20000 in
theorem c_X5_left {l : Launch} {D : gE} {L : Nat → Nat} {σ : St} {Q : Option Value → va_W → Prop} {d : Nat} {X : XT} (hX : rpM σ X) (ho : okX X) {x y z : Int32} (h : ∀ σ', fr σ σ' → rpM σ' X → Q (some (.int (tripR X x y z (leftF X)))) (wsOf D L σ')) : Ctr l D yX5_left cX5_left 5 (some .int) (rr (d + 5)) [.ref (L 33), .int x, .int y, .int z] (wsOf D L σ) Q := by
  refine g_start ky_X5_left (Nat.le_of_ble_eq_true rfl) ?_
  refine g_pick [0, 1, 2, 3] (lv' := [(0, .ref (L 33)), (1, .int x), (2, .int y), (3, .int z)]) rfl ?_
  refine g_aload_n dX5_left_0 rfl 0 rfl ?_
  refine g_iload_n dX5_left_1 rfl 1 rfl ?_
  refine g_iload_n dX5_left_2 rfl 2 rfl ?_
  refine g_callV (As := [.int x, .int y]) km_X5_267 ky_X5_isAsked ki_X5_isAsked (by decide) 33 at_33 rfl rfl (Nat.le_of_ble_eq_true rfl) dX5_left_3 rfl (c_X5_isAsked hX ho (fun p3 t3 hp3 ht3 he3 hf3 h3 => ?_) (fun h3 => ?_))
  · subst he3
    subst hf3
    have hsz := ok_sz ho
    refine t_ifne1 11 dX5_left_6 (by decide) ?_
    refine g_iload_n dX5_left_11 rfl 3 rfl ?_
    refine g_i2l dX5_left_12 ?_
    refine g_lconst dX5_left_13 lc_0 ?_
    refine g_lconst dX5_left_14 lc_1 ?_
    refine g_callS (As := [.long z.toInt64, .long ((nI 0).toInt64), .long ((nI 1).toInt64)]) km_X5_118 ky_X5_in ks_X5_in (by decide) rfl (Nat.le_of_ble_eq_true rfl) dX5_left_15 rfl (c_X5_inN (by omega) (by omega) (fun p15 ha15 hb15 he15 => ?_) (fun h15 => ?_))
    · subst he15
      refine t_ifne1 24 dX5_left_18 (by decide) ?_
      refine g_aload_n dX5_left_24 rfl 0 rfl ?_
      refine g_bipush dX5_left_25 bp_m6 ?_
      refine s_putM kf_X5_275 (by decide) dX5_left_27 ?_
      have hX := rpM_I hX 36 (by omega) (-6)
      have hfr : fr σ _ := fr_I fr_rfl 36 (by omega) (-6)
      refine g_iconst dX5_left_30 ci_0 ?_
      refine g_istore (lv' := [(4, .int (nI 0)), (0, .ref (L 33)), (1, .int (nI p3)), (2, .int (nI t3)), (3, .int (nI p15))]) dX5_left_31 (by decide) rfl ?_
      refine g_pick [0, 1, 2, 3, 4] (lv' := [(4, .int (nI 0)), (0, .ref (L 33)), (1, .int (nI p3)), (2, .int (nI t3)), (3, .int (nI p15))]) rfl ?_
      refine lp_X5_left ho hp3 (by omega) (by omega) h3 (fun σ2 hf2 hX2 => qi ?_ (h σ2 hf2 hX2)) 256 0 rfl _ hfr hX (by rw [sI_same]; rfl)
      unfold tripR; rw [thI_t hp3 h3, teI_t ho ht3, ix6 hp3, ixt ho ht3, if_pos (by rfl), inN_t (a := 0) (b := 1) (by omega) (by omega) (by omega), if_pos rfl]
    · refine t_ifne0 (tgt := 24) dX5_left_18 (by decide) ?_
      refine g_bipush dX5_left_21 bp_m2 ?_
      exact g_ireturn dX5_left_23 (Nat.le_refl _) (Nat.le_refl _) (qi (by unfold tripR; rw [thI_t hp3 h3, teI_t ho ht3, ix6 hp3, ixt ho ht3, if_pos (by rfl), inN_f (a := 0) (b := 1) (by omega) h15, if_neg (by decide)]) (h _ fr_rfl hX))
  · refine t_ifne0 (tgt := 11) dX5_left_6 (by decide) ?_
    refine g_iconst dX5_left_9 ci_m1 ?_
    exact g_ireturn dX5_left_10 (Nat.le_refl _) (Nat.le_refl _) (qi (by unfold tripR; rw [h3, if_neg (by decide)]) (h _ fr_rfl hX))
set_option maxHeartbeats 4000000 in
set_option maxRecDepth 20000 in
theorem lp_X5_lies {l : Launch} {D : gE} {L : Nat → Nat} {σ : St} {Q : Option Value → va_W → Prop} {d : Nat} {X : XT} (hX : rpM σ X) (ho : okX X) {p : Nat} (hp : p < 6) (hth : x_th X p = true) (h : Q (some (.int (nI (bitsN (lieX X p) 8)))) (wsOf D L σ)) : ∀ n k, k + n = 8 → G l D yX5_lies cX5_lies 5 (some .int) (rr d) Q 0 0 4 [(3, .int (nI k)), (2, .int (nI (bitsN (lieX X p) k))), (0, .ref (L 33)), (1, .int (nI p))] [] (wsOf D L σ) := by
  intro n
  induction n with
  | zero =>
    intro k hct
    obtain rfl : k = 8 := by omega
    refine g_iload_n dX5_lies_4 rfl 0 rfl ?_
    refine g_bipush dX5_lies_5 bp_8 ?_
    refine n_icmpge 71 dX5_lies_7 (by decide) (by omega) (by omega) (fun h7 => ?_) (fun h7 => absurd h7 (by omega))
    refine g_iload_n dX5_lies_71 rfl 1 rfl ?_
    exact g_ireturn dX5_lies_72 (Nat.le_refl _) (Nat.le_refl _) (h)
  | succ n ih =>
    intro k hct
    have hwt := ok_wt ho (k := k) (by omega)
    refine g_iload_n dX5_lies_4 rfl 0 rfl ?_
    refine g_bipush dX5_lies_5 bp_8 ?_
    refine n_icmpge 71 dX5_lies_7 (by decide) (by omega) (by omega) (fun h7 => absurd h7 (by omega)) (fun h7 => ?_)
    refine g_aload_n dX5_lies_10 rfl 2 rfl ?_
    refine s_getM kf_X5_31 (by decide) rfl dX5_lies_11 ?_
    refine g_iload_n dX5_lies_14 rfl 0 rfl ?_
    refine s_ald (q := 41) (n := 8) (at_ia (q := 41) rfl) (by omega) (by decide) dX5_lies_15 ?_
    refine g_tope (z := zI (x_wt X k)) (rpM_wt hX (by omega)) ?_
    refine z_ifge 47 dX5_lies_16 (by decide) (by omega) (fun h16 => ?_) (fun h16 => ?_)
    · refine g_iconst dX5_lies_47 ci_0 ?_
      refine g_istore (lv' := [(4, .int (nI 0)), (3, .int (nI k)), (2, .int (nI (bitsN (lieX X p) k))), (0, .ref (L 33)), (1, .int (nI p))]) dX5_lies_48 (by decide) rfl ?_
      refine g_iload_n dX5_lies_50 rfl 2 rfl ?_
      refine g_iload dX5_lies_51 0 rfl ?_
      refine t_ifeq0 62 dX5_lies_53 (by decide) ?_
      refine g_iconst dX5_lies_62 ci_0 ?_
      refine g_ior dX5_lies_63 ?_
      refine g_tope (z := nI (bitsN (lieX X p) (k + 1))) (by rw [or0]; exact obF _ (by unfold lieX; rw [decide_eq_false (by omega)]; rfl)) ?_
      refine g_istore_n (lv' := [(2, .int (nI (bitsN (lieX X p) (k + 1)))), (4, .int (nI 0)), (3, .int (nI k)), (0, .ref (L 33)), (1, .int (nI p))]) dX5_lies_64 rfl (by decide) rfl ?_
      refine g_iinc (v := nI (k + 1)) (lv' := [(3, .int (nI (k + 1))), (2, .int (nI (bitsN (lieX X p) (k + 1)))), (4, .int (nI 0)), (0, .ref (L 33)), (1, .int (nI p))]) dX5_lies_65 2 rfl (inc_n _) (by decide) rfl ?_
      refine g_goto 4 dX5_lies_68 (by decide) ?_
      refine g_pick [0, 1, 3, 4] (lv' := [(3, .int (nI (k + 1))), (2, .int (nI (bitsN (lieX X p) (k + 1)))), (0, .ref (L 33)), (1, .int (nI p))]) rfl ?_
      exact ih (k + 1) (by omega)
    · refine g_aload_n dX5_lies_19 rfl 2 rfl ?_
      refine s_getM kf_X5_28 (by decide) rfl dX5_lies_20 ?_
      refine g_iload_n dX5_lies_23 rfl 3 rfl ?_
      refine s_ald (q := 40) (n := 6) (at_ia (q := 40) rfl) (by omega) (by decide) dX5_lies_24 ?_
      refine g_tope (z := nI (bitsN (x_kn X p) 8)) (rpM_kn hX (by omega) (by assumption)) ?_
      refine g_iload_n dX5_lies_25 rfl 0 rfl ?_
      refine g_ishr dX5_lies_26 ?_
      refine g_iconst dX5_lies_27 ci_1 ?_
      refine g_iand dX5_lies_28 ?_
      refine g_tope (z := nI (b2n ((x_kn X p) k))) (gbB _ (by decide) (by omega)) ?_
      refine b_ifne 47 dX5_lies_29 (by decide) (fun h29 => ?_) (fun h29 => ?_)
      · refine g_iconst dX5_lies_47 ci_0 ?_
        refine g_istore (lv' := [(4, .int (nI 0)), (3, .int (nI k)), (2, .int (nI (bitsN (lieX X p) k))), (0, .ref (L 33)), (1, .int (nI p))]) dX5_lies_48 (by decide) rfl ?_
        refine g_iload_n dX5_lies_50 rfl 2 rfl ?_
        refine g_iload dX5_lies_51 0 rfl ?_
        refine t_ifeq0 62 dX5_lies_53 (by decide) ?_
        refine g_iconst dX5_lies_62 ci_0 ?_
        refine g_ior dX5_lies_63 ?_
        refine g_tope (z := nI (bitsN (lieX X p) (k + 1))) (by rw [or0]; exact obF _ (by simp [lieX, h29])) ?_
        refine g_istore_n (lv' := [(2, .int (nI (bitsN (lieX X p) (k + 1)))), (4, .int (nI 0)), (3, .int (nI k)), (0, .ref (L 33)), (1, .int (nI p))]) dX5_lies_64 rfl (by decide) rfl ?_
        refine g_iinc (v := nI (k + 1)) (lv' := [(3, .int (nI (k + 1))), (2, .int (nI (bitsN (lieX X p) (k + 1)))), (4, .int (nI 0)), (0, .ref (L 33)), (1, .int (nI p))]) dX5_lies_65 2 rfl (inc_n _) (by decide) rfl ?_
        refine g_goto 4 dX5_lies_68 (by decide) ?_
        refine g_pick [0, 1, 3, 4] (lv' := [(3, .int (nI (k + 1))), (2, .int (nI (bitsN (lieX X p) (k + 1)))), (0, .ref (L 33)), (1, .int (nI p))]) rfl ?_
        exact ih (k + 1) (by omega)
      · refine g_aload_n dX5_lies_32 rfl 2 rfl ?_
        refine s_getM kf_X5_112 (by decide) rfl dX5_lies_33 ?_
        refine g_tope (z := nI (bitsN (x_pu X) 8)) (rpM_pu hX) ?_
        refine g_iload_n dX5_lies_36 rfl 0 rfl ?_
        refine g_ishr dX5_lies_37 ?_
        refine g_iconst dX5_lies_38 ci_1 ?_
        refine g_iand dX5_lies_39 ?_
        refine g_tope (z := nI (b2n ((x_pu X) k))) (gbB _ (by decide) (by omega)) ?_
        refine b_ifne 47 dX5_lies_40 (by decide) (fun h40 => ?_) (fun h40 => ?_)
        · refine g_iconst dX5_lies_47 ci_0 ?_
          refine g_istore (lv' := [(4, .int (nI 0)), (3, .int (nI k)), (2, .int (nI (bitsN (lieX X p) k))), (0, .ref (L 33)), (1, .int (nI p))]) dX5_lies_48 (by decide) rfl ?_
          refine g_iload_n dX5_lies_50 rfl 2 rfl ?_
          refine g_iload dX5_lies_51 0 rfl ?_
          refine t_ifeq0 62 dX5_lies_53 (by decide) ?_
          refine g_iconst dX5_lies_62 ci_0 ?_
          refine g_ior dX5_lies_63 ?_
          refine g_tope (z := nI (bitsN (lieX X p) (k + 1))) (by rw [or0]; exact obF _ (by simp [lieX, h40])) ?_
          refine g_istore_n (lv' := [(2, .int (nI (bitsN (lieX X p) (k + 1)))), (4, .int (nI 0)), (3, .int (nI k)), (0, .ref (L 33)), (1, .int (nI p))]) dX5_lies_64 rfl (by decide) rfl ?_
          refine g_iinc (v := nI (k + 1)) (lv' := [(3, .int (nI (k + 1))), (2, .int (nI (bitsN (lieX X p) (k + 1)))), (4, .int (nI 0)), (0, .ref (L 33)), (1, .int (nI p))]) dX5_lies_65 2 rfl (inc_n _) (by decide) rfl ?_
          refine g_goto 4 dX5_lies_68 (by decide) ?_
          refine g_pick [0, 1, 3, 4] (lv' := [(3, .int (nI (k + 1))), (2, .int (nI (bitsN (lieX X p) (k + 1)))), (0, .ref (L 33)), (1, .int (nI p))]) rfl ?_
          exact ih (k + 1) (by omega)
        · refine g_iconst dX5_lies_43 ci_1 ?_
          refine g_goto 48 dX5_lies_44 (by decide) ?_
          refine g_istore (lv' := [(4, .int (nI 1)), (3, .int (nI k)), (2, .int (nI (bitsN (lieX X p) k))), (0, .ref (L 33)), (1, .int (nI p))]) dX5_lies_48 (by decide) rfl ?_
          refine g_iload_n dX5_lies_50 rfl 2 rfl ?_
          refine g_iload dX5_lies_51 0 rfl ?_
          refine t_ifeq1 (tgt := 62) dX5_lies_53 (by decide) ?_
          refine g_iconst dX5_lies_56 ci_1 ?_
          refine g_iload_n dX5_lies_57 rfl 1 rfl ?_
          refine g_ishl dX5_lies_58 ?_
          refine g_goto 63 dX5_lies_59 (by decide) ?_
          refine g_ior dX5_lies_63 ?_
          refine g_tope (z := nI (bitsN (lieX X p) (k + 1))) (obT _ (by omega) (by simp [lieX, h29, h40]; omega)) ?_
          refine g_istore_n (lv' := [(2, .int (nI (bitsN (lieX X p) (k + 1)))), (4, .int (nI 1)), (3, .int (nI k)), (0, .ref (L 33)), (1, .int (nI p))]) dX5_lies_64 rfl (by decide) rfl ?_
          refine g_iinc (v := nI (k + 1)) (lv' := [(3, .int (nI (k + 1))), (2, .int (nI (bitsN (lieX X p) (k + 1)))), (4, .int (nI 1)), (0, .ref (L 33)), (1, .int (nI p))]) dX5_lies_65 2 rfl (inc_n _) (by decide) rfl ?_
          refine g_goto 4 dX5_lies_68 (by decide) ?_
          refine g_pick [0, 1, 3, 4] (lv' := [(3, .int (nI (k + 1))), (2, .int (nI (bitsN (lieX X p) (k + 1)))), (0, .ref (L 33)), (1, .int (nI p))]) rfl ?_
          exact ih (k + 1) (by omega)
set_option maxHeartbeats 4000000 in
set_option maxRecDepth 20000 in
theorem c_X5_lies {l : Launch} {D : gE} {L : Nat → Nat} {σ : St} {Q : Option Value → va_W → Prop} {d : Nat} {X : XT} (hX : rpM σ X) (ho : okX X) {p : Nat} (hp : p < 6) (hth : x_th X p = true) (h : Q (some (.int (nI (bitsN (lieX X p) 8)))) (wsOf D L σ)) : Ctr l D yX5_lies cX5_lies 5 (some .int) (rr d) [.ref (L 33), .int (nI p)] (wsOf D L σ) Q := by
  refine g_start ky_X5_lies (Nat.le_of_ble_eq_true rfl) ?_
  refine g_pick [0, 1] (lv' := [(0, .ref (L 33)), (1, .int (nI p))]) rfl ?_
  refine g_iconst dX5_lies_0 ci_0 ?_
  refine g_tope (z := nI (bitsN (lieX X p) 0)) rfl ?_
  refine g_istore_n (lv' := [(2, .int (nI (bitsN (lieX X p) 0))), (0, .ref (L 33)), (1, .int (nI p))]) dX5_lies_1 rfl (by decide) rfl ?_
  refine g_iconst dX5_lies_2 ci_0 ?_
  refine g_istore_n (lv' := [(3, .int (nI 0)), (2, .int (nI (bitsN (lieX X p) 0))), (0, .ref (L 33)), (1, .int (nI p))]) dX5_lies_3 rfl (by decide) rfl ?_
  refine g_pick [0, 1, 2, 3] (lv' := [(3, .int (nI 0)), (2, .int (nI (bitsN (lieX X p) 0))), (0, .ref (L 33)), (1, .int (nI p))]) rfl ?_
  exact lp_X5_lies hX ho hp hth h 8 0 rfl
set_option maxHeartbeats 4000000 in
set_option maxRecDepth 20000 in
theorem lp_X5_floatedBy {l : Launch} {D : gE} {L : Nat → Nat} {σ : St} {Q : Option Value → va_W → Prop} {d : Nat} {X : XT} (hX : rpM σ X) (ho : okX X) {p a : Nat} (hp : p < 6) (ha : a < 256) (hth : x_th X p = true) (hnk : ∀ k, k < 8 → a.testBit k = true → x_kn X p k = false) (h : Q (some (.int (nI (smX X p (x_kn X p) 8 + smX X p a.testBit 8).toNat))) (wsOf D L σ)) : ∀ n k, k + n = 8 → G l D yX5_floatedBy cX5_floatedBy 5 (some .int) (rr (d + 4)) Q 0 0 15 [(4, .int (nI k)), (3, .int (zI (smX X p (x_kn X p) 8 + smX X p a.testBit k))), (0, .ref (L 33)), (1, .int (nI p)), (2, .int (nI a))] [] (wsOf D L σ) := by
  intro n
  induction n with
  | zero =>
    intro k hct
    obtain rfl : k = 8 := by omega
    have hs1 := sm_bd ho (p := p) (s := x_kn X p) (n := 8) (Nat.le_refl 8)
    have hs2 := sm_bd ho (p := p) (s := a.testBit) (n := 8) (Nat.le_refl 8)
    refine g_iload dX5_floatedBy_15 0 rfl ?_
    refine g_bipush dX5_floatedBy_17 bp_8 ?_
    refine n_icmpge 60 dX5_floatedBy_19 (by decide) (by omega) (by omega) (fun h19 => ?_) (fun h19 => absurd h19 (by omega))
    refine g_iload_n dX5_floatedBy_60 rfl 1 rfl ?_
    refine g_callS (As := [.int (zI (smX X p (x_kn X p) 8 + smX X p a.testBit 8))]) km_X5_278 ky_X5_least0 ks_X5_least0 (by decide) rfl (Nat.le_of_ble_eq_true rfl) dX5_floatedBy_61 rfl (c_X5_least0 (by omega) ?_)
    exact g_ireturn dX5_floatedBy_64 (Nat.le_refl _) (Nat.le_refl _) (h)
  | succ n ih =>
    intro k hct
    have hkl := kc_le X k
    refine g_iload dX5_floatedBy_15 0 rfl ?_
    refine g_bipush dX5_floatedBy_17 bp_8 ?_
    refine n_icmpge 60 dX5_floatedBy_19 (by decide) (by omega) (by omega) (fun h19 => absurd h19 (by omega)) (fun h19 => ?_)
    refine g_iload_n dX5_floatedBy_22 rfl 1 rfl ?_
    refine g_iload_n dX5_floatedBy_23 rfl 4 rfl ?_
    refine g_iload dX5_floatedBy_24 0 rfl ?_
    refine g_ishr dX5_floatedBy_26 ?_
    refine g_iconst dX5_floatedBy_27 ci_1 ?_
    refine g_iand dX5_floatedBy_28 ?_
    refine g_tope (z := nI (b2n (a.testBit k))) (gb (by omega) (by omega)) ?_
    refine g_iconst dX5_floatedBy_29 ci_1 ?_
    refine b_icmpne 51 dX5_floatedBy_30 (by decide) (fun h30 => ?_) (fun h30 => ?_)
    · refine g_iconst dX5_floatedBy_51 ci_0 ?_
      refine g_iadd dX5_floatedBy_52 ?_
      refine g_tope (z := zI (smX X p (x_kn X p) 8 + smX X p a.testBit (k + 1))) (by rw [show nI 0 = zI 0 from rfl, zI_add, ← sm_f h30]; congr 1; omega) ?_
      refine g_istore_n (lv' := [(3, .int (zI (smX X p (x_kn X p) 8 + smX X p a.testBit (k + 1)))), (4, .int (nI k)), (0, .ref (L 33)), (1, .int (nI p)), (2, .int (nI a))]) dX5_floatedBy_53 rfl (by decide) rfl ?_
      refine g_iinc (v := nI (k + 1)) (lv' := [(4, .int (nI (k + 1))), (3, .int (zI (smX X p (x_kn X p) 8 + smX X p a.testBit (k + 1)))), (0, .ref (L 33)), (1, .int (nI p)), (2, .int (nI a))]) dX5_floatedBy_54 1 rfl (inc_n _) (by decide) rfl ?_
      refine g_goto 15 dX5_floatedBy_57 (by decide) ?_
      refine g_pick [0, 1, 2, 3, 4] (lv' := [(4, .int (nI (k + 1))), (3, .int (zI (smX X p (x_kn X p) 8 + smX X p a.testBit (k + 1)))), (0, .ref (L 33)), (1, .int (nI p)), (2, .int (nI a))]) rfl ?_
      exact ih (k + 1) (by omega)
    · refine g_aload_n dX5_floatedBy_33 rfl 2 rfl ?_
      refine g_iload_n dX5_floatedBy_34 rfl 3 rfl ?_
      refine g_iload dX5_floatedBy_35 0 rfl ?_
      refine g_aload_n dX5_floatedBy_37 rfl 2 rfl ?_
      refine g_iload dX5_floatedBy_38 0 rfl ?_
      refine g_callV (As := [.int (nI k)]) km_X5_195 ky_X5_knowers ki_X5_knowers (by decide) 33 at_33 rfl rfl (Nat.le_of_ble_eq_true rfl) dX5_floatedBy_40 rfl (c_X5_knowers hX ho (by omega) ?_)
      refine g_iconst dX5_floatedBy_43 ci_1 ?_
      refine g_iadd dX5_floatedBy_44 ?_
      refine g_tope (z := nI (kcX X k + 1)) (nI_add _ _) ?_
      refine g_callV (As := [.int (nI p), .int (nI k), .int (nI (kcX X k + 1))]) km_X5_198 ky_X5_heavyBy ki_X5_heavyBy (by decide) 33 at_33 rfl rfl (Nat.le_of_ble_eq_true rfl) dX5_floatedBy_45 rfl (c_X5_heavyBy hX ho (by omega) (by omega) (by omega) (by omega) ?_)
      refine g_goto 52 dX5_floatedBy_48 (by decide) ?_
      refine g_iadd dX5_floatedBy_52 ?_
      refine g_tope (z := zI (smX X p (x_kn X p) 8 + smX X p a.testBit (k + 1))) (by rw [zI_add, ← fl_t h30 (hnk k (by omega) h30)]; congr 1; omega) ?_
      refine g_istore_n (lv' := [(3, .int (zI (smX X p (x_kn X p) 8 + smX X p a.testBit (k + 1)))), (4, .int (nI k)), (0, .ref (L 33)), (1, .int (nI p)), (2, .int (nI a))]) dX5_floatedBy_53 rfl (by decide) rfl ?_
      refine g_iinc (v := nI (k + 1)) (lv' := [(4, .int (nI (k + 1))), (3, .int (zI (smX X p (x_kn X p) 8 + smX X p a.testBit (k + 1)))), (0, .ref (L 33)), (1, .int (nI p)), (2, .int (nI a))]) dX5_floatedBy_54 1 rfl (inc_n _) (by decide) rfl ?_
      refine g_goto 15 dX5_floatedBy_57 (by decide) ?_
      refine g_pick [0, 1, 2, 3, 4] (lv' := [(4, .int (nI (k + 1))), (3, .int (zI (smX X p (x_kn X p) 8 + smX X p a.testBit (k + 1)))), (0, .ref (L 33)), (1, .int (nI p)), (2, .int (nI a))]) rfl ?_
      exact ih (k + 1) (by omega)
set_option maxHeartbeats 4000000 in
set_option maxRecDepth 20000 in
theorem c_X5_floatedBy {l : Launch} {D : gE} {L : Nat → Nat} {σ : St} {Q : Option Value → va_W → Prop} {d : Nat} {X : XT} (hX : rpM σ X) (ho : okX X) {p a : Nat} (hp : p < 6) (ha : a < 256) (hth : x_th X p = true) (hnk : ∀ k, k < 8 → a.testBit k = true → x_kn X p k = false) (h : Q (some (.int (nI (smX X p (x_kn X p) 8 + smX X p a.testBit 8).toNat))) (wsOf D L σ)) : Ctr l D yX5_floatedBy cX5_floatedBy 5 (some .int) (rr (d + 4)) [.ref (L 33), .int (nI p), .int (nI a)] (wsOf D L σ) Q := by
  refine g_start ky_X5_floatedBy (Nat.le_of_ble_eq_true rfl) ?_
  refine g_pick [0, 1, 2] (lv' := [(0, .ref (L 33)), (1, .int (nI p)), (2, .int (nI a))]) rfl ?_
  refine g_aload_n dX5_floatedBy_0 rfl 0 rfl ?_
  refine g_iload_n dX5_floatedBy_1 rfl 1 rfl ?_
  refine g_aload_n dX5_floatedBy_2 rfl 0 rfl ?_
  refine s_getM kf_X5_28 (by decide) rfl dX5_floatedBy_3 ?_
  refine g_iload_n dX5_floatedBy_6 rfl 1 rfl ?_
  refine s_ald (q := 40) (n := 6) (at_ia (q := 40) rfl) (by omega) (by decide) dX5_floatedBy_7 ?_
  refine g_tope (z := nI (bitsN (x_kn X p) 8)) (rpM_kn hX (by omega) (by assumption)) ?_
  refine g_callV (As := [.int (nI p), .int (nI (bitsN (x_kn X p) 8))]) km_X5_202 ky_X5_sumOf ki_X5_sumOf (by decide) 33 at_33 rfl rfl (Nat.le_of_ble_eq_true rfl) dX5_floatedBy_8 rfl (c_X5_sumOf hX ho (by omega) (fun _ _ h => h) ?_)
  refine g_tope (z := zI (smX X p (x_kn X p) 8 + smX X p a.testBit 0)) (by show _ = zI (_ + 0); rw [Int.add_zero]) ?_
  refine g_istore_n (lv' := [(3, .int (zI (smX X p (x_kn X p) 8 + smX X p a.testBit 0))), (0, .ref (L 33)), (1, .int (nI p)), (2, .int (nI a))]) dX5_floatedBy_11 rfl (by decide) rfl ?_
  refine g_iconst dX5_floatedBy_12 ci_0 ?_
  refine g_istore (lv' := [(4, .int (nI 0)), (3, .int (zI (smX X p (x_kn X p) 8 + smX X p a.testBit 0))), (0, .ref (L 33)), (1, .int (nI p)), (2, .int (nI a))]) dX5_floatedBy_13 (by decide) rfl ?_
  refine g_pick [0, 1, 2, 3, 4] (lv' := [(4, .int (nI 0)), (3, .int (zI (smX X p (x_kn X p) 8 + smX X p a.testBit 0))), (0, .ref (L 33)), (1, .int (nI p)), (2, .int (nI a))]) rfl ?_
  exact lp_X5_floatedBy hX ho hp ha hth hnk h 8 0 rfl
set_option maxHeartbeats 4000000 in
set_option maxRecDepth 20000 in
theorem lp_X5_floated {l : Launch} {D : gE} {L : Nat → Nat} {σ : St} {Q : Option Value → va_W → Prop} {d : Nat} {X : XT} (ho : okX X) {p g w : Nat} (hp : p < 6) (hg : g < 6) (hw : w ≤ 1) (hth : x_th X p = true) (h : ∀ σ', fr σ σ' → rpM σ' X → Q (some (.int (fsR (floatF X p g) (nI w)))) (wsOf D L σ')) : ∀ n a, a + n = 256 → ∀ σ', fr σ σ' → rpM σ' X → sI σ' 33 36 = mdf (fwN (fun a => subB (lieX X p) a && gdX X p g a) a) → G l D yX5_floated cX5_floated 6 (some .int) (rr (d + 5)) Q 0 0 40 [(5, .int (nI a)), (4, .int (nI (bitsN (lieX X p) 8))), (0, .ref (L 33)), (1, .int (nI p)), (2, .int (nI g)), (3, .int (nI w))] [] (wsOf D L σ') := by
  intro n
  induction n with
  | zero =>
    intro a hct σ' hfr hX hbs
    obtain rfl : a = 256 := by omega
    refine g_iload dX5_floated_40 0 rfl ?_
    refine g_sipush dX5_floated_42 sp_256 ?_
    refine n_icmpge 83 dX5_floated_45 (by decide) (by omega) (by omega) (fun h45 => ?_) (fun h45 => absurd h45 (by omega))
    refine g_aload_n dX5_floated_83 rfl 2 rfl ?_
    refine g_iload_n dX5_floated_84 rfl 5 rfl ?_
    refine g_callV (As := [.int (nI w)]) km_X5_288 ky_X5_tellSet ki_X5_tellSet (by decide) 33 at_33 rfl rfl (Nat.le_of_ble_eq_true rfl) dX5_floated_85 rfl (c_X5_tellSet hw hbs (fun c hc => fw_lt 256 c hc) ?_)
    exact g_ireturn dX5_floated_88 (Nat.le_refl _) (Nat.le_refl _) (h _ hfr hX)
  | succ n ih =>
    intro a hct σ' hfr hX hbs
    have hs1 := sm_bd ho (p := p) (s := x_kn X p) (n := 8) (Nat.le_refl 8)
    have hs2 := sm_bd ho (p := p) (s := a.testBit) (n := 8) (Nat.le_refl 8)
    refine g_iload dX5_floated_40 0 rfl ?_
    refine g_sipush dX5_floated_42 sp_256 ?_
    refine n_icmpge 83 dX5_floated_45 (by decide) (by omega) (by omega) (fun h45 => absurd h45 (by omega)) (fun h45 => ?_)
    refine g_iload dX5_floated_48 0 rfl ?_
    refine g_iload dX5_floated_50 1 rfl ?_
    refine g_iconst dX5_floated_52 ci_m1 ?_
    refine g_ixor dX5_floated_53 ?_
    refine g_iand dX5_floated_54 ?_
    refine sb_ifne 77 dX5_floated_55 (by decide) (by omega) (fun h55 => ?_) (fun h55 => ?_)
    · refine g_iinc (v := nI (a + 1)) (lv' := [(5, .int (nI (a + 1))), (4, .int (nI (bitsN (lieX X p) 8))), (0, .ref (L 33)), (1, .int (nI p)), (2, .int (nI g)), (3, .int (nI w))]) dX5_floated_77 0 rfl (inc_n _) (by decide) rfl ?_
      refine g_goto 40 dX5_floated_80 (by decide) ?_
      refine g_pick [0, 1, 2, 3, 4, 5] (lv' := [(5, .int (nI (a + 1))), (4, .int (nI (bitsN (lieX X p) 8))), (0, .ref (L 33)), (1, .int (nI p)), (2, .int (nI g)), (3, .int (nI w))]) rfl ?_
      exact ih (a + 1) (by omega) _ hfr hX (by rw [hbs, fw_step rfl (show (fun a => subB (lieX X p) a && gdX X p g a) a = false by dsimp only; rw [h55, Bool.false_and]), os_no])
    · refine g_aload_n dX5_floated_58 rfl 2 rfl ?_
      refine g_iload dX5_floated_59 0 rfl ?_
      refine g_aload_n dX5_floated_61 rfl 2 rfl ?_
      refine g_iload_n dX5_floated_62 rfl 3 rfl ?_
      refine g_iload_n dX5_floated_63 rfl 4 rfl ?_
      refine g_aload_n dX5_floated_64 rfl 2 rfl ?_
      refine g_iload_n dX5_floated_65 rfl 3 rfl ?_
      refine g_iload dX5_floated_66 0 rfl ?_
      refine g_callV (As := [.int (nI p), .int (nI a)]) km_X5_294 ky_X5_floatedBy ki_X5_floatedBy (by decide) 33 at_33 rfl rfl (Nat.le_of_ble_eq_true rfl) dX5_floated_68 rfl (c_X5_floatedBy hX ho hp (by omega) hth (fun k hk e => by have := subB_iff.mp h55 k hk e; simp [lieX] at this; exact this.1.2) ?_)
      refine g_callV (As := [.int (nI p), .int (nI g), .int (nI ((smX X p (x_kn X p) 8 + smX X p a.testBit 8).toNat))]) km_X5_281 ky_X5_hasWay ki_X5_hasWay (by decide) 33 at_33 rfl rfl (Nat.le_of_ble_eq_true rfl) dX5_floated_71 rfl (c_X5_hasWay hX ho (by omega) (by omega) (by omega) (fun h71 f71 => ?_) (fun h71 f71 => ?_))
      · have hX := rpM_A hX 54 (by omega) f71
        have hfr := fr_A hfr 54 (by omega) f71
        have hbs : sI (setA σ' 54 f71) 33 36 = _ := hbs
        generalize setA σ' 54 f71 = σ71 at hX hfr hbs ⊢
        refine g_callV (As := [.int (nI a), .int (nI 1)]) km_X5_284 ky_X5_offerSet ki_X5_offerSet (by decide) 33 at_33 rfl rfl (Nat.le_of_ble_eq_true rfl) dX5_floated_74 rfl (c_X5_offerSet (good := true) (by omega) hbs (fun c hc => by have := fw_lt a c hc; omega) ?_)
        have hX := rpM_I hX 36 (by omega) (mdf (osN (fwN (fun a => subB (lieX X p) a && gdX X p g a) a) a true))
        have hfr := fr_I hfr 36 (by omega) (mdf (osN (fwN (fun a => subB (lieX X p) a && gdX X p g a) a) a true))
        refine g_iinc (v := nI (a + 1)) (lv' := [(5, .int (nI (a + 1))), (4, .int (nI (bitsN (lieX X p) 8))), (0, .ref (L 33)), (1, .int (nI p)), (2, .int (nI g)), (3, .int (nI w))]) dX5_floated_77 0 rfl (inc_n _) (by decide) rfl ?_
        refine g_goto 40 dX5_floated_80 (by decide) ?_
        refine g_pick [0, 1, 2, 3, 4, 5] (lv' := [(5, .int (nI (a + 1))), (4, .int (nI (bitsN (lieX X p) 8))), (0, .ref (L 33)), (1, .int (nI p)), (2, .int (nI g)), (3, .int (nI w))]) rfl ?_
        exact ih (a + 1) (by omega) _ hfr hX (by rw [sI_same, fw_step rfl (show (fun a => subB (lieX X p) a && gdX X p g a) a = true by dsimp only; rw [h55, Bool.true_and, gd_float h55]; exact h71)])
      · have hX := rpM_A hX 54 (by omega) f71
        have hfr := fr_A hfr 54 (by omega) f71
        have hbs : sI (setA σ' 54 f71) 33 36 = _ := hbs
        generalize setA σ' 54 f71 = σ71 at hX hfr hbs ⊢
        refine g_callV (As := [.int (nI a), .int (nI 0)]) km_X5_284 ky_X5_offerSet ki_X5_offerSet (by decide) 33 at_33 rfl rfl (Nat.le_of_ble_eq_true rfl) dX5_floated_74 rfl (c_X5_offerSet (good := false) (by omega) hbs (fun c hc => by have := fw_lt a c hc; omega) ?_)
        have hX := rpM_I hX 36 (by omega) (mdf (osN (fwN (fun a => subB (lieX X p) a && gdX X p g a) a) a false))
        have hfr := fr_I hfr 36 (by omega) (mdf (osN (fwN (fun a => subB (lieX X p) a && gdX X p g a) a) a false))
        refine g_iinc (v := nI (a + 1)) (lv' := [(5, .int (nI (a + 1))), (4, .int (nI (bitsN (lieX X p) 8))), (0, .ref (L 33)), (1, .int (nI p)), (2, .int (nI g)), (3, .int (nI w))]) dX5_floated_77 0 rfl (inc_n _) (by decide) rfl ?_
        refine g_goto 40 dX5_floated_80 (by decide) ?_
        refine g_pick [0, 1, 2, 3, 4, 5] (lv' := [(5, .int (nI (a + 1))), (4, .int (nI (bitsN (lieX X p) 8))), (0, .ref (L 33)), (1, .int (nI p)), (2, .int (nI g)), (3, .int (nI w))]) rfl ?_
        exact ih (a + 1) (by omega) _ hfr hX (by rw [sI_same, fw_step rfl (show (fun a => subB (lieX X p) a && gdX X p g a) a = false by dsimp only; rw [h55, Bool.true_and, gd_float h55]; exact h71)])
set_option maxHeartbeats 4000000 in
set_option maxRecDepth 20000 in
theorem c_X5_floated {l : Launch} {D : gE} {L : Nat → Nat} {σ : St} {Q : Option Value → va_W → Prop} {d : Nat} {X : XT} (hX : rpM σ X) (ho : okX X) {x y z : Int32} (h : ∀ σ', fr σ σ' → rpM σ' X → Q (some (.int (tripR X x y z (floatF X)))) (wsOf D L σ')) : Ctr l D yX5_floated cX5_floated 6 (some .int) (rr (d + 5)) [.ref (L 33), .int x, .int y, .int z] (wsOf D L σ) Q := by
  refine g_start ky_X5_floated (Nat.le_of_ble_eq_true rfl) ?_
  refine g_pick [0, 1, 2, 3] (lv' := [(0, .ref (L 33)), (1, .int x), (2, .int y), (3, .int z)]) rfl ?_
  refine g_aload_n dX5_floated_0 rfl 0 rfl ?_
  refine g_iload_n dX5_floated_1 rfl 1 rfl ?_
  refine g_iload_n dX5_floated_2 rfl 2 rfl ?_
  refine g_callV (As := [.int x, .int y]) km_X5_267 ky_X5_isAsked ki_X5_isAsked (by decide) 33 at_33 rfl rfl (Nat.le_of_ble_eq_true rfl) dX5_floated_3 rfl (c_X5_isAsked hX ho (fun p3 t3 hp3 ht3 he3 hf3 h3 => ?_) (fun h3 => ?_))
  · subst he3
    subst hf3
    have hsz := ok_sz ho
    refine t_ifne1 11 dX5_floated_6 (by decide) ?_
    refine g_iload_n dX5_floated_11 rfl 3 rfl ?_
    refine g_i2l dX5_floated_12 ?_
    refine g_lconst dX5_floated_13 lc_0 ?_
    refine g_lconst dX5_floated_14 lc_1 ?_
    refine g_callS (As := [.long z.toInt64, .long ((nI 0).toInt64), .long ((nI 1).toInt64)]) km_X5_118 ky_X5_in ks_X5_in (by decide) rfl (Nat.le_of_ble_eq_true rfl) dX5_floated_15 rfl (c_X5_inN (by omega) (by omega) (fun p15 ha15 hb15 he15 => ?_) (fun h15 => ?_))
    · subst he15
      refine t_ifne1 24 dX5_floated_18 (by decide) ?_
      refine g_aload_n dX5_floated_24 rfl 0 rfl ?_
      refine g_iload_n dX5_floated_25 rfl 1 rfl ?_
      refine g_callV (As := [.int (nI p3)]) km_X5_291 ky_X5_lies ki_X5_lies (by decide) 33 at_33 rfl rfl (Nat.le_of_ble_eq_true rfl) dX5_floated_26 rfl (c_X5_lies hX ho (by omega) (by assumption) ?_)
      refine g_istore (lv' := [(4, .int (nI (bitsN (lieX X p3) 8))), (0, .ref (L 33)), (1, .int (nI p3)), (2, .int (nI t3)), (3, .int (nI p15))]) dX5_floated_29 (by decide) rfl ?_
      refine g_aload_n dX5_floated_31 rfl 1 rfl ?_
      refine g_bipush dX5_floated_32 bp_m6 ?_
      refine s_putM kf_X5_275 (by decide) dX5_floated_34 ?_
      have hX := rpM_I hX 36 (by omega) (-6)
      have hfr : fr σ _ := fr_I fr_rfl 36 (by omega) (-6)
      refine g_iconst dX5_floated_37 ci_0 ?_
      refine g_istore (lv' := [(5, .int (nI 0)), (4, .int (nI (bitsN (lieX X p3) 8))), (0, .ref (L 33)), (1, .int (nI p3)), (2, .int (nI t3)), (3, .int (nI p15))]) dX5_floated_38 (by decide) rfl ?_
      refine g_pick [0, 1, 2, 3, 4, 5] (lv' := [(5, .int (nI 0)), (4, .int (nI (bitsN (lieX X p3) 8))), (0, .ref (L 33)), (1, .int (nI p3)), (2, .int (nI t3)), (3, .int (nI p15))]) rfl ?_
      refine lp_X5_floated ho hp3 (by omega) (by omega) h3 (fun σ2 hf2 hX2 => qi ?_ (h σ2 hf2 hX2)) 256 0 rfl _ hfr hX (by rw [sI_same]; rfl)
      unfold tripR; rw [thI_t hp3 h3, teI_t ho ht3, ix6 hp3, ixt ho ht3, if_pos (by rfl), inN_t (a := 0) (b := 1) (by omega) (by omega) (by omega), if_pos rfl]
    · refine t_ifne0 (tgt := 24) dX5_floated_18 (by decide) ?_
      refine g_bipush dX5_floated_21 bp_m2 ?_
      exact g_ireturn dX5_floated_23 (Nat.le_refl _) (Nat.le_refl _) (qi (by unfold tripR; rw [thI_t hp3 h3, teI_t ho ht3, ix6 hp3, ixt ho ht3, if_pos (by rfl), inN_f (a := 0) (b := 1) (by omega) h15, if_neg (by decide)]) (h _ fr_rfl hX))
  · refine t_ifne0 (tgt := 11) dX5_floated_6 (by decide) ?_
    refine g_iconst dX5_floated_9 ci_m1 ?_
    exact g_ireturn dX5_floated_10 (Nat.le_refl _) (Nat.le_refl _) (qi (by unfold tripR; rw [h3, if_neg (by decide)]) (h _ fr_rfl hX))
set_option maxHeartbeats 4000000 in
set_option maxRecDepth 20000 in
theorem lp_X5_cried {l : Launch} {D : gE} {L : Nat → Nat} {σ : St} {Q : Option Value → va_W → Prop} {d : Nat} {X : XT} (ho : okX X) {p g w : Nat} (hp : p < 6) (hg : g < 6) (hw : w ≤ 1) (hth : x_th X p = true) (h : ∀ σ', fr σ σ' → rpM σ' X → Q (some (.int (fsR (fwN (criedG X p g) 256) (nI w)))) (wsOf D L σ')) : ∀ n a, a + n = 256 → ∀ σ', fr σ σ' → ∀ c, rpM σ' (puX X c) → sI σ' 33 36 = mdf (fwN (criedG X p g) a) → G l D yX5_cried cX5_cried 6 (some .int) (rr (d + 5)) Q 0 0 39 [(5, .int (nI a)), (4, .int (nI (bitsN (x_pu X) 8))), (0, .ref (L 33)), (1, .int (nI p)), (2, .int (nI g)), (3, .int (nI w))] [] (wsOf D L σ') := by
  intro n
  induction n with
  | zero =>
    intro a hct σ' hfr c hX hbs
    obtain rfl : a = 256 := by omega
    refine g_iload dX5_cried_39 0 rfl ?_
    refine g_sipush dX5_cried_41 sp_256 ?_
    refine n_icmpge 79 dX5_cried_44 (by decide) (by omega) (by omega) (fun h44 => ?_) (fun h44 => absurd h44 (by omega))
    refine g_aload_n dX5_cried_79 rfl 2 rfl ?_
    refine g_iload dX5_cried_80 1 rfl ?_
    refine s_putM kf_X5_112 (by decide) dX5_cried_82 ?_
    have hX := rpM_spu hX (x_pu X)
    have hX : rpM _ X := hX
    have hfr := fr_I hfr 3 (by omega) (nI (bitsN (x_pu X) 8))
    have hbs : sI (setI σ' 33 3 (nI (bitsN (x_pu X) 8))) 33 36 = _ := hbs
    refine g_aload_n dX5_cried_85 rfl 2 rfl ?_
    refine g_iload_n dX5_cried_86 rfl 5 rfl ?_
    refine g_callV (As := [.int (nI w)]) km_X5_288 ky_X5_tellSet ki_X5_tellSet (by decide) 33 at_33 rfl rfl (Nat.le_of_ble_eq_true rfl) dX5_cried_87 rfl (c_X5_tellSet hw hbs (fun c hc => fw_lt 256 c hc) ?_)
    exact g_ireturn dX5_cried_90 (Nat.le_refl _) (Nat.le_refl _) (h _ hfr hX)
  | succ n ih =>
    intro a hct σ' hfr c hX hbs
    have hbu := bu_bd (ok_pu ho (fun k => x_pu X k || a.testBit k)) p
    have hbu : buX (puX X a) p ≤ 1584 := hbu
    refine g_iload dX5_cried_39 0 rfl ?_
    refine g_sipush dX5_cried_41 sp_256 ?_
    refine n_icmpge 79 dX5_cried_44 (by decide) (by omega) (by omega) (fun h44 => absurd h44 (by omega)) (fun h44 => ?_)
    refine g_aload_n dX5_cried_47 rfl 2 rfl ?_
    refine g_iload dX5_cried_48 1 rfl ?_
    refine g_iload dX5_cried_50 0 rfl ?_
    refine g_ior dX5_cried_52 ?_
    refine g_tope (z := nI (bitsN (fun k => x_pu X k || a.testBit k) 8)) (or_bits _ (by omega)) ?_
    refine s_putM kf_X5_112 (by decide) dX5_cried_53 ?_
    have hX := rpM_spu hX (fun k => x_pu X k || a.testBit k)
    have hX : rpM _ (puX X a) := hX
    have hfr := fr_I hfr 3 (by omega) (nI (bitsN (fun k => x_pu X k || a.testBit k) 8))
    have hbs : sI (setI σ' 33 3 (nI (bitsN (fun k => x_pu X k || a.testBit k) 8))) 33 36 = _ := hbs
    generalize setI σ' 33 3 (nI (bitsN (fun k => x_pu X k || a.testBit k) 8)) = σ3 at hX hfr hbs ⊢
    refine g_aload_n dX5_cried_56 rfl 2 rfl ?_
    refine g_iload dX5_cried_57 0 rfl ?_
    refine g_aload_n dX5_cried_59 rfl 2 rfl ?_
    refine g_iload_n dX5_cried_60 rfl 3 rfl ?_
    refine g_iload_n dX5_cried_61 rfl 4 rfl ?_
    refine g_aload_n dX5_cried_62 rfl 2 rfl ?_
    refine g_iload_n dX5_cried_63 rfl 3 rfl ?_
    refine g_callV (As := [.int (nI p)]) km_X5_206 ky_X5_carriedBy ki_X5_carriedBy (by decide) 33 at_33 rfl rfl (Nat.le_of_ble_eq_true rfl) dX5_cried_64 rfl (c_X5_carriedBy hX (ok_pu ho _) hp hth ?_)
    refine g_callV (As := [.int (nI p), .int (nI g), .int (nI (buX (puX X a) p))]) km_X5_281 ky_X5_hasWay ki_X5_hasWay (by decide) 33 at_33 rfl rfl (Nat.le_of_ble_eq_true rfl) dX5_cried_67 rfl (c_X5_hasWay hX (ok_pu ho _) (by omega) (by omega) (by omega) (fun h67 f67 => ?_) (fun h67 f67 => ?_))
    · have hX := rpM_A hX 54 (by omega) f67
      have hfr := fr_A hfr 54 (by omega) f67
      have hbs : sI (setA σ3 54 f67) 33 36 = _ := hbs
      generalize setA σ3 54 f67 = σ67 at hX hfr hbs ⊢
      refine g_callV (As := [.int (nI a), .int (nI 1)]) km_X5_284 ky_X5_offerSet ki_X5_offerSet (by decide) 33 at_33 rfl rfl (Nat.le_of_ble_eq_true rfl) dX5_cried_70 rfl (c_X5_offerSet (good := true) (by omega) hbs (fun c hc => by have := fw_lt a c hc; omega) ?_)
      have hX := rpM_I hX 36 (by omega) (mdf (osN (fwN (criedG X p g) a) a true))
      have hfr := fr_I hfr 36 (by omega) (mdf (osN (fwN (criedG X p g) a) a true))
      refine g_iinc (v := nI (a + 1)) (lv' := [(5, .int (nI (a + 1))), (4, .int (nI (bitsN (x_pu X) 8))), (0, .ref (L 33)), (1, .int (nI p)), (2, .int (nI g)), (3, .int (nI w))]) dX5_cried_73 0 rfl (inc_n _) (by decide) rfl ?_
      refine g_goto 39 dX5_cried_76 (by decide) ?_
      refine g_pick [0, 1, 2, 3, 4, 5] (lv' := [(5, .int (nI (a + 1))), (4, .int (nI (bitsN (x_pu X) 8))), (0, .ref (L 33)), (1, .int (nI p)), (2, .int (nI g)), (3, .int (nI w))]) rfl ?_
      exact ih (a + 1) (by omega) _ hfr _ hX (by rw [sI_same, fw_step rfl (show (criedG X p g) a = true from h67)])
    · have hX := rpM_A hX 54 (by omega) f67
      have hfr := fr_A hfr 54 (by omega) f67
      have hbs : sI (setA σ3 54 f67) 33 36 = _ := hbs
      generalize setA σ3 54 f67 = σ67 at hX hfr hbs ⊢
      refine g_callV (As := [.int (nI a), .int (nI 0)]) km_X5_284 ky_X5_offerSet ki_X5_offerSet (by decide) 33 at_33 rfl rfl (Nat.le_of_ble_eq_true rfl) dX5_cried_70 rfl (c_X5_offerSet (good := false) (by omega) hbs (fun c hc => by have := fw_lt a c hc; omega) ?_)
      have hX := rpM_I hX 36 (by omega) (mdf (osN (fwN (criedG X p g) a) a false))
      have hfr := fr_I hfr 36 (by omega) (mdf (osN (fwN (criedG X p g) a) a false))
      refine g_iinc (v := nI (a + 1)) (lv' := [(5, .int (nI (a + 1))), (4, .int (nI (bitsN (x_pu X) 8))), (0, .ref (L 33)), (1, .int (nI p)), (2, .int (nI g)), (3, .int (nI w))]) dX5_cried_73 0 rfl (inc_n _) (by decide) rfl ?_
      refine g_goto 39 dX5_cried_76 (by decide) ?_
      refine g_pick [0, 1, 2, 3, 4, 5] (lv' := [(5, .int (nI (a + 1))), (4, .int (nI (bitsN (x_pu X) 8))), (0, .ref (L 33)), (1, .int (nI p)), (2, .int (nI g)), (3, .int (nI w))]) rfl ?_
      exact ih (a + 1) (by omega) _ hfr _ hX (by rw [sI_same, fw_step rfl (show (criedG X p g) a = false from h67)])
theorem pu_0 (X : XT) : puX X 0 = X := by
  unfold puX xs_pu
  simp
  rfl
set_option maxHeartbeats 4000000 in
set_option maxRecDepth 20000 in
theorem c_X5_cried {l : Launch} {D : gE} {L : Nat → Nat} {σ : St} {Q : Option Value → va_W → Prop} {d : Nat} {X : XT} (hX : rpM σ X) (ho : okX X) {x y z : Int32} (h : ∀ σ', fr σ σ' → rpM σ' X → Q (some (.int (tripR X x y z (leftF X)))) (wsOf D L σ')) : Ctr l D yX5_cried cX5_cried 6 (some .int) (rr (d + 5)) [.ref (L 33), .int x, .int y, .int z] (wsOf D L σ) Q := by
  refine g_start ky_X5_cried (Nat.le_of_ble_eq_true rfl) ?_
  refine g_pick [0, 1, 2, 3] (lv' := [(0, .ref (L 33)), (1, .int x), (2, .int y), (3, .int z)]) rfl ?_
  refine g_aload_n dX5_cried_0 rfl 0 rfl ?_
  refine g_iload_n dX5_cried_1 rfl 1 rfl ?_
  refine g_iload_n dX5_cried_2 rfl 2 rfl ?_
  refine g_callV (As := [.int x, .int y]) km_X5_267 ky_X5_isAsked ki_X5_isAsked (by decide) 33 at_33 rfl rfl (Nat.le_of_ble_eq_true rfl) dX5_cried_3 rfl (c_X5_isAsked hX ho (fun p3 t3 hp3 ht3 he3 hf3 h3 => ?_) (fun h3 => ?_))
  · subst he3
    subst hf3
    have hsz := ok_sz ho
    refine t_ifne1 11 dX5_cried_6 (by decide) ?_
    refine g_iload_n dX5_cried_11 rfl 3 rfl ?_
    refine g_i2l dX5_cried_12 ?_
    refine g_lconst dX5_cried_13 lc_0 ?_
    refine g_lconst dX5_cried_14 lc_1 ?_
    refine g_callS (As := [.long z.toInt64, .long ((nI 0).toInt64), .long ((nI 1).toInt64)]) km_X5_118 ky_X5_in ks_X5_in (by decide) rfl (Nat.le_of_ble_eq_true rfl) dX5_cried_15 rfl (c_X5_inN (by omega) (by omega) (fun p15 ha15 hb15 he15 => ?_) (fun h15 => ?_))
    · subst he15
      refine t_ifne1 24 dX5_cried_18 (by decide) ?_
      refine g_aload_n dX5_cried_24 rfl 0 rfl ?_
      refine s_getM kf_X5_112 (by decide) rfl dX5_cried_25 ?_
      refine g_tope (z := nI (bitsN (x_pu X) 8)) (rpM_pu hX) ?_
      refine g_istore (lv' := [(4, .int (nI (bitsN (x_pu X) 8))), (0, .ref (L 33)), (1, .int (nI p3)), (2, .int (nI t3)), (3, .int (nI p15))]) dX5_cried_28 (by decide) rfl ?_
      refine g_aload_n dX5_cried_30 rfl 1 rfl ?_
      refine g_bipush dX5_cried_31 bp_m6 ?_
      refine s_putM kf_X5_275 (by decide) dX5_cried_33 ?_
      have hX := rpM_I hX 36 (by omega) (-6)
      have hfr : fr σ _ := fr_I fr_rfl 36 (by omega) (-6)
      refine g_iconst dX5_cried_36 ci_0 ?_
      refine g_istore (lv' := [(5, .int (nI 0)), (4, .int (nI (bitsN (x_pu X) 8))), (0, .ref (L 33)), (1, .int (nI p3)), (2, .int (nI t3)), (3, .int (nI p15))]) dX5_cried_37 (by decide) rfl ?_
      refine g_pick [0, 1, 2, 3, 4, 5] (lv' := [(5, .int (nI 0)), (4, .int (nI (bitsN (x_pu X) 8))), (0, .ref (L 33)), (1, .int (nI p3)), (2, .int (nI t3)), (3, .int (nI p15))]) rfl ?_
      refine lp_X5_cried ho hp3 (by omega) (by omega) h3 (fun σ2 hf2 hX2 => qi ?_ (h σ2 hf2 hX2)) 256 0 rfl _ hfr 0 (by rw [pu_0]; exact hX) (by rw [sI_same]; rfl)
      unfold tripR; rw [thI_t hp3 h3, teI_t ho ht3, ix6 hp3, ixt ho ht3, if_pos (by rfl), inN_t (a := 0) (b := 1) (by omega) (by omega) (by omega), if_pos rfl, cried_is]
    · refine t_ifne0 (tgt := 24) dX5_cried_18 (by decide) ?_
      refine g_bipush dX5_cried_21 bp_m2 ?_
      exact g_ireturn dX5_cried_23 (Nat.le_refl _) (Nat.le_refl _) (qi (by unfold tripR; rw [thI_t hp3 h3, teI_t ho ht3, ix6 hp3, ixt ho ht3, if_pos (by rfl), inN_f (a := 0) (b := 1) (by omega) h15, if_neg (by decide)]) (h _ fr_rfl hX))
  · refine t_ifne0 (tgt := 11) dX5_cried_6 (by decide) ?_
    refine g_iconst dX5_cried_9 ci_m1 ?_
    exact g_ireturn dX5_cried_10 (Nat.le_refl _) (Nat.le_refl _) (qi (by unfold tripR; rw [h3, if_neg (by decide)]) (h _ fr_rfl hX))
