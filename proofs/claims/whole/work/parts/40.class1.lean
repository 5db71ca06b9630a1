/-! THE CLASS: small things, and the JDK's -/
section AB
variable {l : Launch} {D : gE} {y : MethodName} {cc : ByteArray} {nL : Nat} {rt : Option FieldType} {rm : Room} {Q : Option Value → va_W → Prop} {cells slots pc : Nat} {lv : List (Nat × Value)} {st : List Value} {ws : va_W} {off : Int}
theorem ab_ne : ∀ k, k < 8 → ¬ nI (2 ^ k) = 0 := by decide +kernel
theorem ab_ifeq {f : Nat → Bool} {k : Nat} (tgt : Nat) (hd : decode cc pc = .ok (.ifCond .eq off, 3)) (ht : (pc : Int) + off = (tgt : Int)) (hk : k < 8) (kt : f k = false → G l D y cc nL rt rm Q cells slots tgt lv st ws) (kf : f k = true → G l D y cc nL rt rm Q cells slots (pc + 3) lv st ws) : G l D y cc nL rt rm Q cells slots pc lv (.int (nI (if f k = true then 2 ^ k else 0)) :: st) ws := by
  cases h : f k with
  | true =>
    rw [if_pos rfl]
    exact g_ifeq tgt hd ht (fun e => absurd e (ab_ne k hk)) (fun _ => kf h)
  | false =>
    rw [if_neg (by decide)]
    exact g_ifeq tgt hd ht (fun _ => kt h) (fun e => absurd rfl e)
theorem ab_ifne {f : Nat → Bool} {k : Nat} (tgt : Nat) (hd : decode cc pc = .ok (.ifCond .ne off, 3)) (ht : (pc : Int) + off = (tgt : Int)) (hk : k < 8) (kt : f k = true → G l D y cc nL rt rm Q cells slots tgt lv st ws) (kf : f k = false → G l D y cc nL rt rm Q cells slots (pc + 3) lv st ws) : G l D y cc nL rt rm Q cells slots pc lv (.int (nI (if f k = true then 2 ^ k else 0)) :: st) ws := by
  cases h : f k with
  | true =>
    rw [if_pos rfl]
    exact g_ifne tgt hd ht (fun _ => kt h) (fun e => absurd e (ab_ne k hk))
  | false =>
    rw [if_neg (by decide)]
    exact g_ifne tgt hd ht (fun e => absurd rfl e) (fun _ => kf h)
end AB
section CN
variable {l : Launch} {D : gE} {y y' : MethodName} {cc cc' : ByteArray} {nL nL' : Nat} {rt rt' : Option FieldType} {Q : Option Value → va_W → Prop} {pc : Nat} {lv : List (Nat × Value)} {st : List Value} {ws : va_W}
theorem g_callN2 {d : Nat} {idx n : Nat} {As : List Value} {C host : String} (hC : y.cls = C) (hm : ∀ s : State, gB D s → va_Nw (.methodLinkNest C idx y' host) s) (hy : kY y' cc' nL' rt' n) (hi : kS y') (hnl : nL' ≤ 29) (hn : As.length = n) (hst : (st.map fun v => v.category).sum ≤ 8) (hd : decode cc pc = .ok (.invokestatic idx, 3)) {st0 : List Value} (hs : st0 = As.reverse ++ st)
    (hM : Ctr l D y' cc' nL' rt' (rr d) As ws (fun v u => G l D y cc nL rt (rr (d + 1)) Q 0 0 (pc + 3) lv (pv v st) u)) : G l D y cc nL rt (rr (d + 1)) Q 0 0 pc lv st0 ws := by
  subst hC
  exact g_callN hm hy hi hnl hn hst hd hs hM
end CN
theorem kn_X1_21 {D : gE} : ∀ s : State, gB D s → va_Nw (.methodLinkNest RX1 21 yX4_has RX4) s := fun _ h => h.2.2.1
theorem kn_X1_25 {D : gE} : ∀ s : State, gB D s → va_Nw (.methodLinkNest RX1 25 yX4_within RX4) s := fun _ h => h.2.2.2.1
theorem kn_X2_19 {D : gE} : ∀ s : State, gB D s → va_Nw (.methodLinkNest RX2 19 yX4_within RX4) s := fun _ h => h.2.2.2.2.1
theorem kn_X3_80 {D : gE} : ∀ s : State, gB D s → va_Nw (.methodLinkNest RX3 80 yX4_within RX4) s := fun _ h => h.2.2.2.2.2.1
theorem kn_X3_84 {D : gE} : ∀ s : State, gB D s → va_Nw (.methodLinkNest RX3 84 yX4_has RX4) s := fun _ h => h.2.2.2.2.2.2
set_option maxHeartbeats 4000000 in
set_option maxRecDepth 20000 in
theorem c_X4_within {l : Launch} {D : gE} {L : Nat → Nat} {σ : St} {Q : Option Value → va_W → Prop} {d : Nat} {x lo hi : Int32} (ht : lo ≤ x → x ≤ hi → Q (some (.int (nI 1))) (wsOf D L σ)) (hf : ¬ (lo ≤ x ∧ x ≤ hi) → Q (some (.int (nI 0))) (wsOf D L σ)) : Ctr l D yX4_within cX4_within 3 (some .boolean) (rr d) [.int x, .int lo, .int hi] (wsOf D L σ) Q := by
  refine g_start ky_X4_within (Nat.le_of_ble_eq_true rfl) ?_
  refine g_pick [0, 1, 2] (lv' := [(0, .int x), (1, .int lo), (2, .int hi)]) rfl ?_
  refine g_iload_n dX4_within_0 rfl 0 rfl ?_
  refine g_iload_n dX4_within_1 rfl 1 rfl ?_
  refine g_icmplt 14 dX4_within_2 (by decide) (fun h2 => ?_) (fun h2 => ?_)
  · refine g_iconst dX4_within_14 ci_0 ?_
    exact g_zreturn dX4_within_15 (Nat.le_refl _) (Nat.le_refl _) (Or.inl rfl) (hf (fun h => absurd h2 (Int32.not_lt.mpr h.1)))
  · refine g_iload_n dX4_within_5 rfl 0 rfl ?_
    refine g_iload_n dX4_within_6 rfl 2 rfl ?_
    refine g_icmpgt 14 dX4_within_7 (by decide) (fun h7 => ?_) (fun h7 => ?_)
    · refine g_iconst dX4_within_14 ci_0 ?_
      exact g_zreturn dX4_within_15 (Nat.le_refl _) (Nat.le_refl _) (Or.inl rfl) (hf (fun h => absurd h7 (Int32.not_lt.mpr h.2)))
    · refine g_iconst dX4_within_10 ci_1 ?_
      refine g_goto 15 dX4_within_11 (by decide) ?_
      exact g_zreturn dX4_within_15 (Nat.le_refl _) (Nat.le_refl _) (Or.inr rfl) (ht (Int32.not_lt.mp h2) (Int32.not_lt.mp h7))
theorem c_X4_withinN {l : Launch} {D : gE} {L : Nat → Nat} {σ : St} {Q : Option Value → va_W → Prop} {d : Nat} {x : Int32} {a b : Nat} (ha0 : a < 2 ^ 31) (hb : b < 2 ^ 31) (ht : ∀ p, a ≤ p → p ≤ b → x = nI p → Q (some (.int (nI 1))) (wsOf D L σ)) (hf : (∀ p, a ≤ p → p ≤ b → ¬ x = nI p) → Q (some (.int (nI 0))) (wsOf D L σ)) : Ctr l D yX4_within cX4_within 3 (some .boolean) (rr d) [.int x, .int (nI a), .int (nI b)] (wsOf D L σ) Q := by
  refine c_X4_within (fun h1 h2 => ?_) (fun h => ?_)
  · by_cases ha : a ≤ b
    · obtain ⟨p, hp, rfl⟩ := nI_of2 (n := b) (nI_toInt hb) (fun h => nI_pos (show a < 2 ^ 31 by omega) (by rw [fa_lt] at h ⊢; rw [fa_le] at h1; omega)) h2
      exact ht p ((nI_leI (by omega) (by omega)).mp h1) hp rfl
    · exfalso
      rw [fa_le] at h1 h2
      rw [nI_toInt hb] at h2
      rw [nI_toInt ha0] at h1; omega
  · refine hf (fun p h1 h2 e => h ?_)
    subst e
    exact ⟨nI_le h1 (by omega), nI_le h2 hb⟩
theorem c_X4_withinS {l : Launch} {D : gE} {L : Nat → Nat} {σ : St} {Q : Option Value → va_W → Prop} {d : Nat} {x : Int32} {n : Nat} (hn : n < 2 ^ 31) (ht : ∀ p, p < n → x = nI p → Q (some (.int (nI 1))) (wsOf D L σ)) (hf : (∀ p, p < n → ¬ x = nI p) → Q (some (.int (nI 0))) (wsOf D L σ)) : Ctr l D yX4_within cX4_within 3 (some .boolean) (rr d) [.int x, .int (nI 0), .int (nI n - nI 1)] (wsOf D L σ) Q := by
  cases n with
  | zero =>
    refine c_X4_within (fun h1 h2 => ?_) (fun _ => hf (fun p hp => absurd hp (Nat.not_lt_zero p)))
    exfalso
    have e : nI 0 - nI 1 = (-1 : Int32) := by decide +kernel
    rw [e] at h2
    rw [fa_le] at h1 h2
    have e1 : (nI 0).toInt = 0 := by decide +kernel
    have e2 : (-1 : Int32).toInt = -1 := by decide +kernel
    omega
  | succ n =>
    have e : nI (n + 1) - nI 1 = nI n := pk_sub (by omega)
    rw [e]
    exact c_X4_withinN (by omega) (by omega) (fun p _ h2 e => ht p (by omega) e) (fun h => hf (fun p hp => h p (Nat.zero_le p) (by omega)))
theorem c_X4_withinW {l : Launch} {D : gE} {L : Nat → Nat} {σ : St} {Q : Option Value → va_W → Prop} {d : Nat} {x : Int32} (ht : inI (-20) 99 x = true → Q (some (.int (nI 1))) (wsOf D L σ)) (hf : inI (-20) 99 x = false → Q (some (.int (nI 0))) (wsOf D L σ)) : Ctr l D yX4_within cX4_within 3 (some .boolean) (rr d) [.int x, .int (-20), .int (nI 99)] (wsOf D L σ) Q := by
  have e1 : (-20 : Int32).toInt = -20 := by decide +kernel
  have e2 : (nI 99).toInt = 99 := by decide +kernel
  refine c_X4_within (fun h1 h2 => ht ?_) (fun h => hf ?_)
  · rw [fa_le, e1] at h1; rw [fa_le, e2] at h2
    unfold inI; rw [decide_eq_true_eq]; exact ⟨h1, h2⟩
  · unfold inI; rw [decide_eq_false_iff_not]
    intro q; apply h; rw [fa_le, fa_le, e1, e2]; exact q
set_option maxHeartbeats 4000000 in
set_option maxRecDepth 20000 in
theorem c_X4_hasN {l : Launch} {D : gE} {L : Nat → Nat} {σ : St} {Q : Option Value → va_W → Prop} {d : Nat} {a k : Nat} (ha : a < 2 ^ 31) (hk : k < 31) (ht : a.testBit k = true → Q (some (.int (nI 1))) (wsOf D L σ)) (hf : a.testBit k = false → Q (some (.int (nI 0))) (wsOf D L σ)) : Ctr l D yX4_has cX4_has 2 (some .boolean) (rr d) [.int (nI a), .int (nI k)] (wsOf D L σ) Q := by
  refine g_start ky_X4_has (Nat.le_of_ble_eq_true rfl) ?_
  refine g_pick [0, 1] (lv' := [(0, .int (nI a)), (1, .int (nI k))]) rfl ?_
  refine g_iload_n dX4_has_0 rfl 0 rfl ?_
  refine g_iload_n dX4_has_1 rfl 1 rfl ?_
  refine g_ishr dX4_has_2 ?_
  refine g_iconst dX4_has_3 ci_1 ?_
  refine g_iand dX4_has_4 ?_
  refine g_tope (z := nI (b2n (a.testBit k))) (gb (by omega) (by omega)) ?_
  refine g_iconst dX4_has_5 ci_1 ?_
  refine b_icmpne 13 dX4_has_6 (by decide) (fun h6 => ?_) (fun h6 => ?_)
  · refine g_iconst dX4_has_13 ci_0 ?_
    exact g_zreturn dX4_has_14 (Nat.le_refl _) (Nat.le_refl _) (Or.inl rfl) (hf h6)
  · refine g_iconst dX4_has_9 ci_1 ?_
    refine g_goto 14 dX4_has_10 (by decide) ?_
    exact g_zreturn dX4_has_14 (Nat.le_refl _) (Nat.le_refl _) (Or.inr rfl) (ht h6)
theorem c_X4_has {l : Launch} {D : gE} {L : Nat → Nat} {σ : St} {Q : Option Value → va_W → Prop} {d : Nat} {f : Nat → Bool} {n k : Nat} (hn : n ≤ 31) (hk : k < n) (ht : f k = true → Q (some (.int (nI 1))) (wsOf D L σ)) (hf : f k = false → Q (some (.int (nI 0))) (wsOf D L σ)) : Ctr l D yX4_has cX4_has 2 (some .boolean) (rr d) [.int (nI (bitsN f n)), .int (nI k)] (wsOf D L σ) Q := by
  by_cases h31 : k < 31
  · exact c_X4_hasN (bitsN31 f hn) h31 (fun h => ht (by rw [← bitsN_in f hk]; exact h)) (fun h => hf (by rw [← bitsN_in f hk]; exact h))
  · omega
set_option maxHeartbeats 4000000 in
set_option maxRecDepth 20000 in
theorem c_X4_isNews {l : Launch} {D : gE} {L : Nat → Nat} {σ : St} {Q : Option Value → va_W → Prop} {d : Nat} {x : Int32} (ht : ∀ k, k < 8 → x = nI k → Q (some (.int (nI 1))) (wsOf D L σ)) (hf : (∀ k, k < 8 → ¬ x = nI k) → Q (some (.int (nI 0))) (wsOf D L σ)) : Ctr l D yX4_isNews cX4_isNews 1 (some .boolean) (rr (d + 1)) [.int x] (wsOf D L σ) Q := by
  refine g_start ky_X4_isNews (Nat.le_of_ble_eq_true rfl) ?_
  refine g_pick [0] (lv' := [(0, .int x)]) rfl ?_
  refine g_iload_n dX4_isNews_0 rfl 0 rfl ?_
  refine g_iconst dX4_isNews_1 ci_0 ?_
  refine g_bipush dX4_isNews_2 bp_7 ?_
  refine g_callS (As := [.int x, .int (nI 0), .int (nI 7)]) km_X4_44 ky_X4_within ks_X4_within (by decide) rfl (Nat.le_of_ble_eq_true rfl) dX4_isNews_4 rfl (c_X4_withinN (by omega) (by omega) (fun p4 ha4 hb4 he4 => ?_) (fun h4 => ?_))
  · exact g_zreturn dX4_isNews_7 (Nat.le_refl _) (Nat.le_refl _) (Or.inr rfl) (ht p4 (by omega) he4)
  · exact g_zreturn dX4_isNews_7 (Nat.le_refl _) (Nat.le_refl _) (Or.inl rfl) (hf (fun k hk => h4 k (Nat.zero_le k) (by omega)))
def bc1 (x : Int32) : Int32 := x - ((x.toUInt32 >>> ((nI 1).toUInt32 &&& Int32.toUInt32 31)).toInt32 &&& nI 1431655765)
def bc2 (x : Int32) : Int32 := (x &&& nI 858993459) + ((x.toUInt32 >>> ((nI 2).toUInt32 &&& Int32.toUInt32 31)).toInt32 &&& nI 858993459)
def bc3 (x : Int32) : Int32 := (x + (x.toUInt32 >>> ((nI 4).toUInt32 &&& Int32.toUInt32 31)).toInt32) &&& nI 252645135
def bc4 (x : Int32) : Int32 := x + (x.toUInt32 >>> ((nI 8).toUInt32 &&& Int32.toUInt32 31)).toInt32
def bc5 (x : Int32) : Int32 := x + (x.toUInt32 >>> ((nI 16).toUInt32 &&& Int32.toUInt32 31)).toInt32
theorem bc_ok : ∀ a, a < 256 → bc5 (bc4 (bc3 (bc2 (bc1 (nI a))))) &&& nI 63 = nI (pop a) := by decide +kernel
set_option maxHeartbeats 4000000 in
set_option maxRecDepth 20000 in
theorem c_bitCount {l : Launch} {D : gE} {L : Nat → Nat} {σ : St} {Q : Option Value → va_W → Prop} {d : Nat} {a : Nat} (ha : a < 256) (h : Q (some (.int (nI (pop a)))) (wsOf D L σ)) : Ctr l D yJ6_bitCount_0f7a4 cJ6_bitCount_0f7a4 1 (some .int) (rr d) [.int (nI a)] (wsOf D L σ) Q := by
  refine g_start ky_J6_bitCount_0f7a4 (Nat.le_of_ble_eq_true rfl) ?_
  refine g_pick [0] (lv' := [(0, .int (nI a))]) rfl ?_
  refine g_iload_n dJ6_bitCount_0f7a4_0 rfl 0 rfl ?_
  refine g_iload_n dJ6_bitCount_0f7a4_1 rfl 0 rfl ?_
  refine g_iconst dJ6_bitCount_0f7a4_2 ci_1 ?_
  refine g_iushr dJ6_bitCount_0f7a4_3 rfl ?_
  refine g_ldc_w kk_J6_265 dJ6_bitCount_0f7a4_4 ?_
  refine g_tope (z := nI 1431655765) (by decide +kernel) ?_
  refine g_iand dJ6_bitCount_0f7a4_7 ?_
  refine g_tope (z := (((nI a).toUInt32 >>> ((nI 1).toUInt32 &&& Int32.toUInt32 31)).toInt32) &&& (nI 1431655765)) (rfl) ?_
  refine g_isub dJ6_bitCount_0f7a4_8 ?_
  refine g_tope (z := (nI a) - ((((nI a).toUInt32 >>> ((nI 1).toUInt32 &&& Int32.toUInt32 31)).toInt32) &&& (nI 1431655765))) (rfl) ?_
  refine g_tope (z := bc1 (nI a)) (rfl) ?_
  refine g_istore_n (lv' := [(0, .int (bc1 (nI a)))]) dJ6_bitCount_0f7a4_9 rfl (by decide) rfl ?_
  refine g_iload_n dJ6_bitCount_0f7a4_10 rfl 0 rfl ?_
  refine g_ldc_w kk_J6_266 dJ6_bitCount_0f7a4_11 ?_
  refine g_tope (z := nI 858993459) (by decide +kernel) ?_
  refine g_iand dJ6_bitCount_0f7a4_14 ?_
  refine g_tope (z := (bc1 (nI a)) &&& (nI 858993459)) (rfl) ?_
  refine g_iload_n dJ6_bitCount_0f7a4_15 rfl 0 rfl ?_
  refine g_iconst dJ6_bitCount_0f7a4_16 ci_2 ?_
  refine g_iushr dJ6_bitCount_0f7a4_17 rfl ?_
  refine g_ldc_w kk_J6_266 dJ6_bitCount_0f7a4_18 ?_
  refine g_tope (z := nI 858993459) (by decide +kernel) ?_
  refine g_iand dJ6_bitCount_0f7a4_21 ?_
  refine g_tope (z := (((bc1 (nI a)).toUInt32 >>> ((nI 2).toUInt32 &&& Int32.toUInt32 31)).toInt32) &&& (nI 858993459)) (rfl) ?_
  refine g_iadd dJ6_bitCount_0f7a4_22 ?_
  refine g_tope (z := ((bc1 (nI a)) &&& (nI 858993459)) + ((((bc1 (nI a)).toUInt32 >>> ((nI 2).toUInt32 &&& Int32.toUInt32 31)).toInt32) &&& (nI 858993459))) (rfl) ?_
  refine g_tope (z := bc2 (bc1 (nI a))) (rfl) ?_
  refine g_istore_n (lv' := [(0, .int (bc2 (bc1 (nI a))))]) dJ6_bitCount_0f7a4_23 rfl (by decide) rfl ?_
  refine g_iload_n dJ6_bitCount_0f7a4_24 rfl 0 rfl ?_
  refine g_iload_n dJ6_bitCount_0f7a4_25 rfl 0 rfl ?_
  refine g_iconst dJ6_bitCount_0f7a4_26 ci_4 ?_
  refine g_iushr dJ6_bitCount_0f7a4_27 rfl ?_
  refine g_iadd dJ6_bitCount_0f7a4_28 ?_
  refine g_tope (z := (bc2 (bc1 (nI a))) + (((bc2 (bc1 (nI a))).toUInt32 >>> ((nI 4).toUInt32 &&& Int32.toUInt32 31)).toInt32)) (rfl) ?_
  refine g_ldc_w kk_J6_267 dJ6_bitCount_0f7a4_29 ?_
  refine g_tope (z := nI 252645135) (by decide +kernel) ?_
  refine g_iand dJ6_bitCount_0f7a4_32 ?_
  refine g_tope (z := ((bc2 (bc1 (nI a))) + (((bc2 (bc1 (nI a))).toUInt32 >>> ((nI 4).toUInt32 &&& Int32.toUInt32 31)).toInt32)) &&& (nI 252645135)) (rfl) ?_
  refine g_tope (z := bc3 (bc2 (bc1 (nI a)))) (rfl) ?_
  refine g_istore_n (lv' := [(0, .int (bc3 (bc2 (bc1 (nI a)))))]) dJ6_bitCount_0f7a4_33 rfl (by decide) rfl ?_
  refine g_iload_n dJ6_bitCount_0f7a4_34 rfl 0 rfl ?_
  refine g_iload_n dJ6_bitCount_0f7a4_35 rfl 0 rfl ?_
  refine g_bipush dJ6_bitCount_0f7a4_36 bp_8 ?_
  refine g_iushr dJ6_bitCount_0f7a4_38 rfl ?_
  refine g_iadd dJ6_bitCount_0f7a4_39 ?_
  refine g_tope (z := (bc3 (bc2 (bc1 (nI a)))) + (((bc3 (bc2 (bc1 (nI a)))).toUInt32 >>> ((nI 8).toUInt32 &&& Int32.toUInt32 31)).toInt32)) (rfl) ?_
  refine g_tope (z := bc4 (bc3 (bc2 (bc1 (nI a))))) (rfl) ?_
  refine g_istore_n (lv' := [(0, .int (bc4 (bc3 (bc2 (bc1 (nI a))))))]) dJ6_bitCount_0f7a4_40 rfl (by decide) rfl ?_
  refine g_iload_n dJ6_bitCount_0f7a4_41 rfl 0 rfl ?_
  refine g_iload_n dJ6_bitCount_0f7a4_42 rfl 0 rfl ?_
  refine g_bipush dJ6_bitCount_0f7a4_43 bp_16 ?_
  refine g_iushr dJ6_bitCount_0f7a4_45 rfl ?_
  refine g_iadd dJ6_bitCount_0f7a4_46 ?_
  refine g_tope (z := (bc4 (bc3 (bc2 (bc1 (nI a))))) + (((bc4 (bc3 (bc2 (bc1 (nI a))))).toUInt32 >>> ((nI 16).toUInt32 &&& Int32.toUInt32 31)).toInt32)) (rfl) ?_
  refine g_tope (z := bc5 (bc4 (bc3 (bc2 (bc1 (nI a)))))) (rfl) ?_
  refine g_istore_n (lv' := [(0, .int (bc5 (bc4 (bc3 (bc2 (bc1 (nI a)))))))]) dJ6_bitCount_0f7a4_47 rfl (by decide) rfl ?_
  refine g_iload_n dJ6_bitCount_0f7a4_48 rfl 0 rfl ?_
  refine g_bipush dJ6_bitCount_0f7a4_49 bp_63 ?_
  refine g_iand dJ6_bitCount_0f7a4_51 ?_
  refine g_tope (z := (bc5 (bc4 (bc3 (bc2 (bc1 (nI a)))))) &&& (nI 63)) (rfl) ?_
  exact g_ireturn dJ6_bitCount_0f7a4_52 (Nat.le_refl _) (Nat.le_refl _) (qi (bc_ok a ha) h)
set_option maxHeartbeats 4000000 in
set_option maxRecDepth 20000 in
theorem c_maxN {l : Launch} {D : gE} {L : Nat → Nat} {σ : St} {Q : Option Value → va_W → Prop} {d : Nat} {a b : Nat} (ha : a < 2 ^ 31) (hb : b < 2 ^ 31) (h : Q (some (.int (nI (if a < b then b else a)))) (wsOf D L σ)) : Ctr l D yJ9_max_7cf53 cJ9_max_7cf53 2 (some .int) (rr d) [.int (nI a), .int (nI b)] (wsOf D L σ) Q := by
  refine g_start ky_J9_max_7cf53 (Nat.le_of_ble_eq_true rfl) ?_
  refine g_pick [0, 1] (lv' := [(0, .int (nI a)), (1, .int (nI b))]) rfl ?_
  refine g_iload_n dJ9_max_7cf53_0 rfl 0 rfl ?_
  refine g_iload_n dJ9_max_7cf53_1 rfl 1 rfl ?_
  refine n_icmplt 9 dJ9_max_7cf53_2 (by decide) (by omega) (by omega) (fun h2 => ?_) (fun h2 => ?_)
  · refine g_iload_n dJ9_max_7cf53_9 rfl 1 rfl ?_
    exact g_ireturn dJ9_max_7cf53_10 (Nat.le_refl _) (Nat.le_refl _) (qi (by rw [if_pos h2]) h)
  · refine g_iload_n dJ9_max_7cf53_5 rfl 0 rfl ?_
    refine g_goto 10 dJ9_max_7cf53_6 (by decide) ?_
    exact g_ireturn dJ9_max_7cf53_10 (Nat.le_refl _) (Nat.le_refl _) (qi (by rw [if_neg (by omega)]) h)
set_option maxHeartbeats 4000000 in
set_option maxRecDepth 20000 in
theorem c_minN {l : Launch} {D : gE} {L : Nat → Nat} {σ : St} {Q : Option Value → va_W → Prop} {d : Nat} {a b : Nat} (ha : a < 2 ^ 31) (hb : b < 2 ^ 31) (h : Q (some (.int (nI (if b < a then b else a)))) (wsOf D L σ)) : Ctr l D yJ9_min_7cf53 cJ9_min_7cf53 2 (some .int) (rr d) [.int (nI a), .int (nI b)] (wsOf D L σ) Q := by
  refine g_start ky_J9_min_7cf53 (Nat.le_of_ble_eq_true rfl) ?_
  refine g_pick [0, 1] (lv' := [(0, .int (nI a)), (1, .int (nI b))]) rfl ?_
  refine g_iload_n dJ9_min_7cf53_0 rfl 0 rfl ?_
  refine g_iload_n dJ9_min_7cf53_1 rfl 1 rfl ?_
  refine n_icmpgt 9 dJ9_min_7cf53_2 (by decide) (by omega) (by omega) (fun h2 => ?_) (fun h2 => ?_)
  · refine g_iload_n dJ9_min_7cf53_9 rfl 1 rfl ?_
    exact g_ireturn dJ9_min_7cf53_10 (Nat.le_refl _) (Nat.le_refl _) (qi (by rw [if_pos h2]) h)
  · refine g_iload_n dJ9_min_7cf53_5 rfl 0 rfl ?_
    refine g_goto 10 dJ9_min_7cf53_6 (by decide) ?_
    exact g_ireturn dJ9_min_7cf53_10 (Nat.le_refl _) (Nat.le_refl _) (qi (by rw [if_neg (by omega)]) h)
set_option maxHeartbeats 4000000 in
set_option maxRecDepth 20000 in
theorem c_max0 {l : Launch} {D : gE} {L : Nat → Nat} {σ : St} {Q : Option Value → va_W → Prop} {d : Nat} {z : Int} (hz : -2147483648 ≤ z ∧ z < 2147483648) (h : Q (some (.int (nI z.toNat))) (wsOf D L σ)) : Ctr l D yJ9_max_7cf53 cJ9_max_7cf53 2 (some .int) (rr d) [.int (zI 0), .int (zI z)] (wsOf D L σ) Q := by
  refine g_start ky_J9_max_7cf53 (Nat.le_of_ble_eq_true rfl) ?_
  refine g_pick [0, 1] (lv' := [(0, .int (zI 0)), (1, .int (zI z))]) rfl ?_
  refine g_iload_n dJ9_max_7cf53_0 rfl 0 rfl ?_
  refine g_iload_n dJ9_max_7cf53_1 rfl 1 rfl ?_
  refine z_icmplt 9 dJ9_max_7cf53_2 (by decide) (by omega) (by omega) (fun h2 => ?_) (fun h2 => ?_)
  · refine g_iload_n dJ9_max_7cf53_9 rfl 1 rfl ?_
    exact g_ireturn dJ9_max_7cf53_10 (Nat.le_refl _) (Nat.le_refl _) (qi (by rw [← zI_nat, Int.toNat_of_nonneg (by omega)]) h)
  · refine g_iload_n dJ9_max_7cf53_5 rfl 0 rfl ?_
    refine g_goto 10 dJ9_max_7cf53_6 (by decide) ?_
    exact g_ireturn dJ9_max_7cf53_10 (Nat.le_refl _) (Nat.le_refl _) (qi (by rw [show z.toNat = 0 by omega]; rfl) h)
theorem fdiv2 : ∀ w : Int, -1000 ≤ w → w ≤ 1000 → w.tdiv 2 = w / 2 ∨ (w < 0 ∧ ¬ w.tdiv 2 * 2 = w ∧ w.tdiv 2 - 1 = w / 2) := by
  intro w h1 h2
  by_cases c : 0 ≤ w
  · exact Or.inl (Int.tdiv_eq_ediv_of_nonneg c)
  · have e : w.tdiv 2 = -((-w) / 2) := by
      have := Int.neg_tdiv (-w) 2
      rw [Int.neg_neg] at this
      rw [this, Int.tdiv_eq_ediv_of_nonneg (by omega)]
    rw [e]
    by_cases d : -((-w) / 2) = w / 2
    · exact Or.inl d
    · exact Or.inr ⟨by omega, by omega, by omega⟩
theorem xor_sg (w : Int) (hw : -1000 ≤ w ∧ w ≤ 1000) : (0 ≤ zI w ^^^ zI 2) ↔ 0 ≤ w := by
  have key : ∀ n, n < 1001 → (0 ≤ nI n ^^^ nI 2) ∧ (n = 0 ∨ ¬ (0 ≤ zI (-(n : Int)) ^^^ nI 2)) := by decide +kernel
  by_cases c : 0 ≤ w
  · obtain ⟨n, rfl⟩ := Int.eq_ofNat_of_zero_le c
    have := (key n (by omega)).1
    rw [zI_nat]
    exact ⟨fun _ => c, fun _ => this⟩
  · obtain ⟨n, hn⟩ := Int.eq_ofNat_of_zero_le (show 0 ≤ -w by omega)
    have e : w = -(n : Int) := by omega
    rw [e]
    have := (key n (by omega)).2
    refine ⟨fun q => ?_, fun q => ?_⟩
    · rcases this with h | h
      · omega
      · exact absurd q h
    · omega
theorem tdiv2_ne (w : Int) (hw : -1000 ≤ w ∧ w ≤ 1000) (h : ¬ w.tdiv 2 * 2 = w) (e : w.tdiv 2 = w / 2) : 0 ≤ w := by
  apply Classical.byContradiction
  intro c
  have e2 : w.tdiv 2 = -((-w) / 2) := by
    have := Int.neg_tdiv (-w) 2
    rw [Int.neg_neg] at this
    rw [this, Int.tdiv_eq_ediv_of_nonneg (by omega)]
  omega
set_option maxHeartbeats 4000000 in
set_option maxRecDepth 20000 in
theorem c_floorDiv2 {l : Launch} {D : gE} {L : Nat → Nat} {σ : St} {Q : Option Value → va_W → Prop} {d : Nat} {w : Int} (hw : -1000 ≤ w ∧ w ≤ 1000) (h : Q (some (.int (zI (w / 2)))) (wsOf D L σ)) : Ctr l D yJ9_floorDiv_7cf53 cJ9_floorDiv_7cf53 3 (some .int) (rr d) [.int (zI w), .int (zI 2)] (wsOf D L σ) Q := by
  refine g_start ky_J9_floorDiv_7cf53 (Nat.le_of_ble_eq_true rfl) ?_
  refine g_pick [0, 1] (lv' := [(0, .int (zI w)), (1, .int (zI 2))]) rfl ?_
  have htd := Int.natAbs_tdiv_le_natAbs w 2
  refine g_iload_n dJ9_floorDiv_7cf53_0 rfl 0 rfl ?_
  refine g_iload_n dJ9_floorDiv_7cf53_1 rfl 1 rfl ?_
  refine g_idiv dJ9_floorDiv_7cf53_2 (by decide +kernel) ?_
  refine g_tope (z := zI (w.tdiv 2)) (zI_div (by omega) (by omega) (by decide)) ?_
  refine g_istore_n (lv' := [(2, .int (zI (w.tdiv 2))), (0, .int (zI w)), (1, .int (zI 2))]) dJ9_floorDiv_7cf53_3 rfl (by decide) rfl ?_
  refine g_iload_n dJ9_floorDiv_7cf53_4 rfl 1 rfl ?_
  refine g_iload_n dJ9_floorDiv_7cf53_5 rfl 2 rfl ?_
  refine g_ixor dJ9_floorDiv_7cf53_6 ?_
  refine g_tope (z := zI w ^^^ zI 2) (rfl) ?_
  refine g_ifge 21 dJ9_floorDiv_7cf53_7 (by decide) (fun h7 => ?_) (fun h7 => ?_)
  · refine g_iload_n dJ9_floorDiv_7cf53_21 rfl 0 rfl ?_
    exact g_ireturn dJ9_floorDiv_7cf53_22 (Nat.le_refl _) (Nat.le_refl _) (qi (by congr 1; rcases fdiv2 w hw.1 hw.2 with e | e; exact e; exact absurd ((xor_sg w hw).mp h7) (by omega)) h)
  · refine g_iload_n dJ9_floorDiv_7cf53_10 rfl 0 rfl ?_
    refine g_iload_n dJ9_floorDiv_7cf53_11 rfl 2 rfl ?_
    refine g_imul dJ9_floorDiv_7cf53_12 ?_
    refine g_tope (z := zI (w.tdiv 2 * 2)) (zI_mul _ _) ?_
    refine g_iload_n dJ9_floorDiv_7cf53_13 rfl 1 rfl ?_
    refine z_icmpeq 21 dJ9_floorDiv_7cf53_14 (by decide) (by omega) (by omega) (fun h14 => ?_) (fun h14 => ?_)
    · refine g_iload_n dJ9_floorDiv_7cf53_21 rfl 0 rfl ?_
      exact g_ireturn dJ9_floorDiv_7cf53_22 (Nat.le_refl _) (Nat.le_refl _) (qi (by congr 1; rcases fdiv2 w hw.1 hw.2 with e | e; exact e; exact absurd h14 e.2.1) h)
    · refine g_iload_n dJ9_floorDiv_7cf53_17 rfl 0 rfl ?_
      refine g_iconst dJ9_floorDiv_7cf53_18 ci_1 ?_
      refine g_isub dJ9_floorDiv_7cf53_19 ?_
      refine g_tope (z := zI (w.tdiv 2 - 1)) (zI_sub (w.tdiv 2) 1) ?_
      exact g_ireturn dJ9_floorDiv_7cf53_20 (Nat.le_refl _) (Nat.le_refl _) (qi (by congr 1; rcases fdiv2 w hw.1 hw.2 with e | e; exact absurd ((xor_sg w hw).mpr (tdiv2_ne w hw h14 e)) h7; exact e.2.2) h)
set_option maxHeartbeats 4000000 in
set_option maxRecDepth 20000 in
theorem c_maxL {l : Launch} {D : gE} {L : Nat → Nat} {σ : St} {Q : Option Value → va_W → Prop} {d : Nat} {a b : Nat} (ha : a < 2 ^ 31) (hb : b < 2 ^ 31) (h : Q (some (.long (lN (if a < b then b else a)))) (wsOf D L σ)) : Ctr l D yJ9_max_f86c9 cJ9_max_f86c9 4 (some .long) (rr d) [.long (lN a), .long (lN b)] (wsOf D L σ) Q := by
  refine g_start ky_J9_max_f86c9 (Nat.le_of_ble_eq_true rfl) ?_
  refine g_pick [0, 1] (lv' := [(0, .long (lN a)), (2, .long (lN b))]) rfl ?_
  refine g_lload_n dJ9_max_f86c9_0 rfl 0 rfl ?_
  refine g_lload_n dJ9_max_f86c9_1 rfl 1 rfl ?_
  refine g_lcmp dJ9_max_f86c9_2 ?_
  refine g_iflt 10 dJ9_max_f86c9_3 (by decide) (fun h3 => ?_) (fun h3 => ?_)
  · refine g_lload_n dJ9_max_f86c9_10 rfl 1 rfl ?_
    exact g_lreturn dJ9_max_f86c9_11 (Nat.le_refl _) (Nat.le_refl _) (qlg (by rw [if_pos ((lN_lt ha hb).mp ((lcmp_lt _ _).mp h3))]) h)
  · refine g_lload_n dJ9_max_f86c9_6 rfl 0 rfl ?_
    refine g_goto 11 dJ9_max_f86c9_7 (by decide) ?_
    exact g_lreturn dJ9_max_f86c9_11 (Nat.le_refl _) (Nat.le_refl _) (qlg (by rw [if_neg (fun q => h3 ((lcmp_lt _ _).mpr ((lN_lt ha hb).mpr q)))]) h)
def flF (f : Nat → Int32) (v : Int32) (n : Nat) : Nat → Int32 := fun j => if j < n then v else f j
theorem flF_s (f : Nat → Int32) (v : Int32) (n : Nat) : upd (flF f v n) n v = flF f v (n + 1) := by
  funext j
  unfold flF
  by_cases c : j = n
  · rw [c, pk_us, if_pos (Nat.lt_succ_self n)]
  · rw [pk_un c]
    by_cases d : j < n
    · rw [if_pos d, if_pos (by omega)]
    · rw [if_neg d, if_neg (by omega)]
theorem setA_setA (σ : St) (q : Nat) (f g : Nat → Int32) : setA (setA σ q f) q g = setA σ q g := by
  unfold setA
  have : (fun r => if r = q then g else (if r = q then f else sA σ r)) = fun r => if r = q then g else sA σ r := by
    funext r; split <;> rfl
  show (sI σ, (fun r => if r = q then g else (if r = q then f else sA σ r)), sK σ, sM σ) = _
  rw [this]
set_option maxHeartbeats 4000000 in
theorem lp_fill {l : Launch} {D : gE} {L : Nat → Nat} {σ : St} {Q : Option Value → va_W → Prop} {d : Nat} {q n : Nat} {v : Int32} (hn : n < 2 ^ 31) (ha : ∀ f, (wsOf D L (setA σ q f))[q]? = some (L q, .inl (D.2.2.1, n, .inl f))) (h : Q none (wsOf D L (setA σ q (flF (sA σ q) v n)))) : ∀ m i, i + m = n → G l D yJ7_fill_53178 cJ7_fill_53178 4 none (rr d) Q 0 0 5 [(2, .int (nI i)), (3, .int (nI n)), (0, .ref (L q)), (1, .int v)] [] (wsOf D L (setA σ q (flF (sA σ q) v i))) := by
  intro m
  induction m with
  | zero =>
    intro i hct
    obtain rfl : i = n := by omega
    refine g_iload_n dJ7_fill_53178_5 rfl 0 rfl ?_
    refine g_iload_n dJ7_fill_53178_6 rfl 1 rfl ?_
    refine n_icmpge 20 dJ7_fill_53178_7 (by decide) (by omega) (by omega) (fun h7 => ?_) (fun h7 => absurd h7 (by omega))
    exact g_return dJ7_fill_53178_20 (Nat.le_refl _) (Nat.le_refl _) (h)
  | succ m ih =>
    intro i hct
    refine g_iload_n dJ7_fill_53178_5 rfl 0 rfl ?_
    refine g_iload_n dJ7_fill_53178_6 rfl 1 rfl ?_
    refine n_icmpge 20 dJ7_fill_53178_7 (by decide) (by omega) (by omega) (fun h7 => absurd h7 (by omega)) (fun h7 => ?_)
    refine g_aload_n dJ7_fill_53178_10 rfl 2 rfl ?_
    refine g_iload_n dJ7_fill_53178_11 rfl 0 rfl ?_
    refine g_iload_n dJ7_fill_53178_12 rfl 3 rfl ?_
    refine g_iastore (ws' := wsOf D L (setA σ q (flF (sA σ q) v (i + 1)))) q (ha _) (vp_in_nI (by omega) hn) dJ7_fill_53178_13 ?_ ?_
    · rw [nI_clamp (by omega), flF_s]
      have e9 := ws_setA (D := D) (L := L) (σ := setA σ q (flF (sA σ q) v i)) (q := q) (n := n) (c := D.2.2.1) (by rw [sA_same]; exact ha _) (flF (sA σ q) v (i + 1))
      rw [setA_setA] at e9
      exact e9
    refine g_iinc (v := nI (i + 1)) (lv' := [(2, .int (nI (i + 1))), (3, .int (nI n)), (0, .ref (L q)), (1, .int v)]) dJ7_fill_53178_14 0 rfl (inc_n _) (by decide) rfl ?_
    refine g_goto 5 dJ7_fill_53178_17 (by decide) ?_
    refine g_pick [0, 1, 2, 3] (lv' := [(2, .int (nI (i + 1))), (3, .int (nI n)), (0, .ref (L q)), (1, .int v)]) rfl ?_
    exact ih (i + 1) (by omega)
set_option maxHeartbeats 4000000 in
set_option maxRecDepth 20000 in
theorem c_fill {l : Launch} {D : gE} {L : Nat → Nat} {σ : St} {Q : Option Value → va_W → Prop} {d : Nat} {q n : Nat} {v : Int32} (hn : n < 2 ^ 31) (ha : ∀ f, (wsOf D L (setA σ q f))[q]? = some (L q, .inl (D.2.2.1, n, .inl f))) (h : Q none (wsOf D L (setA σ q (flF (sA σ q) v n)))) : Ctr l D yJ7_fill_53178 cJ7_fill_53178 4 none (rr d) [.ref (L q), .int v] (wsOf D L σ) Q := by
  refine g_start ky_J7_fill_53178 (Nat.le_of_ble_eq_true rfl) ?_
  refine g_pick [0, 1] (lv' := [(0, .ref (L q)), (1, .int v)]) rfl ?_
  refine g_iconst dJ7_fill_53178_0 ci_0 ?_
  refine g_istore_n (lv' := [(2, .int (nI 0)), (0, .ref (L q)), (1, .int v)]) dJ7_fill_53178_1 rfl (by decide) rfl ?_
  refine g_aload_n dJ7_fill_53178_2 rfl 1 rfl ?_
  have ha0 := ha (sA σ q)
  rw [setA_id] at ha0
  refine g_alen (v := nI n) q ha0 rfl dJ7_fill_53178_3 ?_
  refine g_istore_n (lv' := [(3, .int (nI n)), (2, .int (nI 0)), (0, .ref (L q)), (1, .int v)]) dJ7_fill_53178_4 rfl (by decide) rfl ?_
  refine g_pick [1, 0, 2, 3] (lv' := [(2, .int (nI 0)), (3, .int (nI n)), (0, .ref (L q)), (1, .int v)]) rfl ?_
  have e9 : setA σ q (flF (sA σ q) v 0) = σ := by rw [show flF (sA σ q) v 0 = sA σ q from funext (fun j => if_neg (Nat.not_lt_zero j)), setA_id]
  have e8 := lp_fill (l := l) (D := D) (L := L) (Q := Q) (d := d) hn ha h n 0 (by omega)
  rw [e9] at e8
  exact e8
