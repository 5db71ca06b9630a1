/-! THE WORLD: every cell of class and reference by its number (Towns 0, 12, 62, 74 with their rows behind them; WeighedWords 24, images 25, Pad 26, signs 27, Day 28, Orders 29, its rows 30 to 32; the reference 33, its rows 34 to 61); L: the addresses; the state: ints of objects, rows of ints, how many images were made, which image lies where -/
abbrev St : Type := (Nat → Nat → Int32) × (Nat → Nat → Int32) × Nat × (Nat → Option Nat)
abbrev sI (σ : St) : Nat → Nat → Int32 := σ.1
abbrev sA (σ : St) : Nat → Nat → Int32 := σ.2.1
abbrev sK (σ : St) : Nat := σ.2.2.1
abbrev sM (σ : St) : Nat → Option Nat := σ.2.2.2
def tnF (I : Nat → Int32) (L : Nat → Nat) (b : Nat) : List Value := [.int (I 0), .int (I 1), .ref (L (b + 1)), .ref (L (b + 2)), .ref (L (b + 3)), .ref (L (b + 4)), .int (I 6), .ref (L (b + 5)), .ref (L (b + 6)), .ref (L (b + 7)), .ref (L (b + 8)), .ref (L (b + 9)), .int (I 12), .int (I 13), .int (I 14), .ref (L (b + 10)), .ref (L (b + 11))]
def mdF (I : Nat → Int32) (L : Nat → Nat) : List Value := [.int (I 0), .int (I 1), .int (I 2), .int (I 3), .ref (L 34), .ref (L 35), .ref (L 36), .ref (L 37), .ref (L 38), .ref (L 39), .ref (L 40), .ref (L 41), .ref (L 42), .int (I 13), .ref (L 43), .ref (L 44), .int (I 16), .ref (L 45), .int (I 18), .ref (L 46), .ref (L 47), .ref (L 48), .ref (L 49), .int (I 23), .int (I 24), .int (I 25), .int (I 26), .int (I 27), .int (I 28), .int (I 29), .ref (L 50), .ref (L 51), .ref (L 52), .ref (L 53), .int (I 34), .ref (L 54), .int (I 36), .ref (L 55), .ref (L 56), .int (I 39), .ref (L 57), .ref (L 58), .ref (L 59), .ref (L 60), .ref (L 61), .int (I 45), .int (I 46)]
def alens : List Nat := [0, 8, 8, 8, 8, 6, 6, 6, 8, 8, 6, 6, 0, 8, 8, 8, 8, 6, 6, 6, 8, 8, 6, 6, 0, 2, 0, 60, 0, 0, 6, 6, 36, 0, 8, 8, 8, 8, 6, 6, 6, 8, 8, 6, 6, 60, 60, 60, 60, 60, 6, 6, 8, 8, 6, 6, 6, 6, 6, 6, 200, 2]
def alen (q : Nat) : Nat := alens.getD (if q < 62 then q else (q - 62) % 12) 0
def cellE (D : gE) (L : Nat → Nat) (q : Nat) (I A : Nat → Int32) (im : Nat → Option Nat) : va_E :=
  if q = 0 ∨ q = 12 ∨ q = 62 ∨ q = 74 then .inr (3, tnF I L q)
  else if q = 24 then .inr (4, [.ref (L 0), .ref (L 12), .ref (L 25), .ref (L 26), .ref (L 28), .ref (L 29)])
  else if q = 25 then .inl (D.2.2.2.2, 2, .inr (.inr (.inr (.inr (fun i => (im i).map L)))))
  else if q = 26 then .inr (2, [.ref (L 27), .int (I 1)])
  else if q = 28 then .inr (0, [.int (I 0), .int (I 1), .int (I 2), .int (I 3), .int (I 4), .int (I 5)])
  else if q = 29 then .inr (1, [.ref (L 30), .ref (L 31), .ref (L 32)])
  else if q = 33 then .inr (5, mdF I L)
  else if q = 61 then .inl (D.2.2.2.1, 2, .inl A)
  else .inl (D.2.2.1, alen q, .inl A)
def wsOf (D : gE) (L : Nat → Nat) (σ : St) : va_W := (List.range (62 + 12 * sK σ)).map (fun q => (L q, cellE D L q (sI σ q) (sA σ q) (sM σ)))
def setI (σ : St) (o k : Nat) (x : Int32) : St := (fun o' => if o' = o then upd (sI σ o) k x else sI σ o', sA σ, sK σ, sM σ)
def setA (σ : St) (q : Nat) (f : Nat → Int32) : St := (sI σ, fun q' => if q' = q then f else sA σ q', sK σ, sM σ)
/-- a Town that is there -/
def tn (σ : St) (b : Nat) : Prop := b = 0 ∨ b = 12 ∨ (b = 62 ∧ 1 ≤ sK σ) ∨ (b = 74 ∧ 2 ≤ sK σ)
/-- an int row with a number of its own -/
def isIA (q : Nat) : Bool := q < 62 && !(q == 0 || q == 12 || q == 24 || q == 25 || q == 26 || q == 28 || q == 29 || q == 33 || q == 61)
section WLD
variable {D : gE} {L : Nat → Nat} {σ : St}
theorem ws_len : (wsOf D L σ).length = 62 + 12 * sK σ := by simp [wsOf]
theorem ws_at {q : Nat} (h : q < 62 + 12 * sK σ) : (wsOf D L σ)[q]? = some (L q, cellE D L q (sI σ q) (sA σ q) (sM σ)) := by
  simp only [wsOf, List.getElem?_map, List.getElem?_range h, Option.map_some]
theorem tn_lt {b : Nat} (h : tn σ b) : b + 11 < 62 + 12 * sK σ := by
  rcases h with h | h | ⟨h, h2⟩ | ⟨h, h2⟩ <;> omega
theorem at_tn {b : Nat} (h : tn σ b) : (wsOf D L σ)[b]? = some (L b, .inr (3, tnF (sI σ b) L b)) := by
  rw [ws_at (by have := tn_lt h; omega)]
  have hb : b = 0 ∨ b = 12 ∨ b = 62 ∨ b = 74 := by rcases h with h | h | ⟨h, -⟩ | ⟨h, -⟩ <;> simp [h]
  unfold cellE
  rw [if_pos hb]
theorem at_ta {b : Nat} (h : tn σ b) (j : Nat) (h1 : 1 ≤ j) (h2 : j ≤ 11) : (wsOf D L σ)[b + j]? = some (L (b + j), .inl (D.2.2.1, alen j, .inl (sA σ (b + j)))) := by
  rw [ws_at (by have := tn_lt h; omega)]
  unfold cellE
  have hb : b = 0 ∨ b = 12 ∨ b = 62 ∨ b = 74 := by rcases h with h | h | ⟨h, -⟩ | ⟨h, -⟩ <;> simp [h]
  rw [if_neg (by omega), if_neg (by omega), if_neg (by omega), if_neg (by omega), if_neg (by omega), if_neg (by omega), if_neg (by omega), if_neg (by omega)]
  have e : alen (b + j) = alen j := by
    have hj : ∀ j, j < 12 → 1 ≤ j → alen (0 + j) = alen j ∧ alen (12 + j) = alen j ∧ alen (62 + j) = alen j ∧ alen (74 + j) = alen j := by decide +kernel
    have := hj j (by omega) h1
    rcases hb with rfl | rfl | rfl | rfl
    · exact this.1
    · exact this.2.1
    · exact this.2.2.1
    · exact this.2.2.2
  rw [e]
theorem at_ia {q : Nat} (h : isIA q = true) : (wsOf D L σ)[q]? = some (L q, .inl (D.2.2.1, alen q, .inl (sA σ q))) := by
  simp only [isIA, Bool.and_eq_true, Bool.not_eq_true', Bool.or_eq_false_iff, beq_eq_false_iff_ne, decide_eq_true_eq] at h
  rw [ws_at (by omega)]
  unfold cellE
  rw [if_neg (by omega), if_neg (by omega), if_neg (by omega), if_neg (by omega), if_neg (by omega), if_neg (by omega), if_neg (by omega), if_neg (by omega)]
theorem at_24 : (wsOf D L σ)[24]? = some (L 24, .inr (4, [.ref (L 0), .ref (L 12), .ref (L 25), .ref (L 26), .ref (L 28), .ref (L 29)])) := ws_at (by omega)
theorem at_25 : (wsOf D L σ)[25]? = some (L 25, .inl (D.2.2.2.2, 2, .inr (.inr (.inr (.inr (fun i => (sM σ i).map L)))))) := ws_at (by omega)
theorem at_26 : (wsOf D L σ)[26]? = some (L 26, .inr (2, [.ref (L 27), .int (sI σ 26 1)])) := ws_at (by omega)
theorem at_28 : (wsOf D L σ)[28]? = some (L 28, .inr (0, [.int (sI σ 28 0), .int (sI σ 28 1), .int (sI σ 28 2), .int (sI σ 28 3), .int (sI σ 28 4), .int (sI σ 28 5)])) := ws_at (by omega)
theorem at_29 : (wsOf D L σ)[29]? = some (L 29, .inr (1, [.ref (L 30), .ref (L 31), .ref (L 32)])) := ws_at (by omega)
theorem at_33 : (wsOf D L σ)[33]? = some (L 33, .inr (5, mdF (sI σ 33) L)) := ws_at (by omega)
theorem at_61 : (wsOf D L σ)[61]? = some (L 61, .inl (D.2.2.2.1, 2, .inl (sA σ 61))) := ws_at (by omega)
theorem ws_ext {σ' : St} {q : Nat} {e : va_E} (hk : sK σ' = sK σ) (h : q < 62 + 12 * sK σ) (hq : cellE D L q (sI σ' q) (sA σ' q) (sM σ') = e) (ho : ∀ r, r ≠ q → cellE D L r (sI σ' r) (sA σ' r) (sM σ') = cellE D L r (sI σ r) (sA σ r) (sM σ)) : (wsOf D L σ).set q (L q, e) = wsOf D L σ' := by
  apply List.ext_getElem?
  intro r
  by_cases hr : r < 62 + 12 * sK σ
  · rw [List.getElem?_set, ws_at (σ := σ') (by rw [hk]; exact hr)]
    by_cases e1 : q = r
    · subst e1
      rw [if_pos rfl, if_pos (by rw [ws_len]; exact hr), hq]
    · rw [if_neg e1, ws_at hr, ho r (fun z => e1 z.symm)]
  · rw [List.getElem?_eq_none (by rw [List.length_set, ws_len]; omega), List.getElem?_eq_none (by rw [ws_len, hk]; omega)]
theorem ws_setI {o k ci : Nat} {x : Int32} {fs : List Value} (ho : o < 62 + 12 * sK σ) (hc : cellE D L o (upd (sI σ o) k x) (sA σ o) (sM σ) = .inr (ci, fs)) : (wsOf D L σ).set o (L o, .inr (ci, fs)) = wsOf D L (setI σ o k x) := by
  refine ws_ext (by rfl) ho ?_ ?_
  · show cellE D L o (if o = o then _ else _) _ _ = _
    rw [if_pos rfl]
    exact hc
  · intro r hr
    show cellE D L r (if r = o then _ else _) _ _ = _
    rw [if_neg hr]
    rfl
theorem ws_setA {q n : Nat} {c : ClassId} (h : (wsOf D L σ)[q]? = some (L q, .inl (c, n, .inl (sA σ q)))) (f : Nat → Int32) : (wsOf D L σ).set q (L q, .inl (c, n, .inl f)) = wsOf D L (setA σ q f) := by
  have hq : q < 62 + 12 * sK σ := by
    rw [← ws_len (D := D) (L := L)]
    exact (List.getElem?_eq_some_iff.mp h).1
  rw [ws_at hq] at h
  have h1 := (Prod.mk.inj (Option.some.inj h)).2
  refine ws_ext (by rfl) hq ?_ ?_
  · show cellE D L q _ (if q = q then _ else _) _ = _
    rw [if_pos rfl]
    show cellE D L q (sI σ q) f (sM σ) = _
    revert h1
    unfold cellE
    split
    · intro h1; cases h1
    split
    · intro h1; cases h1
    split
    · intro h1; injection h1 with h1; injection h1 with h1 h2; injection h2 with h2 h3; cases h3
    split
    · intro h1; cases h1
    split
    · intro h1; cases h1
    split
    · intro h1; cases h1
    split
    · intro h1; cases h1
    split
    · intro h1; injection h1 with h1; injection h1 with h1 h2; injection h2 with h2 h3; rw [h1, h2]
    · intro h1; injection h1 with h1; injection h1 with h1 h2; injection h2 with h2 h3; rw [h1, h2]
  · intro r hr
    show cellE D L r _ (if r = q then _ else _) _ = _
    rw [if_neg hr]
    rfl
theorem tnF_set {I : Nat → Int32} {b k : Nat} {x : Int32} (hk : k = 0 ∨ k = 1 ∨ k = 6 ∨ k = 12 ∨ k = 13 ∨ k = 14) : tnF (upd I k x) L b = (tnF I L b).set k (.int x) := by
  rcases hk with rfl | rfl | rfl | rfl | rfl | rfl <;> rfl
theorem mdF_set {I : Nat → Int32} {k : Nat} {x : Int32} (hk : [0, 1, 2, 3, 13, 16, 18, 23, 24, 25, 26, 27, 28, 29, 34, 36, 39, 45, 46].contains k = true) : mdF (upd I k x) L = (mdF I L).set k (.int x) := by
  have hk := List.contains_iff_mem.mp hk
  simp only [List.mem_cons, List.not_mem_nil, or_false] at hk
  rcases hk with rfl | rfl | rfl | rfl | rfl | rfl | rfl | rfl | rfl | rfl | rfl | rfl | rfl | rfl | rfl | rfl | rfl | rfl | rfl <;> rfl
theorem put_tn {b k : Nat} {x : Int32} (h : tn σ b) (hk : k = 0 ∨ k = 1 ∨ k = 6 ∨ k = 12 ∨ k = 13 ∨ k = 14) : (wsOf D L σ).set b (L b, .inr (3, (tnF (sI σ b) L b).set k (.int x))) = wsOf D L (setI σ b k x) := by
  have hb : b = 0 ∨ b = 12 ∨ b = 62 ∨ b = 74 := by rcases h with h | h | ⟨h, -⟩ | ⟨h, -⟩ <;> simp [h]
  refine ws_setI (by have := tn_lt h; omega) ?_
  unfold cellE
  rw [if_pos hb, tnF_set hk]
theorem put_33 {k : Nat} {x : Int32} (hk : [0, 1, 2, 3, 13, 16, 18, 23, 24, 25, 26, 27, 28, 29, 34, 36, 39, 45, 46].contains k = true) : (wsOf D L σ).set 33 (L 33, .inr (5, (mdF (sI σ 33) L).set k (.int x))) = wsOf D L (setI σ 33 k x) := by
  refine ws_setI (by omega) ?_
  show (Sum.inr (5, mdF _ L) : va_E) = _
  rw [mdF_set hk]
theorem put_26 {x : Int32} : (wsOf D L σ).set 26 (L 26, .inr (2, ([.ref (L 27), .int (sI σ 26 1)] : List Value).set 1 (.int x))) = wsOf D L (setI σ 26 1 x) := ws_setI (by omega) rfl
theorem put_28 {k : Nat} {x : Int32} (hk : k < 6) : (wsOf D L σ).set 28 (L 28, .inr (0, ([.int (sI σ 28 0), .int (sI σ 28 1), .int (sI σ 28 2), .int (sI σ 28 3), .int (sI σ 28 4), .int (sI σ 28 5)] : List Value).set k (.int x))) = wsOf D L (setI σ 28 k x) := by
  refine ws_setI (by omega) ?_
  rcases (show k = 0 ∨ k = 1 ∨ k = 2 ∨ k = 3 ∨ k = 4 ∨ k = 5 by omega) with rfl | rfl | rfl | rfl | rfl | rfl <;> rfl
end WLD
section WR
variable {l : Launch} {D : gE} {y y' : MethodName} {cc cc' : ByteArray} {nL nL' : Nat} {rt rt' : Option FieldType} {rm rm' : Room} {Q Q' : Option Value → va_W → Prop} {cells slots pc : Nat} {lv lv' : List (Nat × Value)} {st : List Value} {L : Nat → Nat} {σ : St}
/-- a row read and written at a number -/
theorem s_ald {q n j : Nat} (ha : (wsOf D L σ)[q]? = some (L q, .inl (D.2.2.1, n, .inl (sA σ q)))) (hj : j < n) (hn : n < 2 ^ 31) (hd : decode cc pc = .ok (.iaload, 1)) (kk : G l D y cc nL rt rm Q cells slots (pc + 1) lv (.int (sA σ q j) :: st) (wsOf D L σ)) : G l D y cc nL rt rm Q cells slots pc lv (.int (nI j) :: .ref (L q) :: st) (wsOf D L σ) := by
  refine g_iaload q ha (vp_in_nI hj hn) hd ?_
  rw [nI_clamp (by omega)]
  exact kk
theorem s_ast {q n j : Nat} {x : Int32} (ha : (wsOf D L σ)[q]? = some (L q, .inl (D.2.2.1, n, .inl (sA σ q)))) (hj : j < n) (hn : n < 2 ^ 31) (hd : decode cc pc = .ok (.iastore, 1)) (kk : G l D y cc nL rt rm Q cells slots (pc + 1) lv st (wsOf D L (setA σ q (upd (sA σ q) j x)))) : G l D y cc nL rt rm Q cells slots pc lv (.int x :: .int (nI j) :: .ref (L q) :: st) (wsOf D L σ) := by
  refine g_iastore q ha (vp_in_nI hj hn) hd (ws' := wsOf D L (setA σ q (upd (sA σ q) j x))) ?_ kk
  rw [nI_clamp (by omega)]
  exact ws_setA ha _
/-- fields of a Town -/
theorem s_getT {b idx k : Nat} {v : Value} (hb : tn σ b) (hf : kF y.cls idx RX3 TX3 k) (hk : k < 17) (hv : (tnF (sI σ b) L b)[k]? = some v) (hd : decode cc pc = .ok (.getfield idx, 3)) (kk : G l D y cc nL rt rm Q cells slots (pc + 3) lv (v :: st) (wsOf D L σ)) : G l D y cc nL rt rm Q cells slots pc lv (.ref (L b) :: st) (wsOf D L σ) := g_get hf kC_X3 hk b (at_tn hb) hv hd kk
theorem s_putT {b idx k : Nat} {x : Int32} (hb : tn σ b) (hf : kF y.cls idx RX3 TX3 k) (hk : k = 0 ∨ k = 1 ∨ k = 6 ∨ k = 12 ∨ k = 13 ∨ k = 14) (hd : decode cc pc = .ok (.putfield idx, 3)) (kk : G l D y cc nL rt rm Q cells slots (pc + 3) lv st (wsOf D L (setI σ b k x))) : G l D y cc nL rt rm Q cells slots pc lv (.int x :: .ref (L b) :: st) (wsOf D L σ) := by
  have h0 : k < 17 ∧ (TX3 k).2.2.2 = false ∧ tyX3 k = .int := by rcases hk with rfl | rfl | rfl | rfl | rfl | rfl <;> exact ⟨by omega, rfl, rfl⟩
  exact g_put hf kC_X3 kT_X3 h0.1 b (at_tn hb) h0.2.1 (by rw [h0.2.2]; rfl) (by rw [h0.2.2]; rfl) h0.1 hd (put_tn hb hk) kk
/-- fields of the reference -/
theorem s_getM {idx k : Nat} {v : Value} (hf : kF y.cls idx RX5 TX5 k) (hk : k < 47) (hv : (mdF (sI σ 33) L)[k]? = some v) (hd : decode cc pc = .ok (.getfield idx, 3)) (kk : G l D y cc nL rt rm Q cells slots (pc + 3) lv (v :: st) (wsOf D L σ)) : G l D y cc nL rt rm Q cells slots pc lv (.ref (L 33) :: st) (wsOf D L σ) := g_get hf kC_X5 hk 33 at_33 hv hd kk
theorem s_putM {idx k : Nat} {x : Int32} (hf : kF y.cls idx RX5 TX5 k) (hk : [0, 1, 2, 3, 13, 16, 18, 23, 24, 25, 26, 27, 28, 29, 34, 36, 39, 45].contains k = true) (hd : decode cc pc = .ok (.putfield idx, 3)) (kk : G l D y cc nL rt rm Q cells slots (pc + 3) lv st (wsOf D L (setI σ 33 k x))) : G l D y cc nL rt rm Q cells slots pc lv (.int x :: .ref (L 33) :: st) (wsOf D L σ) := by
  have h0 : ∀ k, [0, 1, 2, 3, 13, 16, 18, 23, 24, 25, 26, 27, 28, 29, 34, 36, 39, 45].contains k = true → k < 47 ∧ (TX5 k).2.2.2 = false ∧ tyX5 k = .int := by
    intro k hk
    have hk := List.contains_iff_mem.mp hk
    simp only [List.mem_cons, List.not_mem_nil, or_false] at hk
    rcases hk with rfl | rfl | rfl | rfl | rfl | rfl | rfl | rfl | rfl | rfl | rfl | rfl | rfl | rfl | rfl | rfl | rfl | rfl <;> exact ⟨by omega, rfl, rfl⟩
  have h0 := h0 k hk
  exact g_put hf kC_X5 kT_X5 h0.1 33 at_33 h0.2.1 (by rw [h0.2.2]; rfl) (by rw [h0.2.2]; rfl) (by show k < 47; exact h0.1) hd (put_33 (by revert hk; simp only [List.contains_iff_mem, List.mem_cons, List.not_mem_nil, or_false]; omega)) kk
/-- the reference's boolean field -/
theorem s_putMz {idx : Nat} {x : Int32} (hx : x = 0 ∨ x = 1) (hf : kF y.cls idx RX5 TX5 46) (hd : decode cc pc = .ok (.putfield idx, 3)) (kk : G l D y cc nL rt rm Q cells slots (pc + 3) lv st (wsOf D L (setI σ 33 46 x))) : G l D y cc nL rt rm Q cells slots pc lv (.int x :: .ref (L 33) :: st) (wsOf D L σ) :=
  g_put hf kC_X5 kT_X5 (by decide) 33 at_33 rfl (by rcases hx with rfl | rfl <;> rfl) (by rcases hx with rfl | rfl <;> rfl) (by show 46 < 47; decide) hd (put_33 (by decide)) kk
theorem s_putP {idx : Nat} {x : Int32} (hf : kF y.cls idx RX2 TX2 1) (hd : decode cc pc = .ok (.putfield idx, 3)) (kk : G l D y cc nL rt rm Q cells slots (pc + 3) lv st (wsOf D L (setI σ 26 1 x))) : G l D y cc nL rt rm Q cells slots pc lv (.int x :: .ref (L 26) :: st) (wsOf D L σ) :=
  g_put hf kC_X2 kT_X2 (by decide) 26 at_26 rfl rfl rfl (Nat.lt_succ_self 1) hd put_26 kk
theorem s_putD {idx k : Nat} {x : Int32} (hk : k < 6) (hf : kF y.cls idx RX0 TX0 k) (hd : decode cc pc = .ok (.putfield idx, 3)) (kk : G l D y cc nL rt rm Q cells slots (pc + 3) lv st (wsOf D L (setI σ 28 k x))) : G l D y cc nL rt rm Q cells slots pc lv (.int x :: .ref (L 28) :: st) (wsOf D L σ) := by
  have h0 : (TX0 k).2.2.2 = false ∧ tyX0 k = .int := by rcases (show k = 0 ∨ k = 1 ∨ k = 2 ∨ k = 3 ∨ k = 4 ∨ k = 5 by omega) with rfl | rfl | rfl | rfl | rfl | rfl <;> exact ⟨rfl, rfl⟩
  exact g_put hf kC_X0 kT_X0 hk 28 at_28 h0.1 (by rw [h0.2]; rfl) (by rw [h0.2]; rfl) hk hd (put_28 hk) kk
end WR
