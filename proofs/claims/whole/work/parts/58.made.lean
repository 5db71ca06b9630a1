/-! WHAT IS MADE: new, newarray, anewarray, Object.<init>; cells in another order; a contract's frame -/
theorem kaI : Cond.arrayClass .int ∈ tb := tb_m 152 (by decide +kernel) (by decide +kernel)
theorem kaZ : Cond.arrayClass .boolean ∈ tb := tb_m 774 (by decide +kernel) (by decide +kernel)
theorem koI : Cond.instanceMethod Lib.objectInit ∈ tb ∧ Cond.code Lib.objectInit ⟨#[0xb1]⟩ 1 none ∈ tb := ⟨tb_m 68 (by decide +kernel) (by decide +kernel), tb_m 69 (by decide +kernel) (by decide +kernel)⟩
theorem ko_X0 : Cond.methodLink RX0 3 Lib.objectInit ∈ tb := tb_m 175 (by decide +kernel) (by decide +kernel)
theorem kin_X0 : Cond.instantiable RX0 6 ∈ tb ∧ Cond.initialized RX0 ∈ tb := ⟨tb_m 171 (by decide +kernel) (by decide +kernel), tb_m 56 (by decide +kernel) (by decide +kernel)⟩
theorem ko_X1 : Cond.methodLink RX1 3 Lib.objectInit ∈ tb := tb_m 206 (by decide +kernel) (by decide +kernel)
theorem kin_X1 : Cond.instantiable RX1 3 ∈ tb ∧ Cond.initialized RX1 ∈ tb := ⟨tb_m 202 (by decide +kernel) (by decide +kernel), tb_m 57 (by decide +kernel) (by decide +kernel)⟩
theorem ko_X2 : Cond.methodLink RX2 3 Lib.objectInit ∈ tb := tb_m 159 (by decide +kernel) (by decide +kernel)
theorem kin_X2 : Cond.instantiable RX2 2 ∈ tb ∧ Cond.initialized RX2 ∈ tb := ⟨tb_m 155 (by decide +kernel) (by decide +kernel), tb_m 55 (by decide +kernel) (by decide +kernel)⟩
theorem ko_X3 : Cond.methodLink RX3 3 Lib.objectInit ∈ tb := tb_m 75 (by decide +kernel) (by decide +kernel)
theorem kin_X3 : Cond.instantiable RX3 17 ∈ tb ∧ Cond.initialized RX3 ∈ tb := ⟨tb_m 71 (by decide +kernel) (by decide +kernel), tb_m 53 (by decide +kernel) (by decide +kernel)⟩
theorem ko_X4 : Cond.methodLink RX4 1 Lib.objectInit ∈ tb := tb_m 67 (by decide +kernel) (by decide +kernel)
theorem kin_X4 : Cond.instantiable RX4 6 ∈ tb ∧ Cond.initialized RX4 ∈ tb := ⟨tb_m 63 (by decide +kernel) (by decide +kernel), tb_m 52 (by decide +kernel) (by decide +kernel)⟩
theorem ko_X5 : Cond.methodLink RX5 1 Lib.objectInit ∈ tb := tb_m 627 (by decide +kernel) (by decide +kernel)
theorem kin_X5 : Cond.instantiable RX5 47 ∈ tb ∧ Cond.initialized RX5 ∈ tb := ⟨tb_m 623 (by decide +kernel) (by decide +kernel), tb_m 58 (by decide +kernel) (by decide +kernel)⟩
theorem kcl_X4_7 : Cond.classLink RX4 7 RX3 ∈ tb := tb_m 70 (by decide +kernel) (by decide +kernel)
theorem kcl_X4_23 : Cond.classLink RX4 23 RX2 ∈ tb := tb_m 154 (by decide +kernel) (by decide +kernel)
theorem kcl_X4_30 : Cond.classLink RX4 30 RX0 ∈ tb := tb_m 170 (by decide +kernel) (by decide +kernel)
theorem kcl_X4_37 : Cond.classLink RX4 37 RX1 ∈ tb := tb_m 201 (by decide +kernel) (by decide +kernel)
theorem kcl_L_7 : Cond.classLink "WeighedWordsLaw" 7 RX4 ∈ tb := tb_m 62 (by decide +kernel) (by decide +kernel)
theorem kcl_L_10 : Cond.classLink "WeighedWordsLaw" 10 RX5 ∈ tb := tb_m 622 (by decide +kernel) (by decide +kernel)
section ENG2
variable {l : Launch} {D : gE} {y y' : MethodName} {cc cc' : ByteArray} {nL nL' : Nat} {rt rt' : Option FieldType} {rm rm' : Room} {Q Q' : Option Value → va_W → Prop} {cells slots pc : Nat} {lv lv' : List (Nat × Value)} {st : List Value} {ws ws' : va_W}
theorem g_newI {n : Int32} (N : Nat) (hn : ¬ n < 0) (hN : n.toNatClampNeg = N) (hb : N * 4 ≤ 536870912) (hc : cells + 1 ≤ rm.cells) (hs : slots + N ≤ rm.slots) (hd : decode cc pc = .ok (.newarray .int, 2)) (kk : ∀ q : Nat, G l D y cc nL rt rm Q (cells + 1) (slots + N) (pc + 2) lv (.ref q :: st) (ws ++ [(q, .inl (D.2.2.1, N, .inl (fun _ => 0)))])) : G l D y cc nL rt rm Q cells slots pc lv (.int n :: st) ws := by
  intro p e s m args below meth c H locs A ls hF hP hD hS hl
  refine va_newa (atype := .int) (ty := .int) hF.1 hF.2.1 (hF.2.2.2.2.2.2.2.1 _ kaI) rfl hF.2.2.2.2.2.2.2.2.1.1 hP hD hS hF.2.2.2.2.2.2.2.2.2 (a0 := (N, .inl (fun _ => 0))) (fun _ => rfl) hn hN hb hc hs hd ?_
  intro q cA H1 hK hP1 hD1 hS1
  have e1 : s.vm.findClass _ = some cA := (hK.2 3 (cA, .int) rfl).2
  have e2 : s.vm.findClass _ = some D.2.2.1 := (hF.2.2.2.2.2.2.2.2.1.1.2 0 (D.2.2.1, .int) rfl).2
  have e3 : cA = D.2.2.1 := Option.some.inj (e1.symm.trans e2)
  subst e3
  exact kk q p e s m args below meth c H1 locs A ls hF hP1 hD1 hS1 hl
theorem g_newZ {n : Int32} (N : Nat) (hn : ¬ n < 0) (hN : n.toNatClampNeg = N) (hb : N * 1 ≤ 536870912) (hc : cells + 1 ≤ rm.cells) (hs : slots + N ≤ rm.slots) (hd : decode cc pc = .ok (.newarray .boolean, 2)) (kk : ∀ q : Nat, G l D y cc nL rt rm Q (cells + 1) (slots + N) (pc + 2) lv (.ref q :: st) (ws ++ [(q, .inl (D.2.2.2.1, N, .inl (fun _ => 0)))])) : G l D y cc nL rt rm Q cells slots pc lv (.int n :: st) ws := by
  intro p e s m args below meth c H locs A ls hF hP hD hS hl
  refine va_newa (atype := .boolean) (ty := .boolean) hF.1 hF.2.1 (hF.2.2.2.2.2.2.2.1 _ kaZ) rfl hF.2.2.2.2.2.2.2.2.1.1 hP hD hS hF.2.2.2.2.2.2.2.2.2 (a0 := (N, .inl (fun _ => 0))) (fun _ => rfl) hn hN hb hc hs hd ?_
  intro q cA H1 hK hP1 hD1 hS1
  have e1 : s.vm.findClass _ = some cA := (hK.2 3 (cA, .boolean) rfl).2
  have e2 : s.vm.findClass _ = some D.2.2.2.1 := (hF.2.2.2.2.2.2.2.2.1.1.2 1 (D.2.2.2.1, .boolean) rfl).2
  have e3 : cA = D.2.2.2.1 := Option.some.inj (e1.symm.trans e2)
  subst e3
  exact kk q p e s m args below meth c H1 locs A ls hF hP1 hD1 hS1 hl
theorem g_newQ {n : Int32} {idx : Nat} (N : Nat) (hk : Cond.classLink y.cls idx RX3 ∈ tb) (hn : ¬ n < 0) (hN : n.toNatClampNeg = N) (hb : N * 4 ≤ 536870912) (hc : cells + 1 ≤ rm.cells) (hs : slots + N ≤ rm.slots) (hd : decode cc pc = .ok (.anewarray idx, 3)) (kk : ∀ q : Nat, G l D y cc nL rt rm Q (cells + 1) (slots + N) (pc + 3) lv (.ref q :: st) (ws ++ [(q, .inl (D.2.2.2.2, N, .inr (.inr (.inr (.inr (fun _ => none))))))])) : G l D y cc nL rt rm Q cells slots pc lv (.int n :: st) ws := by
  intro p e s m args below meth c H locs A ls hF hP hD hS hl
  refine va_newq hF.1 hF.2.1 hF.2.2.2.2.2.2.1 (hF.2.2.2.2.2.2.2.1 _ hk) hF.2.2.2.2.2.2.2.2.1.2.1 hF.2.2.2.2.2.2.2.2.1.1 hP hD hS hF.2.2.2.2.2.2.2.2.2 hn hN hb hc hs hd ?_
  intro q cA H1 hK hP1 hD1 hS1
  obtain ⟨_, _, -, -, -, e1⟩ := (hK.2 3 (cA, .object RX3) rfl).2
  obtain ⟨_, _, -, -, -, e2⟩ := (hF.2.2.2.2.2.2.2.2.1.1.2 2 (D.2.2.2.2, .object RX3) rfl).2
  have e3 : cA = D.2.2.2.2 := Option.some.inj (e1.symm.trans e2)
  subst e3
  exact kk q p e s m args below meth c H1 locs A ls hF hP1 hD1 hS1 hl
theorem g_new {C : String} {T : u_T} {N ci idx : Nat} {ty : Nat → FieldType} (fs : List Value) (hk : Cond.classLink y.cls idx C ∈ tb) (hC : kC ci C T N) (hT : kT T N ty) (hi : Cond.instantiable C N ∈ tb ∧ Cond.initialized C ∈ tb) (hfs : ∀ j, j < N → defaultValue (ty j) = vp_V fs j) (hc : cells + 1 ≤ rm.cells) (hs : slots + N ≤ rm.slots) (hd : decode cc pc = .ok (.new idx, 3)) (kk : ∀ q : Nat, G l D y cc nL rt rm Q (cells + 1) (slots + N) (pc + 3) lv (.ref q :: st) (ws ++ [(q, .inr (ci, fs))])) : G l D y cc nL rt rm Q cells slots pc lv st ws :=
  fun p e s m args below meth c H locs A ls hF hP hD hS hl => va_new hF.1 hF.2.1 hF.2.2.2.2.2.2.2.1 hC.2.1 ty hT.1 hF.2.2.2.2.2.2.1 (hF.2.2.2.2.2.2.2.1 _ hk) (hF.2.2.2.2.2.2.2.1 _ hi.1) (hF.2.2.2.2.2.2.2.1 _ hi.2) hF.2.2.2.2.2.2.2.2.1.1 hP hD hS hF.2.2.2.2.2.2.2.2.2 hC.1 hfs hc hs hd (fun q H1 hP1 hD1 hS1 => kk q p e s m args below meth c H1 locs A ls hF hP1 hD1 hS1 hl)
theorem g_oinit {idx a : Nat} (hk : Cond.methodLink y.cls idx Lib.objectInit ∈ tb) (hfr : 1 ≤ rm.frames) (hlo : (st.map fun v => v.category).sum + 12 ≤ rm.locals) (hd : decode cc pc = .ok (.invokespecial idx, 3)) (kk : G l D y cc nL rt rm Q cells slots (pc + 3) lv st ws) : G l D y cc nL rt rm Q cells slots pc lv (.ref a :: st) ws :=
  fun p e s m args below meth c H locs A ls hF hP hD hS hl => W.objInit hF.1 hF.2.1 hF.2.2.2.2.2.2.1 (hF.2.2.2.2.2.2.2.1 _ hk) (hF.2.2.2.2.2.2.2.1 _ koI.1) (hF.2.2.2.2.2.2.2.1 _ koI.2) (g := F0 _ _ _ _) rfl (hl.1.trans hF.2.2.1.symm) rfl hd hfr (by show 2 * 0 + _ + 12 ≤ _; omega) (kk p e s m args below meth c H locs A ls hF hP hD hS hl)
theorem g_sub (is : List Nat) (hn : va_nd is = true) (hs : is.map (fun i => ws[i]?) = ws'.map some) (k : G l D y cc nL rt rm Q cells slots pc lv st ws') : G l D y cc nL rt rm Q cells slots pc lv st ws := by
  intro p e s m args below meth c H locs A ls hF hP hD hS hl
  refine k p e s m args below meth c H locs A ls hF (hP.sub is ?_) (hD.sub is hn hs) hS hl
  have e1 : is.filterMap (fun i => ws[i]?) = (is.map (fun i => ws[i]?)).filterMap id := by rw [List.filterMap_map]; rfl
  rw [e1, hs, List.filterMap_map]
  exact List.filterMap_some
/-- the cells that a callee's contract does not speak of stay -/
theorem Ctr.frame {av : List Value} {wr : va_W} (h : Ctr l D y cc nL rt rm av ws (fun v u => Q v (wr ++ u))) : Ctr l D y cc nL rt rm av (wr ++ ws) Q := by
  intro sz p e ha hf hc s m args below h1 h2 hP hK
  obtain ⟨q0, q1, qP, qB, qD⟩ := hP
  have at0 : ∀ (k : Nat) (q : Nat × va_E), ws[k]? = some q → (wr ++ ws)[wr.length + k]? = some q := fun k q hk => by
    rw [List.getElem?_append_right (by omega), show wr.length + k - wr.length = k by omega]; exact hk
  have atr : ∀ (k : Nat) (q : Nat × va_E), wr[k]? = some q → k < wr.length ∧ (wr ++ ws)[k]? = some q := fun k q hk => by
    have := (List.getElem?_eq_some_iff.mp hk).1
    exact ⟨this, by rw [List.getElem?_append_left this]; exact hk⟩
  have hP0 : va_P (D.1, D.2.1) vwCl ws s.heap := fun k q hk => qP _ q (at0 k q hk)
  have hPr : va_P (D.1, D.2.1) vwCl wr s.heap := fun k q hk => qP _ q (atr k q hk).2
  have hD0 : va_D (fun _ => True) ws := ⟨fun i j x z hi hj hxz => by have := qD.1 _ _ x z (at0 i x hi) (at0 j z hj) hxz; omega, fun _ _ _ => trivial⟩
  obtain ⟨n, o, b1, b2, b3, ⟨⟨v, u, e1, e2, e3, e4⟩, e5⟩, Lc, f1, f2⟩ := h sz p e ha hf hc s m args below h1 h2 ⟨q0, q1, hP0, qB, hD0⟩ hK
  have hA : ∀ q, va_A ws sz q → va_A (wr ++ ws) sz q := by
    rintro q (⟨k, x, hk⟩ | hq)
    · exact Or.inl ⟨_, x, at0 k _ hk⟩
    · exact Or.inr hq
  have hna : ∀ (k : Nat) (q : Nat × va_E), wr[k]? = some q → ¬ va_A ws sz q.1 := by
    rintro k q hk (⟨j, x, hj⟩ | hq)
    · have h3 := qD.1 _ _ q (q.1, x) (atr k q hk).2 (at0 j _ hj) rfl
      have h4 := (atr k q hk).1
      omega
    · have h3 := (hPr k q hk).lt
      omega
  refine ⟨n, o, b1, b2, b3, ⟨⟨v, wr ++ u, e1, e2, (hPr.kept (fun k q hk => e5.2 q.1 ((hPr k q hk).lt) (hna k q hk))).app e3, va_D.app ?_ (e4.weaken (fun k q _ hq => hA q.1 hq)) ?_⟩, ⟨e5.1, fun q hq1 hq2 => e5.2 q hq1 (fun z => hq2 (hA q z))⟩⟩, Lc, f1, fun q hq => hA _ (f2 q hq)⟩
  · exact ⟨fun i j x z hi hj hxz => qD.1 i j x z (atr i x hi).2 (atr j z hj).2 hxz, fun k q hk => Or.inl ⟨k, q.2, (atr k q hk).2⟩⟩
  · intro i j x z hi hj hxz
    exact hna i x hi (by rw [hxz]; exact e4.2 j z hj)
/-- the callee's world in another order -/
theorem Ctr.sub {av : List Value} (is : List Nat) (hn : va_nd is = true) (hs : is.map (fun i => ws[i]?) = ws'.map some) (h : Ctr l D y cc nL rt rm av ws' Q) : Ctr l D y cc nL rt rm av ws Q := by
  intro sz p e ha hf hc s m args below h1 h2 hP hK
  obtain ⟨q0, q1, qP, qB, qD⟩ := hP
  have e1 : is.filterMap (fun i => ws[i]?) = ws' := by
    have e1 : is.filterMap (fun i => ws[i]?) = (is.map (fun i => ws[i]?)).filterMap id := by rw [List.filterMap_map]; rfl
    rw [e1, hs, List.filterMap_map]
    exact List.filterMap_some
  have key : ∀ (k : Nat) (q : Nat × va_E), ws'[k]? = some q → ∃ i : Nat, ws[i]? = some q := by
    intro k q hk
    subst e1
    obtain ⟨i, -, hi⟩ := List.mem_filterMap.mp (List.mem_of_getElem? hk)
    exact ⟨i, hi⟩
  have hA : ∀ q, va_A ws' sz q → va_A ws sz q := by
    rintro q (⟨k, x, hk⟩ | hq)
    · obtain ⟨i, hi⟩ := key k _ hk
      exact Or.inl ⟨i, x, hi⟩
    · exact Or.inr hq
  obtain ⟨n, o, b1, b2, b3, ⟨⟨v, u, e1, e2, e3, e4⟩, e5⟩, Lc, f1, f2⟩ := h sz p e ha hf hc s m args below h1 h2 ⟨q0, q1, qP.sub is e1, qB, qD.sub is hn hs⟩ hK
  exact ⟨n, o, b1, b2, b3, ⟨⟨v, u, e1, e2, e3, e4.weaken (fun k q _ hq => hA q.1 hq)⟩, ⟨e5.1, fun q hq1 hq2 => e5.2 q hq1 (fun z => hq2 (hA q z))⟩⟩, Lc, f1, fun q hq => hA _ (f2 q hq)⟩
end ENG2
/-- fill, at any place of any world -/
theorem lp_fillG {l : Launch} {D : gE} {ws : va_W} {Q : Option Value → va_W → Prop} {d q0 a n : Nat} {f : Nat → Int32} {v : Int32} (hn : n < 2 ^ 31) (hq : q0 < ws.length) (h : Q none (ws.set q0 (a, .inl (D.2.2.1, n, .inl (flF f v n))))) : ∀ m i, i + m = n → G l D yJ7_fill_53178 cJ7_fill_53178 4 none (rr d) Q 0 0 5 [(2, .int (nI i)), (3, .int (nI n)), (0, .ref a), (1, .int v)] [] (ws.set q0 (a, .inl (D.2.2.1, n, .inl (flF f v i)))) := by
  intro m
  induction m with
  | zero =>
    intro i hct
    obtain rfl : i = n := by omega
    refine g_iload_n dJ7_fill_53178_5 rfl 0 rfl ?_
    refine g_iload_n dJ7_fill_53178_6 rfl 1 rfl ?_
    refine n_icmpge 20 dJ7_fill_53178_7 (by decide) (by omega) (by omega) (fun h7 => ?_) (fun h7 => absurd h7 (by omega))
    exact g_return dJ7_fill_53178_20 (Nat.le_refl _) (Nat.le_refl _) (h)
  | succ m ih =>
    intro i hct
    refine g_iload_n dJ7_fill_53178_5 rfl 0 rfl ?_
    refine g_iload_n dJ7_fill_53178_6 rfl 1 rfl ?_
    refine n_icmpge 20 dJ7_fill_53178_7 (by decide) (by omega) (by omega) (fun h7 => absurd h7 (by omega)) (fun h7 => ?_)
    refine g_aload_n dJ7_fill_53178_10 rfl 2 rfl ?_
    refine g_iload_n dJ7_fill_53178_11 rfl 0 rfl ?_
    refine g_iload_n dJ7_fill_53178_12 rfl 3 rfl ?_
    refine g_iastore (ws' := ws.set q0 (a, .inl (D.2.2.1, n, .inl (flF f v (i + 1))))) q0 (List.getElem?_set_self hq) (vp_in_nI (by omega) hn) dJ7_fill_53178_13 ?_ ?_
    · rw [nI_clamp (by omega), flF_s, List.set_set]
    refine g_iinc (v := nI (i + 1)) (lv' := [(2, .int (nI (i + 1))), (3, .int (nI n)), (0, .ref a), (1, .int v)]) dJ7_fill_53178_14 0 rfl (inc_n _) (by decide) rfl ?_
    refine g_goto 5 dJ7_fill_53178_17 (by decide) ?_
    refine g_pick [0, 1, 2, 3] (lv' := [(2, .int (nI (i + 1))), (3, .int (nI n)), (0, .ref a), (1, .int v)]) rfl ?_
    exact ih (i + 1) (by omega)
theorem c_fillG {l : Launch} {D : gE} {ws : va_W} {Q : Option Value → va_W → Prop} {d a n : Nat} {f : Nat → Int32} {v : Int32} (q0 : Nat) (ha : ws[q0]? = some (a, .inl (D.2.2.1, n, .inl f))) (hn : n < 2 ^ 31) (h : Q none (ws.set q0 (a, .inl (D.2.2.1, n, .inl (flF f v n))))) : Ctr l D yJ7_fill_53178 cJ7_fill_53178 4 none (rr d) [.ref a, .int v] ws Q := by
  refine g_start ky_J7_fill_53178 (Nat.le_of_ble_eq_true rfl) ?_
  refine g_pick [0, 1] (lv' := [(0, .ref a), (1, .int v)]) rfl ?_
  refine g_iconst dJ7_fill_53178_0 ci_0 ?_
  refine g_istore_n (lv' := [(2, .int (nI 0)), (0, .ref a), (1, .int v)]) dJ7_fill_53178_1 rfl (by decide) rfl ?_
  refine g_aload_n dJ7_fill_53178_2 rfl 1 rfl ?_
  refine g_alen (v := nI n) q0 ha rfl dJ7_fill_53178_3 ?_
  refine g_istore_n (lv' := [(3, .int (nI n)), (2, .int (nI 0)), (0, .ref a), (1, .int v)]) dJ7_fill_53178_4 rfl (by decide) rfl ?_
  refine g_pick [1, 0, 2, 3] (lv' := [(2, .int (nI 0)), (3, .int (nI n)), (0, .ref a), (1, .int v)]) rfl ?_
  have e9 : flF f v 0 = f := funext (fun j => if_neg (Nat.not_lt_zero j))
  have hq := (List.getElem?_eq_some_iff.mp ha).1
  have e8 := lp_fillG (l := l) (D := D) (Q := Q) (d := d) hn hq h n 0 (by omega)
  rw [e9, show ws.set q0 (a, .inl (D.2.2.1, n, .inl f)) = ws from ?_] at e8
  · exact e8
  · apply List.ext_getElem?
    intro r
    rw [List.getElem?_set]
    by_cases e1 : q0 = r
    · subst e1; rw [if_pos rfl, if_pos hq, ha]
    · rw [if_neg e1]

