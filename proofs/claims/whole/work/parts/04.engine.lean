theorem kac : Cond.native arraycopyName ∈ tb ∧ Cond.static arraycopyName ∈ tb ∧ Cond.initialized "java/lang/System" ∈ tb := ⟨tb_m 348 (by decide +kernel) (by decide +kernel), tb_m 347 (by decide +kernel) (by decide +kernel), tb_m 61 (by decide +kernel) (by decide +kernel)⟩
theorem kmac_X3_74 : Cond.methodLink RX3 74 arraycopyName ∈ tb := tb_m 346 (by decide +kernel) (by decide +kernel)
theorem kmac_X4_285 : Cond.methodLink RX4 285 arraycopyName ∈ tb := tb_m 518 (by decide +kernel) (by decide +kernel)
/-! THE ENGINE: Ctr, a method's contract over a whole world; G, a frame of the method in such a world; a rule an instruction -/
abbrev gE : Type := (Nat → ClassId) × (Nat → Nat → Nat) × ClassId × ClassId × ClassId
abbrev gT (D : gE) : List (ClassId × FieldType) := [(D.2.2.1, .int), (D.2.2.2.1, .boolean), (D.2.2.2.2, .object RX3)]
/-- what stays as it is: classes and array classes, the array over Town, the nest's links -/
def gB (D : gE) (U : State) : Prop := va_K (D.1, D.2.1) vwCl (gT D) U ∧ va_AO RX3 U ∧ va_Nw (.methodLinkNest RX1 21 yX4_has RX4) U ∧ va_Nw (.methodLinkNest RX1 25 yX4_within RX4) U ∧ va_Nw (.methodLinkNest RX2 19 yX4_within RX4) U ∧ va_Nw (.methodLinkNest RX3 80 yX4_within RX4) U ∧ va_Nw (.methodLinkNest RX3 84 yX4_has RX4) U
theorem gB.warm {D : gE} {s U : State} (hW : s.WarmedH U.vm) (h : gB D s) : gB D U := ⟨va_K.moved hW.alike h.1, h.2.1.moved hW.alike, va_Nw.warmM hW h.2.2.1, va_Nw.warmM hW h.2.2.2.1, va_Nw.warmM hW h.2.2.2.2.1, va_Nw.warmM hW h.2.2.2.2.2.1, va_Nw.warmM hW h.2.2.2.2.2.2⟩
theorem gB.same {D : gE} {u U : State} (hv : u.vm = U.vm) (h : gB D u) : gB D U := ⟨va_K.moved (by rw [hv]; exact Vm.Alike.refl U.vm) h.1, h.2.1.moved (by rw [hv]; exact Vm.Alike.refl U.vm), va_Nw.same rfl hv h.2.2.1, va_Nw.same rfl hv h.2.2.2.1, va_Nw.same rfl hv h.2.2.2.2.1, va_Nw.same rfl hv h.2.2.2.2.2.1, va_Nw.same rfl hv h.2.2.2.2.2.2⟩
def gPc (D : gE) (av : List Value) (sz : Nat) (ws : va_W) : Array Value → State → Prop := va_Pc av (fun U => U.heap.size = sz ∧ va_P (D.1, D.2.1) vwCl ws U.heap ∧ gB D U ∧ va_D (fun _ => True) ws)
def gQc (D : gE) (Q : Option Value → va_W → Prop) (A : Nat → Prop) : Array Value → State → Outcome → State → Prop := fun _ st oc t => (∃ (v : Option Value) (u : va_W), oc = .returned v ∧ Q v u ∧ va_P (D.1, D.2.1) vwCl u t.heap ∧ va_D A u) ∧ va_F A st t
/-- CONTRACT: from the world ws with the arguments av the method returns v with a world u, with Q v u -/
def Ctr (l : Launch) (D : gE) (y : MethodName) (cc : ByteArray) (nL : Nat) (rt : Option FieldType) (rm : Room) (av : List Value) (ws : va_W) (Q : Option Value → va_W → Prop) : Prop :=
  ∀ sz : Nat, Met l y (Cond.code y cc nL rt :: tb) rm (gPc D av sz ws) (gQc D Q (va_A ws sz)) rm.cells rm.slots (va_A ws sz)
def gF (D : gE) (y : MethodName) (cc : ByteArray) (nL : Nat) (rt : Option FieldType) (p : Program) (s : State) (m : MethodId) (args : Array Value) (meth : Method) (c : Code) (A : Nat → Prop) : Prop :=
  p.tables.exec = Jvm.exec ∧ c.code = cc ∧ c.maxLocals = nL ∧ meth.sig.returnType = rt ∧ meth.locks = false ∧ meth.name = y.name ∧ s.vm.findClass y.cls = some m.cls ∧ (∀ w ∈ tb, w.before args s = true) ∧ gB D s ∧ (∀ q, s.heap.size ≤ q → A q)
/-- FRAME: the method y at pc, with locals lv, stack st, in the world ws, comes to its end with Q -/
def G (l : Launch) (D : gE) (y : MethodName) (cc : ByteArray) (nL : Nat) (rt : Option FieldType) (rm : Room) (Q : Option Value → va_W → Prop) (cells slots : Nat) (pc : Nat) (lv : List (Nat × Value)) (st : List Value) (ws : va_W) : Prop :=
  ∀ (p : Program) (e : Env) (s : State) (m : MethodId) (args : Array Value) (below : List Frame) (meth : Method) (c : Code) (H : Heap) (locs : List Loc) (A : Nat → Prop) (ls : Array Slot), gF D y cc nL rt p s m args meth c A → va_P (D.1, D.2.1) vwCl ws H → va_D A ws → va_S A s.heap H locs → lv_has ls nL lv →
    W p l e rm s m args below meth c H locs cells slots (MQ below (gQc D Q A) args s rm.cells rm.slots A) (F0 m pc ls st)
/-- rooms: d frames more, nothing made -/
abbrev rr (d : Nat) : Room := { frames := d, cells := 0, slots := 0, locals := 48 * d }
abbrev pv (v : Option Value) (r : List Value) : List Value := match v with
  | some x => x :: r
  | none => r
/-- as Met.ofW, for a method of any class that no row of the natives' table runs -/
theorem g_ofW {l : Launch} {y : MethodName} {ws ws' : List Cond} {rm : Room} {Pc : Array Value → State → Prop} {Qc : Array Value → State → Outcome → State → Prop} {mc ms : Nat} {free : Addr → Prop} {cc : ByteArray} {maxL : Nat} {ret : Option FieldType}
    (hy : plainFor y = true) (hw : ws = Cond.code y cc maxL ret :: ws')
    (body : ∀ p e s m args below meth c s₁, BodyLoose p l y (headSpec ws rm) cc maxL ret e s m args below meth c s₁ → c.maxLocals = maxL → Pc args s →
      W p l e (headSpec ws rm).room s m args below meth c s.heap [] 0 0 (MQ below Qc args s mc ms free) (entryFrame m args maxL)) : Met l y ws rm Pc Qc mc ms free := by
  refine MetFree.of_bodySF (code := cc) (maxLocals := maxL) (ret := ret) hy ?_ ?_
  · intro args s m h hn
    obtain ⟨meth, c, h1, h2, h3, h4, h5, h6, -, -⟩ := Cond.code_spec hn (atoms_spec (ws := ws) h _ (by rw [hw]; exact List.mem_cons_self))
    exact ⟨meth, c, h1, h2, h3, h4, h5, h6⟩
  · intro p e s m args below meth c s₁ B hml hP _
    have hh0 : s₁.heap = s.heap := by rw [B.state]; rfl
    obtain ⟨t, a1, o, b1, b2, b3⟩ := body p e s m args below meth c s₁ B hml hP s₁ hh0 (Stand.of_body B)
    exact ⟨t, o, a1, b1, b2, ⟨b3.1, b3.2⟩⟩
section ENG
variable {l : Launch} {D : gE} {y y' : MethodName} {cc cc' : ByteArray} {nL nL' : Nat} {rt rt' : Option FieldType} {rm rm' : Room} {Q Q' : Option Value → va_W → Prop} {cells slots pc : Nat} {lv lv' : List (Nat × Value)} {st : List Value} {ws ws' : va_W}
theorem g_start {n : Nat} (hy : kY y cc nL rt n) {av : List Value} (hav : (lg_sl av).length ≤ nL) (h : G l D y cc nL rt rm Q 0 0 0 (lv_args 0 av) [] ws) : Ctr l D y cc nL rt rm av ws Q := by
  intro sz
  refine g_ofW (cc := cc) (maxL := nL) (ret := rt) hy.2.2.2 rfl ?_
  intro p e s m args below meth c s₁ B hml hv
  obtain ⟨rfl, hsz, hP, hB, hD0⟩ := hv
  have hts := atoms_spec (ws := Cond.code y cc nL rt :: tb) B.pre
  subst hsz
  have hl := lv_entry av (n := nL) hav
  rw [lg_entry_eq]
  exact h p e s m _ below meth c s.heap [] (va_A ws s.heap.size) _ ⟨B.exec, B.bytes, hml, B.returns, B.notSynchronized, (name_of_methodNamed B.named B.method).1, findClass_of_methodNamed B.named, fun w hw => hts w (List.mem_cons_of_mem _ hw), hB, fun q hq => Or.inr hq⟩ hP hD0.self va_S.rf hl
theorem g_lv (h : ∀ ls : Array Slot, lv_has ls nL lv → lv_has ls nL lv') (k : G l D y cc nL rt rm Q cells slots pc lv' st ws) : G l D y cc nL rt rm Q cells slots pc lv st ws :=
  fun p e s m args below meth c H locs A ls hF hP hD hS hl => k p e s m args below meth c H locs A ls hF hP hD hS (h ls hl)
/-- the locals, fewer or in another order -/
theorem g_pick (ks : List Nat) (h : lv_pick lv ks = lv') (k : G l D y cc nL rt rm Q cells slots pc lv' st ws) : G l D y cc nL rt rm Q cells slots pc lv st ws := g_lv (fun _ hl => lv_sub hl ks h) k
theorem g_ws (h : ws = ws') (k : G l D y cc nL rt rm Q cells slots pc lv st ws') : G l D y cc nL rt rm Q cells slots pc lv st ws := h ▸ k
theorem g_st {st' : List Value} (h : st = st') (k : G l D y cc nL rt rm Q cells slots pc lv st' ws) : G l D y cc nL rt rm Q cells slots pc lv st ws := h ▸ k
theorem g_q (hq : ∀ v u, Q' v u → Q v u) (k : G l D y cc nL rt rm Q' cells slots pc lv st ws) : G l D y cc nL rt rm Q cells slots pc lv st ws := by
  intro p e s m args below meth c H locs A ls hF hP hD hS hl T hT X
  obtain ⟨t, h1, oc, h2, h3, ⟨⟨v, u, h4, h5, h6⟩, h7⟩, h8⟩ := k p e s m args below meth c H locs A ls hF hP hD hS hl T hT X
  exact ⟨t, h1, oc, h2, h3, ⟨⟨v, u, h4, hq v u h5, h6⟩, h7⟩, h8⟩
theorem g_topi {x : Int32} (h : ∀ z : Int32, z = x → G l D y cc nL rt rm Q cells slots pc lv (.int z :: st) ws) : G l D y cc nL rt rm Q cells slots pc lv (.int x :: st) ws := h x rfl
theorem g_topl {x : Int64} (h : ∀ z : Int64, z = x → G l D y cc nL rt rm Q cells slots pc lv (.long z :: st) ws) : G l D y cc nL rt rm Q cells slots pc lv (.long x :: st) ws := h x rfl
theorem g_tope {x z : Int32} (e : x = z) (h : G l D y cc nL rt rm Q cells slots pc lv (.int z :: st) ws) : G l D y cc nL rt rm Q cells slots pc lv (.int x :: st) ws := e ▸ h
theorem g_tople {x z : Int64} (e : x = z) (h : G l D y cc nL rt rm Q cells slots pc lv (.long z :: st) ws) : G l D y cc nL rt rm Q cells slots pc lv (.long x :: st) ws := e ▸ h
theorem g_iconst {n : Int} {v : Int32} (hd : decode cc pc = .ok (.iconst n, 1)) (hv : Int32.ofInt n = v) (k : G l D y cc nL rt rm Q cells slots (pc + 1) lv (.int v :: st) ws) : G l D y cc nL rt rm Q cells slots pc lv st ws :=
  fun p e s m args below meth c H locs A ls hF hP hD hS hl => lv_iconst hF.1 hF.2.1 hd hv (k p e s m args below meth c H locs A ls hF hP hD hS hl)
theorem g_bipush {n : Int} {v : Int32} (hd : decode cc pc = .ok (.bipush n, 2)) (hv : (Int8.ofInt n).toInt32 = v) (k : G l D y cc nL rt rm Q cells slots (pc + 2) lv (.int v :: st) ws) : G l D y cc nL rt rm Q cells slots pc lv st ws :=
  fun p e s m args below meth c H locs A ls hF hP hD hS hl => lv_bipush hF.1 hF.2.1 hd hv (k p e s m args below meth c H locs A ls hF hP hD hS hl)
theorem g_sipush {n : Int} {v : Int32} (hd : decode cc pc = .ok (.sipush n, 3)) (hv : (Int16.ofInt n).toInt32 = v) (k : G l D y cc nL rt rm Q cells slots (pc + 3) lv (.int v :: st) ws) : G l D y cc nL rt rm Q cells slots pc lv st ws :=
  fun p e s m args below meth c H locs A ls hF hP hD hS hl => lv_sipush hF.1 hF.2.1 hd hv (k p e s m args below meth c H locs A ls hF hP hD hS hl)
theorem g_lconst {n : Fin 2} {v : Int64} (hd : decode cc pc = .ok (.lconst n, 1)) (hv : Int64.ofNat (n : Nat) = v) (k : G l D y cc nL rt rm Q cells slots (pc + 1) lv (.long v :: st) ws) : G l D y cc nL rt rm Q cells slots pc lv st ws :=
  fun p e s m args below meth c H locs A ls hF hP hD hS hl => lv_lconst hF.1 hF.2.1 hd hv (k p e s m args below meth c H locs A ls hF hP hD hS hl)
theorem g_ldc {idx : Nat} {v : Int32} (hc : Cond.constant y.cls idx v ∈ tb) (hd : decode cc pc = .ok (.ldc idx, 2)) (k : G l D y cc nL rt rm Q cells slots (pc + 2) lv (.int v :: st) ws) : G l D y cc nL rt rm Q cells slots pc lv st ws :=
  fun p e s m args below meth c H locs A ls hF hP hD hS hl => lv_ldc hF.1 hF.2.1 hF.2.2.2.2.2.2.1 (hF.2.2.2.2.2.2.2.1 _ hc) hd (k p e s m args below meth c H locs A ls hF hP hD hS hl)
theorem g_ldc_w {idx : Nat} {v : Int32} (hc : Cond.constant y.cls idx v ∈ tb) (hd : decode cc pc = .ok (.ldc_w idx, 3)) (k : G l D y cc nL rt rm Q cells slots (pc + 3) lv (.int v :: st) ws) : G l D y cc nL rt rm Q cells slots pc lv st ws :=
  fun p e s m args below meth c H locs A ls hF hP hD hS hl => lv_ldcw hF.1 hF.2.1 hF.2.2.2.2.2.2.1 (hF.2.2.2.2.2.2.2.1 _ hc) hd (k p e s m args below meth c H locs A ls hF hP hD hS hl)
theorem g_ldc2_w {idx : Nat} {v : Int64} (hc : Cond.constantLong y.cls idx v ∈ tb) (hd : decode cc pc = .ok (.ldc2_w idx, 3)) (k : G l D y cc nL rt rm Q cells slots (pc + 3) lv (.long v :: st) ws) : G l D y cc nL rt rm Q cells slots pc lv st ws :=
  fun p e s m args below meth c H locs A ls hF hP hD hS hl => lv_ldc2 hF.1 hF.2.1 hF.2.2.2.2.2.2.1 (hF.2.2.2.2.2.2.2.1 _ hc) hd (k p e s m args below meth c H locs A ls hF hP hD hS hl)
theorem g_iload_n {f : Fin 4} {i : Nat} {x : Int32} (hd : decode cc pc = .ok (.iload_n f, 1)) (hi : (f : Nat) = i) (q : Nat) (hq : lv[q]? = some (i, .int x)) (k : G l D y cc nL rt rm Q cells slots (pc + 1) lv (.int x :: st) ws) : G l D y cc nL rt rm Q cells slots pc lv st ws :=
  fun p e s m args below meth c H locs A ls hF hP hD hS hl => lv_iload_n hF.1 hF.2.1 hd hi (lv_at hl q hq) (k p e s m args below meth c H locs A ls hF hP hD hS hl)
theorem g_iload {i : Nat} {x : Int32} (hd : decode cc pc = .ok (.iload i, 2)) (q : Nat) (hq : lv[q]? = some (i, .int x)) (k : G l D y cc nL rt rm Q cells slots (pc + 2) lv (.int x :: st) ws) : G l D y cc nL rt rm Q cells slots pc lv st ws :=
  fun p e s m args below meth c H locs A ls hF hP hD hS hl => lv_iload hF.1 hF.2.1 hd (lv_at hl q hq) (k p e s m args below meth c H locs A ls hF hP hD hS hl)
theorem g_lload_n {f : Fin 4} {i : Nat} {x : Int64} (hd : decode cc pc = .ok (.lload_n f, 1)) (hi : (f : Nat) = i) (q : Nat) (hq : lv[q]? = some (i, .long x)) (k : G l D y cc nL rt rm Q cells slots (pc + 1) lv (.long x :: st) ws) : G l D y cc nL rt rm Q cells slots pc lv st ws :=
  fun p e s m args below meth c H locs A ls hF hP hD hS hl => lv_lload_n hF.1 hF.2.1 hd hi (lv_at hl q hq) (k p e s m args below meth c H locs A ls hF hP hD hS hl)
theorem g_lload {i : Nat} {x : Int64} (hd : decode cc pc = .ok (.lload i, 2)) (q : Nat) (hq : lv[q]? = some (i, .long x)) (k : G l D y cc nL rt rm Q cells slots (pc + 2) lv (.long x :: st) ws) : G l D y cc nL rt rm Q cells slots pc lv st ws :=
  fun p e s m args below meth c H locs A ls hF hP hD hS hl => lv_lload hF.1 hF.2.1 hd (lv_at hl q hq) (k p e s m args below meth c H locs A ls hF hP hD hS hl)
theorem g_aload_n {f : Fin 4} {i : Nat} {x : Nat} (hd : decode cc pc = .ok (.aload_n f, 1)) (hi : (f : Nat) = i) (q : Nat) (hq : lv[q]? = some (i, .ref x)) (k : G l D y cc nL rt rm Q cells slots (pc + 1) lv (.ref x :: st) ws) : G l D y cc nL rt rm Q cells slots pc lv st ws :=
  fun p e s m args below meth c H locs A ls hF hP hD hS hl => lv_aload_n hF.1 hF.2.1 hd hi (lv_at hl q hq) (k p e s m args below meth c H locs A ls hF hP hD hS hl)
theorem g_aload {i : Nat} {x : Nat} (hd : decode cc pc = .ok (.aload i, 2)) (q : Nat) (hq : lv[q]? = some (i, .ref x)) (k : G l D y cc nL rt rm Q cells slots (pc + 2) lv (.ref x :: st) ws) : G l D y cc nL rt rm Q cells slots pc lv st ws :=
  fun p e s m args below meth c H locs A ls hF hP hD hS hl => lv_aload hF.1 hF.2.1 hd (lv_at hl q hq) (k p e s m args below meth c H locs A ls hF hP hD hS hl)
theorem g_istore_n {f : Fin 4} {i : Nat} {x : Int32} (hd : decode cc pc = .ok (.istore_n f, 1)) (hi : (f : Nat) = i) (hn : i < nL) (hq : (i, Value.int x) :: lv.filter (fun q => !(q.1 == i) && !(q.1 + 1 == i && q.2.category == 2)) = lv') (k : G l D y cc nL rt rm Q cells slots (pc + 1) lv' st ws) : G l D y cc nL rt rm Q cells slots pc lv (.int x :: st) ws :=
  fun p e s m args below meth c H locs A ls hF hP hD hS hl => lv_istore_n hF.1 hF.2.1 hd hi hl hn hq (fun ls hl => k p e s m args below meth c H locs A ls hF hP hD hS hl)
theorem g_istore {i : Nat} {x : Int32} (hd : decode cc pc = .ok (.istore i, 2)) (hn : i < nL) (hq : (i, Value.int x) :: lv.filter (fun q => !(q.1 == i) && !(q.1 + 1 == i && q.2.category == 2)) = lv') (k : G l D y cc nL rt rm Q cells slots (pc + 2) lv' st ws) : G l D y cc nL rt rm Q cells slots pc lv (.int x :: st) ws :=
  fun p e s m args below meth c H locs A ls hF hP hD hS hl => lv_istore hF.1 hF.2.1 hd hl hn hq (fun ls hl => k p e s m args below meth c H locs A ls hF hP hD hS hl)
theorem g_lstore_n {f : Fin 4} {i : Nat} {x : Int64} (hd : decode cc pc = .ok (.lstore_n f, 1)) (hi : (f : Nat) = i) (hn : i + 1 < nL) (hq : (i, Value.long x) :: lv.filter (fun q => !(q.1 == i) && (!(q.1 == i + 1) && !(q.1 + 1 == i && q.2.category == 2))) = lv') (k : G l D y cc nL rt rm Q cells slots (pc + 1) lv' st ws) : G l D y cc nL rt rm Q cells slots pc lv (.long x :: st) ws :=
  fun p e s m args below meth c H locs A ls hF hP hD hS hl => lv_lstore_n hF.1 hF.2.1 hd hi hl hn hq (fun ls hl => k p e s m args below meth c H locs A ls hF hP hD hS hl)
theorem g_lstore {i : Nat} {x : Int64} (hd : decode cc pc = .ok (.lstore i, 2)) (hn : i + 1 < nL) (hq : (i, Value.long x) :: lv.filter (fun q => !(q.1 == i) && (!(q.1 == i + 1) && !(q.1 + 1 == i && q.2.category == 2))) = lv') (k : G l D y cc nL rt rm Q cells slots (pc + 2) lv' st ws) : G l D y cc nL rt rm Q cells slots pc lv (.long x :: st) ws :=
  fun p e s m args below meth c H locs A ls hF hP hD hS hl => lv_lstore hF.1 hF.2.1 hd hl hn hq (fun ls hl => k p e s m args below meth c H locs A ls hF hP hD hS hl)
theorem g_astore_n {f : Fin 4} {i : Nat} {x : Nat} (hd : decode cc pc = .ok (.astore_n f, 1)) (hi : (f : Nat) = i) (hn : i < nL) (hq : (i, Value.ref x) :: lv.filter (fun q => !(q.1 == i) && !(q.1 + 1 == i && q.2.category == 2)) = lv') (k : G l D y cc nL rt rm Q cells slots (pc + 1) lv' st ws) : G l D y cc nL rt rm Q cells slots pc lv (.ref x :: st) ws :=
  fun p e s m args below meth c H locs A ls hF hP hD hS hl => lv_astore_n hF.1 hF.2.1 hd hi hl hn hq (fun ls hl => k p e s m args below meth c H locs A ls hF hP hD hS hl)
theorem g_astore {i : Nat} {x : Nat} (hd : decode cc pc = .ok (.astore i, 2)) (hn : i < nL) (hq : (i, Value.ref x) :: lv.filter (fun q => !(q.1 == i) && !(q.1 + 1 == i && q.2.category == 2)) = lv') (k : G l D y cc nL rt rm Q cells slots (pc + 2) lv' st ws) : G l D y cc nL rt rm Q cells slots pc lv (.ref x :: st) ws :=
  fun p e s m args below meth c H locs A ls hF hP hD hS hl => lv_astore hF.1 hF.2.1 hd hl hn hq (fun ls hl => k p e s m args below meth c H locs A ls hF hP hD hS hl)
theorem g_iinc {i : Nat} {n : Int} {x v : Int32} (hd : decode cc pc = .ok (.iinc i n, 3)) (q : Nat) (hq0 : lv[q]? = some (i, .int x)) (hv : x + Int32.ofInt n = v) (hn : i < nL) (hq : (i, Value.int v) :: lv.filter (fun q => !(q.1 == i) && !(q.1 + 1 == i && q.2.category == 2)) = lv') (k : G l D y cc nL rt rm Q cells slots (pc + 3) lv' st ws) : G l D y cc nL rt rm Q cells slots pc lv st ws :=
  fun p e s m args below meth c H locs A ls hF hP hD hS hl => lv_iinc hF.1 hF.2.1 hd hl hq0 hv hn hq (fun ls hl => k p e s m args below meth c H locs A ls hF hP hD hS hl)
theorem g_iadd {x z : Int32} (hd : decode cc pc = .ok (.iadd, 1)) (k : G l D y cc nL rt rm Q cells slots (pc + 1) lv (.int (x + z) :: st) ws) : G l D y cc nL rt rm Q cells slots pc lv (.int z :: .int x :: st) ws :=
  fun p e s m args below meth c H locs A ls hF hP hD hS hl => lv_iadd hF.1 hF.2.1 hd (k p e s m args below meth c H locs A ls hF hP hD hS hl)
theorem g_isub {x z : Int32} (hd : decode cc pc = .ok (.isub, 1)) (k : G l D y cc nL rt rm Q cells slots (pc + 1) lv (.int (x - z) :: st) ws) : G l D y cc nL rt rm Q cells slots pc lv (.int z :: .int x :: st) ws :=
  fun p e s m args below meth c H locs A ls hF hP hD hS hl => lv_isub hF.1 hF.2.1 hd (k p e s m args below meth c H locs A ls hF hP hD hS hl)
theorem g_imul {x z : Int32} (hd : decode cc pc = .ok (.imul, 1)) (k : G l D y cc nL rt rm Q cells slots (pc + 1) lv (.int (x * z) :: st) ws) : G l D y cc nL rt rm Q cells slots pc lv (.int z :: .int x :: st) ws :=
  fun p e s m args below meth c H locs A ls hF hP hD hS hl => lv_imul hF.1 hF.2.1 hd (k p e s m args below meth c H locs A ls hF hP hD hS hl)
theorem g_iand {x z : Int32} (hd : decode cc pc = .ok (.iand, 1)) (k : G l D y cc nL rt rm Q cells slots (pc + 1) lv (.int (x &&& z) :: st) ws) : G l D y cc nL rt rm Q cells slots pc lv (.int z :: .int x :: st) ws :=
  fun p e s m args below meth c H locs A ls hF hP hD hS hl => lv_iand hF.1 hF.2.1 hd (k p e s m args below meth c H locs A ls hF hP hD hS hl)
theorem g_ior {x z : Int32} (hd : decode cc pc = .ok (.ior, 1)) (k : G l D y cc nL rt rm Q cells slots (pc + 1) lv (.int (x ||| z) :: st) ws) : G l D y cc nL rt rm Q cells slots pc lv (.int z :: .int x :: st) ws :=
  fun p e s m args below meth c H locs A ls hF hP hD hS hl => lv_ior hF.1 hF.2.1 hd (k p e s m args below meth c H locs A ls hF hP hD hS hl)
theorem g_ixor {x z : Int32} (hd : decode cc pc = .ok (.ixor, 1)) (k : G l D y cc nL rt rm Q cells slots (pc + 1) lv (.int (x ^^^ z) :: st) ws) : G l D y cc nL rt rm Q cells slots pc lv (.int z :: .int x :: st) ws :=
  fun p e s m args below meth c H locs A ls hF hP hD hS hl => lv_ixor hF.1 hF.2.1 hd (k p e s m args below meth c H locs A ls hF hP hD hS hl)
theorem g_ishl {x z : Int32} (hd : decode cc pc = .ok (.ishl, 1)) (k : G l D y cc nL rt rm Q cells slots (pc + 1) lv (.int (x <<< (z &&& 31)) :: st) ws) : G l D y cc nL rt rm Q cells slots pc lv (.int z :: .int x :: st) ws :=
  fun p e s m args below meth c H locs A ls hF hP hD hS hl => lv_ishl hF.1 hF.2.1 hd (k p e s m args below meth c H locs A ls hF hP hD hS hl)
theorem g_ishr {x z : Int32} (hd : decode cc pc = .ok (.ishr, 1)) (k : G l D y cc nL rt rm Q cells slots (pc + 1) lv (.int (x >>> (z &&& 31)) :: st) ws) : G l D y cc nL rt rm Q cells slots pc lv (.int z :: .int x :: st) ws :=
  fun p e s m args below meth c H locs A ls hF hP hD hS hl => lv_ishr hF.1 hF.2.1 hd (k p e s m args below meth c H locs A ls hF hP hD hS hl)
theorem g_iushr {x z v : Int32} (hd : decode cc pc = .ok (.iushr, 1)) (hv : (x.toUInt32 >>> (z.toUInt32 &&& Int32.toUInt32 31)).toInt32 = v) (k : G l D y cc nL rt rm Q cells slots (pc + 1) lv (.int v :: st) ws) : G l D y cc nL rt rm Q cells slots pc lv (.int z :: .int x :: st) ws :=
  fun p e s m args below meth c H locs A ls hF hP hD hS hl => lv_iushr hF.1 hF.2.1 hd hv (k p e s m args below meth c H locs A ls hF hP hD hS hl)
theorem g_idiv {x z : Int32} (hd : decode cc pc = .ok (.idiv, 1)) (hz : ¬ z = 0) (k : G l D y cc nL rt rm Q cells slots (pc + 1) lv (.int (x / z) :: st) ws) : G l D y cc nL rt rm Q cells slots pc lv (.int z :: .int x :: st) ws :=
  fun p e s m args below meth c H locs A ls hF hP hD hS hl => lv_idiv hF.1 hF.2.1 hd hz (k p e s m args below meth c H locs A ls hF hP hD hS hl)
theorem g_irem {x z : Int32} (hd : decode cc pc = .ok (.irem, 1)) (hz : ¬ z = 0) (k : G l D y cc nL rt rm Q cells slots (pc + 1) lv (.int (x - x / z * z) :: st) ws) : G l D y cc nL rt rm Q cells slots pc lv (.int z :: .int x :: st) ws :=
  fun p e s m args below meth c H locs A ls hF hP hD hS hl => lv_irem hF.1 hF.2.1 hd hz (k p e s m args below meth c H locs A ls hF hP hD hS hl)
theorem g_ldiv {x z : Int64} (hd : decode cc pc = .ok (.ldiv, 1)) (hz : ¬ z = 0) (k : G l D y cc nL rt rm Q cells slots (pc + 1) lv (.long (x / z) :: st) ws) : G l D y cc nL rt rm Q cells slots pc lv (.long z :: .long x :: st) ws :=
  fun p e s m args below meth c H locs A ls hF hP hD hS hl => lv_ldiv hF.1 hF.2.1 hd hz (k p e s m args below meth c H locs A ls hF hP hD hS hl)
theorem g_lrem {x z : Int64} (hd : decode cc pc = .ok (.lrem, 1)) (hz : ¬ z = 0) (k : G l D y cc nL rt rm Q cells slots (pc + 1) lv (.long (x - x / z * z) :: st) ws) : G l D y cc nL rt rm Q cells slots pc lv (.long z :: .long x :: st) ws :=
  fun p e s m args below meth c H locs A ls hF hP hD hS hl => lv_lrem hF.1 hF.2.1 hd hz (k p e s m args below meth c H locs A ls hF hP hD hS hl)
theorem g_ladd {x z : Int64} (hd : decode cc pc = .ok (.ladd, 1)) (k : G l D y cc nL rt rm Q cells slots (pc + 1) lv (.long (x + z) :: st) ws) : G l D y cc nL rt rm Q cells slots pc lv (.long z :: .long x :: st) ws :=
  fun p e s m args below meth c H locs A ls hF hP hD hS hl => lv_ladd hF.1 hF.2.1 hd (k p e s m args below meth c H locs A ls hF hP hD hS hl)
theorem g_lsub {x z : Int64} (hd : decode cc pc = .ok (.lsub, 1)) (k : G l D y cc nL rt rm Q cells slots (pc + 1) lv (.long (x - z) :: st) ws) : G l D y cc nL rt rm Q cells slots pc lv (.long z :: .long x :: st) ws :=
  fun p e s m args below meth c H locs A ls hF hP hD hS hl => lv_lsub hF.1 hF.2.1 hd (k p e s m args below meth c H locs A ls hF hP hD hS hl)
theorem g_lmul {x z : Int64} (hd : decode cc pc = .ok (.lmul, 1)) (k : G l D y cc nL rt rm Q cells slots (pc + 1) lv (.long (x * z) :: st) ws) : G l D y cc nL rt rm Q cells slots pc lv (.long z :: .long x :: st) ws :=
  fun p e s m args below meth c H locs A ls hF hP hD hS hl => lv_lmul hF.1 hF.2.1 hd (k p e s m args below meth c H locs A ls hF hP hD hS hl)
theorem g_lcmp {x z : Int64} (hd : decode cc pc = .ok (.lcmp, 1)) (k : G l D y cc nL rt rm Q cells slots (pc + 1) lv (.int (lg_cmp x z) :: st) ws) : G l D y cc nL rt rm Q cells slots pc lv (.long z :: .long x :: st) ws :=
  fun p e s m args below meth c H locs A ls hF hP hD hS hl => W.lcmp hF.1 hF.2.1 hd (k p e s m args below meth c H locs A ls hF hP hD hS hl)
theorem g_i2l {x : Int32} (hd : decode cc pc = .ok (.i2l, 1)) (k : G l D y cc nL rt rm Q cells slots (pc + 1) lv (.long x.toInt64 :: st) ws) : G l D y cc nL rt rm Q cells slots pc lv (.int x :: st) ws :=
  fun p e s m args below meth c H locs A ls hF hP hD hS hl => lv_i2l hF.1 hF.2.1 hd rfl (k p e s m args below meth c H locs A ls hF hP hD hS hl)
theorem g_l2i {x : Int64} (hd : decode cc pc = .ok (.l2i, 1)) (k : G l D y cc nL rt rm Q cells slots (pc + 1) lv (.int x.toInt32 :: st) ws) : G l D y cc nL rt rm Q cells slots pc lv (.long x :: st) ws :=
  fun p e s m args below meth c H locs A ls hF hP hD hS hl => lv_l2i hF.1 hF.2.1 hd rfl (k p e s m args below meth c H locs A ls hF hP hD hS hl)
theorem g_dup {v : Value} (hd : decode cc pc = .ok (.dup, 1)) (hc : v.category = 1) (k : G l D y cc nL rt rm Q cells slots (pc + 1) lv (v :: v :: st) ws) : G l D y cc nL rt rm Q cells slots pc lv (v :: st) ws :=
  fun p e s m args below meth c H locs A ls hF hP hD hS hl => lv_dup hF.1 hF.2.1 hd hc (k p e s m args below meth c H locs A ls hF hP hD hS hl)
theorem g_pop {v : Value} (hd : decode cc pc = .ok (.pop, 1)) (hc : v.category = 1) (k : G l D y cc nL rt rm Q cells slots (pc + 1) lv st ws) : G l D y cc nL rt rm Q cells slots pc lv (v :: st) ws :=
  fun p e s m args below meth c H locs A ls hF hP hD hS hl => lv_pop hF.1 hF.2.1 hd hc (k p e s m args below meth c H locs A ls hF hP hD hS hl)
theorem g_dup2 {v w : Value} (hd : decode cc pc = .ok (.dup2, 1)) (hc : v.category = 1) (hc2 : w.category = 1) (k : G l D y cc nL rt rm Q cells slots (pc + 1) lv (v :: w :: v :: w :: st) ws) : G l D y cc nL rt rm Q cells slots pc lv (v :: w :: st) ws :=
  fun p e s m args below meth c H locs A ls hF hP hD hS hl => lv_dup2_11 hF.1 hF.2.1 hd hc hc2 (k p e s m args below meth c H locs A ls hF hP hD hS hl)
theorem g_ifeq {x : Int32} {off : Int} (tgt : Nat) (hd : decode cc pc = .ok (.ifCond .eq off, 3)) (ht : (pc : Int) + off = (tgt : Int)) (kt : x = 0 → G l D y cc nL rt rm Q cells slots tgt lv st ws) (kf : ¬ x = 0 → G l D y cc nL rt rm Q cells slots (pc + 3) lv st ws) : G l D y cc nL rt rm Q cells slots pc lv (.int x :: st) ws :=
  fun p e s m args below meth c H locs A ls hF hP hD hS hl => lv_if_eq hF.1 hF.2.1 hd ht (fun h => (kt h) p e s m args below meth c H locs A ls hF hP hD hS hl) (fun h => ((fun h => kf h) h) p e s m args below meth c H locs A ls hF hP hD hS hl)
theorem g_icmpeq {x z : Int32} {off : Int} (tgt : Nat) (hd : decode cc pc = .ok (.if_icmp .eq off, 3)) (ht : (pc : Int) + off = (tgt : Int)) (kt : x = z → G l D y cc nL rt rm Q cells slots tgt lv st ws) (kf : ¬ x = z → G l D y cc nL rt rm Q cells slots (pc + 3) lv st ws) : G l D y cc nL rt rm Q cells slots pc lv (.int z :: .int x :: st) ws :=
  fun p e s m args below meth c H locs A ls hF hP hD hS hl => lv_icmp_eq hF.1 hF.2.1 hd ht (fun h => (kt h) p e s m args below meth c H locs A ls hF hP hD hS hl) (fun h => ((fun h => kf h) h) p e s m args below meth c H locs A ls hF hP hD hS hl)
theorem g_ifne {x : Int32} {off : Int} (tgt : Nat) (hd : decode cc pc = .ok (.ifCond .ne off, 3)) (ht : (pc : Int) + off = (tgt : Int)) (kt : ¬ x = 0 → G l D y cc nL rt rm Q cells slots tgt lv st ws) (kf : x = 0 → G l D y cc nL rt rm Q cells slots (pc + 3) lv st ws) : G l D y cc nL rt rm Q cells slots pc lv (.int x :: st) ws :=
  fun p e s m args below meth c H locs A ls hF hP hD hS hl => lv_if_ne hF.1 hF.2.1 hd ht (fun h => (kt h) p e s m args below meth c H locs A ls hF hP hD hS hl) (fun h => ((fun h => kf h) h) p e s m args below meth c H locs A ls hF hP hD hS hl)
theorem g_icmpne {x z : Int32} {off : Int} (tgt : Nat) (hd : decode cc pc = .ok (.if_icmp .ne off, 3)) (ht : (pc : Int) + off = (tgt : Int)) (kt : ¬ x = z → G l D y cc nL rt rm Q cells slots tgt lv st ws) (kf : x = z → G l D y cc nL rt rm Q cells slots (pc + 3) lv st ws) : G l D y cc nL rt rm Q cells slots pc lv (.int z :: .int x :: st) ws :=
  fun p e s m args below meth c H locs A ls hF hP hD hS hl => lv_icmp_ne hF.1 hF.2.1 hd ht (fun h => (kt h) p e s m args below meth c H locs A ls hF hP hD hS hl) (fun h => ((fun h => kf h) h) p e s m args below meth c H locs A ls hF hP hD hS hl)
theorem g_iflt {x : Int32} {off : Int} (tgt : Nat) (hd : decode cc pc = .ok (.ifCond .lt off, 3)) (ht : (pc : Int) + off = (tgt : Int)) (kt : x < 0 → G l D y cc nL rt rm Q cells slots tgt lv st ws) (kf : ¬ x < 0 → G l D y cc nL rt rm Q cells slots (pc + 3) lv st ws) : G l D y cc nL rt rm Q cells slots pc lv (.int x :: st) ws :=
  fun p e s m args below meth c H locs A ls hF hP hD hS hl => lv_if_lt hF.1 hF.2.1 hd ht (fun h => (kt h) p e s m args below meth c H locs A ls hF hP hD hS hl) (fun h => ((fun h => kf h) h) p e s m args below meth c H locs A ls hF hP hD hS hl)
theorem g_icmplt {x z : Int32} {off : Int} (tgt : Nat) (hd : decode cc pc = .ok (.if_icmp .lt off, 3)) (ht : (pc : Int) + off = (tgt : Int)) (kt : x < z → G l D y cc nL rt rm Q cells slots tgt lv st ws) (kf : ¬ x < z → G l D y cc nL rt rm Q cells slots (pc + 3) lv st ws) : G l D y cc nL rt rm Q cells slots pc lv (.int z :: .int x :: st) ws :=
  fun p e s m args below meth c H locs A ls hF hP hD hS hl => lv_icmp_lt hF.1 hF.2.1 hd ht (fun h => (kt h) p e s m args below meth c H locs A ls hF hP hD hS hl) (fun h => ((fun h => kf h) h) p e s m args below meth c H locs A ls hF hP hD hS hl)
theorem g_ifge {x : Int32} {off : Int} (tgt : Nat) (hd : decode cc pc = .ok (.ifCond .ge off, 3)) (ht : (pc : Int) + off = (tgt : Int)) (kt : 0 ≤ x → G l D y cc nL rt rm Q cells slots tgt lv st ws) (kf : ¬ 0 ≤ x → G l D y cc nL rt rm Q cells slots (pc + 3) lv st ws) : G l D y cc nL rt rm Q cells slots pc lv (.int x :: st) ws :=
  fun p e s m args below meth c H locs A ls hF hP hD hS hl => lv_if_ge hF.1 hF.2.1 hd ht (fun h => (kt h) p e s m args below meth c H locs A ls hF hP hD hS hl) (fun h => ((fun h => kf h) h) p e s m args below meth c H locs A ls hF hP hD hS hl)
theorem g_icmpge {x z : Int32} {off : Int} (tgt : Nat) (hd : decode cc pc = .ok (.if_icmp .ge off, 3)) (ht : (pc : Int) + off = (tgt : Int)) (kt : z ≤ x → G l D y cc nL rt rm Q cells slots tgt lv st ws) (kf : ¬ z ≤ x → G l D y cc nL rt rm Q cells slots (pc + 3) lv st ws) : G l D y cc nL rt rm Q cells slots pc lv (.int z :: .int x :: st) ws :=
  fun p e s m args below meth c H locs A ls hF hP hD hS hl => lv_icmp_ge hF.1 hF.2.1 hd ht (fun h => (kt h) p e s m args below meth c H locs A ls hF hP hD hS hl) (fun h => ((fun h => kf h) h) p e s m args below meth c H locs A ls hF hP hD hS hl)
theorem g_ifgt {x : Int32} {off : Int} (tgt : Nat) (hd : decode cc pc = .ok (.ifCond .gt off, 3)) (ht : (pc : Int) + off = (tgt : Int)) (kt : 0 < x → G l D y cc nL rt rm Q cells slots tgt lv st ws) (kf : ¬ 0 < x → G l D y cc nL rt rm Q cells slots (pc + 3) lv st ws) : G l D y cc nL rt rm Q cells slots pc lv (.int x :: st) ws :=
  fun p e s m args below meth c H locs A ls hF hP hD hS hl => lv_if_gt hF.1 hF.2.1 hd ht (fun h => (kt h) p e s m args below meth c H locs A ls hF hP hD hS hl) (fun h => ((fun h => kf h) h) p e s m args below meth c H locs A ls hF hP hD hS hl)
theorem g_icmpgt {x z : Int32} {off : Int} (tgt : Nat) (hd : decode cc pc = .ok (.if_icmp .gt off, 3)) (ht : (pc : Int) + off = (tgt : Int)) (kt : z < x → G l D y cc nL rt rm Q cells slots tgt lv st ws) (kf : ¬ z < x → G l D y cc nL rt rm Q cells slots (pc + 3) lv st ws) : G l D y cc nL rt rm Q cells slots pc lv (.int z :: .int x :: st) ws :=
  fun p e s m args below meth c H locs A ls hF hP hD hS hl => lv_icmp_gt hF.1 hF.2.1 hd ht (fun h => (kt h) p e s m args below meth c H locs A ls hF hP hD hS hl) (fun h => ((fun h => kf h) h) p e s m args below meth c H locs A ls hF hP hD hS hl)
theorem g_ifle {x : Int32} {off : Int} (tgt : Nat) (hd : decode cc pc = .ok (.ifCond .le off, 3)) (ht : (pc : Int) + off = (tgt : Int)) (kt : x ≤ 0 → G l D y cc nL rt rm Q cells slots tgt lv st ws) (kf : ¬ x ≤ 0 → G l D y cc nL rt rm Q cells slots (pc + 3) lv st ws) : G l D y cc nL rt rm Q cells slots pc lv (.int x :: st) ws :=
  fun p e s m args below meth c H locs A ls hF hP hD hS hl => lv_if_le hF.1 hF.2.1 hd ht (fun h => (kt h) p e s m args below meth c H locs A ls hF hP hD hS hl) (fun h => ((fun h => kf h) h) p e s m args below meth c H locs A ls hF hP hD hS hl)
theorem g_icmple {x z : Int32} {off : Int} (tgt : Nat) (hd : decode cc pc = .ok (.if_icmp .le off, 3)) (ht : (pc : Int) + off = (tgt : Int)) (kt : x ≤ z → G l D y cc nL rt rm Q cells slots tgt lv st ws) (kf : ¬ x ≤ z → G l D y cc nL rt rm Q cells slots (pc + 3) lv st ws) : G l D y cc nL rt rm Q cells slots pc lv (.int z :: .int x :: st) ws :=
  fun p e s m args below meth c H locs A ls hF hP hD hS hl => lv_icmp_le hF.1 hF.2.1 hd ht (fun h => (kt h) p e s m args below meth c H locs A ls hF hP hD hS hl) (fun h => ((fun h => kf h) h) p e s m args below meth c H locs A ls hF hP hD hS hl)
theorem g_goto {off : Int} (tgt : Nat) (hd : decode cc pc = .ok (.goto off, 3)) (ht : (pc : Int) + off = (tgt : Int)) (k : G l D y cc nL rt rm Q cells slots tgt lv st ws) : G l D y cc nL rt rm Q cells slots pc lv st ws :=
  fun p e s m args below meth c H locs A ls hF hP hD hS hl => lv_goto hF.1 hF.2.1 hd ht (k p e s m args below meth c H locs A ls hF hP hD hS hl)
theorem g_ifnonnull {a : Nat} {off : Int} (tgt : Nat) (hd : decode cc pc = .ok (.ifnonnull off, 3)) (ht : (pc : Int) + off = (tgt : Int)) (k : G l D y cc nL rt rm Q cells slots tgt lv st ws) : G l D y cc nL rt rm Q cells slots pc lv (.ref a :: st) ws :=
  fun p e s m args below meth c H locs A ls hF hP hD hS hl => lv_ifnonnull hF.1 hF.2.1 hd ht (k p e s m args below meth c H locs A ls hF hP hD hS hl)
theorem g_ifnonnullN {off : Int} (hd : decode cc pc = .ok (.ifnonnull off, 3)) (k : G l D y cc nL rt rm Q cells slots (pc + 3) lv st ws) : G l D y cc nL rt rm Q cells slots pc lv (.null :: st) ws :=
  fun p e s m args below meth c H locs A ls hF hP hD hS hl => lv_ifnonnullN hF.1 hF.2.1 hd (k p e s m args below meth c H locs A ls hF hP hD hS hl)
theorem g_lookup {dflt : Int} {ps : Array (Int × Int)} {len : Nat} {x : Int32} {off : Int} (tgt : Nat) (hd : decode cc pc = .ok (.lookupswitch dflt ps, len)) (hp : (ps.toList.zip (ps.toList.drop 1)).all (fun (a, next) => a.1 < next.1) = true) (ho : Op.lookupswitch.offset ps.toList dflt x.toInt = off) (ht : (pc : Int) + off = (tgt : Int)) (k : G l D y cc nL rt rm Q cells slots tgt lv st ws) : G l D y cc nL rt rm Q cells slots pc lv (.int x :: st) ws :=
  fun p e s m args below meth c H locs A ls hF hP hD hS hl => lv_lookup hF.1 hF.2.1 hd hp ho ht (k p e s m args below meth c H locs A ls hF hP hD hS hl)
theorem g_tableOut {dflt lo hi : Int} {offs : Array Int} {len : Nat} {x : Int32} (tgt : Nat) (hd : decode cc pc = .ok (.tableswitch dflt lo hi offs, len)) (h : x.toInt < lo ∨ hi < x.toInt) (ht : (pc : Int) + dflt = (tgt : Int)) (k : G l D y cc nL rt rm Q cells slots tgt lv st ws) : G l D y cc nL rt rm Q cells slots pc lv (.int x :: st) ws :=
  fun p e s m args below meth c H locs A ls hF hP hD hS hl => lv_tableOut hF.1 hF.2.1 hd h ht (k p e s m args below meth c H locs A ls hF hP hD hS hl)
theorem g_tableIn {dflt lo hi : Int} {offs : Array Int} {len : Nat} {x : Int32} {off : Int} (tgt : Nat) (hd : decode cc pc = .ok (.tableswitch dflt lo hi offs, len)) (h1 : ¬ x.toInt < lo) (h2 : ¬ hi < x.toInt) (ho : offs[(x.toInt - lo).toNat]? = some off) (ht : (pc : Int) + off = (tgt : Int)) (k : G l D y cc nL rt rm Q cells slots tgt lv st ws) : G l D y cc nL rt rm Q cells slots pc lv (.int x :: st) ws :=
  fun p e s m args below meth c H locs A ls hF hP hD hS hl => lv_tableIn hF.1 hF.2.1 hd h1 h2 ho ht (k p e s m args below meth c H locs A ls hF hP hD hS hl)
/-- fields -/
theorem g_get {C : String} {T : u_T} {N ci idx a k : Nat} {fs : List Value} {v : Value} (hf : kF y.cls idx C T k) (hC : kC ci C T N) (hk : k < N) (q0 : Nat) (he : ws[q0]? = some (a, .inr (ci, fs))) (hv : fs[k]? = some v) (hd : decode cc pc = .ok (.getfield idx, 3)) (kk : G l D y cc nL rt rm Q cells slots (pc + 3) lv (v :: st) ws) : G l D y cc nL rt rm Q cells slots pc lv (.ref a :: st) ws :=
  fun p e s m args below meth c H locs A ls hF hP hD hS hl => va_get (ref := C) hF.1 hF.2.1 hF.2.2.2.2.2.2.2.1 hC.2.1 hF.2.2.2.2.2.2.1 hF.2.2.2.2.2.2.2.2.1.1 hP q0 he hC.1 k hk (hF.2.2.2.2.2.2.2.1 _ hf) (fun x hx => by rw [hC.2.2 k hk] at hx; exact hx) hv hd (kk p e s m args below meth c H locs A ls hF hP hD hS hl)
theorem g_put {C : String} {T : u_T} {N ci idx a k : Nat} {ty : Nat → FieldType} {fs : List Value} {v : Value} (hf : kF y.cls idx C T k) (hC : kC ci C T N) (hT : kT T N ty) (hk : k < N) (q0 : Nat) (he : ws[q0]? = some (a, .inr (ci, fs))) (hfin : (T k).2.2.2 = false) (hn : narrow (ty k) v = v) (hfit : fits (ty k) v = true) (hl0 : k < fs.length) (hd : decode cc pc = .ok (.putfield idx, 3)) (hw : ws.set q0 (a, .inr (ci, fs.set k v)) = ws') (kk : G l D y cc nL rt rm Q cells slots (pc + 3) lv st ws') : G l D y cc nL rt rm Q cells slots pc lv (v :: .ref a :: st) ws :=
  fun p e s m args below meth c H locs A ls hF hP hD hS hl => va_put (ref := C) hF.1 hF.2.1 hF.2.2.2.2.2.2.2.1 hC.2.1 ty hT.1 hT.2 hF.2.2.2.2.2.2.1 hF.2.2.2.2.2.2.2.2.1.1 hP hD hS q0 he hC.1 k hk (hF.2.2.2.2.2.2.2.1 _ hf) (fun x hx => by rw [hC.2.2 k hk] at hx; exact hx) hfin (hT.1 k hk) hn hfit hl0 hd (fun H locs hP hD hS => by rw [hw] at hP hD; exact kk p e s m args below meth c H locs A ls hF hP hD hS hl)
theorem g_putF {C : String} {T : u_T} {N ci idx a k : Nat} {ty : Nat → FieldType} {fs : List Value} {v : Value} (hf : kF y.cls idx C T k) (hC : kC ci C T N) (hT : kT T N ty) (hk : k < N) (q0 : Nat) (he : ws[q0]? = some (a, .inr (ci, fs))) (hfin : (T k).2.2.2 = true) (hi : y.name = "<init>") (hcl : C = y.cls) (hn : narrow (ty k) v = v) (hfit : fits (ty k) v = true) (hl0 : k < fs.length) (hd : decode cc pc = .ok (.putfield idx, 3)) (hw : ws.set q0 (a, .inr (ci, fs.set k v)) = ws') (kk : G l D y cc nL rt rm Q cells slots (pc + 3) lv st ws') : G l D y cc nL rt rm Q cells slots pc lv (v :: .ref a :: st) ws :=
  fun p e s m args below meth c H locs A ls hF hP hD hS hl => va_putF (ref := C) hF.1 hF.2.1 hF.2.2.2.2.2.2.2.1 hC.2.1 ty hT.1 hT.2 hF.2.2.2.2.2.2.1 hF.2.2.2.2.2.2.2.2.1.1 hP hD hS q0 he hC.1 k hk (hF.2.2.2.2.2.2.2.1 _ hf) (fun x hx => by rw [hC.2.2 k hk] at hx; exact hx) hfin (hF.2.2.2.2.2.1.trans hi) ((hC.2.2 k hk).trans hcl) (hT.1 k hk) hn hfit hl0 hd (fun H locs hP hD hS => by rw [hw] at hP hD; exact kk p e s m args below meth c H locs A ls hF hP hD hS hl)
/-- arrays of int, of boolean, of Town -/
theorem g_iaload {a n : Nat} {f : Nat → Int32} {i : Int32} (q0 : Nat) (ha : ws[q0]? = some (a, .inl (D.2.2.1, n, .inl f))) (hin : vp_in i n) (hd : decode cc pc = .ok (.iaload, 1)) (kk : G l D y cc nL rt rm Q cells slots (pc + 1) lv (.int (f i.toNatClampNeg) :: st) ws) : G l D y cc nL rt rm Q cells slots pc lv (.int i :: .ref a :: st) ws :=
  fun p e s m args below meth c H locs A ls hF hP hD hS hl => va_iald hF.1 hF.2.1 hF.2.2.2.2.2.2.2.2.1.1 hP q0 0 ha rfl hin hd (kk p e s m args below meth c H locs A ls hF hP hD hS hl)
theorem g_iastore {a n : Nat} {f : Nat → Int32} {i x : Int32} (q0 : Nat) (ha : ws[q0]? = some (a, .inl (D.2.2.1, n, .inl f))) (hin : vp_in i n) (hd : decode cc pc = .ok (.iastore, 1)) (hw : ws.set q0 (a, .inl (D.2.2.1, n, .inl (upd f i.toNatClampNeg x))) = ws') (kk : G l D y cc nL rt rm Q cells slots (pc + 1) lv st ws') : G l D y cc nL rt rm Q cells slots pc lv (.int x :: .int i :: .ref a :: st) ws :=
  fun p e s m args below meth c H locs A ls hF hP hD hS hl => va_iast hF.1 hF.2.1 hF.2.2.2.2.2.2.2.2.1.1 hP hD hS q0 0 ha rfl hin hd (fun H locs hP hD hS => by rw [hw] at hP hD; exact kk p e s m args below meth c H locs A ls hF hP hD hS hl)
theorem g_baload {a n : Nat} {f : Nat → Int32} {i : Int32} (q0 : Nat) (ha : ws[q0]? = some (a, .inl (D.2.2.2.1, n, .inl f))) (hin : vp_in i n) (hd : decode cc pc = .ok (.baload, 1)) (kk : G l D y cc nL rt rm Q cells slots (pc + 1) lv (.int (f i.toNatClampNeg) :: st) ws) : G l D y cc nL rt rm Q cells slots pc lv (.int i :: .ref a :: st) ws :=
  fun p e s m args below meth c H locs A ls hF hP hD hS hl => va_zald hF.1 hF.2.1 hF.2.2.2.2.2.2.2.2.1.1 hP q0 1 ha rfl hin hd (kk p e s m args below meth c H locs A ls hF hP hD hS hl)
theorem g_bastore1 {a n : Nat} {f : Nat → Int32} {i : Int32} (q0 : Nat) (ha : ws[q0]? = some (a, .inl (D.2.2.2.1, n, .inl f))) (hin : vp_in i n) (hd : decode cc pc = .ok (.bastore, 1)) (hw : ws.set q0 (a, .inl (D.2.2.2.1, n, .inl (upd f i.toNatClampNeg 1))) = ws') (kk : G l D y cc nL rt rm Q cells slots (pc + 1) lv st ws') : G l D y cc nL rt rm Q cells slots pc lv (.int 1 :: .int i :: .ref a :: st) ws :=
  fun p e s m args below meth c H locs A ls hF hP hD hS hl => va_zast hF.1 hF.2.1 hF.2.2.2.2.2.2.2.2.1.1 hP hD hS q0 1 ha rfl hin hd (fun H locs hP hD hS => by first | (rw [hw] at hP hD; exact kk p e s m args below meth c H locs A ls hF hP hD hS hl) | (have e1 : vp_nar .boolean 1 = 1 := rfl; rw [e1, hw] at hP hD; exact kk p e s m args below meth c H locs A ls hF hP hD hS hl))
theorem g_aaload {a n : Nat} {f : Nat → Option Nat} {i : Int32} (q0 : Nat) (ha : ws[q0]? = some (a, .inl (D.2.2.2.2, n, .inr (.inr (.inr (.inr f)))))) (hin : vp_in i n) (hd : decode cc pc = .ok (.aaload, 1)) (kk : G l D y cc nL rt rm Q cells slots (pc + 1) lv (va_rf (f i.toNatClampNeg) :: st) ws) : G l D y cc nL rt rm Q cells slots pc lv (.int i :: .ref a :: st) ws :=
  fun p e s m args below meth c H locs A ls hF hP hD hS hl => va_aldq hF.1 hF.2.1 hF.2.2.2.2.2.2.2.2.1.1 hP q0 2 ha rfl hin hd (kk p e s m args below meth c H locs A ls hF hP hD hS hl)
theorem g_aastore {a n v ci : Nat} {vs : List Value} {f : Nat → Option Nat} {i : Int32} {r : vw_C} (q0 qk : Nat) (ha : ws[q0]? = some (a, .inl (D.2.2.2.2, n, .inr (.inr (.inr (.inr f)))))) (hv : ws[qk]? = some (v, .inr (ci, vs))) (hc : vwCl[ci]? = some r) (hr : r.1 = RX3) (hin : vp_in i n) (hd : decode cc pc = .ok (.aastore, 1)) (hw : ws.set q0 (a, .inl (D.2.2.2.2, n, .inr (.inr (.inr (.inr (va_up f i.toNatClampNeg (some v))))))) = ws') (kk : G l D y cc nL rt rm Q cells slots (pc + 1) lv st ws') : G l D y cc nL rt rm Q cells slots pc lv (.ref v :: .int i :: .ref a :: st) ws :=
  fun p e s m args below meth c H locs A ls hF hP hD hS hl => va_astq hF.1 hF.2.1 hF.2.2.2.2.2.2.2.2.1.1 hP hD hS q0 2 qk ci ha (by rw [hr]; rfl) hv hc hin hd (fun H locs hP hD hS => by rw [hw] at hP hD; exact kk p e s m args below meth c H locs A ls hF hP hD hS hl)
theorem g_alen {a : Nat} {x : vp_A} {v : Int32} (q0 : Nat) (ha : ws[q0]? = some (a, .inl (D.2.2.1, x))) (hv : Int32.ofNat x.1 = v) (hd : decode cc pc = .ok (.arraylength, 1)) (kk : G l D y cc nL rt rm Q cells slots (pc + 1) lv (.int v :: st) ws) : G l D y cc nL rt rm Q cells slots pc lv (.ref a :: st) ws :=
  fun p e s m args below meth c H locs A ls hF hP hD hS hl => va_alen hF.1 hF.2.1 hF.2.2.2.2.2.2.2.2.1.1 hP q0 0 ha (ty := .int) rfl hv hd (kk p e s m args below meth c H locs A ls hF hP hD hS hl)
theorem g_arraycopy {idx a a0 n0 n1 : Nat} {f g : Nat → Int32} {sp dp n : Int32} (hm : Cond.methodLink y.cls idx arraycopyName ∈ tb) (q0 q1 : Nat) (ha0 : ws[q0]? = some (a0, .inl (D.2.2.1, n0, .inl f))) (ha1 : ws[q1]? = some (a, .inl (D.2.2.1, n1, .inl g))) (h1 : ¬ sp < 0) (h2 : ¬ dp < 0) (h3 : ¬ n < 0) (h4 : sp.toNatClampNeg + n.toNatClampNeg ≤ n0) (h5 : dp.toNatClampNeg + n.toNatClampNeg ≤ n1) (hfr : 1 ≤ rm.frames) (hlo : (st.map fun v => v.category).sum + (nativeFrameWords "java/lang/System" "arraycopy" 5 + 11) ≤ rm.locals) (hd : decode cc pc = .ok (.invokestatic idx, 3)) (hw : ws.set q1 (a, .inl (D.2.2.1, n1, .inl (va_cpy f g sp.toNatClampNeg dp.toNatClampNeg n.toNatClampNeg))) = ws') (kk : G l D y cc nL rt rm Q cells slots (pc + 3) lv st ws') : G l D y cc nL rt rm Q cells slots pc lv (.int n :: .int dp :: .ref a :: .int sp :: .ref a0 :: st) ws :=
  fun p e s m args below meth c H locs A ls hF hP hD hS hl => va_copyi hF.1 hF.2.1 (hF.2.2.1.trans hl.1.symm) hF.2.2.2.2.2.2.1 (hF.2.2.2.2.2.2.2.1 _ hm) (hF.2.2.2.2.2.2.2.1 _ kac.1) (hF.2.2.2.2.2.2.2.1 _ kac.2.1) (hF.2.2.2.2.2.2.2.1 _ kac.2.2) hF.2.2.2.2.2.2.2.2.1.1 hP hD hS q0 q1 0 0 ha0 ha1 (ty := .int) rfl rfl rfl h1 h2 h3 h4 h5 (fun _ _ => rfl) hfr hlo hd (fun H locs hP hD hS => by rw [hw] at hP hD; exact kk p e s m args below meth c H locs A ls hF hP hD hS hl)
/-- returns -/
theorem g_ireturn {v : Int32} (hd : decode cc pc = .ok (.ireturn, 1)) (hc : cells ≤ rm.cells) (hs : slots ≤ rm.slots) (hq : Q (some (.int v)) ws) : G l D y cc nL (some .int) rm Q cells slots pc lv [.int v] ws :=
  fun p e s m args below meth c H locs A ls hF hP hD hS hl => W.widen hc hs (W.iret hF.1 hF.2.1 hF.2.2.2.1 (fun t ht _ => ⟨⟨_, ws, rfl, hq, by rw [ht]; exact hP, hD⟩, hS.F ht⟩) hS.2.2 hd hF.2.2.2.2.1)
theorem g_zreturn {v : Int32} (hd : decode cc pc = .ok (.ireturn, 1)) (hc : cells ≤ rm.cells) (hs : slots ≤ rm.slots) (hv : v = 0 ∨ v = 1) (hq : Q (some (.int v)) ws) : G l D y cc nL (some .boolean) rm Q cells slots pc lv [.int v] ws :=
  fun p e s m args below meth c H locs A ls hF hP hD hS hl => W.widen hc hs (W.zret hF.1 hF.2.1 hF.2.2.2.1 (by rcases hv with rfl | rfl <;> rfl) (fun t ht _ => ⟨⟨_, ws, rfl, hq, by rw [ht]; exact hP, hD⟩, hS.F ht⟩) hS.2.2 hd hF.2.2.2.2.1)
theorem g_lreturn {v : Int64} (hd : decode cc pc = .ok (.lreturn, 1)) (hc : cells ≤ rm.cells) (hs : slots ≤ rm.slots) (hq : Q (some (.long v)) ws) : G l D y cc nL (some .long) rm Q cells slots pc lv [.long v] ws :=
  fun p e s m args below meth c H locs A ls hF hP hD hS hl => W.widen hc hs (W.lret hF.1 hF.2.1 hF.2.2.2.1 (fun t ht _ => ⟨⟨_, ws, rfl, hq, by rw [ht]; exact hP, hD⟩, hS.F ht⟩) hS.2.2 hd hF.2.2.2.2.1)
theorem g_return (hd : decode cc pc = .ok (.return_, 1)) (hc : cells ≤ rm.cells) (hs : slots ≤ rm.slots) (hq : Q none ws) : G l D y cc nL none rm Q cells slots pc lv [] ws :=
  fun p e s m args below meth c H locs A ls hF hP hD hS hl => W.widen hc hs (W.vret hF.1 hF.2.1 hF.2.2.2.1 (fun t ht _ => ⟨⟨_, ws, rfl, hq, by rw [ht]; exact hP, hD⟩, hS.F ht⟩) hS.2.2 hd hF.2.2.2.2.1)
/-- calls: a run of the callee by its contract, then on -/
theorem g_run {p : Program} {e : Env} {s : State} {m : MethodId} {args : Array Value} {below : List Frame} {meth : Method} {c : Code} {H : Heap} {locs : List Loc} {A : Nat → Prop} {ls : Array Slot} {mc ms : Nat} {st0 : List Value} {a : Array Value}
    (hr : va_Run p l e rm s m args below meth c H locs cells slots mc ms (F0 m pc ls st0) st (gQc D Q' (va_A ws H.size) a) (va_A ws H.size)) (hF : gF D y cc nL rt p s m args meth c A) (hD : va_D A ws) (hS : va_S A s.heap H locs) (hl : lv_has ls nL lv)
    (kk : ∀ v u, Q' v u → G l D y cc nL rt rm Q (cells + mc) (slots + ms) (pc + 3) lv (pv v st) u) : W p l e rm s m args below meth c H locs cells slots (MQ below (gQc D Q A) args s rm.cells rm.slots A) (F0 m pc ls st0) := by
  have hA : ∀ q, va_A ws H.size q → A q := by
    intro q h
    rcases h with ⟨k, e, h⟩ | h
    · exact hD.2 k (q, e) h
    · exact hF.2.2.2.2.2.2.2.2.2 q (Nat.le_trans hS.1 h)
  intro T hT X
  obtain ⟨v, st₀, t, T', L, h0, X', hL, e1, e2, ⟨⟨v', u, hv, hp, hP1, hD1⟩, hz, hk⟩, stp⟩ := hr T hT X
  cases hv
  rw [h0] at hz hk
  have hS1 : va_S A s.heap T'.heap (locs ++ L) := ⟨Nat.le_trans hS.1 (by rw [e1]; exact hz), fun q h1 h2 => by rw [e1, hk q (Nat.lt_of_lt_of_le h1 hS.1) (fun z => h2 (hA q z))]; exact hS.2.1 q h1 h2, fun q hq => by
      rcases List.mem_append.mp hq with h | h
      · exact hS.2.2 q h
      · exact hA _ (hL q h)⟩
  have hK := kk v u hp p e s m args below meth c T'.heap (locs ++ L) A ls hF (by rw [e1]; exact hP1) (hD1.weaken (fun k q _ h => hA q.1 h)) hS1 hl
  cases v with
  | none =>
    obtain ⟨t2, a1, b1⟩ := hK T' rfl X'
    exact ⟨t2, stp t2 a1, b1⟩
  | some x =>
    obtain ⟨t2, a1, b1⟩ := hK T' rfl X'
    exact ⟨t2, stp t2 a1, b1⟩
theorem g_goodin {n : Nat} (hy : kY y' cc' nL' rt' n) : GoodIn tb (Cond.code y' cc' nL' rt' :: tb) := by
  intro w hw
  rcases List.mem_cons.mp hw with rfl | h
  · exact ⟨hy.1, good_of_word (tb_all hy.1).2⟩
  · exact ⟨h, good_of_word (tb_all h).2⟩
theorem g_pre {av : List Value} {s : State} {H : Heap} {A : Nat → Prop} (hB : gB D s) (hP : va_P (D.1, D.2.1) vwCl ws H) (hD : va_D A ws) : PreS s H (gPc D av H.size ws) av :=
  ⟨fun a U g mk q => by obtain ⟨q0, q1, qP, qB, qD⟩ := q; exact ⟨q0, q1, qP, gB.same (u := U) rfl qB, qD⟩, fun U hU hW => ⟨rfl, by rw [hU], by rw [hU]; exact hP, gB.warm hW hB, hD.weaken (fun _ _ _ _ => trivial)⟩⟩
/-- an instance method (private too) of an object of the world -/
theorem g_callVA {idx n b ci N : Nat} {T : u_T} {fs As : List Value} (hm : kM y.cls idx y') (hy : kY y' cc' nL' rt' n) (hi : kI y') (hR : rm'.frames + 1 ≤ rm.frames ∧ 8 + (nL' + 11) + rm'.locals ≤ rm.locals) (hcs : cells + rm'.cells ≤ rm.cells ∧ slots + rm'.slots ≤ rm.slots) (q0 : Nat) (he : ws[q0]? = some (b, .inr (ci, fs))) (hC : vwCl[ci]? = some (y'.cls, T, N)) (hn : As.length = n) (hst : (st.map fun v => v.category).sum ≤ 8) (hd : decode cc pc = .ok (.invokevirtual idx, 3)) {st0 : List Value} (hs : st0 = As.reverse ++ .ref b :: st)
    (hM : Ctr l D y' cc' nL' rt' rm' (.ref b :: As) ws (fun v u => G l D y cc nL rt rm Q (cells + rm'.cells) (slots + rm'.slots) (pc + 3) lv (pv v st) u)) : G l D y cc nL rt rm Q cells slots pc lv st0 ws := by
  intro p e s m args below meth c H locs A ls hF hP hD hS hl
  have hpre := g_pre (av := .ref b :: As) hF.2.2.2.2.2.2.2.2.1 hP hD
  refine g_run (va_runV (As := As) (rest := st) (b := b) (C := y'.cls) (bytes := cc') (maxL := nL') (ret := rt') ⟨hF.1, hF.2.1, hF.2.2.1, hF.2.2.2.2.2.2.1, hF.2.2.2.2.2.2.2.1⟩ (hM H.size) ⟨callB_of n hF.2.2.2.2.2.2.2.1 (g_goodin hy) rfl rfl rfl (hF.2.2.2.2.2.2.2.1 _ hy.2.1) (hF.2.2.2.2.2.2.2.1 _ hm) hy.2.2.1 hR, hF.2.2.2.2.2.2.2.1 _ hi.1, hF.2.2.2.2.2.2.2.1 _ hi.2⟩ ⟨hpre.1, va_recv hF.2.2.2.2.2.2.2.2.1.1 hP hC he, hpre.2⟩ rfl hn hl.1 hs (lv_room hst) hd hcs) hF hD hS hl (fun v u h => h)
/-- a static method of any class, by a plain link -/
theorem g_callSA {idx n : Nat} {As : List Value} (hm : kM y.cls idx y') (hy : kY y' cc' nL' rt' n) (hi : kS y') (hR : rm'.frames + 1 ≤ rm.frames ∧ 8 + (nL' + 11) + rm'.locals ≤ rm.locals) (hcs : cells + rm'.cells ≤ rm.cells ∧ slots + rm'.slots ≤ rm.slots) (hn : As.length = n) (hst : (st.map fun v => v.category).sum ≤ 8) (hd : decode cc pc = .ok (.invokestatic idx, 3)) {st0 : List Value} (hs : st0 = As.reverse ++ st)
    (hM : Ctr l D y' cc' nL' rt' rm' As ws (fun v u => G l D y cc nL rt rm Q (cells + rm'.cells) (slots + rm'.slots) (pc + 3) lv (pv v st) u)) : G l D y cc nL rt rm Q cells slots pc lv st0 ws := by
  intro p e s m args below meth c H locs A ls hF hP hD hS hl
  refine g_run (va_runS (As := As) (rest := st) (bytes := cc') (maxL := nL') (ret := rt') ⟨hF.1, hF.2.1, hF.2.2.1, hF.2.2.2.2.2.2.1, hF.2.2.2.2.2.2.2.1⟩ (hM H.size) ⟨callB_of n hF.2.2.2.2.2.2.2.1 (g_goodin hy) rfl rfl rfl (hF.2.2.2.2.2.2.2.1 _ hy.2.1) (hF.2.2.2.2.2.2.2.1 _ hm) hy.2.2.1 hR, hF.2.2.2.2.2.2.2.1 _ hi⟩ (g_pre hF.2.2.2.2.2.2.2.2.1 hP hD) rfl hn hl.1 hs (lv_room hst) hd hcs) hF hD hS hl (fun v u h => h)
/-- a constructor -/
theorem g_callIA {idx n b : Nat} {As : List Value} (hm : kM y.cls idx y') (hy : kY y' cc' nL' none n) (hi : kN y') (hR : rm'.frames + 1 ≤ rm.frames ∧ 8 + (nL' + 11) + rm'.locals ≤ rm.locals) (hcs : cells + rm'.cells ≤ rm.cells ∧ slots + rm'.slots ≤ rm.slots) (hn : As.length = n) (hst : (st.map fun v => v.category).sum ≤ 8) (hd : decode cc pc = .ok (.invokespecial idx, 3)) {st0 : List Value} (hs : st0 = As.reverse ++ .ref b :: st)
    (hM : Ctr l D y' cc' nL' none rm' (.ref b :: As) ws (fun v u => G l D y cc nL rt rm Q (cells + rm'.cells) (slots + rm'.slots) (pc + 3) lv (pv v st) u)) : G l D y cc nL rt rm Q cells slots pc lv st0 ws := by
  intro p e s m args below meth c H locs A ls hF hP hD hS hl
  refine g_run (va_runI (As := As) (rest := st) (b := b) (bytes := cc') (maxL := nL') ⟨hF.1, hF.2.1, hF.2.2.1, hF.2.2.2.2.2.2.1, hF.2.2.2.2.2.2.2.1⟩ (hM H.size) ⟨callB_of n hF.2.2.2.2.2.2.2.1 (g_goodin hy) rfl rfl rfl (hF.2.2.2.2.2.2.2.1 _ hy.2.1) (hF.2.2.2.2.2.2.2.1 _ hm) hy.2.2.1 hR, hi.2, hF.2.2.2.2.2.2.2.1 _ hi.1⟩ (g_pre hF.2.2.2.2.2.2.2.2.1 hP hD) rfl hn hl.1 hs (lv_room hst) hd hcs) hF hD hS hl (fun v u h => h)
/-- a private static method of the nest's host -/
theorem g_callNA {idx n : Nat} {As : List Value} {host : String} (hm : ∀ s : State, gB D s → va_Nw (.methodLinkNest y.cls idx y' host) s) (hy : kY y' cc' nL' rt' n) (hi : kS y') (hR : rm'.frames + 1 ≤ rm.frames ∧ 8 + (nL' + 11) + rm'.locals ≤ rm.locals) (hcs : cells + rm'.cells ≤ rm.cells ∧ slots + rm'.slots ≤ rm.slots) (hn : As.length = n) (hst : (st.map fun v => v.category).sum ≤ 8) (hd : decode cc pc = .ok (.invokestatic idx, 3)) {st0 : List Value} (hs : st0 = As.reverse ++ st)
    (hM : Ctr l D y' cc' nL' rt' rm' As ws (fun v u => G l D y cc nL rt rm Q (cells + rm'.cells) (slots + rm'.slots) (pc + 3) lv (pv v st) u)) : G l D y cc nL rt rm Q cells slots pc lv st0 ws := by
  intro p e s m args below meth c H locs A ls hF hP hD hS hl
  refine g_run (va_runSN (As := As) (rest := st) (bytes := cc') (maxL := nL') (ret := rt') (host := host) ⟨hF.1, hF.2.1, hF.2.2.1, hF.2.2.2.2.2.2.1, hF.2.2.2.2.2.2.2.1⟩ (hM H.size) ⟨va_cnB n hF.2.2.2.2.2.2.2.1 (g_goodin hy) rfl rfl rfl (hm s hF.2.2.2.2.2.2.2.2.1) (hF.2.2.2.2.2.2.2.1 _ hy.2.1) hy.2.2.1 hR, hF.2.2.2.2.2.2.2.1 _ hi, trivial⟩ (g_pre hF.2.2.2.2.2.2.2.2.1 hP hD) rfl hn hl.1 hs (lv_room hst) hd hcs) hF hD hS hl (fun v u h => h)
theorem rr_ok {d : Nat} (h : nL' ≤ 29) : (rr d).frames + 1 ≤ (rr (d + 1)).frames ∧ 8 + (nL' + 11) + (rr d).locals ≤ (rr (d + 1)).locals := ⟨Nat.le_refl _, by show 8 + (nL' + 11) + 48 * d ≤ 48 * (d + 1); omega⟩
theorem g_callV {d : Nat} {idx n b ci N : Nat} {T : u_T} {fs As : List Value} (hm : kM y.cls idx y') (hy : kY y' cc' nL' rt' n) (hi : kI y') (hnl : nL' ≤ 29) (q0 : Nat) (he : ws[q0]? = some (b, .inr (ci, fs))) (hC : vwCl[ci]? = some (y'.cls, T, N)) (hn : As.length = n) (hst : (st.map fun v => v.category).sum ≤ 8) (hd : decode cc pc = .ok (.invokevirtual idx, 3)) {st0 : List Value} (hs : st0 = As.reverse ++ .ref b :: st)
    (hM : Ctr l D y' cc' nL' rt' (rr d) (.ref b :: As) ws (fun v u => G l D y cc nL rt (rr (d + 1)) Q 0 0 (pc + 3) lv (pv v st) u)) : G l D y cc nL rt (rr (d + 1)) Q 0 0 pc lv st0 ws := by
  have hcs : 0 + (rr d).cells ≤ (rr (d + 1)).cells ∧ 0 + (rr d).slots ≤ (rr (d + 1)).slots := ⟨Nat.le_refl _, Nat.le_refl _⟩
  exact g_callVA hm hy hi (rr_ok hnl) ⟨hcs.1, hcs.2⟩ q0 he hC hn hst hd hs hM
theorem g_callS {d : Nat} {idx n : Nat} {As : List Value} (hm : kM y.cls idx y') (hy : kY y' cc' nL' rt' n) (hi : kS y') (hnl : nL' ≤ 29) (hn : As.length = n) (hst : (st.map fun v => v.category).sum ≤ 8) (hd : decode cc pc = .ok (.invokestatic idx, 3)) {st0 : List Value} (hs : st0 = As.reverse ++ st)
    (hM : Ctr l D y' cc' nL' rt' (rr d) As ws (fun v u => G l D y cc nL rt (rr (d + 1)) Q 0 0 (pc + 3) lv (pv v st) u)) : G l D y cc nL rt (rr (d + 1)) Q 0 0 pc lv st0 ws := by
  have hcs : 0 + (rr d).cells ≤ (rr (d + 1)).cells ∧ 0 + (rr d).slots ≤ (rr (d + 1)).slots := ⟨Nat.le_refl _, Nat.le_refl _⟩
  exact g_callSA hm hy hi (rr_ok hnl) ⟨hcs.1, hcs.2⟩ hn hst hd hs hM
theorem g_callN {d : Nat} {idx n : Nat} {As : List Value} {host : String} (hm : ∀ s : State, gB D s → va_Nw (.methodLinkNest y.cls idx y' host) s) (hy : kY y' cc' nL' rt' n) (hi : kS y') (hnl : nL' ≤ 29) (hn : As.length = n) (hst : (st.map fun v => v.category).sum ≤ 8) (hd : decode cc pc = .ok (.invokestatic idx, 3)) {st0 : List Value} (hs : st0 = As.reverse ++ st)
    (hM : Ctr l D y' cc' nL' rt' (rr d) As ws (fun v u => G l D y cc nL rt (rr (d + 1)) Q 0 0 (pc + 3) lv (pv v st) u)) : G l D y cc nL rt (rr (d + 1)) Q 0 0 pc lv st0 ws := by
  have hcs : 0 + (rr d).cells ≤ (rr (d + 1)).cells ∧ 0 + (rr d).slots ≤ (rr (d + 1)).slots := ⟨Nat.le_refl _, Nat.le_refl _⟩
  exact g_callNA hm hy hi (rr_ok hnl) ⟨hcs.1, hcs.2⟩ hn hst hd hs hM
end ENG
