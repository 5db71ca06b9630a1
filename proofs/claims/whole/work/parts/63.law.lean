/-! THE CLAIM OUT OF ONE WALK OF THE LAW'S BODY. Your part is whole_start (and what it stands on); all else here is the same for every law, but numbers. -/
def R_law : String := "WeighedWordsLaw"
def lw_P (b : Addr) (xs : List Int32) (args : Array Value) (s : State) : Prop := args = #[.ref b] ∧ s.IntsAt b xs ∧ xs.length ≤ 320 ∧ (Jvm.Cond.and given_1 narrow_1).before args s = true
def lw_Q (_ : Array Value) (s : State) (o : Outcome) (t : State) : Prop := o = .returned (some (.int 1)) ∧ Framed s o t [] 600000 7302250
def lw_Z (below : List Frame) (a : Array Value) (s : State) : State → Prop := fun t => ∃ o, t.status = .running ∧ Ended t below o ∧ lw_Q a s o t
/-- the law's own end, with 1 on the stack, nothing written that was there before, its room as the claim has it -/
theorem lw_ret {p : Program} {l : Launch} {e : Env} {s : State} {m : MethodId} {below : List Frame} {meth : Method} {c : Code} {b : Nat} (hx : p.tables.exec = Jvm.exec) (hb : c.code = code) (hr : meth.sig.returnType = ret) (hlocks : meth.locks = false) {pc : Nat} {H : Heap} {ls : Array Slot} (hdg : decode code pc = .ok (.ireturn, 1)) : W p l e room_1 s m #[Value.ref b] below meth c H [] 600000 7302250 (lw_Z below #[Value.ref b] s) (F0 m pc ls [.int 1]) := by
  intro T hT X
  obtain ⟨fs, hret, hrun, hended, hW, hframe⟩ := X.leave (v := some (.int 1)) (hlocks := hlocks) (fun h => by rw [hr] at h; cases h)
  have hmeth' : T.vm.method? m = some meth := X.method'
  refine ⟨T.setFrames fs, ?_, .returned (some (.int 1)), hrun, hended, rfl, ⟨_, rfl⟩, hW, hframe⟩
  jvm_step X.here [X.here.top, hx, hb, hdg, hmeth', hr, ret, narrow_b1]
  (try refine ⟨rfl, ?_⟩); (try refine ⟨rfl, ?_⟩)
  first | (intro acts; rw [hret _ acts rfl rfl rfl]) | rw [hret _ _ rfl rfl rfl]
  exact Steps.refl _
/-- what holds at the law's entry: the machine, the code, the tables' words (any of lw_tbl by 'hts w (by decide +kernel)'), the script of L ints xs at the cell b, what the Statement gives of the start (any of its parts by flat_of_before) -/
def lw_At (p : Program) (s : State) (m : MethodId) (meth : Method) (c : Code) (b L : Nat) (xs : Nat → Int32) : Prop :=
  p.tables.exec = Jvm.exec ∧ c.code = code ∧ meth.sig.returnType = ret ∧ c.maxLocals = 4 ∧ s.vm.findClass R_law = some m.cls ∧ (∀ w ∈ lw_tbl, w.before #[Value.ref b] s = true) ∧ va_X b L xs s s.heap ∧ b < s.heap.size ∧ meth.locks = false ∧ (Jvm.Cond.and given_1 narrow_1).before #[Value.ref b] s = true
/-! THE LAW: a frame of the law with its context fixed -/
def GL (p : Program) (l : Launch) (e : Env) (s : State) (m : MethodId) (below : List Frame) (meth : Method) (c : Code) (D : gE) (b : Nat) (cells slots pc : Nat) (lv : List (Nat × Value)) (st : List Value) (ws : va_W) : Prop :=
  ∀ (H : Heap) (locs : List Loc) (ls : Array Slot), va_P (D.1, D.2.1) vwCl ws H → va_D (fun q => s.heap.size ≤ q) ws → va_S (fun q => s.heap.size ≤ q) s.heap H locs → lv_has ls 4 lv → W p l e room_1 s m #[Value.ref b] below meth c H locs cells slots (lw_Z below #[Value.ref b] s) (F0 m pc ls st)
abbrev CK (p : Program) (s : State) (m : MethodId) (meth : Method) (c : Code) (D : gE) (b : Nat) : Prop := gF D ⟨RL, meth.name, "([I)Z"⟩ cL_law 4 (some .boolean) p s m #[Value.ref b] meth c (fun q => s.heap.size ≤ q)
section LAW
variable {p : Program} {l : Launch} {e : Env} {s : State} {m : MethodId} {below : List Frame} {meth : Method} {c : Code} {D : gE} {b : Nat} {y' : MethodName} {cc' : ByteArray} {nL' : Nat} {rt' : Option FieldType} {rm' : Room} {Q' : Option Value → va_W → Prop} {cells slots pc : Nat} {lv lv' : List (Nat × Value)} {st : List Value} {ws ws' : va_W}

theorem lg_iconst (hF : CK p s m meth c D b) {n : Int} {v : Int32} (hd : decode cL_law pc = .ok (.iconst n, 1)) (hv : Int32.ofInt n = v) (k : GL p l e s m below meth c D b cells slots (pc + 1) lv (.int v :: st) ws) : GL p l e s m below meth c D b cells slots pc lv st ws :=
  fun H locs ls hP hD hS hl => lv_iconst hF.1 hF.2.1 hd hv (k H locs ls hP hD hS hl)
theorem lg_bipush (hF : CK p s m meth c D b) {n : Int} {v : Int32} (hd : decode cL_law pc = .ok (.bipush n, 2)) (hv : (Int8.ofInt n).toInt32 = v) (k : GL p l e s m below meth c D b cells slots (pc + 2) lv (.int v :: st) ws) : GL p l e s m below meth c D b cells slots pc lv st ws :=
  fun H locs ls hP hD hS hl => lv_bipush hF.1 hF.2.1 hd hv (k H locs ls hP hD hS hl)
theorem lg_iload_n (hF : CK p s m meth c D b) {f : Fin 4} {i : Nat} {x : Int32} (hd : decode cL_law pc = .ok (.iload_n f, 1)) (hi : (f : Nat) = i) (q : Nat) (hq : lv[q]? = some (i, .int x)) (k : GL p l e s m below meth c D b cells slots (pc + 1) lv (.int x :: st) ws) : GL p l e s m below meth c D b cells slots pc lv st ws :=
  fun H locs ls hP hD hS hl => lv_iload_n hF.1 hF.2.1 hd hi (lv_at hl q hq) (k H locs ls hP hD hS hl)
theorem lg_aload_n (hF : CK p s m meth c D b) {f : Fin 4} {i : Nat} {x : Nat} (hd : decode cL_law pc = .ok (.aload_n f, 1)) (hi : (f : Nat) = i) (q : Nat) (hq : lv[q]? = some (i, .ref x)) (k : GL p l e s m below meth c D b cells slots (pc + 1) lv (.ref x :: st) ws) : GL p l e s m below meth c D b cells slots pc lv st ws :=
  fun H locs ls hP hD hS hl => lv_aload_n hF.1 hF.2.1 hd hi (lv_at hl q hq) (k H locs ls hP hD hS hl)
theorem lg_istore_n (hF : CK p s m meth c D b) {f : Fin 4} {i : Nat} {x : Int32} (hd : decode cL_law pc = .ok (.istore_n f, 1)) (hi : (f : Nat) = i) (hn : i < 4) (hq : (i, Value.int x) :: lv.filter (fun q => !(q.1 == i) && !(q.1 + 1 == i && q.2.category == 2)) = lv') (k : GL p l e s m below meth c D b cells slots (pc + 1) lv' st ws) : GL p l e s m below meth c D b cells slots pc lv (.int x :: st) ws :=
  fun H locs ls hP hD hS hl => lv_istore_n hF.1 hF.2.1 hd hi hl hn hq (fun ls hl => k H locs ls hP hD hS hl)
theorem lg_astore_n (hF : CK p s m meth c D b) {f : Fin 4} {i : Nat} {x : Nat} (hd : decode cL_law pc = .ok (.astore_n f, 1)) (hi : (f : Nat) = i) (hn : i < 4) (hq : (i, Value.ref x) :: lv.filter (fun q => !(q.1 == i) && !(q.1 + 1 == i && q.2.category == 2)) = lv') (k : GL p l e s m below meth c D b cells slots (pc + 1) lv' st ws) : GL p l e s m below meth c D b cells slots pc lv (.ref x :: st) ws :=
  fun H locs ls hP hD hS hl => lv_astore_n hF.1 hF.2.1 hd hi hl hn hq (fun ls hl => k H locs ls hP hD hS hl)
theorem lg_iinc (hF : CK p s m meth c D b) {i : Nat} {n : Int} {x v : Int32} (hd : decode cL_law pc = .ok (.iinc i n, 3)) (q : Nat) (hq0 : lv[q]? = some (i, .int x)) (hv : x + Int32.ofInt n = v) (hn : i < 4) (hq : (i, Value.int v) :: lv.filter (fun q => !(q.1 == i) && !(q.1 + 1 == i && q.2.category == 2)) = lv') (k : GL p l e s m below meth c D b cells slots (pc + 3) lv' st ws) : GL p l e s m below meth c D b cells slots pc lv st ws :=
  fun H locs ls hP hD hS hl => lv_iinc hF.1 hF.2.1 hd hl hq0 hv hn hq (fun ls hl => k H locs ls hP hD hS hl)
theorem lg_iadd (hF : CK p s m meth c D b) {x z : Int32} (hd : decode cL_law pc = .ok (.iadd, 1)) (k : GL p l e s m below meth c D b cells slots (pc + 1) lv (.int (x + z) :: st) ws) : GL p l e s m below meth c D b cells slots pc lv (.int z :: .int x :: st) ws :=
  fun H locs ls hP hD hS hl => lv_iadd hF.1 hF.2.1 hd (k H locs ls hP hD hS hl)
theorem lg_isub (hF : CK p s m meth c D b) {x z : Int32} (hd : decode cL_law pc = .ok (.isub, 1)) (k : GL p l e s m below meth c D b cells slots (pc + 1) lv (.int (x - z) :: st) ws) : GL p l e s m below meth c D b cells slots pc lv (.int z :: .int x :: st) ws :=
  fun H locs ls hP hD hS hl => lv_isub hF.1 hF.2.1 hd (k H locs ls hP hD hS hl)
theorem lg_iand (hF : CK p s m meth c D b) {x z : Int32} (hd : decode cL_law pc = .ok (.iand, 1)) (k : GL p l e s m below meth c D b cells slots (pc + 1) lv (.int (x &&& z) :: st) ws) : GL p l e s m below meth c D b cells slots pc lv (.int z :: .int x :: st) ws :=
  fun H locs ls hP hD hS hl => lv_iand hF.1 hF.2.1 hd (k H locs ls hP hD hS hl)
theorem lg_lcmp (hF : CK p s m meth c D b) {x z : Int64} (hd : decode cL_law pc = .ok (.lcmp, 1)) (k : GL p l e s m below meth c D b cells slots (pc + 1) lv (.int (lg_cmp x z) :: st) ws) : GL p l e s m below meth c D b cells slots pc lv (.long z :: .long x :: st) ws :=
  fun H locs ls hP hD hS hl => W.lcmp hF.1 hF.2.1 hd (k H locs ls hP hD hS hl)
theorem lg_dup (hF : CK p s m meth c D b) {v : Value} (hd : decode cL_law pc = .ok (.dup, 1)) (hc : v.category = 1) (k : GL p l e s m below meth c D b cells slots (pc + 1) lv (v :: v :: st) ws) : GL p l e s m below meth c D b cells slots pc lv (v :: st) ws :=
  fun H locs ls hP hD hS hl => lv_dup hF.1 hF.2.1 hd hc (k H locs ls hP hD hS hl)
theorem lg_icmpeq (hF : CK p s m meth c D b) {x z : Int32} {off : Int} (tgt : Nat) (hd : decode cL_law pc = .ok (.if_icmp .eq off, 3)) (ht : (pc : Int) + off = (tgt : Int)) (kt : x = z → GL p l e s m below meth c D b cells slots tgt lv st ws) (kf : ¬ x = z → GL p l e s m below meth c D b cells slots (pc + 3) lv st ws) : GL p l e s m below meth c D b cells slots pc lv (.int z :: .int x :: st) ws :=
  fun H locs ls hP hD hS hl => lv_icmp_eq hF.1 hF.2.1 hd ht (fun h => (kt h) H locs ls hP hD hS hl) (fun h => ((fun h => kf h) h) H locs ls hP hD hS hl)
theorem lg_icmpgt (hF : CK p s m meth c D b) {x z : Int32} {off : Int} (tgt : Nat) (hd : decode cL_law pc = .ok (.if_icmp .gt off, 3)) (ht : (pc : Int) + off = (tgt : Int)) (kt : z < x → GL p l e s m below meth c D b cells slots tgt lv st ws) (kf : ¬ z < x → GL p l e s m below meth c D b cells slots (pc + 3) lv st ws) : GL p l e s m below meth c D b cells slots pc lv (.int z :: .int x :: st) ws :=
  fun H locs ls hP hD hS hl => lv_icmp_gt hF.1 hF.2.1 hd ht (fun h => (kt h) H locs ls hP hD hS hl) (fun h => ((fun h => kf h) h) H locs ls hP hD hS hl)
theorem lg_goto (hF : CK p s m meth c D b) {off : Int} (tgt : Nat) (hd : decode cL_law pc = .ok (.goto off, 3)) (ht : (pc : Int) + off = (tgt : Int)) (k : GL p l e s m below meth c D b cells slots tgt lv st ws) : GL p l e s m below meth c D b cells slots pc lv st ws :=
  fun H locs ls hP hD hS hl => lv_goto hF.1 hF.2.1 hd ht (k H locs ls hP hD hS hl)
theorem lg_ifeq (hF : CK p s m meth c D b) {x : Int32} {off : Int} (tgt : Nat) (hd : decode cL_law pc = .ok (.ifCond .eq off, 3)) (ht : (pc : Int) + off = (tgt : Int)) (kt : x = 0 → GL p l e s m below meth c D b cells slots tgt lv st ws) (kf : ¬ x = 0 → GL p l e s m below meth c D b cells slots (pc + 3) lv st ws) : GL p l e s m below meth c D b cells slots pc lv (.int x :: st) ws :=
  fun H locs ls hP hD hS hl => lv_if_eq hF.1 hF.2.1 hd ht (fun h => (kt h) H locs ls hP hD hS hl) (fun h => ((fun h => kf h) h) H locs ls hP hD hS hl)
theorem lg_tableOut (hF : CK p s m meth c D b) {dflt lo hi : Int} {offs : Array Int} {len : Nat} {x : Int32} (tgt : Nat) (hd : decode cL_law pc = .ok (.tableswitch dflt lo hi offs, len)) (h : x.toInt < lo ∨ hi < x.toInt) (ht : (pc : Int) + dflt = (tgt : Int)) (k : GL p l e s m below meth c D b cells slots tgt lv st ws) : GL p l e s m below meth c D b cells slots pc lv (.int x :: st) ws :=
  fun H locs ls hP hD hS hl => lv_tableOut hF.1 hF.2.1 hd h ht (k H locs ls hP hD hS hl)
theorem lg_tableIn (hF : CK p s m meth c D b) {dflt lo hi : Int} {offs : Array Int} {len : Nat} {x : Int32} {off : Int} (tgt : Nat) (hd : decode cL_law pc = .ok (.tableswitch dflt lo hi offs, len)) (h1 : ¬ x.toInt < lo) (h2 : ¬ hi < x.toInt) (ho : offs[(x.toInt - lo).toNat]? = some off) (ht : (pc : Int) + off = (tgt : Int)) (k : GL p l e s m below meth c D b cells slots tgt lv st ws) : GL p l e s m below meth c D b cells slots pc lv (.int x :: st) ws :=
  fun H locs ls hP hD hS hl => lv_tableIn hF.1 hF.2.1 hd h1 h2 ho ht (k H locs ls hP hD hS hl)
theorem lg_new (hF : CK p s m meth c D b) {C : String} {T : u_T} {N ci idx : Nat} {ty : Nat → FieldType} (fs : List Value) (hk : Cond.classLink RL idx C ∈ tb) (hC : kC ci C T N) (hT : kT T N ty) (hi : Cond.instantiable C N ∈ tb ∧ Cond.initialized C ∈ tb) (hfs : ∀ j, j < N → defaultValue (ty j) = vp_V fs j) (hc : cells + 1 ≤ room_1.cells) (hs : slots + N ≤ room_1.slots) (hd : decode cL_law pc = .ok (.new idx, 3)) (kk : ∀ q : Nat, GL p l e s m below meth c D b (cells + 1) (slots + N) (pc + 3) lv (.ref q :: st) (ws ++ [(q, .inr (ci, fs))])) : GL p l e s m below meth c D b cells slots pc lv st ws :=
  fun H locs ls hP hD hS hl => va_new hF.1 hF.2.1 hF.2.2.2.2.2.2.2.1 hC.2.1 ty hT.1 hF.2.2.2.2.2.2.1 (hF.2.2.2.2.2.2.2.1 _ hk) (hF.2.2.2.2.2.2.2.1 _ hi.1) (hF.2.2.2.2.2.2.2.1 _ hi.2) hF.2.2.2.2.2.2.2.2.1.1 hP hD hS hF.2.2.2.2.2.2.2.2.2 hC.1 hfs hc hs hd (fun q H1 hP1 hD1 hS1 => kk q H1 locs ls hP1 hD1 hS1 hl)
theorem lg_run (hF : CK p s m meth c D b) {H : Heap} {locs : List Loc} {ls : Array Slot} {mc ms : Nat} {st0 : List Value} {a : Array Value}
    (hr : va_Run p l e room_1 s m #[Value.ref b] below meth c H locs cells slots mc ms (F0 m pc ls st0) st (gQc D Q' (va_A ws H.size) a) (va_A ws H.size)) (hD : va_D (fun q => s.heap.size ≤ q) ws) (hS : va_S (fun q => s.heap.size ≤ q) s.heap H locs) (hl : lv_has ls 4 lv)
    (kk : ∀ v u, Q' v u → GL p l e s m below meth c D b (cells + mc) (slots + ms) (pc + 3) lv (pv v st) u) : W p l e room_1 s m #[Value.ref b] below meth c H locs cells slots (lw_Z below #[Value.ref b] s) (F0 m pc ls st0) := by
  have hA : ∀ q, va_A ws H.size q → s.heap.size ≤ q := by
    intro q h
    rcases h with ⟨k, e, h⟩ | h
    · exact hD.2 k (q, e) h
    · exact hF.2.2.2.2.2.2.2.2.2 q (Nat.le_trans hS.1 h)
  intro T hT X
  obtain ⟨v, st₀, t, T', L, h0, X', hL, e1, e2, ⟨⟨v', u, hv, hp, hP1, hD1⟩, hz, hk⟩, stp⟩ := hr T hT X
  cases hv
  rw [h0] at hz hk
  have hS1 : va_S (fun q => s.heap.size ≤ q) s.heap T'.heap (locs ++ L) := ⟨Nat.le_trans hS.1 (by rw [e1]; exact hz), fun q h1 h2 => by rw [e1, hk q (Nat.lt_of_lt_of_le h1 hS.1) (fun z => h2 (hA q z))]; exact hS.2.1 q h1 h2, fun q hq => by
      rcases List.mem_append.mp hq with h | h
      · exact hS.2.2 q h
      · exact hA _ (hL q h)⟩
  have hK := kk v u hp T'.heap (locs ++ L) ls (by rw [e1]; exact hP1) (hD1.weaken (fun k q _ h => hA q.1 h)) hS1 hl
  cases v with
  | none =>
    obtain ⟨t2, a1, b1⟩ := hK T' rfl X'
    exact ⟨t2, stp t2 a1, b1⟩
  | some x =>
    obtain ⟨t2, a1, b1⟩ := hK T' rfl X'
    exact ⟨t2, stp t2 a1, b1⟩
theorem lg_callVA (hF : CK p s m meth c D b) {idx n ob ci N : Nat} {T : u_T} {fs As : List Value} (hm : kM RL idx y') (hy : kY y' cc' nL' rt' n) (hi : kI y') (hR : rm'.frames + 1 ≤ room_1.frames ∧ 8 + (nL' + 11) + rm'.locals ≤ room_1.locals) (hcs : cells + rm'.cells ≤ room_1.cells ∧ slots + rm'.slots ≤ room_1.slots) (q0 : Nat) (he : ws[q0]? = some (ob, .inr (ci, fs))) (hC : vwCl[ci]? = some (y'.cls, T, N)) (hn : As.length = n) (hst : (st.map fun v => v.category).sum ≤ 8) (hd : decode cL_law pc = .ok (.invokevirtual idx, 3)) {st0 : List Value} (hs : st0 = As.reverse ++ .ref ob :: st)
    (hM : Ctr l D y' cc' nL' rt' rm' (.ref ob :: As) ws (fun v u => GL p l e s m below meth c D b (cells + rm'.cells) (slots + rm'.slots) (pc + 3) lv (pv v st) u)) : GL p l e s m below meth c D b cells slots pc lv st0 ws := by
  intro H locs ls hP hD hS hl
  have hpre := g_pre (av := .ref ob :: As) hF.2.2.2.2.2.2.2.2.1 hP hD
  refine lg_run hF (va_runV (As := As) (rest := st) (b := ob) (C := y'.cls) (bytes := cc') (maxL := nL') (ret := rt') ⟨hF.1, hF.2.1, hF.2.2.1, hF.2.2.2.2.2.2.1, hF.2.2.2.2.2.2.2.1⟩ (hM H.size) ⟨callB_of n hF.2.2.2.2.2.2.2.1 (g_goodin hy) rfl rfl rfl (hF.2.2.2.2.2.2.2.1 _ hy.2.1) (hF.2.2.2.2.2.2.2.1 _ hm) hy.2.2.1 hR, hF.2.2.2.2.2.2.2.1 _ hi.1, hF.2.2.2.2.2.2.2.1 _ hi.2⟩ ⟨hpre.1, va_recv hF.2.2.2.2.2.2.2.2.1.1 hP hC he, hpre.2⟩ rfl hn hl.1 hs (lv_room hst) hd hcs) hD hS hl (fun v u h => h)
theorem lg_callIA (hF : CK p s m meth c D b) {idx n ob : Nat} {As : List Value} (hm : kM RL idx y') (hy : kY y' cc' nL' none n) (hi : kN y') (hR : rm'.frames + 1 ≤ room_1.frames ∧ 8 + (nL' + 11) + rm'.locals ≤ room_1.locals) (hcs : cells + rm'.cells ≤ room_1.cells ∧ slots + rm'.slots ≤ room_1.slots) (hn : As.length = n) (hst : (st.map fun v => v.category).sum ≤ 8) (hd : decode cL_law pc = .ok (.invokespecial idx, 3)) {st0 : List Value} (hs : st0 = As.reverse ++ .ref ob :: st)
    (hM : Ctr l D y' cc' nL' none rm' (.ref ob :: As) ws (fun v u => GL p l e s m below meth c D b (cells + rm'.cells) (slots + rm'.slots) (pc + 3) lv (pv v st) u)) : GL p l e s m below meth c D b cells slots pc lv st0 ws := by
  intro H locs ls hP hD hS hl
  refine lg_run hF (va_runI (As := As) (rest := st) (b := ob) (bytes := cc') (maxL := nL') ⟨hF.1, hF.2.1, hF.2.2.1, hF.2.2.2.2.2.2.1, hF.2.2.2.2.2.2.2.1⟩ (hM H.size) ⟨callB_of n hF.2.2.2.2.2.2.2.1 (g_goodin hy) rfl rfl rfl (hF.2.2.2.2.2.2.2.1 _ hy.2.1) (hF.2.2.2.2.2.2.2.1 _ hm) hy.2.2.1 hR, hi.2, hF.2.2.2.2.2.2.2.1 _ hi.1⟩ (g_pre hF.2.2.2.2.2.2.2.2.1 hP hD) rfl hn hl.1 hs (lv_room hst) hd hcs) hD hS hl (fun v u h => h)
theorem lg_ws (h : ws = ws') (k : GL p l e s m below meth c D b cells slots pc lv st ws') : GL p l e s m below meth c D b cells slots pc lv st ws := h ▸ k
theorem lg_tope {x z : Int32} (h : x = z) (k : GL p l e s m below meth c D b cells slots pc lv (.int z :: st) ws) : GL p l e s m below meth c D b cells slots pc lv (.int x :: st) ws := h ▸ k
theorem lg_pick (ks : List Nat) (h : lv_pick lv ks = lv') (k : GL p l e s m below meth c D b cells slots pc lv' st ws) : GL p l e s m below meth c D b cells slots pc lv st ws := fun H locs ls hP hD hS hl => k H locs ls hP hD hS (lv_sub hl ks h)
theorem lg_widen {k n : Nat} (h1 : cells ≤ k) (h2 : slots ≤ n) (kk : GL p l e s m below meth c D b k n pc lv st ws) : GL p l e s m below meth c D b cells slots pc lv st ws := fun H locs ls hP hD hS hl => W.widen h1 h2 (kk H locs ls hP hD hS hl)
theorem lg_sld (hF : CK p s m meth c D b) {N : Nat} {xs : Nat → Int32} (hX : va_X b N xs s s.heap) (hbl : b < s.heap.size) {i : Nat} (hi : i < N) (hN : N ≤ 320) (hd : decode cL_law pc = .ok (.iaload, 1)) (k : GL p l e s m below meth c D b cells slots (pc + 1) lv (.int (xs i) :: st) ws) : GL p l e s m below meth c D b cells slots pc lv (.int (nI i) :: .ref b :: st) ws := by
  intro H locs ls hP hD hS hl
  refine va_sld hF.1 hF.2.1 hX hbl (by show ¬ s.heap.size ≤ b; omega) hS (vp_in_nI hi (by omega)) hd ?_
  rw [nI_clamp (by omega)]
  exact k H locs ls hP hD hS hl
theorem lg_slen (hF : CK p s m meth c D b) {N : Nat} {xs : Nat → Int32} (hX : va_X b N xs s s.heap) (hbl : b < s.heap.size) (hd : decode cL_law pc = .ok (.arraylength, 1)) (k : GL p l e s m below meth c D b cells slots (pc + 1) lv (.int (nI N) :: st) ws) : GL p l e s m below meth c D b cells slots pc lv (.ref b :: st) ws :=
  fun H locs ls hP hD hS hl => va_slen hF.1 hF.2.1 hX hbl (by show ¬ s.heap.size ≤ b; omega) hS hd (k H locs ls hP hD hS hl)
/-- the script's cell i + k -/
theorem lg_arg (hF : CK p s m meth c D b) {N : Nat} {xs : Nat → Int32} (hX : va_X b N xs s s.heap) (hbl : b < s.heap.size) (hN : N ≤ 320) {i : Nat} {kz : Int} {u w : Nat} (k : Nat) (hk : Int32.ofInt kz = nI k) (hi : i + k < N) (h0 : decode cL_law pc = .ok (.aload_n 0, 1)) (h1 : decode cL_law (pc + 1) = .ok (.iload_n 3, 1)) (h2 : decode cL_law (pc + 2) = .ok (.iconst kz, 1)) (h3 : decode cL_law (pc + 3) = .ok (.iadd, 1)) (h4 : decode cL_law (pc + 4) = .ok (.iaload, 1)) (kk : GL p l e s m below meth c D b cells slots (pc + 5) [(3, .int (nI i)), (0, .ref b), (1, .ref u), (2, .ref w)] (.int (xs (i + k)) :: st) ws) : GL p l e s m below meth c D b cells slots pc [(3, .int (nI i)), (0, .ref b), (1, .ref u), (2, .ref w)] st ws := by
  refine lg_aload_n hF h0 rfl 1 rfl ?_
  refine lg_iload_n hF h1 rfl 0 rfl ?_
  refine lg_iconst hF h2 hk ?_
  refine lg_iadd hF h3 ?_
  refine lg_tope (z := nI (i + k)) (nI_add i k) ?_
  exact lg_sld hF hX hbl hi hN h4 kk
/-- a call of an instance method, with or without new cells -/
theorem lg_call (hF : CK p s m meth c D b) {idx n q ci M nc ns : Nat} {T : u_T} {fs As : List Value} (hm : kM RL idx y') (hy : kY y' cc' nL' rt' n) (hi : kI y') (hl29 : nL' ≤ 29) (hcs : cells + nc ≤ 600000 ∧ slots + ns ≤ 7302250) (q0 : Nat) (he : ws[q0]? = some (q, .inr (ci, fs))) (hC : vwCl[ci]? = some (y'.cls, T, M)) (hn : As.length = n) (hst : (st.map fun v => v.category).sum ≤ 8) (hd : decode cL_law pc = .ok (.invokevirtual idx, 3)) {st0 : List Value} (hs : st0 = As.reverse ++ .ref q :: st)
    (hM : Ctr l D y' cc' nL' rt' (rk 20 nc ns) (.ref q :: As) ws (fun v u => GL p l e s m below meth c D b (cells + nc) (slots + ns) (pc + 3) lv (pv v st) u)) : GL p l e s m below meth c D b cells slots pc lv st0 ws :=
  lg_callVA hF (rm' := rk 20 nc ns) hm hy hi ⟨show 20 + 1 ≤ 2048 by decide, show 8 + (nL' + 11) + 48 * 20 ≤ 84000 by omega⟩ hcs q0 he hC hn hst hd hs hM
theorem lg_ret (hF : CK p s m meth c D b) (hc : cells ≤ 600000) (hs : slots ≤ 7302250) (hd : decode cL_law pc = .ok (.ireturn, 1)) : GL p l e s m below meth c D b cells slots pc lv [.int (nI 1)] ws :=
  fun H locs ls hP hD hS hl => va_forget (fun q hq => hS.2.2 q hq) (W.widen hc hs (lw_ret hF.1 hF.2.1 hF.2.2.2.1 hF.2.2.2.2.1 hd))
end LAW
