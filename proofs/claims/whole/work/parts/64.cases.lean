/-! THE LAW'S INVARIANT: the reference holds the town X, the signs sg (n of them), the images M; the class Z, s2, M2 -/
theorem rpM_gen {x y : St} {X : XT} (hA : ∀ j, 1 ≤ j → j ≤ 11 → sA y (33 + j) = sA x (33 + j)) (hI : sI y 33 = sI x 33) (hX : rpM x X) : rpM y X := by
  obtain ⟨h0, h1, h2, h3, h4, h5, a1, a2, a3, a4, a5, a6, a7, a8, a9, a10, a11⟩ := hX
  exact ⟨(congrFun hI _).trans h0, (congrFun hI _).trans h1, (congrFun hI _).trans h2, (congrFun hI _).trans h3, (congrFun hI _).trans h4, (congrFun hI _).trans h5, fun i hi => (congrFun (hA 1 (by decide) (by decide)) i).trans (a1 i hi), fun i hi => (congrFun (hA 2 (by decide) (by decide)) i).trans (a2 i hi), fun i hi => (congrFun (hA 3 (by decide) (by decide)) i).trans (a3 i hi), fun i hi => (congrFun (hA 4 (by decide) (by decide)) i).trans (a4 i hi), fun i hi => (congrFun (hA 5 (by decide) (by decide)) i).trans (a5 i hi), fun i hi => (congrFun (hA 6 (by decide) (by decide)) i).trans (a6 i hi), fun i hi ht => (congrFun (hA 7 (by decide) (by decide)) i).trans (a7 i hi ht), fun i hi => (congrFun (hA 8 (by decide) (by decide)) i).trans (a8 i hi), fun i hi => (congrFun (hA 9 (by decide) (by decide)) i).trans (a9 i hi), fun i hi => (congrFun (hA 10 (by decide) (by decide)) i).trans (a10 i hi), fun i hi => (congrFun (hA 11 (by decide) (by decide)) i).trans (a11 i hi)⟩
theorem padC_gen {x y : St} {s : Nat → Nat} {n : Nat} (hA : sA y 27 = sA x 27) (hI : sI y 26 = sI x 26) (h : padC x s n) : padC y s n := ⟨by rw [hI]; exact h.1, h.2.1, fun i hi => by rw [hA]; exact h.2.2.1 i hi, h.2.2.2⟩
theorem pdM_gen {x y : St} {s : Nat → Nat} {n : Nat} (hA : sA y 45 = sA x 45) (hI : sI y 33 18 = sI x 33 18) (h : pdM x s n) : pdM y s n := ⟨by rw [hI]; exact h.1, h.2.1, fun i hi => by rw [hA]; exact h.2.2.1 i hi, h.2.2.2⟩
theorem imM_gen {x y : St} {M : Nat → Option XT} (h0 : sA y 60 = sA x 60) (h1 : sA y 61 = sA x 61) (h : imM x M) : imM y M := fun n hn => by rw [h0, h1]; exact h n hn
def HV (σ : St) (X : XT) (sg : Nat → Nat) (n : Nat) (M : Nat → Option XT) (Z : XT) (s2 : Nat → Nat) (n2 : Nat) (M2 : Nat → Option XT) : Prop := rpM σ X ∧ pdM σ sg n ∧ imM σ M ∧ rzT σ 0 Z ∧ padC σ s2 n2 ∧ imC σ M2
def IV (σ : St) (X : XT) (sg : Nat → Nat) (n : Nat) (M : Nat → Option XT) : Prop := HV σ X sg n M X sg n M ∧ okX X ∧ ∀ k Y, M k = some Y → okX Y
section INV
variable {σ τ : St} {X X' Z Z' : XT} {sg s2 s' : Nat → Nat} {n n2 n' : Nat} {M M' M2 M2' : Nat → Option XT}
theorem hv_c (h : HV σ X sg n M Z s2 n2 M2) (f : fc σ τ) (hz : rzT τ 0 Z') : HV τ X sg n M Z' s2 n2 M2 := ⟨rpM_gen (fun j _ _ => f.1 _ (by omega) (by omega)) (f.2.1 _ (by omega) (by omega)) h.1, pdM_gen (f.1 _ (by omega) (by omega)) (congrFun (f.2.1 33 (by omega) (by omega)) 18) h.2.1, imM_gen (f.1 _ (by omega) (by omega)) (f.1 _ (by omega) (by omega)) h.2.2.1, hz, padC_gen (f.1 _ (by omega) (by omega)) (f.2.1 _ (by omega) (by omega)) h.2.2.2.2.1, imC_keep h.2.2.2.2.2 (fun q _ => f.1 q (by omega) (by omega)) (fun q _ => f.2.1 q (by omega) (by omega)) f.2.2.1 f.2.2.2⟩
theorem hv_cQ (h : HV σ X sg n M Z s2 n2 M2) (f : fcQ σ τ) (hz : rzT τ 0 Z') (hp : padC τ s' n') : HV τ X sg n M Z' s' n' M2 := ⟨rpM_gen (fun j _ _ => f.1 _ (by omega) (by omega)) (f.2.1 _ (by omega) (by omega) (by omega)) h.1, pdM_gen (f.1 _ (by omega) (by omega)) (congrFun (f.2.1 33 (by omega) (by omega) (by omega)) 18) h.2.1, imM_gen (f.1 _ (by omega) (by omega)) (f.1 _ (by omega) (by omega)) h.2.2.1, hz, hp, imC_keep h.2.2.2.2.2 (fun q _ => f.1 q (by omega) (by omega)) (fun q _ => f.2.1 q (by omega) (by omega) (by omega)) f.2.2.1 f.2.2.2⟩
theorem hv_cP (h : HV σ X sg n M Z s2 n2 M2) (f : fcP σ τ) (hp : padC τ s' n') : HV τ X sg n M Z s' n' M2 := ⟨rpM_gen (fun j _ _ => f.1 _ (by omega)) (f.2.1 _ (by omega)) h.1, pdM_gen (f.1 _ (by omega)) (congrFun (f.2.1 33 (by omega)) 18) h.2.1, imM_gen (f.1 _ (by omega)) (f.1 _ (by omega)) h.2.2.1, rz_gen (fun j _ _ => f.1 _ (by omega)) (f.2.1 _ (by omega)) h.2.2.2.1, hp, imC_keep h.2.2.2.2.2 (fun q _ => f.1 q (by omega)) (fun q _ => f.2.1 q (by omega)) f.2.2.1 f.2.2.2⟩
theorem hv_cI (h : HV σ X sg n M Z s2 n2 M2) (f : fcI σ τ) (hz : rzT τ 0 Z') (hm : imC τ M2') : HV τ X sg n M Z' s2 n2 M2' := ⟨rpM_gen (fun j _ _ => f.1 _ (by omega)) (f.2 _ (by omega)) h.1, pdM_gen (f.1 _ (by omega)) (congrFun (f.2 33 (by omega)) 18) h.2.1, imM_gen (f.1 _ (by omega)) (f.1 _ (by omega)) h.2.2.1, hz, padC_gen (f.1 _ (by omega)) (f.2 _ (by omega)) h.2.2.2.2.1, hm⟩
theorem hv_r (h : HV σ X sg n M Z s2 n2 M2) (f : fr σ τ) (hr : rpM τ X') : HV τ X' sg n M Z s2 n2 M2 := ⟨hr, pdM_gen (f.2.1 _ (by omega)) f.2.2.1 h.2.1, imM_gen (f.2.1 _ (by omega)) (f.2.1 _ (by omega)) h.2.2.1, rz_gen (fun j _ _ => f.2.1 _ (by omega)) (f.1 _ (by omega)) h.2.2.2.1, padC_gen (f.2.1 _ (by omega)) (f.1 _ (by omega)) h.2.2.2.2.1, imC_keep h.2.2.2.2.2 (fun q _ => f.2.1 q (by omega)) (fun q _ => f.1 q (by omega)) f.2.2.2.1 f.2.2.2.2⟩
theorem hv_rP (h : HV σ X sg n M Z s2 n2 M2) (f : frP σ τ) (hr : rpM τ X') (hp : pdM τ s' n') : HV τ X' s' n' M Z s2 n2 M2 := ⟨hr, hp, imM_gen (f.2.1 _ (by omega)) (f.2.1 _ (by omega)) h.2.2.1, rz_gen (fun j _ _ => f.2.1 _ (by omega)) (f.1 _ (by omega)) h.2.2.2.1, padC_gen (f.2.1 _ (by omega)) (f.1 _ (by omega)) h.2.2.2.2.1, imC_keep h.2.2.2.2.2 (fun q _ => f.2.1 q (by omega)) (fun q _ => f.1 q (by omega)) f.2.2.1 f.2.2.2⟩
theorem hv_rI (h : HV σ X sg n M Z s2 n2 M2) (f : frI σ τ) (hr : rpM τ X') (hm : imM τ M') : HV τ X' sg n M' Z s2 n2 M2 := ⟨hr, pdM_gen f.2.2.2.1 f.2.2.2.2.1 h.2.1, hm, rz_gen (fun j _ _ => f.2.1 _ (by omega)) (f.1 _ (by omega)) h.2.2.2.1, padC_gen (f.2.1 _ (by omega)) (f.1 _ (by omega)) h.2.2.2.2.1, imC_keep h.2.2.2.2.2 (fun q _ => f.2.2.1 q (by omega)) (fun q _ => f.1 q (by omega)) f.2.2.2.2.2.1 f.2.2.2.2.2.2⟩
end INV
theorem lg_cmp_self (x : Int64) : lg_cmp x x = 0 := by
  unfold lg_cmp
  rw [if_neg (by intro h; exact absurd h (Int64.lt_irrefl)), if_pos rfl]
/-- what the rest of a round does -/
def NX (p : Program) (l : Launch) (e : Env) (s : State) (m : MethodId) (below : List Frame) (meth : Method) (c : Code) (D : gE) (b i : Nat) : Prop := ∀ (cells slots : Nat) (L : Nat → Nat) (σ : St) (X : XT) (sg : Nat → Nat) (n : Nat) (M : Nat → Option XT), cells ≤ 112 + 12 * i → slots ≤ 2095 + 95 * i → IV σ X sg n M → GL p l e s m below meth c D b cells slots 1317 [(3, .int (nI i)), (0, .ref b), (1, .ref (L 24)), (2, .ref (L 33))] [] (wsOf D L σ)
set_option maxHeartbeats 4000000 in
set_option maxRecDepth 20000 in
theorem law_c0 {p : Program} {l : Launch} {e : Env} {s : State} {m : MethodId} {below : List Frame} {meth : Method} {c : Code} {D : gE} {b N i : Nat} {xs : Nat → Int32} (hF : CK p s m meth c D b) (hX : va_X b N xs s s.heap) (hbl : b < s.heap.size) (hN : N ≤ 320) (hi : i + 5 ≤ N) (nx : NX p l e s m below meth c D b i) {L : Nat → Nat} {σ : St} {X : XT} {sg : Nat → Nat} {n : Nat} {M : Nat → Option XT} (h : IV σ X sg n M) : GL p l e s m below meth c D b (100 + 12 * i) (2000 + 95 * i) 192 [(3, .int (nI i)), (0, .ref b), (1, .ref (L 24)), (2, .ref (L 33))] [] (wsOf D L σ) := by
  obtain ⟨hh, ho, hM⟩ := h
  refine lg_aload_n hF dL_law_192 rfl 2 rfl ?_
  refine lg_arg hF hX hbl hN 1 ci_1 (by omega) dL_law_193 dL_law_194 dL_law_195 dL_law_196 dL_law_197 ?_
  refine lg_call hF (nc := 0) (ns := 0) (As := [.int (xs (i + 1))]) km_L_13 ky_X4_terraces ki_X4_terraces (by decide) ⟨by omega, by omega⟩ 24 at_24 kC_X4.1 rfl (Nat.le_of_ble_eq_true rfl) dL_law_198 rfl (c_X4_terraces (d := 18) hh.2.2.2.1 ho (fun σ1 hf1 hz1 => ?_))
  have h1 := hv_c hh hf1 hz1
  refine lg_aload_n hF dL_law_201 rfl 3 rfl ?_
  refine lg_arg hF hX hbl hN 1 ci_1 (by omega) dL_law_202 dL_law_203 dL_law_204 dL_law_205 dL_law_206 ?_
  refine lg_call hF (nc := 0) (ns := 0) (As := [.int (xs (i + 1))]) km_L_17 ky_X5_terraces ki_X5_terraces (by decide) ⟨by omega, by omega⟩ 33 at_33 kC_X5.1 rfl (Nat.le_of_ble_eq_true rfl) dL_law_207 rfl (c_X5_terraces (d := 19) h1.1 (fun σ2 hf2 hr2 => ?_))
  have h2 := hv_r h1 hf2 hr2
  exact lg_icmpeq hF 1317 dL_law_210 (by decide) (fun _ => nx _ _ _ _ _ _ _ _ (by omega) (by omega) ⟨h2, oko_terraces ho _, hM⟩) (fun z => absurd rfl z)
set_option maxHeartbeats 4000000 in
set_option maxRecDepth 20000 in
theorem law_c1 {p : Program} {l : Launch} {e : Env} {s : State} {m : MethodId} {below : List Frame} {meth : Method} {c : Code} {D : gE} {b N i : Nat} {xs : Nat → Int32} (hF : CK p s m meth c D b) (hX : va_X b N xs s s.heap) (hbl : b < s.heap.size) (hN : N ≤ 320) (hi : i + 5 ≤ N) (nx : NX p l e s m below meth c D b i) {L : Nat → Nat} {σ : St} {X : XT} {sg : Nat → Nat} {n : Nat} {M : Nat → Option XT} (h : IV σ X sg n M) : GL p l e s m below meth c D b (100 + 12 * i) (2000 + 95 * i) 215 [(3, .int (nI i)), (0, .ref b), (1, .ref (L 24)), (2, .ref (L 33))] [] (wsOf D L σ) := by
  obtain ⟨hh, ho, hM⟩ := h
  refine lg_aload_n hF dL_law_215 rfl 2 rfl ?_
  refine lg_arg hF hX hbl hN 1 ci_1 (by omega) dL_law_216 dL_law_217 dL_law_218 dL_law_219 dL_law_220 ?_
  refine lg_arg hF hX hbl hN 2 ci_2 (by omega) dL_law_221 dL_law_222 dL_law_223 dL_law_224 dL_law_225 ?_
  refine lg_arg hF hX hbl hN 3 ci_3 (by omega) dL_law_226 dL_law_227 dL_law_228 dL_law_229 dL_law_230 ?_
  refine lg_arg hF hX hbl hN 4 ci_4 (by omega) dL_law_231 dL_law_232 dL_law_233 dL_law_234 dL_law_235 ?_
  refine lg_call hF (nc := 0) (ns := 0) (As := [.int (xs (i + 1)), .int (xs (i + 2)), .int (xs (i + 3)), .int (xs (i + 4))]) km_L_18 ky_X4_bridge ki_X4_bridge (by decide) ⟨by omega, by omega⟩ 24 at_24 kC_X4.1 rfl (Nat.le_of_ble_eq_true rfl) dL_law_236 rfl (c_X4_bridge (d := 18) hh.2.2.2.1 ho (fun σ1 hf1 hz1 => ?_))
  have h1 := hv_c hh hf1 hz1
  refine lg_aload_n hF dL_law_239 rfl 3 rfl ?_
  refine lg_arg hF hX hbl hN 1 ci_1 (by omega) dL_law_240 dL_law_241 dL_law_242 dL_law_243 dL_law_244 ?_
  refine lg_arg hF hX hbl hN 2 ci_2 (by omega) dL_law_245 dL_law_246 dL_law_247 dL_law_248 dL_law_249 ?_
  refine lg_arg hF hX hbl hN 3 ci_3 (by omega) dL_law_250 dL_law_251 dL_law_252 dL_law_253 dL_law_254 ?_
  refine lg_arg hF hX hbl hN 4 ci_4 (by omega) dL_law_255 dL_law_256 dL_law_257 dL_law_258 dL_law_259 ?_
  refine lg_call hF (nc := 0) (ns := 0) (As := [.int (xs (i + 1)), .int (xs (i + 2)), .int (xs (i + 3)), .int (xs (i + 4))]) km_L_22 ky_X5_bridge ki_X5_bridge (by decide) ⟨by omega, by omega⟩ 33 at_33 kC_X5.1 rfl (Nat.le_of_ble_eq_true rfl) dL_law_260 rfl (c_X5_bridge (d := 18) h1.1 ho (fun σ2 hf2 hr2 => ?_))
  have h2 := hv_r h1 hf2 hr2
  exact lg_icmpeq hF 1317 dL_law_263 (by decide) (fun _ => nx _ _ _ _ _ _ _ _ (by omega) (by omega) ⟨h2, oko_bridge ho _ _ _ _, hM⟩) (fun z => absurd rfl z)
set_option maxHeartbeats 4000000 in
set_option maxRecDepth 20000 in
theorem law_c2 {p : Program} {l : Launch} {e : Env} {s : State} {m : MethodId} {below : List Frame} {meth : Method} {c : Code} {D : gE} {b N i : Nat} {xs : Nat → Int32} (hF : CK p s m meth c D b) (hX : va_X b N xs s s.heap) (hbl : b < s.heap.size) (hN : N ≤ 320) (hi : i + 5 ≤ N) (nx : NX p l e s m below meth c D b i) {L : Nat → Nat} {σ : St} {X : XT} {sg : Nat → Nat} {n : Nat} {M : Nat → Option XT} (h : IV σ X sg n M) : GL p l e s m below meth c D b (100 + 12 * i) (2000 + 95 * i) 268 [(3, .int (nI i)), (0, .ref b), (1, .ref (L 24)), (2, .ref (L 33))] [] (wsOf D L σ) := by
  obtain ⟨hh, ho, hM⟩ := h
  refine lg_aload_n hF dL_law_268 rfl 2 rfl ?_
  refine lg_arg hF hX hbl hN 1 ci_1 (by omega) dL_law_269 dL_law_270 dL_law_271 dL_law_272 dL_law_273 ?_
  refine lg_call hF (nc := 0) (ns := 0) (As := [.int (xs (i + 1))]) km_L_23 ky_X4_fall ki_X4_fall (by decide) ⟨by omega, by omega⟩ 24 at_24 kC_X4.1 rfl (Nat.le_of_ble_eq_true rfl) dL_law_274 rfl (c_X4_fall (d := 18) hh.2.2.2.1 ho (fun σ1 hf1 hz1 => ?_))
  have h1 := hv_c hh hf1 hz1
  refine lg_aload_n hF dL_law_277 rfl 3 rfl ?_
  refine lg_arg hF hX hbl hN 1 ci_1 (by omega) dL_law_278 dL_law_279 dL_law_280 dL_law_281 dL_law_282 ?_
  refine lg_call hF (nc := 0) (ns := 0) (As := [.int (xs (i + 1))]) km_L_26 ky_X5_fall ki_X5_fall (by decide) ⟨by omega, by omega⟩ 33 at_33 kC_X5.1 rfl (Nat.le_of_ble_eq_true rfl) dL_law_283 rfl (c_X5_fall (d := 18) h1.1 ho (fun σ2 hf2 hr2 => ?_))
  have h2 := hv_r h1 hf2 hr2
  exact lg_icmpeq hF 1317 dL_law_286 (by decide) (fun _ => nx _ _ _ _ _ _ _ _ (by omega) (by omega) ⟨h2, oko_fall ho _, hM⟩) (fun z => absurd rfl z)
set_option maxHeartbeats 4000000 in
set_option maxRecDepth 20000 in
theorem law_c3 {p : Program} {l : Launch} {e : Env} {s : State} {m : MethodId} {below : List Frame} {meth : Method} {c : Code} {D : gE} {b N i : Nat} {xs : Nat → Int32} (hF : CK p s m meth c D b) (hX : va_X b N xs s s.heap) (hbl : b < s.heap.size) (hN : N ≤ 320) (hi : i + 5 ≤ N) (nx : NX p l e s m below meth c D b i) {L : Nat → Nat} {σ : St} {X : XT} {sg : Nat → Nat} {n : Nat} {M : Nat → Option XT} (h : IV σ X sg n M) : GL p l e s m below meth c D b (100 + 12 * i) (2000 + 95 * i) 291 [(3, .int (nI i)), (0, .ref b), (1, .ref (L 24)), (2, .ref (L 33))] [] (wsOf D L σ) := by
  obtain ⟨hh, ho, hM⟩ := h
  refine lg_aload_n hF dL_law_291 rfl 2 rfl ?_
  refine lg_arg hF hX hbl hN 1 ci_1 (by omega) dL_law_292 dL_law_293 dL_law_294 dL_law_295 dL_law_296 ?_
  refine lg_arg hF hX hbl hN 2 ci_2 (by omega) dL_law_297 dL_law_298 dL_law_299 dL_law_300 dL_law_301 ?_
  refine lg_arg hF hX hbl hN 3 ci_3 (by omega) dL_law_302 dL_law_303 dL_law_304 dL_law_305 dL_law_306 ?_
  refine lg_call hF (nc := 0) (ns := 0) (As := [.int (xs (i + 1)), .int (xs (i + 2)), .int (xs (i + 3))]) km_L_27 ky_X4_person ki_X4_person (by decide) ⟨by omega, by omega⟩ 24 at_24 kC_X4.1 rfl (Nat.le_of_ble_eq_true rfl) dL_law_307 rfl (c_X4_person (d := 18) hh.2.2.2.1 ho (fun σ1 hf1 hz1 => ?_))
  have h1 := hv_c hh hf1 hz1
  refine lg_aload_n hF dL_law_310 rfl 3 rfl ?_
  refine lg_arg hF hX hbl hN 1 ci_1 (by omega) dL_law_311 dL_law_312 dL_law_313 dL_law_314 dL_law_315 ?_
  refine lg_arg hF hX hbl hN 2 ci_2 (by omega) dL_law_316 dL_law_317 dL_law_318 dL_law_319 dL_law_320 ?_
  refine lg_arg hF hX hbl hN 3 ci_3 (by omega) dL_law_321 dL_law_322 dL_law_323 dL_law_324 dL_law_325 ?_
  refine lg_call hF (nc := 0) (ns := 0) (As := [.int (xs (i + 1)), .int (xs (i + 2)), .int (xs (i + 3))]) km_L_31 ky_X5_person ki_X5_person (by decide) ⟨by omega, by omega⟩ 33 at_33 kC_X5.1 rfl (Nat.le_of_ble_eq_true rfl) dL_law_326 rfl (c_X5_person (d := 18) h1.1 ho (fun σ2 hf2 hr2 => ?_))
  have h2 := hv_r h1 hf2 hr2
  exact lg_icmpeq hF 1317 dL_law_329 (by decide) (fun _ => nx _ _ _ _ _ _ _ _ (by omega) (by omega) ⟨h2, oko_person ho _ _ _, hM⟩) (fun z => absurd rfl z)
set_option maxHeartbeats 4000000 in
set_option maxRecDepth 20000 in
theorem law_c4 {p : Program} {l : Launch} {e : Env} {s : State} {m : MethodId} {below : List Frame} {meth : Method} {c : Code} {D : gE} {b N i : Nat} {xs : Nat → Int32} (hF : CK p s m meth c D b) (hX : va_X b N xs s s.heap) (hbl : b < s.heap.size) (hN : N ≤ 320) (hi : i + 5 ≤ N) (nx : NX p l e s m below meth c D b i) {L : Nat → Nat} {σ : St} {X : XT} {sg : Nat → Nat} {n : Nat} {M : Nat → Option XT} (h : IV σ X sg n M) : GL p l e s m below meth c D b (100 + 12 * i) (2000 + 95 * i) 334 [(3, .int (nI i)), (0, .ref b), (1, .ref (L 24)), (2, .ref (L 33))] [] (wsOf D L σ) := by
  obtain ⟨hh, ho, hM⟩ := h
  refine lg_aload_n hF dL_law_334 rfl 2 rfl ?_
  refine lg_arg hF hX hbl hN 1 ci_1 (by omega) dL_law_335 dL_law_336 dL_law_337 dL_law_338 dL_law_339 ?_
  refine lg_call hF (nc := 0) (ns := 0) (As := [.int (xs (i + 1))]) km_L_32 ky_X4_leave ki_X4_leave (by decide) ⟨by omega, by omega⟩ 24 at_24 kC_X4.1 rfl (Nat.le_of_ble_eq_true rfl) dL_law_340 rfl (c_X4_leave (d := 18) hh.2.2.2.1 ho (fun σ1 hf1 hz1 => ?_))
  have h1 := hv_c hh hf1 hz1
  refine lg_aload_n hF dL_law_343 rfl 3 rfl ?_
  refine lg_arg hF hX hbl hN 1 ci_1 (by omega) dL_law_344 dL_law_345 dL_law_346 dL_law_347 dL_law_348 ?_
  refine lg_call hF (nc := 0) (ns := 0) (As := [.int (xs (i + 1))]) km_L_35 ky_X5_leave ki_X5_leave (by decide) ⟨by omega, by omega⟩ 33 at_33 kC_X5.1 rfl (Nat.le_of_ble_eq_true rfl) dL_law_349 rfl (c_X5_leave (d := 18) h1.1 ho (fun σ2 hf2 hr2 => ?_))
  have h2 := hv_r h1 hf2 hr2
  exact lg_icmpeq hF 1317 dL_law_352 (by decide) (fun _ => nx _ _ _ _ _ _ _ _ (by omega) (by omega) ⟨h2, oko_leave ho _, hM⟩) (fun z => absurd rfl z)
set_option maxHeartbeats 4000000 in
set_option maxRecDepth 20000 in
theorem law_c5 {p : Program} {l : Launch} {e : Env} {s : State} {m : MethodId} {below : List Frame} {meth : Method} {c : Code} {D : gE} {b N i : Nat} {xs : Nat → Int32} (hF : CK p s m meth c D b) (hX : va_X b N xs s s.heap) (hbl : b < s.heap.size) (hN : N ≤ 320) (hi : i + 5 ≤ N) (nx : NX p l e s m below meth c D b i) {L : Nat → Nat} {σ : St} {X : XT} {sg : Nat → Nat} {n : Nat} {M : Nat → Option XT} (h : IV σ X sg n M) : GL p l e s m below meth c D b (100 + 12 * i) (2000 + 95 * i) 357 [(3, .int (nI i)), (0, .ref b), (1, .ref (L 24)), (2, .ref (L 33))] [] (wsOf D L σ) := by
  obtain ⟨hh, ho, hM⟩ := h
  refine lg_aload_n hF dL_law_357 rfl 2 rfl ?_
  refine lg_arg hF hX hbl hN 1 ci_1 (by omega) dL_law_358 dL_law_359 dL_law_360 dL_law_361 dL_law_362 ?_
  refine lg_arg hF hX hbl hN 2 ci_2 (by omega) dL_law_363 dL_law_364 dL_law_365 dL_law_366 dL_law_367 ?_
  refine lg_arg hF hX hbl hN 3 ci_3 (by omega) dL_law_368 dL_law_369 dL_law_370 dL_law_371 dL_law_372 ?_
  refine lg_call hF (nc := 0) (ns := 0) (As := [.int (xs (i + 1)), .int (xs (i + 2)), .int (xs (i + 3))]) km_L_36 ky_X4_news ki_X4_news (by decide) ⟨by omega, by omega⟩ 24 at_24 kC_X4.1 rfl (Nat.le_of_ble_eq_true rfl) dL_law_373 rfl (c_X4_news (d := 18) hh.2.2.2.1 ho (fun σ1 hf1 hz1 => ?_))
  have h1 := hv_c hh hf1 hz1
  refine lg_aload_n hF dL_law_376 rfl 3 rfl ?_
  refine lg_arg hF hX hbl hN 1 ci_1 (by omega) dL_law_377 dL_law_378 dL_law_379 dL_law_380 dL_law_381 ?_
  refine lg_arg hF hX hbl hN 2 ci_2 (by omega) dL_law_382 dL_law_383 dL_law_384 dL_law_385 dL_law_386 ?_
  refine lg_arg hF hX hbl hN 3 ci_3 (by omega) dL_law_387 dL_law_388 dL_law_389 dL_law_390 dL_law_391 ?_
  refine lg_call hF (nc := 0) (ns := 0) (As := [.int (xs (i + 1)), .int (xs (i + 2)), .int (xs (i + 3))]) km_L_39 ky_X5_news ki_X5_news (by decide) ⟨by omega, by omega⟩ 33 at_33 kC_X5.1 rfl (Nat.le_of_ble_eq_true rfl) dL_law_392 rfl (c_X5_news (d := 18) h1.1 ho (fun σ2 hf2 hr2 => ?_))
  have h2 := hv_r h1 hf2 hr2
  exact lg_icmpeq hF 1317 dL_law_395 (by decide) (fun _ => nx _ _ _ _ _ _ _ _ (by omega) (by omega) ⟨h2, oko_news ho _ _ _, hM⟩) (fun z => absurd rfl z)
set_option maxHeartbeats 4000000 in
set_option maxRecDepth 20000 in
theorem law_c6 {p : Program} {l : Launch} {e : Env} {s : State} {m : MethodId} {below : List Frame} {meth : Method} {c : Code} {D : gE} {b N i : Nat} {xs : Nat → Int32} (hF : CK p s m meth c D b) (hX : va_X b N xs s s.heap) (hbl : b < s.heap.size) (hN : N ≤ 320) (hi : i + 5 ≤ N) (nx : NX p l e s m below meth c D b i) {L : Nat → Nat} {σ : St} {X : XT} {sg : Nat → Nat} {n : Nat} {M : Nat → Option XT} (h : IV σ X sg n M) : GL p l e s m below meth c D b (100 + 12 * i) (2000 + 95 * i) 400 [(3, .int (nI i)), (0, .ref b), (1, .ref (L 24)), (2, .ref (L 33))] [] (wsOf D L σ) := by
  obtain ⟨hh, ho, hM⟩ := h
  by_cases hz : xs (i + 3) = 0
  · refine lg_aload_n hF dL_law_400 rfl 2 rfl ?_
    refine lg_arg hF hX hbl hN 1 ci_1 (by omega) dL_law_401 dL_law_402 dL_law_403 dL_law_404 dL_law_405 ?_
    refine lg_arg hF hX hbl hN 2 ci_2 (by omega) dL_law_406 dL_law_407 dL_law_408 dL_law_409 dL_law_410 ?_
    refine lg_arg hF hX hbl hN 3 ci_3 (by omega) dL_law_411 dL_law_412 dL_law_413 dL_law_414 dL_law_415 ?_
    refine lg_ifeq hF 423 dL_law_416 (by decide) (fun _ => ?_) (fun z => absurd hz z)
    refine lg_iconst hF dL_law_423 ci_0 ?_
    refine lg_call hF (nc := 0) (ns := 0) (As := [.int (xs (i + 1)), .int (xs (i + 2)), .int (nI (b2n false))]) km_L_40 ky_X4_learn ki_X4_learn (by decide) ⟨by omega, by omega⟩ 24 at_24 kC_X4.1 rfl (Nat.le_of_ble_eq_true rfl) dL_law_424 rfl (c_X4_learn (d := 18) hh.2.2.2.1 ho (fun σ1 hf1 hz1 => ?_))
    have h1 := hv_c hh hf1 hz1
    refine lg_aload_n hF dL_law_427 rfl 3 rfl ?_
    refine lg_arg hF hX hbl hN 1 ci_1 (by omega) dL_law_428 dL_law_429 dL_law_430 dL_law_431 dL_law_432 ?_
    refine lg_arg hF hX hbl hN 2 ci_2 (by omega) dL_law_433 dL_law_434 dL_law_435 dL_law_436 dL_law_437 ?_
    refine lg_arg hF hX hbl hN 3 ci_3 (by omega) dL_law_438 dL_law_439 dL_law_440 dL_law_441 dL_law_442 ?_
    refine lg_ifeq hF 450 dL_law_443 (by decide) (fun _ => ?_) (fun z => absurd hz z)
    refine lg_iconst hF dL_law_450 ci_0 ?_
    refine lg_call hF (nc := 0) (ns := 0) (As := [.int (xs (i + 1)), .int (xs (i + 2)), .int (nI (b2n false))]) km_L_44 ky_X5_learn ki_X5_learn (by decide) ⟨by omega, by omega⟩ 33 at_33 kC_X5.1 rfl (Nat.le_of_ble_eq_true rfl) dL_law_451 rfl (c_X5_learn (d := 18) h1.1 ho (fun σ2 hf2 hr2 => ?_))
    have h2 := hv_r h1 hf2 hr2
    exact lg_icmpeq hF 1317 dL_law_454 (by decide) (fun _ => nx _ _ _ _ _ _ _ _ (by omega) (by omega) ⟨h2, oko_learn ho _ _ _, hM⟩) (fun z => absurd rfl z)
  · refine lg_aload_n hF dL_law_400 rfl 2 rfl ?_
    refine lg_arg hF hX hbl hN 1 ci_1 (by omega) dL_law_401 dL_law_402 dL_law_403 dL_law_404 dL_law_405 ?_
    refine lg_arg hF hX hbl hN 2 ci_2 (by omega) dL_law_406 dL_law_407 dL_law_408 dL_law_409 dL_law_410 ?_
    refine lg_arg hF hX hbl hN 3 ci_3 (by omega) dL_law_411 dL_law_412 dL_law_413 dL_law_414 dL_law_415 ?_
    refine lg_ifeq hF 423 dL_law_416 (by decide) (fun z => absurd z hz) (fun _ => ?_)
    refine lg_iconst hF dL_law_419 ci_1 ?_
    refine lg_goto hF 424 dL_law_420 (by decide) ?_
    refine lg_call hF (nc := 0) (ns := 0) (As := [.int (xs (i + 1)), .int (xs (i + 2)), .int (nI (b2n true))]) km_L_40 ky_X4_learn ki_X4_learn (by decide) ⟨by omega, by omega⟩ 24 at_24 kC_X4.1 rfl (Nat.le_of_ble_eq_true rfl) dL_law_424 rfl (c_X4_learn (d := 18) hh.2.2.2.1 ho (fun σ1 hf1 hz1 => ?_))
    have h1 := hv_c hh hf1 hz1
    refine lg_aload_n hF dL_law_427 rfl 3 rfl ?_
    refine lg_arg hF hX hbl hN 1 ci_1 (by omega) dL_law_428 dL_law_429 dL_law_430 dL_law_431 dL_law_432 ?_
    refine lg_arg hF hX hbl hN 2 ci_2 (by omega) dL_law_433 dL_law_434 dL_law_435 dL_law_436 dL_law_437 ?_
    refine lg_arg hF hX hbl hN 3 ci_3 (by omega) dL_law_438 dL_law_439 dL_law_440 dL_law_441 dL_law_442 ?_
    refine lg_ifeq hF 450 dL_law_443 (by decide) (fun z => absurd z hz) (fun _ => ?_)
    refine lg_iconst hF dL_law_446 ci_1 ?_
    refine lg_goto hF 451 dL_law_447 (by decide) ?_
    refine lg_call hF (nc := 0) (ns := 0) (As := [.int (xs (i + 1)), .int (xs (i + 2)), .int (nI (b2n true))]) km_L_44 ky_X5_learn ki_X5_learn (by decide) ⟨by omega, by omega⟩ 33 at_33 kC_X5.1 rfl (Nat.le_of_ble_eq_true rfl) dL_law_451 rfl (c_X5_learn (d := 18) h1.1 ho (fun σ2 hf2 hr2 => ?_))
    have h2 := hv_r h1 hf2 hr2
    exact lg_icmpeq hF 1317 dL_law_454 (by decide) (fun _ => nx _ _ _ _ _ _ _ _ (by omega) (by omega) ⟨h2, oko_learn ho _ _ _, hM⟩) (fun z => absurd rfl z)
set_option maxHeartbeats 4000000 in
set_option maxRecDepth 20000 in
theorem law_c7 {p : Program} {l : Launch} {e : Env} {s : State} {m : MethodId} {below : List Frame} {meth : Method} {c : Code} {D : gE} {b N i : Nat} {xs : Nat → Int32} (hF : CK p s m meth c D b) (hX : va_X b N xs s s.heap) (hbl : b < s.heap.size) (hN : N ≤ 320) (hi : i + 5 ≤ N) (nx : NX p l e s m below meth c D b i) {L : Nat → Nat} {σ : St} {X : XT} {sg : Nat → Nat} {n : Nat} {M : Nat → Option XT} (h : IV σ X sg n M) : GL p l e s m below meth c D b (100 + 12 * i) (2000 + 95 * i) 459 [(3, .int (nI i)), (0, .ref b), (1, .ref (L 24)), (2, .ref (L 33))] [] (wsOf D L σ) := by
  obtain ⟨hh, ho, hM⟩ := h
  refine lg_aload_n hF dL_law_459 rfl 2 rfl ?_
  refine lg_arg hF hX hbl hN 1 ci_1 (by omega) dL_law_460 dL_law_461 dL_law_462 dL_law_463 dL_law_464 ?_
  refine lg_call hF (nc := 0) (ns := 0) (As := [.int (xs (i + 1))]) km_L_45 ky_X4_fade ki_X4_fade (by decide) ⟨by omega, by omega⟩ 24 at_24 kC_X4.1 rfl (Nat.le_of_ble_eq_true rfl) dL_law_465 rfl (c_X4_fade (d := 19) hh.2.2.2.1 ho (fun σ1 hf1 hz1 => ?_))
  have h1 := hv_c hh hf1 hz1
  refine lg_aload_n hF dL_law_468 rfl 3 rfl ?_
  refine lg_arg hF hX hbl hN 1 ci_1 (by omega) dL_law_469 dL_law_470 dL_law_471 dL_law_472 dL_law_473 ?_
  refine lg_call hF (nc := 0) (ns := 0) (As := [.int (xs (i + 1))]) km_L_48 ky_X5_fade ki_X5_fade (by decide) ⟨by omega, by omega⟩ 33 at_33 kC_X5.1 rfl (Nat.le_of_ble_eq_true rfl) dL_law_474 rfl (c_X5_fade (d := 19) h1.1 ho (fun σ2 hf2 hr2 => ?_))
  have h2 := hv_r h1 hf2 hr2
  exact lg_icmpeq hF 1317 dL_law_477 (by decide) (fun _ => nx _ _ _ _ _ _ _ _ (by omega) (by omega) ⟨h2, oko_fade ho _, hM⟩) (fun z => absurd rfl z)
set_option maxHeartbeats 4000000 in
set_option maxRecDepth 20000 in
theorem law_c8 {p : Program} {l : Launch} {e : Env} {s : State} {m : MethodId} {below : List Frame} {meth : Method} {c : Code} {D : gE} {b N i : Nat} {xs : Nat → Int32} (hF : CK p s m meth c D b) (hX : va_X b N xs s s.heap) (hbl : b < s.heap.size) (hN : N ≤ 320) (hi : i + 5 ≤ N) (nx : NX p l e s m below meth c D b i) {L : Nat → Nat} {σ : St} {X : XT} {sg : Nat → Nat} {n : Nat} {M : Nat → Option XT} (h : IV σ X sg n M) : GL p l e s m below meth c D b (100 + 12 * i) (2000 + 95 * i) 482 [(3, .int (nI i)), (0, .ref b), (1, .ref (L 24)), (2, .ref (L 33))] [] (wsOf D L σ) := by
  obtain ⟨hh, ho, hM⟩ := h
  refine lg_aload_n hF dL_law_482 rfl 2 rfl ?_
  refine lg_arg hF hX hbl hN 1 ci_1 (by omega) dL_law_483 dL_law_484 dL_law_485 dL_law_486 dL_law_487 ?_
  refine lg_call hF (nc := 0) (ns := 0) (As := [.int (xs (i + 1))]) km_L_49 ky_X4_say ki_X4_say (by decide) ⟨by omega, by omega⟩ 24 at_24 kC_X4.1 rfl (Nat.le_of_ble_eq_true rfl) dL_law_488 rfl (c_X4_say (d := 19) hh.2.2.2.2.1 (fun σ1 hf1 hp1 => ?_))
  have h1 := hv_cP hh hf1 hp1
  refine lg_aload_n hF dL_law_491 rfl 3 rfl ?_
  refine lg_arg hF hX hbl hN 1 ci_1 (by omega) dL_law_492 dL_law_493 dL_law_494 dL_law_495 dL_law_496 ?_
  refine lg_call hF (nc := 0) (ns := 0) (As := [.int (xs (i + 1))]) km_L_52 ky_X5_say ki_X5_say (by decide) ⟨by omega, by omega⟩ 33 at_33 kC_X5.1 rfl (Nat.le_of_ble_eq_true rfl) dL_law_497 rfl (c_X5_say (d := 19) h1.1 h1.2.1 (fun σ2 hf2 hr2 hp2 => ?_))
  have h2 := hv_rP h1 hf2 hr2 hp2
  exact lg_icmpeq hF 1317 dL_law_500 (by decide) (fun _ => nx _ _ _ _ _ _ _ _ (by omega) (by omega) ⟨h2, ho, hM⟩) (fun z => absurd rfl z)
set_option maxHeartbeats 4000000 in
set_option maxRecDepth 20000 in
theorem law_c9 {p : Program} {l : Launch} {e : Env} {s : State} {m : MethodId} {below : List Frame} {meth : Method} {c : Code} {D : gE} {b N i : Nat} {xs : Nat → Int32} (hF : CK p s m meth c D b) (hX : va_X b N xs s s.heap) (hbl : b < s.heap.size) (hN : N ≤ 320) (hi : i + 5 ≤ N) (nx : NX p l e s m below meth c D b i) {L : Nat → Nat} {σ : St} {X : XT} {sg : Nat → Nat} {n : Nat} {M : Nat → Option XT} (h : IV σ X sg n M) : GL p l e s m below meth c D b (100 + 12 * i) (2000 + 95 * i) 505 [(3, .int (nI i)), (0, .ref b), (1, .ref (L 24)), (2, .ref (L 33))] [] (wsOf D L σ) := by
  obtain ⟨hh, ho, hM⟩ := h
  refine lg_aload_n hF dL_law_505 rfl 2 rfl ?_
  refine lg_call hF (nc := 0) (ns := 0) (As := []) km_L_53 ky_X4_wipe ki_X4_wipe (by decide) ⟨by omega, by omega⟩ 24 at_24 kC_X4.1 rfl (Nat.le_of_ble_eq_true rfl) dL_law_506 rfl (c_X4_wipe (d := 20) hh.2.2.2.2.1 (fun σ1 hf1 hp1 => ?_))
  have h1 := hv_cP hh hf1 hp1
  refine lg_aload_n hF dL_law_509 rfl 3 rfl ?_
  refine lg_call hF (nc := 0) (ns := 0) (As := []) km_L_57 ky_X5_wipe ki_X5_wipe (by decide) ⟨by omega, by omega⟩ 33 at_33 kC_X5.1 rfl (Nat.le_of_ble_eq_true rfl) dL_law_510 rfl (c_X5_wipe (d := 20) h1.1 h1.2.1 (fun σ2 hf2 hr2 hp2 => ?_))
  have h2 := hv_rP h1 hf2 hr2 hp2
  exact lg_icmpeq hF 1317 dL_law_513 (by decide) (fun _ => nx _ _ _ _ _ _ _ _ (by omega) (by omega) ⟨h2, ho, hM⟩) (fun z => absurd rfl z)
set_option maxHeartbeats 4000000 in
set_option maxRecDepth 20000 in
theorem law_c10 {p : Program} {l : Launch} {e : Env} {s : State} {m : MethodId} {below : List Frame} {meth : Method} {c : Code} {D : gE} {b N i : Nat} {xs : Nat → Int32} (hF : CK p s m meth c D b) (hX : va_X b N xs s s.heap) (hbl : b < s.heap.size) (hN : N ≤ 320) (hi : i + 5 ≤ N) (nx : NX p l e s m below meth c D b i) {L : Nat → Nat} {σ : St} {X : XT} {sg : Nat → Nat} {n : Nat} {M : Nat → Option XT} (h : IV σ X sg n M) : GL p l e s m below meth c D b (100 + 12 * i) (2000 + 95 * i) 518 [(3, .int (nI i)), (0, .ref b), (1, .ref (L 24)), (2, .ref (L 33))] [] (wsOf D L σ) := by
  obtain ⟨hh, ho, hM⟩ := h
  refine lg_aload_n hF dL_law_518 rfl 2 rfl ?_
  refine lg_call hF (nc := 0) (ns := 0) (As := []) km_L_58 ky_X4_fault ki_X4_fault (by decide) ⟨by omega, by omega⟩ 24 at_24 kC_X4.1 rfl (Nat.le_of_ble_eq_true rfl) dL_law_519 rfl (c_X4_fault (d := 16) hh.2.2.2.2.1 ?_)
  have h1 := hh
  refine lg_aload_n hF dL_law_522 rfl 3 rfl ?_
  refine lg_call hF (nc := 0) (ns := 0) (As := []) km_L_61 ky_X5_fault ki_X5_fault (by decide) ⟨by omega, by omega⟩ 33 at_33 kC_X5.1 rfl (Nat.le_of_ble_eq_true rfl) dL_law_523 rfl (c_X5_fault (d := 17) h1.2.1 (fun σ2 hf2 _ => ?_))
  have h2 := hv_r h1 (fp_fr hf2) (fp_X hf2 h1.1)
  exact lg_icmpeq hF 1317 dL_law_526 (by decide) (fun _ => nx _ _ _ _ _ _ _ _ (by omega) (by omega) ⟨h2, ho, hM⟩) (fun z => absurd rfl z)
set_option maxHeartbeats 4000000 in
set_option maxRecDepth 20000 in
theorem law_c11 {p : Program} {l : Launch} {e : Env} {s : State} {m : MethodId} {below : List Frame} {meth : Method} {c : Code} {D : gE} {b N i : Nat} {xs : Nat → Int32} (hF : CK p s m meth c D b) (hX : va_X b N xs s s.heap) (hbl : b < s.heap.size) (hN : N ≤ 320) (hi : i + 5 ≤ N) (nx : NX p l e s m below meth c D b i) {L : Nat → Nat} {σ : St} {X : XT} {sg : Nat → Nat} {n : Nat} {M : Nat → Option XT} (h : IV σ X sg n M) : GL p l e s m below meth c D b (100 + 12 * i) (2000 + 95 * i) 531 [(3, .int (nI i)), (0, .ref b), (1, .ref (L 24)), (2, .ref (L 33))] [] (wsOf D L σ) := by
  obtain ⟨hh, ho, hM⟩ := h
  refine lg_aload_n hF dL_law_531 rfl 2 rfl ?_
  refine lg_arg hF hX hbl hN 1 ci_1 (by omega) dL_law_532 dL_law_533 dL_law_534 dL_law_535 dL_law_536 ?_
  refine lg_call hF (nc := 0) (ns := 0) (As := [.int (xs (i + 1))]) km_L_62 ky_X4_judge ki_X4_judge (by decide) ⟨by omega, by omega⟩ 24 at_24 kC_X4.1 rfl (Nat.le_of_ble_eq_true rfl) dL_law_537 rfl (c_X4_judge (d := 14) hh.2.2.2.1 ho hh.2.2.2.2.1 (fun σ1 hf1 hz1 => ?_))
  have h1 := hv_c hh hf1 hz1
  refine lg_aload_n hF dL_law_540 rfl 3 rfl ?_
  refine lg_arg hF hX hbl hN 1 ci_1 (by omega) dL_law_541 dL_law_542 dL_law_543 dL_law_544 dL_law_545 ?_
  refine lg_call hF (nc := 0) (ns := 0) (As := [.int (xs (i + 1))]) km_L_65 ky_X5_judge ki_X5_judge (by decide) ⟨by omega, by omega⟩ 33 at_33 kC_X5.1 rfl (Nat.le_of_ble_eq_true rfl) dL_law_546 rfl (c_X5_judge (d := 12) h1.1 ho h1.2.1 (fun σ2 hf2 hr2 => ?_))
  have h2 := hv_r h1 hf2 hr2
  exact lg_icmpeq hF 1317 dL_law_549 (by decide) (fun _ => nx _ _ _ _ _ _ _ _ (by omega) (by omega) ⟨h2, ho, hM⟩) (fun z => absurd rfl z)
set_option maxHeartbeats 4000000 in
set_option maxRecDepth 20000 in
theorem law_c12 {p : Program} {l : Launch} {e : Env} {s : State} {m : MethodId} {below : List Frame} {meth : Method} {c : Code} {D : gE} {b N i : Nat} {xs : Nat → Int32} (hF : CK p s m meth c D b) (hX : va_X b N xs s s.heap) (hbl : b < s.heap.size) (hN : N ≤ 320) (hi : i + 5 ≤ N) (nx : NX p l e s m below meth c D b i) {L : Nat → Nat} {σ : St} {X : XT} {sg : Nat → Nat} {n : Nat} {M : Nat → Option XT} (h : IV σ X sg n M) : GL p l e s m below meth c D b (100 + 12 * i) (2000 + 95 * i) 554 [(3, .int (nI i)), (0, .ref b), (1, .ref (L 24)), (2, .ref (L 33))] [] (wsOf D L σ) := by
  obtain ⟨hh, ho, hM⟩ := h
  refine lg_aload_n hF dL_law_554 rfl 2 rfl ?_
  refine lg_arg hF hX hbl hN 1 ci_1 (by omega) dL_law_555 dL_law_556 dL_law_557 dL_law_558 dL_law_559 ?_
  refine lg_arg hF hX hbl hN 2 ci_2 (by omega) dL_law_560 dL_law_561 dL_law_562 dL_law_563 dL_law_564 ?_
  refine lg_call hF (nc := 0) (ns := 0) (As := [.int (xs (i + 1)), .int (xs (i + 2))]) km_L_66 ky_X4_behind ki_X4_behind (by decide) ⟨by omega, by omega⟩ 24 at_24 kC_X4.1 rfl (Nat.le_of_ble_eq_true rfl) dL_law_565 rfl (c_X4_behind (d := 14) hh.2.2.2.1 ho hh.2.2.2.2.1 (fun σ1 hf1 hz1 => ?_))
  have h1 := hv_c hh hf1 hz1
  refine lg_aload_n hF dL_law_568 rfl 3 rfl ?_
  refine lg_arg hF hX hbl hN 1 ci_1 (by omega) dL_law_569 dL_law_570 dL_law_571 dL_law_572 dL_law_573 ?_
  refine lg_arg hF hX hbl hN 2 ci_2 (by omega) dL_law_574 dL_law_575 dL_law_576 dL_law_577 dL_law_578 ?_
  refine lg_call hF (nc := 0) (ns := 0) (As := [.int (xs (i + 1)), .int (xs (i + 2))]) km_L_70 ky_X5_behind ki_X5_behind (by decide) ⟨by omega, by omega⟩ 33 at_33 kC_X5.1 rfl (Nat.le_of_ble_eq_true rfl) dL_law_579 rfl (c_X5_behind (d := 12) h1.1 ho h1.2.1 (fun σ2 hf2 hr2 => ?_))
  have h2 := hv_r h1 hf2 hr2
  exact lg_icmpeq hF 1317 dL_law_582 (by decide) (fun _ => nx _ _ _ _ _ _ _ _ (by omega) (by omega) ⟨h2, ho, hM⟩) (fun z => absurd rfl z)
set_option maxHeartbeats 4000000 in
set_option maxRecDepth 20000 in
theorem law_c13 {p : Program} {l : Launch} {e : Env} {s : State} {m : MethodId} {below : List Frame} {meth : Method} {c : Code} {D : gE} {b N i : Nat} {xs : Nat → Int32} (hF : CK p s m meth c D b) (hX : va_X b N xs s s.heap) (hbl : b < s.heap.size) (hN : N ≤ 320) (hi : i + 5 ≤ N) (nx : NX p l e s m below meth c D b i) {L : Nat → Nat} {σ : St} {X : XT} {sg : Nat → Nat} {n : Nat} {M : Nat → Option XT} (h : IV σ X sg n M) : GL p l e s m below meth c D b (100 + 12 * i) (2000 + 95 * i) 587 [(3, .int (nI i)), (0, .ref b), (1, .ref (L 24)), (2, .ref (L 33))] [] (wsOf D L σ) := by
  obtain ⟨hh, ho, hM⟩ := h
  refine lg_aload_n hF dL_law_587 rfl 2 rfl ?_
  refine lg_call hF (nc := 0) (ns := 0) (As := []) km_L_71 ky_X4_done ki_X4_done (by decide) ⟨by omega, by omega⟩ 24 at_24 kC_X4.1 rfl (Nat.le_of_ble_eq_true rfl) dL_law_588 rfl (c_X4_done (d := 14) hh.2.2.2.1 ho hh.2.2.2.2.1 (fun σ1 hf1 hz1 hp1 => ?_))
  have h1 := hv_cQ hh hf1 hz1 hp1
  refine lg_aload_n hF dL_law_591 rfl 3 rfl ?_
  refine lg_call hF (nc := 0) (ns := 0) (As := []) km_L_74 ky_X5_done ki_X5_done (by decide) ⟨by omega, by omega⟩ 33 at_33 kC_X5.1 rfl (Nat.le_of_ble_eq_true rfl) dL_law_592 rfl (c_X5_done (d := 12) h1.1 ho h1.2.1 (fun σ2 hf2 hr2 hp2 => ?_))
  have h2 := hv_rP h1 hf2 hr2 hp2
  exact lg_icmpeq hF 1317 dL_law_595 (by decide) (fun _ => nx _ _ _ _ _ _ _ _ (by omega) (by omega) ⟨h2, oko_done ho _ _ hh.2.1.2.1, hM⟩) (fun z => absurd rfl z)
set_option maxHeartbeats 4000000 in
set_option maxRecDepth 20000 in
theorem law_c14 {p : Program} {l : Launch} {e : Env} {s : State} {m : MethodId} {below : List Frame} {meth : Method} {c : Code} {D : gE} {b N i : Nat} {xs : Nat → Int32} (hF : CK p s m meth c D b) (hX : va_X b N xs s s.heap) (hbl : b < s.heap.size) (hN : N ≤ 320) (hi : i + 5 ≤ N) (nx : NX p l e s m below meth c D b i) {L : Nat → Nat} {σ : St} {X : XT} {sg : Nat → Nat} {n : Nat} {M : Nat → Option XT} (h : IV σ X sg n M) : GL p l e s m below meth c D b (100 + 12 * i) (2000 + 95 * i) 600 [(3, .int (nI i)), (0, .ref b), (1, .ref (L 24)), (2, .ref (L 33))] [] (wsOf D L σ) := by
  obtain ⟨hh, ho, hM⟩ := h
  refine lg_aload_n hF dL_law_600 rfl 2 rfl ?_
  refine lg_arg hF hX hbl hN 1 ci_1 (by omega) dL_law_601 dL_law_602 dL_law_603 dL_law_604 dL_law_605 ?_
  refine lg_arg hF hX hbl hN 2 ci_2 (by omega) dL_law_606 dL_law_607 dL_law_608 dL_law_609 dL_law_610 ?_
  refine lg_call hF (nc := 0) (ns := 0) (As := [.int (xs (i + 1)), .int (xs (i + 2))]) km_L_75 ky_X4_heavy ki_X4_heavy (by decide) ⟨by omega, by omega⟩ 24 at_24 kC_X4.1 rfl (Nat.le_of_ble_eq_true rfl) dL_law_611 rfl (c_X4_heavy (d := 18) hh.2.2.2.1 ho (fun σ1 hf1 hz1 => ?_))
  have h1 := hv_c hh hf1 hz1
  refine lg_aload_n hF dL_law_614 rfl 3 rfl ?_
  refine lg_arg hF hX hbl hN 1 ci_1 (by omega) dL_law_615 dL_law_616 dL_law_617 dL_law_618 dL_law_619 ?_
  refine lg_arg hF hX hbl hN 2 ci_2 (by omega) dL_law_620 dL_law_621 dL_law_622 dL_law_623 dL_law_624 ?_
  refine lg_call hF (nc := 0) (ns := 0) (As := [.int (xs (i + 1)), .int (xs (i + 2))]) km_L_78 ky_X5_heavy ki_X5_heavy (by decide) ⟨by omega, by omega⟩ 33 at_33 kC_X5.1 rfl (Nat.le_of_ble_eq_true rfl) dL_law_625 rfl (c_X5_heavy (d := 17) h1.1 ho (fun σ2 hf2 hr2 => ?_))
  have h2 := hv_r h1 hf2 hr2
  exact lg_icmpeq hF 1317 dL_law_628 (by decide) (fun _ => nx _ _ _ _ _ _ _ _ (by omega) (by omega) ⟨h2, ho, hM⟩) (fun z => absurd rfl z)
set_option maxHeartbeats 4000000 in
set_option maxRecDepth 20000 in
theorem law_c15 {p : Program} {l : Launch} {e : Env} {s : State} {m : MethodId} {below : List Frame} {meth : Method} {c : Code} {D : gE} {b N i : Nat} {xs : Nat → Int32} (hF : CK p s m meth c D b) (hX : va_X b N xs s s.heap) (hbl : b < s.heap.size) (hN : N ≤ 320) (hi : i + 5 ≤ N) (nx : NX p l e s m below meth c D b i) {L : Nat → Nat} {σ : St} {X : XT} {sg : Nat → Nat} {n : Nat} {M : Nat → Option XT} (h : IV σ X sg n M) : GL p l e s m below meth c D b (100 + 12 * i) (2000 + 95 * i) 633 [(3, .int (nI i)), (0, .ref b), (1, .ref (L 24)), (2, .ref (L 33))] [] (wsOf D L σ) := by
  obtain ⟨hh, ho, hM⟩ := h
  refine lg_aload_n hF dL_law_633 rfl 2 rfl ?_
  refine lg_arg hF hX hbl hN 1 ci_1 (by omega) dL_law_634 dL_law_635 dL_law_636 dL_law_637 dL_law_638 ?_
  refine lg_call hF (nc := 0) (ns := 0) (As := [.int (xs (i + 1))]) km_L_79 ky_X4_carries ki_X4_carries (by decide) ⟨by omega, by omega⟩ 24 at_24 kC_X4.1 rfl (Nat.le_of_ble_eq_true rfl) dL_law_639 rfl (c_X4_carries (d := 17) hh.2.2.2.1 ho (fun σ1 hf1 hz1 => ?_))
  have h1 := hv_c hh hf1 hz1
  refine lg_aload_n hF dL_law_642 rfl 3 rfl ?_
  refine lg_arg hF hX hbl hN 1 ci_1 (by omega) dL_law_643 dL_law_644 dL_law_645 dL_law_646 dL_law_647 ?_
  refine lg_call hF (nc := 0) (ns := 0) (As := [.int (xs (i + 1))]) km_L_82 ky_X5_carries ki_X5_carries (by decide) ⟨by omega, by omega⟩ 33 at_33 kC_X5.1 rfl (Nat.le_of_ble_eq_true rfl) dL_law_648 rfl (c_X5_carries (d := 15) h1.1 ho (fun σ2 hf2 hr2 => ?_))
  have h2 := hv_r h1 hf2 hr2
  exact lg_icmpeq hF 1317 dL_law_651 (by decide) (fun _ => nx _ _ _ _ _ _ _ _ (by omega) (by omega) ⟨h2, ho, hM⟩) (fun z => absurd rfl z)
set_option maxHeartbeats 4000000 in
set_option maxRecDepth 20000 in
theorem law_c16 {p : Program} {l : Launch} {e : Env} {s : State} {m : MethodId} {below : List Frame} {meth : Method} {c : Code} {D : gE} {b N i : Nat} {xs : Nat → Int32} (hF : CK p s m meth c D b) (hX : va_X b N xs s s.heap) (hbl : b < s.heap.size) (hN : N ≤ 320) (hi : i + 5 ≤ N) (nx : NX p l e s m below meth c D b i) {L : Nat → Nat} {σ : St} {X : XT} {sg : Nat → Nat} {n : Nat} {M : Nat → Option XT} (h : IV σ X sg n M) : GL p l e s m below meth c D b (100 + 12 * i) (2000 + 95 * i) 656 [(3, .int (nI i)), (0, .ref b), (1, .ref (L 24)), (2, .ref (L 33))] [] (wsOf D L σ) := by
  obtain ⟨hh, ho, hM⟩ := h
  refine lg_aload_n hF dL_law_656 rfl 2 rfl ?_
  refine lg_arg hF hX hbl hN 1 ci_1 (by omega) dL_law_657 dL_law_658 dL_law_659 dL_law_660 dL_law_661 ?_
  refine lg_call hF (nc := 0) (ns := 0) (As := [.int (xs (i + 1))]) km_L_83 ky_X4_bent ki_X4_bent (by decide) ⟨by omega, by omega⟩ 24 at_24 kC_X4.1 rfl (Nat.le_of_ble_eq_true rfl) dL_law_662 rfl (c_X4_bent (d := 18) hh.2.2.2.1 ho (fun σ1 hf1 hz1 => ?_))
  have h1 := hv_c hh hf1 hz1
  refine lg_aload_n hF dL_law_665 rfl 3 rfl ?_
  refine lg_arg hF hX hbl hN 1 ci_1 (by omega) dL_law_666 dL_law_667 dL_law_668 dL_law_669 dL_law_670 ?_
  refine lg_call hF (nc := 0) (ns := 0) (As := [.int (xs (i + 1))]) km_L_86 ky_X5_bent ki_X5_bent (by decide) ⟨by omega, by omega⟩ 33 at_33 kC_X5.1 rfl (Nat.le_of_ble_eq_true rfl) dL_law_671 rfl (c_X5_bent (d := 18) h1.1 ho (fun σ2 hf2 hr2 => ?_))
  have h2 := hv_r h1 hf2 hr2
  exact lg_icmpeq hF 1317 dL_law_674 (by decide) (fun _ => nx _ _ _ _ _ _ _ _ (by omega) (by omega) ⟨h2, ho, hM⟩) (fun z => absurd rfl z)
set_option maxHeartbeats 4000000 in
set_option maxRecDepth 20000 in
theorem law_c17 {p : Program} {l : Launch} {e : Env} {s : State} {m : MethodId} {below : List Frame} {meth : Method} {c : Code} {D : gE} {b N i : Nat} {xs : Nat → Int32} (hF : CK p s m meth c D b) (hX : va_X b N xs s s.heap) (hbl : b < s.heap.size) (hN : N ≤ 320) (hi : i + 5 ≤ N) (nx : NX p l e s m below meth c D b i) {L : Nat → Nat} {σ : St} {X : XT} {sg : Nat → Nat} {n : Nat} {M : Nat → Option XT} (h : IV σ X sg n M) : GL p l e s m below meth c D b (100 + 12 * i) (2000 + 95 * i) 679 [(3, .int (nI i)), (0, .ref b), (1, .ref (L 24)), (2, .ref (L 33))] [] (wsOf D L σ) := by
  obtain ⟨hh, ho, hM⟩ := h
  refine lg_aload_n hF dL_law_679 rfl 2 rfl ?_
  refine lg_arg hF hX hbl hN 1 ci_1 (by omega) dL_law_680 dL_law_681 dL_law_682 dL_law_683 dL_law_684 ?_
  refine lg_arg hF hX hbl hN 2 ci_2 (by omega) dL_law_685 dL_law_686 dL_law_687 dL_law_688 dL_law_689 ?_
  refine lg_arg hF hX hbl hN 3 ci_3 (by omega) dL_law_690 dL_law_691 dL_law_692 dL_law_693 dL_law_694 ?_
  refine lg_call hF (nc := 0) (ns := 0) (As := [.int (xs (i + 1)), .int (xs (i + 2)), .int (xs (i + 3))]) km_L_87 ky_X4_way ki_X4_way (by decide) ⟨by omega, by omega⟩ 24 at_24 kC_X4.1 rfl (Nat.le_of_ble_eq_true rfl) dL_law_695 rfl (c_X4_way (d := 15) hh.2.2.2.1 ho (fun σ1 hf1 hz1 => ?_))
  have h1 := hv_c hh hf1 hz1
  refine lg_aload_n hF dL_law_698 rfl 3 rfl ?_
  refine lg_arg hF hX hbl hN 1 ci_1 (by omega) dL_law_699 dL_law_700 dL_law_701 dL_law_702 dL_law_703 ?_
  refine lg_arg hF hX hbl hN 2 ci_2 (by omega) dL_law_704 dL_law_705 dL_law_706 dL_law_707 dL_law_708 ?_
  refine lg_arg hF hX hbl hN 3 ci_3 (by omega) dL_law_709 dL_law_710 dL_law_711 dL_law_712 dL_law_713 ?_
  refine lg_call hF (nc := 0) (ns := 0) (As := [.int (xs (i + 1)), .int (xs (i + 2)), .int (xs (i + 3))]) km_L_90 ky_X5_way ki_X5_way (by decide) ⟨by omega, by omega⟩ 33 at_33 kC_X5.1 rfl (Nat.le_of_ble_eq_true rfl) dL_law_714 rfl (c_X5_way (d := 15) h1.1 ho (fun σ2 hf2 hr2 => ?_))
  have h2 := hv_r h1 hf2 hr2
  exact lg_icmpeq hF 1317 dL_law_717 (by decide) (fun _ => nx _ _ _ _ _ _ _ _ (by omega) (by omega) ⟨h2, ho, hM⟩) (fun z => absurd rfl z)
set_option maxHeartbeats 4000000 in
set_option maxRecDepth 20000 in
theorem law_c18 {p : Program} {l : Launch} {e : Env} {s : State} {m : MethodId} {below : List Frame} {meth : Method} {c : Code} {D : gE} {b N i : Nat} {xs : Nat → Int32} (hF : CK p s m meth c D b) (hX : va_X b N xs s s.heap) (hbl : b < s.heap.size) (hN : N ≤ 320) (hi : i + 5 ≤ N) (nx : NX p l e s m below meth c D b i) {L : Nat → Nat} {σ : St} {X : XT} {sg : Nat → Nat} {n : Nat} {M : Nat → Option XT} (h : IV σ X sg n M) : GL p l e s m below meth c D b (100 + 12 * i) (2000 + 95 * i) 722 [(3, .int (nI i)), (0, .ref b), (1, .ref (L 24)), (2, .ref (L 33))] [] (wsOf D L σ) := by
  obtain ⟨hh, ho, hM⟩ := h
  refine lg_aload_n hF dL_law_722 rfl 2 rfl ?_
  refine lg_arg hF hX hbl hN 1 ci_1 (by omega) dL_law_723 dL_law_724 dL_law_725 dL_law_726 dL_law_727 ?_
  refine lg_arg hF hX hbl hN 2 ci_2 (by omega) dL_law_728 dL_law_729 dL_law_730 dL_law_731 dL_law_732 ?_
  refine lg_arg hF hX hbl hN 3 ci_3 (by omega) dL_law_733 dL_law_734 dL_law_735 dL_law_736 dL_law_737 ?_
  refine lg_call hF (nc := 0) (ns := 0) (As := [.int (xs (i + 1)), .int (xs (i + 2)), .int (xs (i + 3))]) km_L_91 ky_X4_left ki_X4_left (by decide) ⟨by omega, by omega⟩ 24 at_24 kC_X4.1 rfl (Nat.le_of_ble_eq_true rfl) dL_law_738 rfl (c_X4_left (d := 16) hh.2.2.2.1 ho (fun σ1 hf1 hz1 => ?_))
  have h1 := hv_c hh hf1 hz1
  refine lg_aload_n hF dL_law_741 rfl 3 rfl ?_
  refine lg_arg hF hX hbl hN 1 ci_1 (by omega) dL_law_742 dL_law_743 dL_law_744 dL_law_745 dL_law_746 ?_
  refine lg_arg hF hX hbl hN 2 ci_2 (by omega) dL_law_747 dL_law_748 dL_law_749 dL_law_750 dL_law_751 ?_
  refine lg_arg hF hX hbl hN 3 ci_3 (by omega) dL_law_752 dL_law_753 dL_law_754 dL_law_755 dL_law_756 ?_
  refine lg_call hF (nc := 0) (ns := 0) (As := [.int (xs (i + 1)), .int (xs (i + 2)), .int (xs (i + 3))]) km_L_94 ky_X5_left ki_X5_left (by decide) ⟨by omega, by omega⟩ 33 at_33 kC_X5.1 rfl (Nat.le_of_ble_eq_true rfl) dL_law_757 rfl (c_X5_left (d := 15) h1.1 ho (fun σ2 hf2 hr2 => ?_))
  have h2 := hv_r h1 hf2 hr2
  exact lg_icmpeq hF 1317 dL_law_760 (by decide) (fun _ => nx _ _ _ _ _ _ _ _ (by omega) (by omega) ⟨h2, ho, hM⟩) (fun z => absurd rfl z)
set_option maxHeartbeats 4000000 in
set_option maxRecDepth 20000 in
theorem law_c19 {p : Program} {l : Launch} {e : Env} {s : State} {m : MethodId} {below : List Frame} {meth : Method} {c : Code} {D : gE} {b N i : Nat} {xs : Nat → Int32} (hF : CK p s m meth c D b) (hX : va_X b N xs s s.heap) (hbl : b < s.heap.size) (hN : N ≤ 320) (hi : i + 5 ≤ N) (nx : NX p l e s m below meth c D b i) {L : Nat → Nat} {σ : St} {X : XT} {sg : Nat → Nat} {n : Nat} {M : Nat → Option XT} (h : IV σ X sg n M) : GL p l e s m below meth c D b (100 + 12 * i) (2000 + 95 * i) 765 [(3, .int (nI i)), (0, .ref b), (1, .ref (L 24)), (2, .ref (L 33))] [] (wsOf D L σ) := by
  obtain ⟨hh, ho, hM⟩ := h
  refine lg_aload_n hF dL_law_765 rfl 2 rfl ?_
  refine lg_arg hF hX hbl hN 1 ci_1 (by omega) dL_law_766 dL_law_767 dL_law_768 dL_law_769 dL_law_770 ?_
  refine lg_arg hF hX hbl hN 2 ci_2 (by omega) dL_law_771 dL_law_772 dL_law_773 dL_law_774 dL_law_775 ?_
  refine lg_arg hF hX hbl hN 3 ci_3 (by omega) dL_law_776 dL_law_777 dL_law_778 dL_law_779 dL_law_780 ?_
  refine lg_call hF (nc := 0) (ns := 0) (As := [.int (xs (i + 1)), .int (xs (i + 2)), .int (xs (i + 3))]) km_L_95 ky_X4_cried ki_X4_cried (by decide) ⟨by omega, by omega⟩ 24 at_24 kC_X4.1 rfl (Nat.le_of_ble_eq_true rfl) dL_law_781 rfl (c_X4_cried (d := 16) hh.2.2.2.1 ho (fun σ1 hf1 hz1 => ?_))
  have h1 := hv_c hh hf1 hz1
  refine lg_aload_n hF dL_law_784 rfl 3 rfl ?_
  refine lg_arg hF hX hbl hN 1 ci_1 (by omega) dL_law_785 dL_law_786 dL_law_787 dL_law_788 dL_law_789 ?_
  refine lg_arg hF hX hbl hN 2 ci_2 (by omega) dL_law_790 dL_law_791 dL_law_792 dL_law_793 dL_law_794 ?_
  refine lg_arg hF hX hbl hN 3 ci_3 (by omega) dL_law_795 dL_law_796 dL_law_797 dL_law_798 dL_law_799 ?_
  refine lg_call hF (nc := 0) (ns := 0) (As := [.int (xs (i + 1)), .int (xs (i + 2)), .int (xs (i + 3))]) km_L_98 ky_X5_cried ki_X5_cried (by decide) ⟨by omega, by omega⟩ 33 at_33 kC_X5.1 rfl (Nat.le_of_ble_eq_true rfl) dL_law_800 rfl (c_X5_cried (d := 15) h1.1 ho (fun σ2 hf2 hr2 => ?_))
  have h2 := hv_r h1 hf2 hr2
  exact lg_icmpeq hF 1317 dL_law_803 (by decide) (fun _ => nx _ _ _ _ _ _ _ _ (by omega) (by omega) ⟨h2, ho, hM⟩) (fun z => absurd rfl z)
set_option maxHeartbeats 4000000 in
set_option maxRecDepth 20000 in
theorem law_c20 {p : Program} {l : Launch} {e : Env} {s : State} {m : MethodId} {below : List Frame} {meth : Method} {c : Code} {D : gE} {b N i : Nat} {xs : Nat → Int32} (hF : CK p s m meth c D b) (hX : va_X b N xs s s.heap) (hbl : b < s.heap.size) (hN : N ≤ 320) (hi : i + 5 ≤ N) (nx : NX p l e s m below meth c D b i) {L : Nat → Nat} {σ : St} {X : XT} {sg : Nat → Nat} {n : Nat} {M : Nat → Option XT} (h : IV σ X sg n M) : GL p l e s m below meth c D b (100 + 12 * i) (2000 + 95 * i) 808 [(3, .int (nI i)), (0, .ref b), (1, .ref (L 24)), (2, .ref (L 33))] [] (wsOf D L σ) := by
  obtain ⟨hh, ho, hM⟩ := h
  refine lg_aload_n hF dL_law_808 rfl 2 rfl ?_
  refine lg_arg hF hX hbl hN 1 ci_1 (by omega) dL_law_809 dL_law_810 dL_law_811 dL_law_812 dL_law_813 ?_
  refine lg_arg hF hX hbl hN 2 ci_2 (by omega) dL_law_814 dL_law_815 dL_law_816 dL_law_817 dL_law_818 ?_
  refine lg_arg hF hX hbl hN 3 ci_3 (by omega) dL_law_819 dL_law_820 dL_law_821 dL_law_822 dL_law_823 ?_
  refine lg_call hF (nc := 0) (ns := 0) (As := [.int (xs (i + 1)), .int (xs (i + 2)), .int (xs (i + 3))]) km_L_99 ky_X4_floated ki_X4_floated (by decide) ⟨by omega, by omega⟩ 24 at_24 kC_X4.1 rfl (Nat.le_of_ble_eq_true rfl) dL_law_824 rfl (c_X4_floated (d := 16) hh.2.2.2.1 ho (fun σ1 hf1 hz1 => ?_))
  have h1 := hv_c hh hf1 hz1
  refine lg_aload_n hF dL_law_827 rfl 3 rfl ?_
  refine lg_arg hF hX hbl hN 1 ci_1 (by omega) dL_law_828 dL_law_829 dL_law_830 dL_law_831 dL_law_832 ?_
  refine lg_arg hF hX hbl hN 2 ci_2 (by omega) dL_law_833 dL_law_834 dL_law_835 dL_law_836 dL_law_837 ?_
  refine lg_arg hF hX hbl hN 3 ci_3 (by omega) dL_law_838 dL_law_839 dL_law_840 dL_law_841 dL_law_842 ?_
  refine lg_call hF (nc := 0) (ns := 0) (As := [.int (xs (i + 1)), .int (xs (i + 2)), .int (xs (i + 3))]) km_L_102 ky_X5_floated ki_X5_floated (by decide) ⟨by omega, by omega⟩ 33 at_33 kC_X5.1 rfl (Nat.le_of_ble_eq_true rfl) dL_law_843 rfl (c_X5_floated (d := 15) h1.1 ho (fun σ2 hf2 hr2 => ?_))
  have h2 := hv_r h1 hf2 hr2
  exact lg_icmpeq hF 1317 dL_law_846 (by decide) (fun _ => nx _ _ _ _ _ _ _ _ (by omega) (by omega) ⟨h2, ho, hM⟩) (fun z => absurd rfl z)
set_option maxHeartbeats 4000000 in
set_option maxRecDepth 20000 in
theorem law_c21 {p : Program} {l : Launch} {e : Env} {s : State} {m : MethodId} {below : List Frame} {meth : Method} {c : Code} {D : gE} {b N i : Nat} {xs : Nat → Int32} (hF : CK p s m meth c D b) (hX : va_X b N xs s s.heap) (hbl : b < s.heap.size) (hN : N ≤ 320) (hi : i + 5 ≤ N) (nx : NX p l e s m below meth c D b i) {L : Nat → Nat} {σ : St} {X : XT} {sg : Nat → Nat} {n : Nat} {M : Nat → Option XT} (h : IV σ X sg n M) : GL p l e s m below meth c D b (100 + 12 * i) (2000 + 95 * i) 851 [(3, .int (nI i)), (0, .ref b), (1, .ref (L 24)), (2, .ref (L 33))] [] (wsOf D L σ) := by
  obtain ⟨hh, ho, hM⟩ := h
  refine lg_aload_n hF dL_law_851 rfl 2 rfl ?_
  refine lg_arg hF hX hbl hN 1 ci_1 (by omega) dL_law_852 dL_law_853 dL_law_854 dL_law_855 dL_law_856 ?_
  refine lg_arg hF hX hbl hN 2 ci_2 (by omega) dL_law_857 dL_law_858 dL_law_859 dL_law_860 dL_law_861 ?_
  refine lg_arg hF hX hbl hN 3 ci_3 (by omega) dL_law_862 dL_law_863 dL_law_864 dL_law_865 dL_law_866 ?_
  refine lg_call hF (nc := 0) (ns := 0) (As := [.int (xs (i + 1)), .int (xs (i + 2)), .int (xs (i + 3))]) km_L_103 ky_X4_mended ki_X4_mended (by decide) ⟨by omega, by omega⟩ 24 at_24 kC_X4.1 rfl (Nat.le_of_ble_eq_true rfl) dL_law_867 rfl (c_X4_mended (d := 16) hh.2.2.2.1 ho (fun σ1 hf1 hz1 => ?_))
  have h1 := hv_c hh hf1 hz1
  refine lg_aload_n hF dL_law_870 rfl 3 rfl ?_
  refine lg_arg hF hX hbl hN 1 ci_1 (by omega) dL_law_871 dL_law_872 dL_law_873 dL_law_874 dL_law_875 ?_
  refine lg_arg hF hX hbl hN 2 ci_2 (by omega) dL_law_876 dL_law_877 dL_law_878 dL_law_879 dL_law_880 ?_
  refine lg_arg hF hX hbl hN 3 ci_3 (by omega) dL_law_881 dL_law_882 dL_law_883 dL_law_884 dL_law_885 ?_
  refine lg_call hF (nc := 0) (ns := 0) (As := [.int (xs (i + 1)), .int (xs (i + 2)), .int (xs (i + 3))]) km_L_106 ky_X5_mended ki_X5_mended (by decide) ⟨by omega, by omega⟩ 33 at_33 kC_X5.1 rfl (Nat.le_of_ble_eq_true rfl) dL_law_886 rfl (c_X5_mended (d := 14) h1.1 ho (fun σ2 hf2 hr2 => ?_))
  have h2 := hv_r h1 hf2 hr2
  exact lg_icmpeq hF 1317 dL_law_889 (by decide) (fun _ => nx _ _ _ _ _ _ _ _ (by omega) (by omega) ⟨h2, ho, hM⟩) (fun z => absurd rfl z)
set_option maxHeartbeats 4000000 in
set_option maxRecDepth 20000 in
theorem law_c22 {p : Program} {l : Launch} {e : Env} {s : State} {m : MethodId} {below : List Frame} {meth : Method} {c : Code} {D : gE} {b N i : Nat} {xs : Nat → Int32} (hF : CK p s m meth c D b) (hX : va_X b N xs s s.heap) (hbl : b < s.heap.size) (hN : N ≤ 320) (hi : i + 5 ≤ N) (nx : NX p l e s m below meth c D b i) {L : Nat → Nat} {σ : St} {X : XT} {sg : Nat → Nat} {n : Nat} {M : Nat → Option XT} (h : IV σ X sg n M) : GL p l e s m below meth c D b (100 + 12 * i) (2000 + 95 * i) 894 [(3, .int (nI i)), (0, .ref b), (1, .ref (L 24)), (2, .ref (L 33))] [] (wsOf D L σ) := by
  obtain ⟨hh, ho, hM⟩ := h
  refine lg_aload_n hF dL_law_894 rfl 2 rfl ?_
  refine lg_arg hF hX hbl hN 1 ci_1 (by omega) dL_law_895 dL_law_896 dL_law_897 dL_law_898 dL_law_899 ?_
  refine lg_call hF (nc := 0) (ns := 0) (As := [.int (xs (i + 1))]) km_L_107 ky_X4_rumour ki_X4_rumour (by decide) ⟨by omega, by omega⟩ 24 at_24 kC_X4.1 rfl (Nat.le_of_ble_eq_true rfl) dL_law_900 rfl (c_X4_rumour (d := 15) hh.2.2.2.1 ho (fun σ1 hf1 hz1 => ?_))
  have h1 := hv_c hh hf1 hz1
  refine lg_aload_n hF dL_law_903 rfl 3 rfl ?_
  refine lg_arg hF hX hbl hN 1 ci_1 (by omega) dL_law_904 dL_law_905 dL_law_906 dL_law_907 dL_law_908 ?_
  refine lg_call hF (nc := 0) (ns := 0) (As := [.int (xs (i + 1))]) km_L_110 ky_X5_rumour ki_X5_rumour (by decide) ⟨by omega, by omega⟩ 33 at_33 kC_X5.1 rfl (Nat.le_of_ble_eq_true rfl) dL_law_909 rfl (c_X5_rumour (d := 14) h1.1 ho (fun σ2 hf2 hr2 => ?_))
  have h2 := hv_r h1 hf2 hr2
  exact lg_icmpeq hF 1317 dL_law_912 (by decide) (fun _ => nx _ _ _ _ _ _ _ _ (by omega) (by omega) ⟨h2, ho, hM⟩) (fun z => absurd rfl z)
set_option maxHeartbeats 4000000 in
set_option maxRecDepth 20000 in
theorem law_c23 {p : Program} {l : Launch} {e : Env} {s : State} {m : MethodId} {below : List Frame} {meth : Method} {c : Code} {D : gE} {b N i : Nat} {xs : Nat → Int32} (hF : CK p s m meth c D b) (hX : va_X b N xs s s.heap) (hbl : b < s.heap.size) (hN : N ≤ 320) (hi : i + 5 ≤ N) (nx : NX p l e s m below meth c D b i) {L : Nat → Nat} {σ : St} {X : XT} {sg : Nat → Nat} {n : Nat} {M : Nat → Option XT} (h : IV σ X sg n M) : GL p l e s m below meth c D b (100 + 12 * i) (2000 + 95 * i) 917 [(3, .int (nI i)), (0, .ref b), (1, .ref (L 24)), (2, .ref (L 33))] [] (wsOf D L σ) := by
  obtain ⟨hh, ho, hM⟩ := h
  refine lg_aload_n hF dL_law_917 rfl 2 rfl ?_
  refine lg_arg hF hX hbl hN 1 ci_1 (by omega) dL_law_918 dL_law_919 dL_law_920 dL_law_921 dL_law_922 ?_
  refine lg_arg hF hX hbl hN 2 ci_2 (by omega) dL_law_923 dL_law_924 dL_law_925 dL_law_926 dL_law_927 ?_
  refine lg_arg hF hX hbl hN 3 ci_3 (by omega) dL_law_928 dL_law_929 dL_law_930 dL_law_931 dL_law_932 ?_
  refine lg_call hF (nc := 0) (ns := 0) (As := [.int (xs (i + 1)), .int (xs (i + 2)), .int (xs (i + 3))]) km_L_111 ky_X4_errands ki_X4_errands (by decide) ⟨by omega, by omega⟩ 24 at_24 kC_X4.1 rfl (Nat.le_of_ble_eq_true rfl) dL_law_933 rfl (c_X4_errands (d := 7) hh.2.2.2.1 ho (fun σ1 hf1 hz1 => ?_))
  have h1 := hv_c hh hf1 hz1
  refine lg_aload_n hF dL_law_936 rfl 3 rfl ?_
  refine lg_arg hF hX hbl hN 1 ci_1 (by omega) dL_law_937 dL_law_938 dL_law_939 dL_law_940 dL_law_941 ?_
  refine lg_arg hF hX hbl hN 2 ci_2 (by omega) dL_law_942 dL_law_943 dL_law_944 dL_law_945 dL_law_946 ?_
  refine lg_arg hF hX hbl hN 3 ci_3 (by omega) dL_law_947 dL_law_948 dL_law_949 dL_law_950 dL_law_951 ?_
  refine lg_call hF (nc := 0) (ns := 0) (As := [.int (xs (i + 1)), .int (xs (i + 2)), .int (xs (i + 3))]) km_L_114 ky_X5_errands ki_X5_errands (by decide) ⟨by omega, by omega⟩ 33 at_33 kC_X5.1 rfl (Nat.le_of_ble_eq_true rfl) dL_law_952 rfl (c_X5_errands (d := 13) h1.1 ho (fun σ2 hf2 hr2 => ?_))
  have h2 := hv_r h1 hf2 hr2
  exact lg_icmpeq hF 1317 dL_law_955 (by decide) (fun _ => nx _ _ _ _ _ _ _ _ (by omega) (by omega) ⟨h2, ho, hM⟩) (fun z => absurd rfl z)
set_option maxHeartbeats 4000000 in
set_option maxRecDepth 20000 in
theorem law_c24 {p : Program} {l : Launch} {e : Env} {s : State} {m : MethodId} {below : List Frame} {meth : Method} {c : Code} {D : gE} {b N i : Nat} {xs : Nat → Int32} (hF : CK p s m meth c D b) (hX : va_X b N xs s s.heap) (hbl : b < s.heap.size) (hN : N ≤ 320) (hi : i + 5 ≤ N) (nx : NX p l e s m below meth c D b i) {L : Nat → Nat} {σ : St} {X : XT} {sg : Nat → Nat} {n : Nat} {M : Nat → Option XT} (h : IV σ X sg n M) : GL p l e s m below meth c D b (100 + 12 * i) (2000 + 95 * i) 960 [(3, .int (nI i)), (0, .ref b), (1, .ref (L 24)), (2, .ref (L 33))] [] (wsOf D L σ) := by
  obtain ⟨hh, ho, hM⟩ := h
  refine lg_aload_n hF dL_law_960 rfl 2 rfl ?_
  refine lg_arg hF hX hbl hN 1 ci_1 (by omega) dL_law_961 dL_law_962 dL_law_963 dL_law_964 dL_law_965 ?_
  refine lg_arg hF hX hbl hN 2 ci_2 (by omega) dL_law_966 dL_law_967 dL_law_968 dL_law_969 dL_law_970 ?_
  refine lg_arg hF hX hbl hN 3 ci_3 (by omega) dL_law_971 dL_law_972 dL_law_973 dL_law_974 dL_law_975 ?_
  refine lg_call hF (nc := 0) (ns := 0) (As := [.int (xs (i + 1)), .int (xs (i + 2)), .int (xs (i + 3))]) km_L_115 ky_X4_two ki_X4_two (by decide) ⟨by omega, by omega⟩ 24 at_24 kC_X4.1 rfl (Nat.le_of_ble_eq_true rfl) dL_law_976 rfl (c_X4_two (d := 16) hh.2.2.2.1 ho (fun σ1 hf1 hz1 => ?_))
  have h1 := hv_c hh hf1 hz1
  refine lg_aload_n hF dL_law_979 rfl 3 rfl ?_
  refine lg_arg hF hX hbl hN 1 ci_1 (by omega) dL_law_980 dL_law_981 dL_law_982 dL_law_983 dL_law_984 ?_
  refine lg_arg hF hX hbl hN 2 ci_2 (by omega) dL_law_985 dL_law_986 dL_law_987 dL_law_988 dL_law_989 ?_
  refine lg_arg hF hX hbl hN 3 ci_3 (by omega) dL_law_990 dL_law_991 dL_law_992 dL_law_993 dL_law_994 ?_
  refine lg_call hF (nc := 0) (ns := 0) (As := [.int (xs (i + 1)), .int (xs (i + 2)), .int (xs (i + 3))]) km_L_118 ky_X5_two ki_X5_two (by decide) ⟨by omega, by omega⟩ 33 at_33 kC_X5.1 rfl (Nat.le_of_ble_eq_true rfl) dL_law_995 rfl (c_X5_two (d := 14) h1.1 ho (fun σ2 hf2 hr2 => ?_))
  have h2 := hv_r h1 hf2 hr2
  exact lg_icmpeq hF 1317 dL_law_998 (by decide) (fun _ => nx _ _ _ _ _ _ _ _ (by omega) (by omega) ⟨h2, ho, hM⟩) (fun z => absurd rfl z)
set_option maxHeartbeats 4000000 in
set_option maxRecDepth 20000 in
theorem law_c25 {p : Program} {l : Launch} {e : Env} {s : State} {m : MethodId} {below : List Frame} {meth : Method} {c : Code} {D : gE} {b N i : Nat} {xs : Nat → Int32} (hF : CK p s m meth c D b) (hX : va_X b N xs s s.heap) (hbl : b < s.heap.size) (hN : N ≤ 320) (hi : i + 5 ≤ N) (nx : NX p l e s m below meth c D b i) {L : Nat → Nat} {σ : St} {X : XT} {sg : Nat → Nat} {n : Nat} {M : Nat → Option XT} (h : IV σ X sg n M) : GL p l e s m below meth c D b (100 + 12 * i) (2000 + 95 * i) 1003 [(3, .int (nI i)), (0, .ref b), (1, .ref (L 24)), (2, .ref (L 33))] [] (wsOf D L σ) := by
  obtain ⟨hh, ho, hM⟩ := h
  refine lg_aload_n hF dL_law_1003 rfl 2 rfl ?_
  refine lg_arg hF hX hbl hN 1 ci_1 (by omega) dL_law_1004 dL_law_1005 dL_law_1006 dL_law_1007 dL_law_1008 ?_
  refine lg_arg hF hX hbl hN 2 ci_2 (by omega) dL_law_1009 dL_law_1010 dL_law_1011 dL_law_1012 dL_law_1013 ?_
  refine lg_call hF (nc := 0) (ns := 0) (As := [.int (xs (i + 1)), .int (xs (i + 2))]) km_L_119 ky_X4_fee ki_X4_fee (by decide) ⟨by omega, by omega⟩ 24 at_24 kC_X4.1 rfl (Nat.le_of_ble_eq_true rfl) dL_law_1014 rfl (c_X4_fee (d := 16) hh.2.2.2.1 ho (fun σ1 hf1 hz1 => ?_))
  have h1 := hv_c hh hf1 hz1
  refine lg_aload_n hF dL_law_1017 rfl 3 rfl ?_
  refine lg_arg hF hX hbl hN 1 ci_1 (by omega) dL_law_1018 dL_law_1019 dL_law_1020 dL_law_1021 dL_law_1022 ?_
  refine lg_arg hF hX hbl hN 2 ci_2 (by omega) dL_law_1023 dL_law_1024 dL_law_1025 dL_law_1026 dL_law_1027 ?_
  refine lg_call hF (nc := 0) (ns := 0) (As := [.int (xs (i + 1)), .int (xs (i + 2))]) km_L_122 ky_X5_fee ki_X5_fee (by decide) ⟨by omega, by omega⟩ 33 at_33 kC_X5.1 rfl (Nat.le_of_ble_eq_true rfl) dL_law_1028 rfl (c_X5_fee (d := 14) h1.1 ho (fun σ2 hf2 hr2 => ?_))
  have h2 := hv_r h1 hf2 hr2
  exact lg_icmpeq hF 1317 dL_law_1031 (by decide) (fun _ => nx _ _ _ _ _ _ _ _ (by omega) (by omega) ⟨h2, ho, hM⟩) (fun z => absurd rfl z)
set_option maxHeartbeats 4000000 in
set_option maxRecDepth 20000 in
theorem law_c26 {p : Program} {l : Launch} {e : Env} {s : State} {m : MethodId} {below : List Frame} {meth : Method} {c : Code} {D : gE} {b N i : Nat} {xs : Nat → Int32} (hF : CK p s m meth c D b) (hX : va_X b N xs s s.heap) (hbl : b < s.heap.size) (hN : N ≤ 320) (hi : i + 5 ≤ N) (nx : NX p l e s m below meth c D b i) {L : Nat → Nat} {σ : St} {X : XT} {sg : Nat → Nat} {n : Nat} {M : Nat → Option XT} (h : IV σ X sg n M) : GL p l e s m below meth c D b (100 + 12 * i) (2000 + 95 * i) 1036 [(3, .int (nI i)), (0, .ref b), (1, .ref (L 24)), (2, .ref (L 33))] [] (wsOf D L σ) := by
  obtain ⟨hh, ho, hM⟩ := h
  refine lg_aload_n hF dL_law_1036 rfl 2 rfl ?_
  refine lg_arg hF hX hbl hN 1 ci_1 (by omega) dL_law_1037 dL_law_1038 dL_law_1039 dL_law_1040 dL_law_1041 ?_
  refine lg_arg hF hX hbl hN 2 ci_2 (by omega) dL_law_1042 dL_law_1043 dL_law_1044 dL_law_1045 dL_law_1046 ?_
  refine lg_call hF (nc := 0) (ns := 0) (As := [.int (xs (i + 1)), .int (xs (i + 2))]) km_L_123 ky_X4_fees ki_X4_fees (by decide) ⟨by omega, by omega⟩ 24 at_24 kC_X4.1 rfl (Nat.le_of_ble_eq_true rfl) dL_law_1047 rfl (c_X4_fees (d := 16) hh.2.2.2.1 ho (fun σ1 hf1 hz1 => ?_))
  have h1 := hv_c hh hf1 hz1
  refine lg_aload_n hF dL_law_1050 rfl 3 rfl ?_
  refine lg_arg hF hX hbl hN 1 ci_1 (by omega) dL_law_1051 dL_law_1052 dL_law_1053 dL_law_1054 dL_law_1055 ?_
  refine lg_arg hF hX hbl hN 2 ci_2 (by omega) dL_law_1056 dL_law_1057 dL_law_1058 dL_law_1059 dL_law_1060 ?_
  refine lg_call hF (nc := 0) (ns := 0) (As := [.int (xs (i + 1)), .int (xs (i + 2))]) km_L_126 ky_X5_fees ki_X5_fees (by decide) ⟨by omega, by omega⟩ 33 at_33 kC_X5.1 rfl (Nat.le_of_ble_eq_true rfl) dL_law_1061 rfl (c_X5_fees (d := 13) h1.1 ho (fun σ2 hf2 hr2 => ?_))
  have h2 := hv_r h1 hf2 hr2
  exact lg_icmpeq hF 1317 dL_law_1064 (by decide) (fun _ => nx _ _ _ _ _ _ _ _ (by omega) (by omega) ⟨h2, ho, hM⟩) (fun z => absurd rfl z)
set_option maxHeartbeats 4000000 in
set_option maxRecDepth 20000 in
theorem law_c27 {p : Program} {l : Launch} {e : Env} {s : State} {m : MethodId} {below : List Frame} {meth : Method} {c : Code} {D : gE} {b N i : Nat} {xs : Nat → Int32} (hF : CK p s m meth c D b) (hX : va_X b N xs s s.heap) (hbl : b < s.heap.size) (hN : N ≤ 320) (hi : i + 5 ≤ N) (nx : NX p l e s m below meth c D b i) {L : Nat → Nat} {σ : St} {X : XT} {sg : Nat → Nat} {n : Nat} {M : Nat → Option XT} (h : IV σ X sg n M) : GL p l e s m below meth c D b (100 + 12 * i) (2000 + 95 * i) 1069 [(3, .int (nI i)), (0, .ref b), (1, .ref (L 24)), (2, .ref (L 33))] [] (wsOf D L σ) := by
  obtain ⟨hh, ho, hM⟩ := h
  refine lg_aload_n hF dL_law_1069 rfl 2 rfl ?_
  refine lg_arg hF hX hbl hN 1 ci_1 (by omega) dL_law_1070 dL_law_1071 dL_law_1072 dL_law_1073 dL_law_1074 ?_
  refine lg_arg hF hX hbl hN 2 ci_2 (by omega) dL_law_1075 dL_law_1076 dL_law_1077 dL_law_1078 dL_law_1079 ?_
  refine lg_call hF (nc := 0) (ns := 0) (As := [.int (xs (i + 1)), .int (xs (i + 2))]) km_L_127 ky_X4_seen ki_X4_seen (by decide) ⟨by omega, by omega⟩ 24 at_24 kC_X4.1 rfl (Nat.le_of_ble_eq_true rfl) dL_law_1080 rfl (c_X4_seen (d := 19) hh.2.2.2.1 ho (fun σ1 hf1 hz1 => ?_))
  have h1 := hv_c hh hf1 hz1
  refine lg_aload_n hF dL_law_1083 rfl 3 rfl ?_
  refine lg_arg hF hX hbl hN 1 ci_1 (by omega) dL_law_1084 dL_law_1085 dL_law_1086 dL_law_1087 dL_law_1088 ?_
  refine lg_arg hF hX hbl hN 2 ci_2 (by omega) dL_law_1089 dL_law_1090 dL_law_1091 dL_law_1092 dL_law_1093 ?_
  refine lg_call hF (nc := 0) (ns := 0) (As := [.int (xs (i + 1)), .int (xs (i + 2))]) km_L_130 ky_X5_seen ki_X5_seen (by decide) ⟨by omega, by omega⟩ 33 at_33 kC_X5.1 rfl (Nat.le_of_ble_eq_true rfl) dL_law_1094 rfl (c_X5_seen (d := 19) h1.1 ho (fun σ2 hf2 hr2 => ?_))
  have h2 := hv_r h1 hf2 hr2
  exact lg_icmpeq hF 1317 dL_law_1097 (by decide) (fun _ => nx _ _ _ _ _ _ _ _ (by omega) (by omega) ⟨h2, oko_seen ho _ _, hM⟩) (fun z => absurd rfl z)
set_option maxHeartbeats 4000000 in
set_option maxRecDepth 20000 in
theorem law_c28 {p : Program} {l : Launch} {e : Env} {s : State} {m : MethodId} {below : List Frame} {meth : Method} {c : Code} {D : gE} {b N i : Nat} {xs : Nat → Int32} (hF : CK p s m meth c D b) (hX : va_X b N xs s s.heap) (hbl : b < s.heap.size) (hN : N ≤ 320) (hi : i + 5 ≤ N) (nx : NX p l e s m below meth c D b i) {L : Nat → Nat} {σ : St} {X : XT} {sg : Nat → Nat} {n : Nat} {M : Nat → Option XT} (h : IV σ X sg n M) : GL p l e s m below meth c D b (100 + 12 * i) (2000 + 95 * i) 1102 [(3, .int (nI i)), (0, .ref b), (1, .ref (L 24)), (2, .ref (L 33))] [] (wsOf D L σ) := by
  obtain ⟨hh, ho, hM⟩ := h
  refine lg_aload_n hF dL_law_1102 rfl 2 rfl ?_
  refine lg_call hF (nc := 0) (ns := 0) (As := []) km_L_131 ky_X4_forget ki_X4_forget (by decide) ⟨by omega, by omega⟩ 24 at_24 kC_X4.1 rfl (Nat.le_of_ble_eq_true rfl) dL_law_1103 rfl (c_X4_forget (d := 20) hh.2.2.2.1 ho (fun σ1 hf1 hz1 => ?_))
  have h1 := hv_c hh hf1 hz1
  refine lg_aload_n hF dL_law_1106 rfl 3 rfl ?_
  refine lg_call hF (nc := 0) (ns := 0) (As := []) km_L_134 ky_X5_forget ki_X5_forget (by decide) ⟨by omega, by omega⟩ 33 at_33 kC_X5.1 rfl (Nat.le_of_ble_eq_true rfl) dL_law_1107 rfl (c_X5_forget (d := 20) h1.1 ho (fun σ2 hf2 hr2 => ?_))
  have h2 := hv_r h1 hf2 hr2
  exact lg_icmpeq hF 1317 dL_law_1110 (by decide) (fun _ => nx _ _ _ _ _ _ _ _ (by omega) (by omega) ⟨h2, oko_forget ho, hM⟩) (fun z => absurd rfl z)
set_option maxHeartbeats 4000000 in
set_option maxRecDepth 20000 in
theorem law_c29 {p : Program} {l : Launch} {e : Env} {s : State} {m : MethodId} {below : List Frame} {meth : Method} {c : Code} {D : gE} {b N i : Nat} {xs : Nat → Int32} (hF : CK p s m meth c D b) (hX : va_X b N xs s s.heap) (hbl : b < s.heap.size) (hN : N ≤ 320) (hi : i + 5 ≤ N) (nx : NX p l e s m below meth c D b i) {L : Nat → Nat} {σ : St} {X : XT} {sg : Nat → Nat} {n : Nat} {M : Nat → Option XT} (h : IV σ X sg n M) : GL p l e s m below meth c D b (100 + 12 * i) (2000 + 95 * i) 1115 [(3, .int (nI i)), (0, .ref b), (1, .ref (L 24)), (2, .ref (L 33))] [] (wsOf D L σ) := by
  obtain ⟨hh, ho, hM⟩ := h
  refine lg_aload_n hF dL_law_1115 rfl 2 rfl ?_
  refine lg_arg hF hX hbl hN 1 ci_1 (by omega) dL_law_1116 dL_law_1117 dL_law_1118 dL_law_1119 dL_law_1120 ?_
  refine lg_call hF (nc := 0) (ns := 0) (As := [.int (xs (i + 1))]) km_L_135 ky_X4_who ki_X4_who (by decide) ⟨by omega, by omega⟩ 24 at_24 kC_X4.1 rfl (Nat.le_of_ble_eq_true rfl) dL_law_1121 rfl (c_X4_who (d := 16) hh.2.2.2.1 ho (fun σ1 hf1 hz1 => ?_))
  have h1 := hv_c hh hf1 hz1
  refine lg_aload_n hF dL_law_1124 rfl 3 rfl ?_
  refine lg_arg hF hX hbl hN 1 ci_1 (by omega) dL_law_1125 dL_law_1126 dL_law_1127 dL_law_1128 dL_law_1129 ?_
  refine lg_call hF (nc := 0) (ns := 0) (As := [.int (xs (i + 1))]) km_L_138 ky_X5_who ki_X5_who (by decide) ⟨by omega, by omega⟩ 33 at_33 kC_X5.1 rfl (Nat.le_of_ble_eq_true rfl) dL_law_1130 rfl (c_X5_who (d := 14) h1.1 ho (fun σ2 hf2 hr2 => ?_))
  have h2 := hv_r h1 hf2 hr2
  exact lg_icmpeq hF 1317 dL_law_1133 (by decide) (fun _ => nx _ _ _ _ _ _ _ _ (by omega) (by omega) ⟨h2, ho, hM⟩) (fun z => absurd rfl z)
set_option maxHeartbeats 4000000 in
set_option maxRecDepth 20000 in
theorem law_c30 {p : Program} {l : Launch} {e : Env} {s : State} {m : MethodId} {below : List Frame} {meth : Method} {c : Code} {D : gE} {b N i : Nat} {xs : Nat → Int32} (hF : CK p s m meth c D b) (hX : va_X b N xs s s.heap) (hbl : b < s.heap.size) (hN : N ≤ 320) (hi : i + 5 ≤ N) (nx : NX p l e s m below meth c D b i) {L : Nat → Nat} {σ : St} {X : XT} {sg : Nat → Nat} {n : Nat} {M : Nat → Option XT} (h : IV σ X sg n M) : GL p l e s m below meth c D b (100 + 12 * i) (2000 + 95 * i) 1138 [(3, .int (nI i)), (0, .ref b), (1, .ref (L 24)), (2, .ref (L 33))] [] (wsOf D L σ) := by
  obtain ⟨hh, ho, hM⟩ := h
  refine lg_aload_n hF dL_law_1138 rfl 2 rfl ?_
  refine lg_call hF (nc := 0) (ns := 0) (As := []) km_L_139 ky_X4_fit ki_X4_fit (by decide) ⟨by omega, by omega⟩ 24 at_24 kC_X4.1 rfl (Nat.le_of_ble_eq_true rfl) dL_law_1139 rfl (c_X4_fit (d := 16) hh.2.2.2.1 ho (fun σ1 hf1 hz1 => ?_))
  have h1 := hv_c hh hf1 hz1
  refine lg_aload_n hF dL_law_1142 rfl 3 rfl ?_
  refine lg_call hF (nc := 0) (ns := 0) (As := []) km_L_142 ky_X5_fit ki_X5_fit (by decide) ⟨by omega, by omega⟩ 33 at_33 kC_X5.1 rfl (Nat.le_of_ble_eq_true rfl) dL_law_1143 rfl (c_X5_fit (d := 14) h1.1 ho (fun σ2 hf2 hr2 => ?_))
  have h2 := hv_r h1 hf2 hr2
  exact lg_icmpeq hF 1317 dL_law_1146 (by decide) (fun _ => nx _ _ _ _ _ _ _ _ (by omega) (by omega) ⟨h2, ho, hM⟩) (fun z => absurd rfl z)
set_option maxHeartbeats 4000000 in
set_option maxRecDepth 20000 in
theorem law_c31 {p : Program} {l : Launch} {e : Env} {s : State} {m : MethodId} {below : List Frame} {meth : Method} {c : Code} {D : gE} {b N i : Nat} {xs : Nat → Int32} (hF : CK p s m meth c D b) (hX : va_X b N xs s s.heap) (hbl : b < s.heap.size) (hN : N ≤ 320) (hi : i + 5 ≤ N) (nx : NX p l e s m below meth c D b i) {L : Nat → Nat} {σ : St} {X : XT} {sg : Nat → Nat} {n : Nat} {M : Nat → Option XT} (h : IV σ X sg n M) : GL p l e s m below meth c D b (100 + 12 * i) (2000 + 95 * i) 1151 [(3, .int (nI i)), (0, .ref b), (1, .ref (L 24)), (2, .ref (L 33))] [] (wsOf D L σ) := by
  obtain ⟨hh, ho, hM⟩ := h
  refine lg_aload_n hF dL_law_1151 rfl 2 rfl ?_
  refine lg_arg hF hX hbl hN 1 ci_1 (by omega) dL_law_1152 dL_law_1153 dL_law_1154 dL_law_1155 dL_law_1156 ?_
  refine lg_arg hF hX hbl hN 2 ci_2 (by omega) dL_law_1157 dL_law_1158 dL_law_1159 dL_law_1160 dL_law_1161 ?_
  refine lg_arg hF hX hbl hN 3 ci_3 (by omega) dL_law_1162 dL_law_1163 dL_law_1164 dL_law_1165 dL_law_1166 ?_
  refine lg_arg hF hX hbl hN 4 ci_4 (by omega) dL_law_1167 dL_law_1168 dL_law_1169 dL_law_1170 dL_law_1171 ?_
  refine lg_call hF (nc := 0) (ns := 0) (As := [.int (xs (i + 1)), .int (xs (i + 2)), .int (xs (i + 3)), .int (xs (i + 4))]) km_L_143 ky_X4_chance ki_X4_chance (by decide) ⟨by omega, by omega⟩ 24 at_24 kC_X4.1 rfl (Nat.le_of_ble_eq_true rfl) dL_law_1172 rfl (c_X4_chance (d := 17) hh.2.2.2.1 ho (fun σ1 hf1 hz1 => ?_))
  have h1 := hv_c hh hf1 hz1
  refine lg_aload_n hF dL_law_1175 rfl 3 rfl ?_
  refine lg_arg hF hX hbl hN 1 ci_1 (by omega) dL_law_1176 dL_law_1177 dL_law_1178 dL_law_1179 dL_law_1180 ?_
  refine lg_arg hF hX hbl hN 2 ci_2 (by omega) dL_law_1181 dL_law_1182 dL_law_1183 dL_law_1184 dL_law_1185 ?_
  refine lg_arg hF hX hbl hN 3 ci_3 (by omega) dL_law_1186 dL_law_1187 dL_law_1188 dL_law_1189 dL_law_1190 ?_
  refine lg_arg hF hX hbl hN 4 ci_4 (by omega) dL_law_1191 dL_law_1192 dL_law_1193 dL_law_1194 dL_law_1195 ?_
  refine lg_call hF (nc := 0) (ns := 0) (As := [.int (xs (i + 1)), .int (xs (i + 2)), .int (xs (i + 3)), .int (xs (i + 4))]) km_L_147 ky_X5_chance ki_X5_chance (by decide) ⟨by omega, by omega⟩ 33 at_33 kC_X5.1 rfl (Nat.le_of_ble_eq_true rfl) dL_law_1196 rfl (c_X5_chance (d := 14) h1.1 ho (fun σ2 hf2 hr2 => ?_))
  have h2 := hv_r h1 hf2 hr2
  refine lg_lcmp hF dL_law_1199 ?_
  exact lg_ifeq hF 1317 dL_law_1200 (by decide) (fun _ => nx _ _ _ _ _ _ _ _ (by omega) (by omega) ⟨h2, ho, hM⟩) (fun z => absurd (lg_cmp_self _) z)
set_option maxHeartbeats 4000000 in
set_option maxRecDepth 20000 in
theorem law_c32 {p : Program} {l : Launch} {e : Env} {s : State} {m : MethodId} {below : List Frame} {meth : Method} {c : Code} {D : gE} {b N i : Nat} {xs : Nat → Int32} (hF : CK p s m meth c D b) (hX : va_X b N xs s s.heap) (hbl : b < s.heap.size) (hN : N ≤ 320) (hi : i + 5 ≤ N) (nx : NX p l e s m below meth c D b i) {L : Nat → Nat} {σ : St} {X : XT} {sg : Nat → Nat} {n : Nat} {M : Nat → Option XT} (h : IV σ X sg n M) : GL p l e s m below meth c D b (100 + 12 * i) (2000 + 95 * i) 1205 [(3, .int (nI i)), (0, .ref b), (1, .ref (L 24)), (2, .ref (L 33))] [] (wsOf D L σ) := by
  obtain ⟨hh, ho, hM⟩ := h
  refine lg_aload_n hF dL_law_1205 rfl 2 rfl ?_
  refine lg_arg hF hX hbl hN 1 ci_1 (by omega) dL_law_1206 dL_law_1207 dL_law_1208 dL_law_1209 dL_law_1210 ?_
  refine lg_arg hF hX hbl hN 2 ci_2 (by omega) dL_law_1211 dL_law_1212 dL_law_1213 dL_law_1214 dL_law_1215 ?_
  refine lg_arg hF hX hbl hN 3 ci_3 (by omega) dL_law_1216 dL_law_1217 dL_law_1218 dL_law_1219 dL_law_1220 ?_
  refine lg_call hF (nc := 0) (ns := 0) (As := [.int (xs (i + 1)), .int (xs (i + 2)), .int (xs (i + 3))]) km_L_148 ky_X4_year ki_X4_year (by decide) ⟨by omega, by omega⟩ 24 at_24 kC_X4.1 rfl (Nat.le_of_ble_eq_true rfl) dL_law_1221 rfl (c_X4_year (d := 16) hh.2.2.2.1 ho (fun σ1 hf1 hz1 => ?_))
  have h1 := hv_c hh hf1 hz1
  refine lg_aload_n hF dL_law_1224 rfl 3 rfl ?_
  refine lg_arg hF hX hbl hN 1 ci_1 (by omega) dL_law_1225 dL_law_1226 dL_law_1227 dL_law_1228 dL_law_1229 ?_
  refine lg_arg hF hX hbl hN 2 ci_2 (by omega) dL_law_1230 dL_law_1231 dL_law_1232 dL_law_1233 dL_law_1234 ?_
  refine lg_arg hF hX hbl hN 3 ci_3 (by omega) dL_law_1235 dL_law_1236 dL_law_1237 dL_law_1238 dL_law_1239 ?_
  refine lg_call hF (nc := 0) (ns := 0) (As := [.int (xs (i + 1)), .int (xs (i + 2)), .int (xs (i + 3))]) km_L_151 ky_X5_year ki_X5_year (by decide) ⟨by omega, by omega⟩ 33 at_33 kC_X5.1 rfl (Nat.le_of_ble_eq_true rfl) dL_law_1240 rfl (c_X5_year (d := 14) h1.1 ho (fun σ2 hf2 hr2 => ?_))
  have h2 := hv_r h1 hf2 hr2
  exact lg_icmpeq hF 1317 dL_law_1243 (by decide) (fun _ => nx _ _ _ _ _ _ _ _ (by omega) (by omega) ⟨h2, ho, hM⟩) (fun z => absurd rfl z)
set_option maxHeartbeats 4000000 in
set_option maxRecDepth 20000 in
theorem law_c33 {p : Program} {l : Launch} {e : Env} {s : State} {m : MethodId} {below : List Frame} {meth : Method} {c : Code} {D : gE} {b N i : Nat} {xs : Nat → Int32} (hF : CK p s m meth c D b) (hX : va_X b N xs s s.heap) (hbl : b < s.heap.size) (hN : N ≤ 320) (hi : i + 5 ≤ N) (nx : NX p l e s m below meth c D b i) {L : Nat → Nat} {σ : St} {X : XT} {sg : Nat → Nat} {n : Nat} {M : Nat → Option XT} (h : IV σ X sg n M) : GL p l e s m below meth c D b (100 + 12 * i) (2000 + 95 * i) 1248 [(3, .int (nI i)), (0, .ref b), (1, .ref (L 24)), (2, .ref (L 33))] [] (wsOf D L σ) := by
  obtain ⟨hh, ho, hM⟩ := h
  refine lg_aload_n hF dL_law_1248 rfl 2 rfl ?_
  refine lg_arg hF hX hbl hN 1 ci_1 (by omega) dL_law_1249 dL_law_1250 dL_law_1251 dL_law_1252 dL_law_1253 ?_
  refine lg_call hF (nc := 12) (ns := 95) (As := [.int (xs (i + 1))]) km_L_152 ky_X4_image ki_X4_image (by decide) ⟨by omega, by omega⟩ 24 at_24 kC_X4.1 rfl (Nat.le_of_ble_eq_true rfl) dL_law_1254 rfl (c_X4_image (d := 16) hh.2.2.2.1 hh.2.2.2.2.2 (fun L1 σ1 hL1 hf1 hz1 hm1 => ?_))
  rw [← hL1 24 (by omega), ← hL1 33 (by omega)]
  have h1 := hv_cI hh hf1 hz1 hm1
  refine lg_aload_n hF dL_law_1257 rfl 3 rfl ?_
  refine lg_arg hF hX hbl hN 1 ci_1 (by omega) dL_law_1258 dL_law_1259 dL_law_1260 dL_law_1261 dL_law_1262 ?_
  refine lg_call hF (nc := 0) (ns := 0) (As := [.int (xs (i + 1))]) km_L_155 ky_X5_image ki_X5_image (by decide) ⟨by omega, by omega⟩ 33 at_33 kC_X5.1 rfl (Nat.le_of_ble_eq_true rfl) dL_law_1263 rfl (c_X5_image (d := 18) h1.1 ho h1.2.2.1 (fun σ2 hf2 hr2 hm2 => ?_))
  have h2 := hv_rI h1 hf2 hr2 hm2
  exact lg_icmpeq hF 1317 dL_law_1266 (by decide) (fun _ => nx _ _ _ _ _ _ _ _ (by omega) (by omega) ⟨h2, ho, oko_image ho hM _⟩) (fun z => absurd rfl z)
set_option maxHeartbeats 4000000 in
set_option maxRecDepth 20000 in
theorem law_c34 {p : Program} {l : Launch} {e : Env} {s : State} {m : MethodId} {below : List Frame} {meth : Method} {c : Code} {D : gE} {b N i : Nat} {xs : Nat → Int32} (hF : CK p s m meth c D b) (hX : va_X b N xs s s.heap) (hbl : b < s.heap.size) (hN : N ≤ 320) (hi : i + 5 ≤ N) (nx : NX p l e s m below meth c D b i) {L : Nat → Nat} {σ : St} {X : XT} {sg : Nat → Nat} {n : Nat} {M : Nat → Option XT} (h : IV σ X sg n M) : GL p l e s m below meth c D b (100 + 12 * i) (2000 + 95 * i) 1271 [(3, .int (nI i)), (0, .ref b), (1, .ref (L 24)), (2, .ref (L 33))] [] (wsOf D L σ) := by
  obtain ⟨hh, ho, hM⟩ := h
  refine lg_aload_n hF dL_law_1271 rfl 2 rfl ?_
  refine lg_arg hF hX hbl hN 1 ci_1 (by omega) dL_law_1272 dL_law_1273 dL_law_1274 dL_law_1275 dL_law_1276 ?_
  refine lg_call hF (nc := 0) (ns := 0) (As := [.int (xs (i + 1))]) km_L_156 ky_X4_restore ki_X4_restore (by decide) ⟨by omega, by omega⟩ 24 at_24 kC_X4.1 rfl (Nat.le_of_ble_eq_true rfl) dL_law_1277 rfl (c_X4_restore (d := 18) hh.2.2.2.1 hh.2.2.2.2.2 (fun σ1 hf1 hz1 => ?_))
  have h1 := hv_c hh (fc_ft hf1 (by decide)) hz1
  refine lg_aload_n hF dL_law_1280 rfl 3 rfl ?_
  refine lg_arg hF hX hbl hN 1 ci_1 (by omega) dL_law_1281 dL_law_1282 dL_law_1283 dL_law_1284 dL_law_1285 ?_
  refine lg_call hF (nc := 0) (ns := 0) (As := [.int (xs (i + 1))]) km_L_159 ky_X5_restore ki_X5_restore (by decide) ⟨by omega, by omega⟩ 33 at_33 kC_X5.1 rfl (Nat.le_of_ble_eq_true rfl) dL_law_1286 rfl (c_X5_restore (d := 18) h1.1 ho h1.2.2.1 (fun σ2 hf2 hr2 hm2 => ?_))
  have h2 := hv_rI h1 hf2 hr2 hm2
  exact lg_icmpeq hF 1317 dL_law_1289 (by decide) (fun _ => nx _ _ _ _ _ _ _ _ (by omega) (by omega) ⟨h2, oko_restore ho hM _, hM⟩) (fun z => absurd rfl z)
set_option maxHeartbeats 4000000 in
set_option maxRecDepth 20000 in
theorem law_c35 {p : Program} {l : Launch} {e : Env} {s : State} {m : MethodId} {below : List Frame} {meth : Method} {c : Code} {D : gE} {b N i : Nat} {xs : Nat → Int32} (hF : CK p s m meth c D b) (hX : va_X b N xs s s.heap) (hbl : b < s.heap.size) (hN : N ≤ 320) (hi : i + 5 ≤ N) (nx : NX p l e s m below meth c D b i) {L : Nat → Nat} {σ : St} {X : XT} {sg : Nat → Nat} {n : Nat} {M : Nat → Option XT} (h : IV σ X sg n M) : GL p l e s m below meth c D b (100 + 12 * i) (2000 + 95 * i) 1294 [(3, .int (nI i)), (0, .ref b), (1, .ref (L 24)), (2, .ref (L 33))] [] (wsOf D L σ) := by
  obtain ⟨hh, ho, hM⟩ := h
  refine lg_aload_n hF dL_law_1294 rfl 2 rfl ?_
  refine lg_arg hF hX hbl hN 1 ci_1 (by omega) dL_law_1295 dL_law_1296 dL_law_1297 dL_law_1298 dL_law_1299 ?_
  refine lg_call hF (nc := 0) (ns := 0) (As := [.int (xs (i + 1))]) km_L_160 ky_X4_told ki_X4_told (by decide) ⟨by omega, by omega⟩ 24 at_24 kC_X4.1 rfl (Nat.le_of_ble_eq_true rfl) dL_law_1300 rfl (c_X4_told (d := 17) hh.2.2.2.1 ho hh.2.2.2.2.1.1 (fun σ1 hf1 hz1 => ?_))
  have h1 := hv_c hh hf1 hz1
  refine lg_aload_n hF dL_law_1303 rfl 3 rfl ?_
  refine lg_arg hF hX hbl hN 1 ci_1 (by omega) dL_law_1304 dL_law_1305 dL_law_1306 dL_law_1307 dL_law_1308 ?_
  refine lg_call hF (nc := 0) (ns := 0) (As := [.int (xs (i + 1))]) km_L_163 ky_X5_told ki_X5_told (by decide) ⟨by omega, by omega⟩ 33 at_33 kC_X5.1 rfl (Nat.le_of_ble_eq_true rfl) dL_law_1309 rfl (c_X5_told (d := 17) h1.1 ho h1.2.1.1 (fun σ2 hf2 hr2 => ?_))
  have h2 := hv_r h1 hf2 hr2
  exact lg_icmpeq hF 1317 dL_law_1312 (by decide) (fun _ => nx _ _ _ _ _ _ _ _ (by omega) (by omega) ⟨h2, ho, hM⟩) (fun z => absurd rfl z)
