section
set_option maxHeartbeats 4000000 in
set_option maxRecDepth 100000 in
theorem law_case_0 {p : Program} {l : Launch} {e : Env} {s : State} {m : MethodId} {below : List Frame} {meth : Method} {c : Code} {b L : Nat} {xs : Nat → Int32} {A : Nat → Prop} {G : va_G} {cy : Nat → ClassId} {ad : rf → Nat} {ce sl : Nat} {Z : State → Prop} (X : LX p s m c b L xs A G cy ad ce sl) {i : Int32} {M : mM} (hI : Inv M) (hD : InvD M) (hR : RY M.1) (hi : 0 ≤ i.toInt ∧ i.toInt + 6 ≤ (L : Int)) (hend : ∀ M' : mM, Inv M' → InvD M' → RY M'.1 → WL p l e s m below meth c b A G cy ad ce sl Z 1731 [(3, vI i), (0, vR (94, 0, 0)), (1, vR (11, 0, 0)), (2, vR (12, 0, 0))] [] M') : WL p l e s m below meth c b A G cy ad ce sl Z 212 [(3, vI i), (0, vR (94, 0, 0)), (1, vR (11, 0, 0)), (2, vR (12, 0, 0))] [] M := by
  refine wl_aload_n X dL_law_212 rfl 2 rfl ?_
  refine wl_arg X 1 hi (by decide) (v := 1) (by decide) (ki := 1) (by decide) 1 0 rfl rfl dL_law_213 dL_law_214 dL_law_215 dL_law_216 dL_law_217 ?_
  refine wl_arg X 2 hi (by decide) (v := 2) (by decide) (ki := 2) (by decide) 1 0 rfl rfl dL_law_218 dL_law_219 dL_law_220 dL_law_221 dL_law_222 ?_
  refine wl_callC X (as := [vI (xs (i.toInt.toNat + 1)), vI (xs (i.toInt.toNat + 2))]) (rest := []) (c_X11_thing l G cy ad 0 (xs (i.toInt.toNat + 1)) (xs (i.toInt.toNat + 2)) M hI) kV_X11_thing pnn_0 (Nat.le_of_ble_eq_true rfl) m_487 rfl rfl rfl (by decide) (Nat.le_of_ble_eq_true rfl) (Nat.le_of_ble_eq_true rfl) dL_law_223 (fun r1_ M2_ q3_ => ?_)
  obtain ⟨hI1_, hF1_, -, hs1_⟩ := q3_
  have e1_ : mgC M2_ M = M2_ := mgC_self hF1_ SC_X11_thing
  rw [e1_]
  have hD1_ : InvD M2_ := e1_ ▸ mgC_D (M' := M2_) hD
  refine wl_pop X dL_law_226 ?_
  refine wl_aload_n X dL_law_227 rfl 3 rfl ?_
  refine wl_arg X 1 hi (by decide) (v := 1) (by decide) (ki := 1) (by decide) 1 0 rfl rfl dL_law_228 dL_law_229 dL_law_230 dL_law_231 dL_law_232 ?_
  refine wl_arg X 2 hi (by decide) (v := 2) (by decide) (ki := 2) (by decide) 1 0 rfl rfl dL_law_233 dL_law_234 dL_law_235 dL_law_236 dL_law_237 ?_
  refine wl_callD X (as := [vI (xs (i.toInt.toNat + 1)), vI (xs (i.toInt.toNat + 2))]) (rest := []) (c_X12_thing_ l G cy ad 0 (xs (i.toInt.toNat + 1)) (xs (i.toInt.toNat + 2)) M2_ hD1_) kV_X12_thing_ pnn_17 (Nat.le_of_ble_eq_true rfl) m_1423 rfl rfl rfl (by decide) (Nat.le_of_ble_eq_true rfl) (Nat.le_of_ble_eq_true rfl) dL_law_238 (fun r4_ M5_ q6_ => ?_)
  obtain ⟨hI2_, hF2_, -, hs2_⟩ := q6_
  have e2_ : (mgD M5_ M2_).1 = M5_.1 := mgD_self hF2_ SD_X12_thing_
  have hI9_ : Inv (mgD M5_ M2_) := mgD_I hI1_
  have hD9_ : InvD (mgD M5_ M2_) := mgD_D hI2_
  have st_ := sy_0 hR hD hD1_ hI2_ hF1_ hs1_ hF2_ hs2_
  refine wl_pop X dL_law_241 ?_
  refine wl_goto X (tgt := 1731) dL_law_242 (by decide) ?_
  exact hend _ hI9_ hD9_ (by rw [e2_]; exact st_.1)
set_option maxHeartbeats 4000000 in
set_option maxRecDepth 100000 in
theorem law_case_1 {p : Program} {l : Launch} {e : Env} {s : State} {m : MethodId} {below : List Frame} {meth : Method} {c : Code} {b L : Nat} {xs : Nat → Int32} {A : Nat → Prop} {G : va_G} {cy : Nat → ClassId} {ad : rf → Nat} {ce sl : Nat} {Z : State → Prop} (X : LX p s m c b L xs A G cy ad ce sl) {i : Int32} {M : mM} (hI : Inv M) (hD : InvD M) (hR : RY M.1) (hi : 0 ≤ i.toInt ∧ i.toInt + 6 ≤ (L : Int)) (hend : ∀ M' : mM, Inv M' → InvD M' → RY M'.1 → WL p l e s m below meth c b A G cy ad ce sl Z 1731 [(3, vI i), (0, vR (94, 0, 0)), (1, vR (11, 0, 0)), (2, vR (12, 0, 0))] [] M') : WL p l e s m below meth c b A G cy ad ce sl Z 245 [(3, vI i), (0, vR (94, 0, 0)), (1, vR (11, 0, 0)), (2, vR (12, 0, 0))] [] M := by
  refine wl_aload_n X dL_law_245 rfl 2 rfl ?_
  refine wl_arg X 1 hi (by decide) (v := 1) (by decide) (ki := 1) (by decide) 1 0 rfl rfl dL_law_246 dL_law_247 dL_law_248 dL_law_249 dL_law_250 ?_
  refine wl_arg X 2 hi (by decide) (v := 2) (by decide) (ki := 2) (by decide) 1 0 rfl rfl dL_law_251 dL_law_252 dL_law_253 dL_law_254 dL_law_255 ?_
  refine wl_callC X (as := [vI (xs (i.toInt.toNat + 1)), vI (xs (i.toInt.toNat + 2))]) (rest := []) (c_X11_thingIs l G cy ad 0 (xs (i.toInt.toNat + 1)) (xs (i.toInt.toNat + 2)) M hI) kV_X11_thingIs pnn_0 (Nat.le_of_ble_eq_true rfl) m_522 rfl rfl rfl (by decide) (Nat.le_of_ble_eq_true rfl) (Nat.le_of_ble_eq_true rfl) dL_law_256 (fun r1_ M2_ q3_ => ?_)
  obtain ⟨hI1_, hF1_, -, hs1_⟩ := q3_
  have e1_ : mgC M2_ M = M2_ := mgC_self hF1_ SC_X11_thingIs
  rw [e1_]
  have hD1_ : InvD M2_ := e1_ ▸ mgC_D (M' := M2_) hD
  refine wl_pop X dL_law_259 ?_
  refine wl_aload_n X dL_law_260 rfl 3 rfl ?_
  refine wl_arg X 1 hi (by decide) (v := 1) (by decide) (ki := 1) (by decide) 1 0 rfl rfl dL_law_261 dL_law_262 dL_law_263 dL_law_264 dL_law_265 ?_
  refine wl_arg X 2 hi (by decide) (v := 2) (by decide) (ki := 2) (by decide) 1 0 rfl rfl dL_law_266 dL_law_267 dL_law_268 dL_law_269 dL_law_270 ?_
  refine wl_callD X (as := [vI (xs (i.toInt.toNat + 1)), vI (xs (i.toInt.toNat + 2))]) (rest := []) (c_X12_thingIs l G cy ad 0 (xs (i.toInt.toNat + 1)) (xs (i.toInt.toNat + 2)) M2_ hD1_) kV_X12_thingIs pnn_17 (Nat.le_of_ble_eq_true rfl) m_1461 rfl rfl rfl (by decide) (Nat.le_of_ble_eq_true rfl) (Nat.le_of_ble_eq_true rfl) dL_law_271 (fun r4_ M5_ q6_ => ?_)
  obtain ⟨hI2_, hF2_, -, hs2_⟩ := q6_
  have e2_ : (mgD M5_ M2_).1 = M5_.1 := mgD_self hF2_ SD_X12_thingIs
  have hI9_ : Inv (mgD M5_ M2_) := mgD_I hI1_
  have hD9_ : InvD (mgD M5_ M2_) := mgD_D hI2_
  have st_ := sy_1 hR hD hD1_ hI2_ hF1_ hs1_ hF2_ hs2_
  refine wl_pop X dL_law_274 ?_
  refine wl_goto X (tgt := 1731) dL_law_275 (by decide) ?_
  exact hend _ hI9_ hD9_ (by rw [e2_]; exact st_.1)
set_option maxHeartbeats 4000000 in
set_option maxRecDepth 100000 in
theorem law_case_2 {p : Program} {l : Launch} {e : Env} {s : State} {m : MethodId} {below : List Frame} {meth : Method} {c : Code} {b L : Nat} {xs : Nat → Int32} {A : Nat → Prop} {G : va_G} {cy : Nat → ClassId} {ad : rf → Nat} {ce sl : Nat} {Z : State → Prop} (X : LX p s m c b L xs A G cy ad ce sl) {i : Int32} {M : mM} (hI : Inv M) (hD : InvD M) (hR : RY M.1) (hi : 0 ≤ i.toInt ∧ i.toInt + 6 ≤ (L : Int)) (hend : ∀ M' : mM, Inv M' → InvD M' → RY M'.1 → WL p l e s m below meth c b A G cy ad ce sl Z 1731 [(3, vI i), (0, vR (94, 0, 0)), (1, vR (11, 0, 0)), (2, vR (12, 0, 0))] [] M') : WL p l e s m below meth c b A G cy ad ce sl Z 278 [(3, vI i), (0, vR (94, 0, 0)), (1, vR (11, 0, 0)), (2, vR (12, 0, 0))] [] M := by
  refine wl_aload_n X dL_law_278 rfl 2 rfl ?_
  refine wl_arg X 1 hi (by decide) (v := 1) (by decide) (ki := 1) (by decide) 1 0 rfl rfl dL_law_279 dL_law_280 dL_law_281 dL_law_282 dL_law_283 ?_
  refine wl_arg X 2 hi (by decide) (v := 2) (by decide) (ki := 2) (by decide) 1 0 rfl rfl dL_law_284 dL_law_285 dL_law_286 dL_law_287 dL_law_288 ?_
  refine wl_arg X 3 hi (by decide) (v := 3) (by decide) (ki := 3) (by decide) 1 0 rfl rfl dL_law_289 dL_law_290 dL_law_291 dL_law_292 dL_law_293 ?_
  refine wl_callC X (as := [vI (xs (i.toInt.toNat + 1)), vI (xs (i.toInt.toNat + 2)), vI (xs (i.toInt.toNat + 3))]) (rest := []) (c_X11_moves l G cy ad 0 (xs (i.toInt.toNat + 1)) (xs (i.toInt.toNat + 2)) (xs (i.toInt.toNat + 3)) M hI) kV_X11_moves pnn_0 (Nat.le_of_ble_eq_true rfl) m_535 rfl rfl rfl (by decide) (Nat.le_of_ble_eq_true rfl) (Nat.le_of_ble_eq_true rfl) dL_law_294 (fun r1_ M2_ q3_ => ?_)
  obtain ⟨hI1_, hF1_, -, hs1_⟩ := q3_
  have e1_ : mgC M2_ M = M2_ := mgC_self hF1_ SC_X11_moves
  rw [e1_]
  have hD1_ : InvD M2_ := e1_ ▸ mgC_D (M' := M2_) hD
  refine wl_pop X dL_law_297 ?_
  refine wl_aload_n X dL_law_298 rfl 3 rfl ?_
  refine wl_arg X 1 hi (by decide) (v := 1) (by decide) (ki := 1) (by decide) 1 0 rfl rfl dL_law_299 dL_law_300 dL_law_301 dL_law_302 dL_law_303 ?_
  refine wl_arg X 2 hi (by decide) (v := 2) (by decide) (ki := 2) (by decide) 1 0 rfl rfl dL_law_304 dL_law_305 dL_law_306 dL_law_307 dL_law_308 ?_
  refine wl_arg X 3 hi (by decide) (v := 3) (by decide) (ki := 3) (by decide) 1 0 rfl rfl dL_law_309 dL_law_310 dL_law_311 dL_law_312 dL_law_313 ?_
  refine wl_callD X (as := [vI (xs (i.toInt.toNat + 1)), vI (xs (i.toInt.toNat + 2)), vI (xs (i.toInt.toNat + 3))]) (rest := []) (c_X12_moves l G cy ad 0 (xs (i.toInt.toNat + 1)) (xs (i.toInt.toNat + 2)) (xs (i.toInt.toNat + 3)) M2_ hD1_) kV_X12_moves pnn_17 (Nat.le_of_ble_eq_true rfl) m_1469 rfl rfl rfl (by decide) (Nat.le_of_ble_eq_true rfl) (Nat.le_of_ble_eq_true rfl) dL_law_314 (fun r4_ M5_ q6_ => ?_)
  obtain ⟨hI2_, hF2_, -, hs2_⟩ := q6_
  have e2_ : (mgD M5_ M2_).1 = M5_.1 := mgD_self hF2_ SD_X12_moves
  have hI9_ : Inv (mgD M5_ M2_) := mgD_I hI1_
  have hD9_ : InvD (mgD M5_ M2_) := mgD_D hI2_
  have st_ := sy_2 hR hD hD1_ hI2_ hF1_ hs1_ hF2_ hs2_
  refine wl_pop X dL_law_317 ?_
  refine wl_goto X (tgt := 1731) dL_law_318 (by decide) ?_
  exact hend _ hI9_ hD9_ (by rw [e2_]; exact st_.1)
set_option maxHeartbeats 4000000 in
set_option maxRecDepth 100000 in
theorem law_case_3 {p : Program} {l : Launch} {e : Env} {s : State} {m : MethodId} {below : List Frame} {meth : Method} {c : Code} {b L : Nat} {xs : Nat → Int32} {A : Nat → Prop} {G : va_G} {cy : Nat → ClassId} {ad : rf → Nat} {ce sl : Nat} {Z : State → Prop} (X : LX p s m c b L xs A G cy ad ce sl) {i : Int32} {M : mM} (hI : Inv M) (hD : InvD M) (hR : RY M.1) (hi : 0 ≤ i.toInt ∧ i.toInt + 6 ≤ (L : Int)) (hend : ∀ M' : mM, Inv M' → InvD M' → RY M'.1 → WL p l e s m below meth c b A G cy ad ce sl Z 1731 [(3, vI i), (0, vR (94, 0, 0)), (1, vR (11, 0, 0)), (2, vR (12, 0, 0))] [] M') : WL p l e s m below meth c b A G cy ad ce sl Z 321 [(3, vI i), (0, vR (94, 0, 0)), (1, vR (11, 0, 0)), (2, vR (12, 0, 0))] [] M := by
  refine wl_aload_n X dL_law_321 rfl 2 rfl ?_
  refine wl_arg X 1 hi (by decide) (v := 1) (by decide) (ki := 1) (by decide) 1 0 rfl rfl dL_law_322 dL_law_323 dL_law_324 dL_law_325 dL_law_326 ?_
  refine wl_callC X (as := [vI (xs (i.toInt.toNat + 1))]) (rest := []) (c_X11_away l G cy ad 0 (xs (i.toInt.toNat + 1)) M hI) kV_X11_away pnn_0 (Nat.le_of_ble_eq_true rfl) m_542 rfl rfl rfl (by decide) (Nat.le_of_ble_eq_true rfl) (Nat.le_of_ble_eq_true rfl) dL_law_327 (fun r1_ M2_ q3_ => ?_)
  obtain ⟨hI1_, hF1_, -, hs1_⟩ := q3_
  have e1_ : mgC M2_ M = M2_ := mgC_self hF1_ SC_X11_away
  rw [e1_]
  have hD1_ : InvD M2_ := e1_ ▸ mgC_D (M' := M2_) hD
  refine wl_pop X dL_law_330 ?_
  refine wl_aload_n X dL_law_331 rfl 3 rfl ?_
  refine wl_arg X 1 hi (by decide) (v := 1) (by decide) (ki := 1) (by decide) 1 0 rfl rfl dL_law_332 dL_law_333 dL_law_334 dL_law_335 dL_law_336 ?_
  refine wl_callD X (as := [vI (xs (i.toInt.toNat + 1))]) (rest := []) (c_X12_away l G cy ad 0 (xs (i.toInt.toNat + 1)) M2_ hD1_) kV_X12_away pnn_17 (Nat.le_of_ble_eq_true rfl) m_1477 rfl rfl rfl (by decide) (Nat.le_of_ble_eq_true rfl) (Nat.le_of_ble_eq_true rfl) dL_law_337 (fun r4_ M5_ q6_ => ?_)
  obtain ⟨hI2_, hF2_, -, hs2_⟩ := q6_
  have e2_ : (mgD M5_ M2_).1 = M5_.1 := mgD_self hF2_ SD_X12_away
  have hI9_ : Inv (mgD M5_ M2_) := mgD_I hI1_
  have hD9_ : InvD (mgD M5_ M2_) := mgD_D hI2_
  have st_ := sy_3 hR hD hD1_ hI2_ hF1_ hs1_ hF2_ hs2_
  refine wl_pop X dL_law_340 ?_
  refine wl_goto X (tgt := 1731) dL_law_341 (by decide) ?_
  exact hend _ hI9_ hD9_ (by rw [e2_]; exact st_.1)
set_option maxHeartbeats 4000000 in
set_option maxRecDepth 100000 in
theorem law_case_4 {p : Program} {l : Launch} {e : Env} {s : State} {m : MethodId} {below : List Frame} {meth : Method} {c : Code} {b L : Nat} {xs : Nat → Int32} {A : Nat → Prop} {G : va_G} {cy : Nat → ClassId} {ad : rf → Nat} {ce sl : Nat} {Z : State → Prop} (X : LX p s m c b L xs A G cy ad ce sl) {i : Int32} {M : mM} (hI : Inv M) (hD : InvD M) (hR : RY M.1) (hi : 0 ≤ i.toInt ∧ i.toInt + 6 ≤ (L : Int)) (hend : ∀ M' : mM, Inv M' → InvD M' → RY M'.1 → WL p l e s m below meth c b A G cy ad ce sl Z 1731 [(3, vI i), (0, vR (94, 0, 0)), (1, vR (11, 0, 0)), (2, vR (12, 0, 0))] [] M') : WL p l e s m below meth c b A G cy ad ce sl Z 344 [(3, vI i), (0, vR (94, 0, 0)), (1, vR (11, 0, 0)), (2, vR (12, 0, 0))] [] M := by
  refine wl_aload_n X dL_law_344 rfl 2 rfl ?_
  refine wl_arg X 1 hi (by decide) (v := 1) (by decide) (ki := 1) (by decide) 1 0 rfl rfl dL_law_345 dL_law_346 dL_law_347 dL_law_348 dL_law_349 ?_
  refine wl_arg X 2 hi (by decide) (v := 2) (by decide) (ki := 2) (by decide) 1 0 rfl rfl dL_law_350 dL_law_351 dL_law_352 dL_law_353 dL_law_354 ?_
  refine wl_arg X 3 hi (by decide) (v := 3) (by decide) (ki := 3) (by decide) 1 0 rfl rfl dL_law_355 dL_law_356 dL_law_357 dL_law_358 dL_law_359 ?_
  refine wl_callC X (as := [vI (xs (i.toInt.toNat + 1)), vI (xs (i.toInt.toNat + 2)), vI (xs (i.toInt.toNat + 3))]) (rest := []) (c_X11_kind l G cy ad 0 (xs (i.toInt.toNat + 1)) (xs (i.toInt.toNat + 2)) (xs (i.toInt.toNat + 3)) M hI) kV_X11_kind pnn_0 (Nat.le_of_ble_eq_true rfl) m_550 rfl rfl rfl (by decide) (Nat.le_of_ble_eq_true rfl) (Nat.le_of_ble_eq_true rfl) dL_law_360 (fun r1_ M2_ q3_ => ?_)
  obtain ⟨hI1_, hF1_, -, hs1_⟩ := q3_
  have e1_ : mgC M2_ M = M2_ := mgC_self hF1_ SC_X11_kind
  rw [e1_]
  have hD1_ : InvD M2_ := e1_ ▸ mgC_D (M' := M2_) hD
  refine wl_pop X dL_law_363 ?_
  refine wl_aload_n X dL_law_364 rfl 3 rfl ?_
  refine wl_arg X 1 hi (by decide) (v := 1) (by decide) (ki := 1) (by decide) 1 0 rfl rfl dL_law_365 dL_law_366 dL_law_367 dL_law_368 dL_law_369 ?_
  refine wl_arg X 2 hi (by decide) (v := 2) (by decide) (ki := 2) (by decide) 1 0 rfl rfl dL_law_370 dL_law_371 dL_law_372 dL_law_373 dL_law_374 ?_
  refine wl_arg X 3 hi (by decide) (v := 3) (by decide) (ki := 3) (by decide) 1 0 rfl rfl dL_law_375 dL_law_376 dL_law_377 dL_law_378 dL_law_379 ?_
  refine wl_callD X (as := [vI (xs (i.toInt.toNat + 1)), vI (xs (i.toInt.toNat + 2)), vI (xs (i.toInt.toNat + 3))]) (rest := []) (c_X12_kind l G cy ad 0 (xs (i.toInt.toNat + 1)) (xs (i.toInt.toNat + 2)) (xs (i.toInt.toNat + 3)) M2_ hD1_) kV_X12_kind pnn_17 (Nat.le_of_ble_eq_true rfl) m_1485 rfl rfl rfl (by decide) (Nat.le_of_ble_eq_true rfl) (Nat.le_of_ble_eq_true rfl) dL_law_380 (fun r4_ M5_ q6_ => ?_)
  obtain ⟨hI2_, hF2_, -, hs2_⟩ := q6_
  have e2_ : (mgD M5_ M2_).1 = M5_.1 := mgD_self hF2_ SD_X12_kind
  have hI9_ : Inv (mgD M5_ M2_) := mgD_I hI1_
  have hD9_ : InvD (mgD M5_ M2_) := mgD_D hI2_
  have st_ := sy_4 hR hD hD1_ hI2_ hF1_ hs1_ hF2_ hs2_
  refine wl_pop X dL_law_383 ?_
  refine wl_goto X (tgt := 1731) dL_law_384 (by decide) ?_
  exact hend _ hI9_ hD9_ (by rw [e2_]; exact st_.1)
set_option maxHeartbeats 4000000 in
set_option maxRecDepth 100000 in
theorem law_case_5 {p : Program} {l : Launch} {e : Env} {s : State} {m : MethodId} {below : List Frame} {meth : Method} {c : Code} {b L : Nat} {xs : Nat → Int32} {A : Nat → Prop} {G : va_G} {cy : Nat → ClassId} {ad : rf → Nat} {ce sl : Nat} {Z : State → Prop} (X : LX p s m c b L xs A G cy ad ce sl) {i : Int32} {M : mM} (hI : Inv M) (hD : InvD M) (hR : RY M.1) (hi : 0 ≤ i.toInt ∧ i.toInt + 6 ≤ (L : Int)) (hend : ∀ M' : mM, Inv M' → InvD M' → RY M'.1 → WL p l e s m below meth c b A G cy ad ce sl Z 1731 [(3, vI i), (0, vR (94, 0, 0)), (1, vR (11, 0, 0)), (2, vR (12, 0, 0))] [] M') : WL p l e s m below meth c b A G cy ad ce sl Z 387 [(3, vI i), (0, vR (94, 0, 0)), (1, vR (11, 0, 0)), (2, vR (12, 0, 0))] [] M := by
  refine wl_aload_n X dL_law_387 rfl 2 rfl ?_
  refine wl_arg X 1 hi (by decide) (v := 1) (by decide) (ki := 1) (by decide) 1 0 rfl rfl dL_law_388 dL_law_389 dL_law_390 dL_law_391 dL_law_392 ?_
  refine wl_callC X (as := [vI (xs (i.toInt.toNat + 1))]) (rest := []) (c_X11_at l G cy ad 0 (xs (i.toInt.toNat + 1)) M hI) kV_X11_at pnn_0 (Nat.le_of_ble_eq_true rfl) m_558 rfl rfl rfl (by decide) (Nat.le_of_ble_eq_true rfl) (Nat.le_of_ble_eq_true rfl) dL_law_393 (fun r1_ M2_ q3_ => ?_)
  obtain ⟨hI1_, hF1_, -, hs1_⟩ := q3_
  have e1_ : mgC M2_ M = M2_ := mgC_self hF1_ SC_X11_at
  rw [e1_]
  have hD1_ : InvD M2_ := e1_ ▸ mgC_D (M' := M2_) hD
  refine wl_pop X dL_law_396 ?_
  refine wl_aload_n X dL_law_397 rfl 3 rfl ?_
  refine wl_arg X 1 hi (by decide) (v := 1) (by decide) (ki := 1) (by decide) 1 0 rfl rfl dL_law_398 dL_law_399 dL_law_400 dL_law_401 dL_law_402 ?_
  refine wl_callD X (as := [vI (xs (i.toInt.toNat + 1))]) (rest := []) (c_X12_at l G cy ad 0 (xs (i.toInt.toNat + 1)) M2_ hD1_) kV_X12_at pnn_17 (Nat.le_of_ble_eq_true rfl) m_1489 rfl rfl rfl (by decide) (Nat.le_of_ble_eq_true rfl) (Nat.le_of_ble_eq_true rfl) dL_law_403 (fun r4_ M5_ q6_ => ?_)
  obtain ⟨hI2_, hF2_, -, hs2_⟩ := q6_
  have e2_ : (mgD M5_ M2_).1 = M5_.1 := mgD_self hF2_ SD_X12_at
  have hI9_ : Inv (mgD M5_ M2_) := mgD_I hI1_
  have hD9_ : InvD (mgD M5_ M2_) := mgD_D hI2_
  have st_ := sy_5 hR hD hD1_ hI2_ hF1_ hs1_ hF2_ hs2_
  refine wl_pop X dL_law_406 ?_
  refine wl_goto X (tgt := 1731) dL_law_407 (by decide) ?_
  exact hend _ hI9_ hD9_ (by rw [e2_]; exact st_.1)
set_option maxHeartbeats 4000000 in
set_option maxRecDepth 100000 in
theorem law_case_6 {p : Program} {l : Launch} {e : Env} {s : State} {m : MethodId} {below : List Frame} {meth : Method} {c : Code} {b L : Nat} {xs : Nat → Int32} {A : Nat → Prop} {G : va_G} {cy : Nat → ClassId} {ad : rf → Nat} {ce sl : Nat} {Z : State → Prop} (X : LX p s m c b L xs A G cy ad ce sl) {i : Int32} {M : mM} (hI : Inv M) (hD : InvD M) (hR : RY M.1) (hi : 0 ≤ i.toInt ∧ i.toInt + 6 ≤ (L : Int)) (hend : ∀ M' : mM, Inv M' → InvD M' → RY M'.1 → WL p l e s m below meth c b A G cy ad ce sl Z 1731 [(3, vI i), (0, vR (94, 0, 0)), (1, vR (11, 0, 0)), (2, vR (12, 0, 0))] [] M') : WL p l e s m below meth c b A G cy ad ce sl Z 410 [(3, vI i), (0, vR (94, 0, 0)), (1, vR (11, 0, 0)), (2, vR (12, 0, 0))] [] M := by
  refine wl_aload_n X dL_law_410 rfl 2 rfl ?_
  refine wl_arg X 1 hi (by decide) (v := 1) (by decide) (ki := 1) (by decide) 1 0 rfl rfl dL_law_411 dL_law_412 dL_law_413 dL_law_414 dL_law_415 ?_
  refine wl_arg X 2 hi (by decide) (v := 2) (by decide) (ki := 2) (by decide) 1 0 rfl rfl dL_law_416 dL_law_417 dL_law_418 dL_law_419 dL_law_420 ?_
  refine wl_callC X (as := [vI (xs (i.toInt.toNat + 1)), vI (xs (i.toInt.toNat + 2))]) (rest := []) (c_X11_lays l G cy ad 0 (xs (i.toInt.toNat + 1)) (xs (i.toInt.toNat + 2)) M hI) kV_X11_lays pnn_0 (Nat.le_of_ble_eq_true rfl) m_562 rfl rfl rfl (by decide) (Nat.le_of_ble_eq_true rfl) (Nat.le_of_ble_eq_true rfl) dL_law_421 (fun r1_ M2_ q3_ => ?_)
  obtain ⟨hI1_, hF1_, -, hs1_⟩ := q3_
  have e1_ : mgC M2_ M = M2_ := mgC_self hF1_ SC_X11_lays
  rw [e1_]
  have hD1_ : InvD M2_ := e1_ ▸ mgC_D (M' := M2_) hD
  refine wl_pop X dL_law_424 ?_
  refine wl_aload_n X dL_law_425 rfl 3 rfl ?_
  refine wl_arg X 1 hi (by decide) (v := 1) (by decide) (ki := 1) (by decide) 1 0 rfl rfl dL_law_426 dL_law_427 dL_law_428 dL_law_429 dL_law_430 ?_
  refine wl_arg X 2 hi (by decide) (v := 2) (by decide) (ki := 2) (by decide) 1 0 rfl rfl dL_law_431 dL_law_432 dL_law_433 dL_law_434 dL_law_435 ?_
  refine wl_callD X (as := [vI (xs (i.toInt.toNat + 1)), vI (xs (i.toInt.toNat + 2))]) (rest := []) (c_X12_lays l G cy ad 0 (xs (i.toInt.toNat + 1)) (xs (i.toInt.toNat + 2)) M2_ hD1_) kV_X12_lays pnn_17 (Nat.le_of_ble_eq_true rfl) m_1493 rfl rfl rfl (by decide) (Nat.le_of_ble_eq_true rfl) (Nat.le_of_ble_eq_true rfl) dL_law_436 (fun r4_ M5_ q6_ => ?_)
  obtain ⟨hI2_, hF2_, -, hs2_⟩ := q6_
  have e2_ : (mgD M5_ M2_).1 = M5_.1 := mgD_self hF2_ SD_X12_lays
  have hI9_ : Inv (mgD M5_ M2_) := mgD_I hI1_
  have hD9_ : InvD (mgD M5_ M2_) := mgD_D hI2_
  have st_ := sy_6 hR hD hD1_ hI2_ hF1_ hs1_ hF2_ hs2_
  refine wl_pop X dL_law_439 ?_
  refine wl_goto X (tgt := 1731) dL_law_440 (by decide) ?_
  exact hend _ hI9_ hD9_ (by rw [e2_]; exact st_.1)
set_option maxHeartbeats 4000000 in
set_option maxRecDepth 100000 in
theorem law_case_7 {p : Program} {l : Launch} {e : Env} {s : State} {m : MethodId} {below : List Frame} {meth : Method} {c : Code} {b L : Nat} {xs : Nat → Int32} {A : Nat → Prop} {G : va_G} {cy : Nat → ClassId} {ad : rf → Nat} {ce sl : Nat} {Z : State → Prop} (X : LX p s m c b L xs A G cy ad ce sl) {i : Int32} {M : mM} (hI : Inv M) (hD : InvD M) (hR : RY M.1) (hi : 0 ≤ i.toInt ∧ i.toInt + 6 ≤ (L : Int)) (hend : ∀ M' : mM, Inv M' → InvD M' → RY M'.1 → WL p l e s m below meth c b A G cy ad ce sl Z 1731 [(3, vI i), (0, vR (94, 0, 0)), (1, vR (11, 0, 0)), (2, vR (12, 0, 0))] [] M') : WL p l e s m below meth c b A G cy ad ce sl Z 443 [(3, vI i), (0, vR (94, 0, 0)), (1, vR (11, 0, 0)), (2, vR (12, 0, 0))] [] M := by
  refine wl_aload_n X dL_law_443 rfl 2 rfl ?_
  refine wl_arg X 1 hi (by decide) (v := 1) (by decide) (ki := 1) (by decide) 1 0 rfl rfl dL_law_444 dL_law_445 dL_law_446 dL_law_447 dL_law_448 ?_
  refine wl_arg X 2 hi (by decide) (v := 2) (by decide) (ki := 2) (by decide) 1 0 rfl rfl dL_law_449 dL_law_450 dL_law_451 dL_law_452 dL_law_453 ?_
  refine wl_callC X (as := [vI (xs (i.toInt.toNat + 1)), vI (xs (i.toInt.toNat + 2))]) (rest := []) (c_X11_air l G cy ad 0 (xs (i.toInt.toNat + 1)) (xs (i.toInt.toNat + 2)) M hI) kV_X11_air pnn_0 (Nat.le_of_ble_eq_true rfl) m_581 rfl rfl rfl (by decide) (Nat.le_of_ble_eq_true rfl) (Nat.le_of_ble_eq_true rfl) dL_law_454 (fun r1_ M2_ q3_ => ?_)
  obtain ⟨hI1_, hF1_, -, hs1_⟩ := q3_
  have e1_ : mgC M2_ M = M2_ := mgC_self hF1_ SC_X11_air
  rw [e1_]
  have hD1_ : InvD M2_ := e1_ ▸ mgC_D (M' := M2_) hD
  refine wl_pop X dL_law_457 ?_
  refine wl_aload_n X dL_law_458 rfl 3 rfl ?_
  refine wl_arg X 1 hi (by decide) (v := 1) (by decide) (ki := 1) (by decide) 1 0 rfl rfl dL_law_459 dL_law_460 dL_law_461 dL_law_462 dL_law_463 ?_
  refine wl_arg X 2 hi (by decide) (v := 2) (by decide) (ki := 2) (by decide) 1 0 rfl rfl dL_law_464 dL_law_465 dL_law_466 dL_law_467 dL_law_468 ?_
  refine wl_callD X (as := [vI (xs (i.toInt.toNat + 1)), vI (xs (i.toInt.toNat + 2))]) (rest := []) (c_X12_air l G cy ad 0 (xs (i.toInt.toNat + 1)) (xs (i.toInt.toNat + 2)) M2_ hD1_) kV_X12_air pnn_17 (Nat.le_of_ble_eq_true rfl) m_1501 rfl rfl rfl (by decide) (Nat.le_of_ble_eq_true rfl) (Nat.le_of_ble_eq_true rfl) dL_law_469 (fun r4_ M5_ q6_ => ?_)
  obtain ⟨hI2_, hF2_, -, hs2_⟩ := q6_
  have e2_ : (mgD M5_ M2_).1 = M5_.1 := mgD_self hF2_ SD_X12_air
  have hI9_ : Inv (mgD M5_ M2_) := mgD_I hI1_
  have hD9_ : InvD (mgD M5_ M2_) := mgD_D hI2_
  have st_ := sy_7 hR hD hD1_ hI2_ hF1_ hs1_ hF2_ hs2_
  refine wl_pop X dL_law_472 ?_
  refine wl_goto X (tgt := 1731) dL_law_473 (by decide) ?_
  exact hend _ hI9_ hD9_ (by rw [e2_]; exact st_.1)
set_option maxHeartbeats 4000000 in
set_option maxRecDepth 100000 in
theorem law_case_8 {p : Program} {l : Launch} {e : Env} {s : State} {m : MethodId} {below : List Frame} {meth : Method} {c : Code} {b L : Nat} {xs : Nat → Int32} {A : Nat → Prop} {G : va_G} {cy : Nat → ClassId} {ad : rf → Nat} {ce sl : Nat} {Z : State → Prop} (X : LX p s m c b L xs A G cy ad ce sl) {i : Int32} {M : mM} (hI : Inv M) (hD : InvD M) (hR : RY M.1) (hi : 0 ≤ i.toInt ∧ i.toInt + 6 ≤ (L : Int)) (hend : ∀ M' : mM, Inv M' → InvD M' → RY M'.1 → WL p l e s m below meth c b A G cy ad ce sl Z 1731 [(3, vI i), (0, vR (94, 0, 0)), (1, vR (11, 0, 0)), (2, vR (12, 0, 0))] [] M') : WL p l e s m below meth c b A G cy ad ce sl Z 476 [(3, vI i), (0, vR (94, 0, 0)), (1, vR (11, 0, 0)), (2, vR (12, 0, 0))] [] M := by
  refine wl_aload_n X dL_law_476 rfl 2 rfl ?_
  refine wl_arg X 1 hi (by decide) (v := 1) (by decide) (ki := 1) (by decide) 1 0 rfl rfl dL_law_477 dL_law_478 dL_law_479 dL_law_480 dL_law_481 ?_
  refine wl_arg X 2 hi (by decide) (v := 2) (by decide) (ki := 2) (by decide) 1 0 rfl rfl dL_law_482 dL_law_483 dL_law_484 dL_law_485 dL_law_486 ?_
  refine wl_arg X 3 hi (by decide) (v := 3) (by decide) (ki := 3) (by decide) 1 0 rfl rfl dL_law_487 dL_law_488 dL_law_489 dL_law_490 dL_law_491 ?_
  refine wl_callC X (as := [vI (xs (i.toInt.toNat + 1)), vI (xs (i.toInt.toNat + 2)), vI (xs (i.toInt.toNat + 3))]) (rest := []) (c_X11_walker l G cy ad 0 (xs (i.toInt.toNat + 1)) (xs (i.toInt.toNat + 2)) (xs (i.toInt.toNat + 3)) M hI) kV_X11_walker pnn_0 (Nat.le_of_ble_eq_true rfl) m_589 rfl rfl rfl (by decide) (Nat.le_of_ble_eq_true rfl) (Nat.le_of_ble_eq_true rfl) dL_law_492 (fun r1_ M2_ q3_ => ?_)
  obtain ⟨hI1_, hF1_, -, hs1_⟩ := q3_
  have e1_ : mgC M2_ M = M2_ := mgC_self hF1_ SC_X11_walker
  rw [e1_]
  have hD1_ : InvD M2_ := e1_ ▸ mgC_D (M' := M2_) hD
  refine wl_pop X dL_law_495 ?_
  refine wl_aload_n X dL_law_496 rfl 3 rfl ?_
  refine wl_arg X 1 hi (by decide) (v := 1) (by decide) (ki := 1) (by decide) 1 0 rfl rfl dL_law_497 dL_law_498 dL_law_499 dL_law_500 dL_law_501 ?_
  refine wl_arg X 2 hi (by decide) (v := 2) (by decide) (ki := 2) (by decide) 1 0 rfl rfl dL_law_502 dL_law_503 dL_law_504 dL_law_505 dL_law_506 ?_
  refine wl_arg X 3 hi (by decide) (v := 3) (by decide) (ki := 3) (by decide) 1 0 rfl rfl dL_law_507 dL_law_508 dL_law_509 dL_law_510 dL_law_511 ?_
  refine wl_callD X (as := [vI (xs (i.toInt.toNat + 1)), vI (xs (i.toInt.toNat + 2)), vI (xs (i.toInt.toNat + 3))]) (rest := []) (c_X12_walker l G cy ad 0 (xs (i.toInt.toNat + 1)) (xs (i.toInt.toNat + 2)) (xs (i.toInt.toNat + 3)) M2_ hD1_) kV_X12_walker pnn_17 (Nat.le_of_ble_eq_true rfl) m_1505 rfl rfl rfl (by decide) (Nat.le_of_ble_eq_true rfl) (Nat.le_of_ble_eq_true rfl) dL_law_512 (fun r4_ M5_ q6_ => ?_)
  obtain ⟨hI2_, hF2_, -, hs2_⟩ := q6_
  have e2_ : (mgD M5_ M2_).1 = M5_.1 := mgD_self hF2_ SD_X12_walker
  have hI9_ : Inv (mgD M5_ M2_) := mgD_I hI1_
  have hD9_ : InvD (mgD M5_ M2_) := mgD_D hI2_
  have st_ := sy_8 hR hD hD1_ hI2_ hF1_ hs1_ hF2_ hs2_
  refine wl_pop X dL_law_515 ?_
  refine wl_goto X (tgt := 1731) dL_law_516 (by decide) ?_
  exact hend _ hI9_ hD9_ (by rw [e2_]; exact st_.1)
set_option maxHeartbeats 4000000 in
set_option maxRecDepth 100000 in
theorem law_case_9 {p : Program} {l : Launch} {e : Env} {s : State} {m : MethodId} {below : List Frame} {meth : Method} {c : Code} {b L : Nat} {xs : Nat → Int32} {A : Nat → Prop} {G : va_G} {cy : Nat → ClassId} {ad : rf → Nat} {ce sl : Nat} {Z : State → Prop} (X : LX p s m c b L xs A G cy ad ce sl) {i : Int32} {M : mM} (hI : Inv M) (hD : InvD M) (hR : RY M.1) (hi : 0 ≤ i.toInt ∧ i.toInt + 6 ≤ (L : Int)) (hend : ∀ M' : mM, Inv M' → InvD M' → RY M'.1 → WL p l e s m below meth c b A G cy ad ce sl Z 1731 [(3, vI i), (0, vR (94, 0, 0)), (1, vR (11, 0, 0)), (2, vR (12, 0, 0))] [] M') : WL p l e s m below meth c b A G cy ad ce sl Z 519 [(3, vI i), (0, vR (94, 0, 0)), (1, vR (11, 0, 0)), (2, vR (12, 0, 0))] [] M := by
  refine wl_aload_n X dL_law_519 rfl 2 rfl ?_
  refine wl_arg X 1 hi (by decide) (v := 1) (by decide) (ki := 1) (by decide) 1 0 rfl rfl dL_law_520 dL_law_521 dL_law_522 dL_law_523 dL_law_524 ?_
  refine wl_arg X 2 hi (by decide) (v := 2) (by decide) (ki := 2) (by decide) 1 0 rfl rfl dL_law_525 dL_law_526 dL_law_527 dL_law_528 dL_law_529 ?_
  refine wl_callC X (as := [vI (xs (i.toInt.toNat + 1)), vI (xs (i.toInt.toNat + 2))]) (rest := []) (c_X11_walkerIs l G cy ad 0 (xs (i.toInt.toNat + 1)) (xs (i.toInt.toNat + 2)) M hI) kV_X11_walkerIs pnn_0 (Nat.le_of_ble_eq_true rfl) m_605 rfl rfl rfl (by decide) (Nat.le_of_ble_eq_true rfl) (Nat.le_of_ble_eq_true rfl) dL_law_530 (fun r1_ M2_ q3_ => ?_)
  obtain ⟨hI1_, hF1_, -, hs1_⟩ := q3_
  have e1_ : mgC M2_ M = M2_ := mgC_self hF1_ SC_X11_walkerIs
  rw [e1_]
  have hD1_ : InvD M2_ := e1_ ▸ mgC_D (M' := M2_) hD
  refine wl_pop X dL_law_533 ?_
  refine wl_aload_n X dL_law_534 rfl 3 rfl ?_
  refine wl_arg X 1 hi (by decide) (v := 1) (by decide) (ki := 1) (by decide) 1 0 rfl rfl dL_law_535 dL_law_536 dL_law_537 dL_law_538 dL_law_539 ?_
  refine wl_arg X 2 hi (by decide) (v := 2) (by decide) (ki := 2) (by decide) 1 0 rfl rfl dL_law_540 dL_law_541 dL_law_542 dL_law_543 dL_law_544 ?_
  refine wl_callD X (as := [vI (xs (i.toInt.toNat + 1)), vI (xs (i.toInt.toNat + 2))]) (rest := []) (c_X12_walkerIs l G cy ad 0 (xs (i.toInt.toNat + 1)) (xs (i.toInt.toNat + 2)) M2_ hD1_) kV_X12_walkerIs pnn_17 (Nat.le_of_ble_eq_true rfl) m_1509 rfl rfl rfl (by decide) (Nat.le_of_ble_eq_true rfl) (Nat.le_of_ble_eq_true rfl) dL_law_545 (fun r4_ M5_ q6_ => ?_)
  obtain ⟨hI2_, hF2_, -, hs2_⟩ := q6_
  have e2_ : (mgD M5_ M2_).1 = M5_.1 := mgD_self hF2_ SD_X12_walkerIs
  have hI9_ : Inv (mgD M5_ M2_) := mgD_I hI1_
  have hD9_ : InvD (mgD M5_ M2_) := mgD_D hI2_
  have st_ := sy_9 hR hD hD1_ hI2_ hF1_ hs1_ hF2_ hs2_
  refine wl_pop X dL_law_548 ?_
  refine wl_goto X (tgt := 1731) dL_law_549 (by decide) ?_
  exact hend _ hI9_ hD9_ (by rw [e2_]; exact st_.1)
set_option maxHeartbeats 4000000 in
set_option maxRecDepth 100000 in
theorem law_case_10 {p : Program} {l : Launch} {e : Env} {s : State} {m : MethodId} {below : List Frame} {meth : Method} {c : Code} {b L : Nat} {xs : Nat → Int32} {A : Nat → Prop} {G : va_G} {cy : Nat → ClassId} {ad : rf → Nat} {ce sl : Nat} {Z : State → Prop} (X : LX p s m c b L xs A G cy ad ce sl) {i : Int32} {M : mM} (hI : Inv M) (hD : InvD M) (hR : RY M.1) (hi : 0 ≤ i.toInt ∧ i.toInt + 6 ≤ (L : Int)) (hend : ∀ M' : mM, Inv M' → InvD M' → RY M'.1 → WL p l e s m below meth c b A G cy ad ce sl Z 1731 [(3, vI i), (0, vR (94, 0, 0)), (1, vR (11, 0, 0)), (2, vR (12, 0, 0))] [] M') : WL p l e s m below meth c b A G cy ad ce sl Z 552 [(3, vI i), (0, vR (94, 0, 0)), (1, vR (11, 0, 0)), (2, vR (12, 0, 0))] [] M := by
  refine wl_aload_n X dL_law_552 rfl 2 rfl ?_
  refine wl_arg X 1 hi (by decide) (v := 1) (by decide) (ki := 1) (by decide) 1 0 rfl rfl dL_law_553 dL_law_554 dL_law_555 dL_law_556 dL_law_557 ?_
  refine wl_arg X 2 hi (by decide) (v := 2) (by decide) (ki := 2) (by decide) 1 0 rfl rfl dL_law_558 dL_law_559 dL_law_560 dL_law_561 dL_law_562 ?_
  refine wl_callC X (as := [vI (xs (i.toInt.toNat + 1)), vI (xs (i.toInt.toNat + 2))]) (rest := []) (c_X11_as l G cy ad 0 (xs (i.toInt.toNat + 1)) (xs (i.toInt.toNat + 2)) M hI) kV_X11_as pnn_0 (Nat.le_of_ble_eq_true rfl) m_635 rfl rfl rfl (by decide) (Nat.le_of_ble_eq_true rfl) (Nat.le_of_ble_eq_true rfl) dL_law_563 (fun r1_ M2_ q3_ => ?_)
  obtain ⟨hI1_, hF1_, -, hs1_⟩ := q3_
  have e1_ : mgC M2_ M = M2_ := mgC_self hF1_ SC_X11_as
  rw [e1_]
  have hD1_ : InvD M2_ := e1_ ▸ mgC_D (M' := M2_) hD
  refine wl_pop X dL_law_566 ?_
  refine wl_aload_n X dL_law_567 rfl 3 rfl ?_
  refine wl_arg X 1 hi (by decide) (v := 1) (by decide) (ki := 1) (by decide) 1 0 rfl rfl dL_law_568 dL_law_569 dL_law_570 dL_law_571 dL_law_572 ?_
  refine wl_arg X 2 hi (by decide) (v := 2) (by decide) (ki := 2) (by decide) 1 0 rfl rfl dL_law_573 dL_law_574 dL_law_575 dL_law_576 dL_law_577 ?_
  refine wl_callD X (as := [vI (xs (i.toInt.toNat + 1)), vI (xs (i.toInt.toNat + 2))]) (rest := []) (c_X12_as l G cy ad 0 (xs (i.toInt.toNat + 1)) (xs (i.toInt.toNat + 2)) M2_ hD1_) kV_X12_as pnn_17 (Nat.le_of_ble_eq_true rfl) m_1528 rfl rfl rfl (by decide) (Nat.le_of_ble_eq_true rfl) (Nat.le_of_ble_eq_true rfl) dL_law_578 (fun r4_ M5_ q6_ => ?_)
  obtain ⟨hI2_, hF2_, -, hs2_⟩ := q6_
  have e2_ : (mgD M5_ M2_).1 = M5_.1 := mgD_self hF2_ SD_X12_as
  have hI9_ : Inv (mgD M5_ M2_) := mgD_I hI1_
  have hD9_ : InvD (mgD M5_ M2_) := mgD_D hI2_
  have st_ := sy_10 hR hD hD1_ hI2_ hF1_ hs1_ hF2_ hs2_
  refine wl_pop X dL_law_581 ?_
  refine wl_goto X (tgt := 1731) dL_law_582 (by decide) ?_
  exact hend _ hI9_ hD9_ (by rw [e2_]; exact st_.1)
set_option maxHeartbeats 4000000 in
set_option maxRecDepth 100000 in
theorem law_case_11 {p : Program} {l : Launch} {e : Env} {s : State} {m : MethodId} {below : List Frame} {meth : Method} {c : Code} {b L : Nat} {xs : Nat → Int32} {A : Nat → Prop} {G : va_G} {cy : Nat → ClassId} {ad : rf → Nat} {ce sl : Nat} {Z : State → Prop} (X : LX p s m c b L xs A G cy ad ce sl) {i : Int32} {M : mM} (hI : Inv M) (hD : InvD M) (hR : RY M.1) (hi : 0 ≤ i.toInt ∧ i.toInt + 6 ≤ (L : Int)) (hend : ∀ M' : mM, Inv M' → InvD M' → RY M'.1 → WL p l e s m below meth c b A G cy ad ce sl Z 1731 [(3, vI i), (0, vR (94, 0, 0)), (1, vR (11, 0, 0)), (2, vR (12, 0, 0))] [] M') : WL p l e s m below meth c b A G cy ad ce sl Z 585 [(3, vI i), (0, vR (94, 0, 0)), (1, vR (11, 0, 0)), (2, vR (12, 0, 0))] [] M := by
  refine wl_aload_n X dL_law_585 rfl 2 rfl ?_
  refine wl_arg X 1 hi (by decide) (v := 1) (by decide) (ki := 1) (by decide) 1 0 rfl rfl dL_law_586 dL_law_587 dL_law_588 dL_law_589 dL_law_590 ?_
  refine wl_arg X 2 hi (by decide) (v := 2) (by decide) (ki := 2) (by decide) 1 0 rfl rfl dL_law_591 dL_law_592 dL_law_593 dL_law_594 dL_law_595 ?_
  refine wl_arg X 3 hi (by decide) (v := 3) (by decide) (ki := 3) (by decide) 1 0 rfl rfl dL_law_596 dL_law_597 dL_law_598 dL_law_599 dL_law_600 ?_
  refine wl_arg X 4 hi (by decide) (v := 4) (by decide) (ki := 4) (by decide) 1 0 rfl rfl dL_law_601 dL_law_602 dL_law_603 dL_law_604 dL_law_605 ?_
  refine wl_callC X (as := [vI (xs (i.toInt.toNat + 1)), vI (xs (i.toInt.toNat + 2)), vI (xs (i.toInt.toNat + 3)), vI (xs (i.toInt.toNat + 4))]) (rest := []) (c_X11_habit l G cy ad 0 (xs (i.toInt.toNat + 1)) (xs (i.toInt.toNat + 2)) (xs (i.toInt.toNat + 3)) (xs (i.toInt.toNat + 4)) M hI) kV_X11_habit pnn_0 (Nat.le_of_ble_eq_true rfl) m_649 rfl rfl rfl (by decide) (Nat.le_of_ble_eq_true rfl) (Nat.le_of_ble_eq_true rfl) dL_law_606 (fun r1_ M2_ q3_ => ?_)
  obtain ⟨hI1_, hF1_, -, hs1_⟩ := q3_
  have e1_ : mgC M2_ M = M2_ := mgC_self hF1_ SC_X11_habit
  rw [e1_]
  have hD1_ : InvD M2_ := e1_ ▸ mgC_D (M' := M2_) hD
  refine wl_pop X dL_law_609 ?_
  refine wl_aload_n X dL_law_610 rfl 3 rfl ?_
  refine wl_arg X 1 hi (by decide) (v := 1) (by decide) (ki := 1) (by decide) 1 0 rfl rfl dL_law_611 dL_law_612 dL_law_613 dL_law_614 dL_law_615 ?_
  refine wl_arg X 2 hi (by decide) (v := 2) (by decide) (ki := 2) (by decide) 1 0 rfl rfl dL_law_616 dL_law_617 dL_law_618 dL_law_619 dL_law_620 ?_
  refine wl_arg X 3 hi (by decide) (v := 3) (by decide) (ki := 3) (by decide) 1 0 rfl rfl dL_law_621 dL_law_622 dL_law_623 dL_law_624 dL_law_625 ?_
  refine wl_arg X 4 hi (by decide) (v := 4) (by decide) (ki := 4) (by decide) 1 0 rfl rfl dL_law_626 dL_law_627 dL_law_628 dL_law_629 dL_law_630 ?_
  refine wl_callD X (as := [vI (xs (i.toInt.toNat + 1)), vI (xs (i.toInt.toNat + 2)), vI (xs (i.toInt.toNat + 3)), vI (xs (i.toInt.toNat + 4))]) (rest := []) (c_X12_habit l G cy ad 0 (xs (i.toInt.toNat + 1)) (xs (i.toInt.toNat + 2)) (xs (i.toInt.toNat + 3)) (xs (i.toInt.toNat + 4)) M2_ hD1_) kV_X12_habit pnn_17 (Nat.le_of_ble_eq_true rfl) m_1538 rfl rfl rfl (by decide) (Nat.le_of_ble_eq_true rfl) (Nat.le_of_ble_eq_true rfl) dL_law_631 (fun r4_ M5_ q6_ => ?_)
  obtain ⟨hI2_, hF2_, -, hs2_⟩ := q6_
  have e2_ : (mgD M5_ M2_).1 = M5_.1 := mgD_self hF2_ SD_X12_habit
  have hI9_ : Inv (mgD M5_ M2_) := mgD_I hI1_
  have hD9_ : InvD (mgD M5_ M2_) := mgD_D hI2_
  have st_ := sy_11 hR hD hD1_ hI2_ hF1_ hs1_ hF2_ hs2_
  refine wl_pop X dL_law_634 ?_
  refine wl_goto X (tgt := 1731) dL_law_635 (by decide) ?_
  exact hend _ hI9_ hD9_ (by rw [e2_]; exact st_.1)
set_option maxHeartbeats 4000000 in
set_option maxRecDepth 100000 in
theorem law_case_12 {p : Program} {l : Launch} {e : Env} {s : State} {m : MethodId} {below : List Frame} {meth : Method} {c : Code} {b L : Nat} {xs : Nat → Int32} {A : Nat → Prop} {G : va_G} {cy : Nat → ClassId} {ad : rf → Nat} {ce sl : Nat} {Z : State → Prop} (X : LX p s m c b L xs A G cy ad ce sl) {i : Int32} {M : mM} (hI : Inv M) (hD : InvD M) (hR : RY M.1) (hi : 0 ≤ i.toInt ∧ i.toInt + 6 ≤ (L : Int)) (hend : ∀ M' : mM, Inv M' → InvD M' → RY M'.1 → WL p l e s m below meth c b A G cy ad ce sl Z 1731 [(3, vI i), (0, vR (94, 0, 0)), (1, vR (11, 0, 0)), (2, vR (12, 0, 0))] [] M') : WL p l e s m below meth c b A G cy ad ce sl Z 638 [(3, vI i), (0, vR (94, 0, 0)), (1, vR (11, 0, 0)), (2, vR (12, 0, 0))] [] M := by
  refine wl_aload_n X dL_law_638 rfl 2 rfl ?_
  refine wl_arg X 1 hi (by decide) (v := 1) (by decide) (ki := 1) (by decide) 1 0 rfl rfl dL_law_639 dL_law_640 dL_law_641 dL_law_642 dL_law_643 ?_
  refine wl_arg X 2 hi (by decide) (v := 2) (by decide) (ki := 2) (by decide) 1 0 rfl rfl dL_law_644 dL_law_645 dL_law_646 dL_law_647 dL_law_648 ?_
  refine wl_callC X (as := [vI (xs (i.toInt.toNat + 1)), vI (xs (i.toInt.toNat + 2))]) (rest := []) (c_X11_face l G cy ad 0 (xs (i.toInt.toNat + 1)) (xs (i.toInt.toNat + 2)) M hI) kV_X11_face pnn_0 (Nat.le_of_ble_eq_true rfl) m_657 rfl rfl rfl (by decide) (Nat.le_of_ble_eq_true rfl) (Nat.le_of_ble_eq_true rfl) dL_law_649 (fun r1_ M2_ q3_ => ?_)
  obtain ⟨hI1_, hF1_, -, hs1_⟩ := q3_
  have e1_ : mgC M2_ M = M2_ := mgC_self hF1_ SC_X11_face
  rw [e1_]
  have hD1_ : InvD M2_ := e1_ ▸ mgC_D (M' := M2_) hD
  refine wl_pop X dL_law_652 ?_
  refine wl_aload_n X dL_law_653 rfl 3 rfl ?_
  refine wl_arg X 1 hi (by decide) (v := 1) (by decide) (ki := 1) (by decide) 1 0 rfl rfl dL_law_654 dL_law_655 dL_law_656 dL_law_657 dL_law_658 ?_
  refine wl_arg X 2 hi (by decide) (v := 2) (by decide) (ki := 2) (by decide) 1 0 rfl rfl dL_law_659 dL_law_660 dL_law_661 dL_law_662 dL_law_663 ?_
  refine wl_callD X (as := [vI (xs (i.toInt.toNat + 1)), vI (xs (i.toInt.toNat + 2))]) (rest := []) (c_X12_face l G cy ad 0 (xs (i.toInt.toNat + 1)) (xs (i.toInt.toNat + 2)) M2_ hD1_) kV_X12_face pnn_17 (Nat.le_of_ble_eq_true rfl) m_1542 rfl rfl rfl (by decide) (Nat.le_of_ble_eq_true rfl) (Nat.le_of_ble_eq_true rfl) dL_law_664 (fun r4_ M5_ q6_ => ?_)
  obtain ⟨hI2_, hF2_, -, hs2_⟩ := q6_
  have e2_ : (mgD M5_ M2_).1 = M5_.1 := mgD_self hF2_ SD_X12_face
  have hI9_ : Inv (mgD M5_ M2_) := mgD_I hI1_
  have hD9_ : InvD (mgD M5_ M2_) := mgD_D hI2_
  have st_ := sy_12 hR hD hD1_ hI2_ hF1_ hs1_ hF2_ hs2_
  refine wl_pop X dL_law_667 ?_
  refine wl_goto X (tgt := 1731) dL_law_668 (by decide) ?_
  exact hend _ hI9_ hD9_ (by rw [e2_]; exact st_.1)
set_option maxHeartbeats 4000000 in
set_option maxRecDepth 100000 in
theorem law_case_13 {p : Program} {l : Launch} {e : Env} {s : State} {m : MethodId} {below : List Frame} {meth : Method} {c : Code} {b L : Nat} {xs : Nat → Int32} {A : Nat → Prop} {G : va_G} {cy : Nat → ClassId} {ad : rf → Nat} {ce sl : Nat} {Z : State → Prop} (X : LX p s m c b L xs A G cy ad ce sl) {i : Int32} {M : mM} (hI : Inv M) (hD : InvD M) (hR : RY M.1) (hi : 0 ≤ i.toInt ∧ i.toInt + 6 ≤ (L : Int)) (hend : ∀ M' : mM, Inv M' → InvD M' → RY M'.1 → WL p l e s m below meth c b A G cy ad ce sl Z 1731 [(3, vI i), (0, vR (94, 0, 0)), (1, vR (11, 0, 0)), (2, vR (12, 0, 0))] [] M') : WL p l e s m below meth c b A G cy ad ce sl Z 671 [(3, vI i), (0, vR (94, 0, 0)), (1, vR (11, 0, 0)), (2, vR (12, 0, 0))] [] M := by
  refine wl_aload_n X dL_law_671 rfl 2 rfl ?_
  refine wl_arg X 1 hi (by decide) (v := 1) (by decide) (ki := 1) (by decide) 1 0 rfl rfl dL_law_672 dL_law_673 dL_law_674 dL_law_675 dL_law_676 ?_
  refine wl_arg X 2 hi (by decide) (v := 2) (by decide) (ki := 2) (by decide) 1 0 rfl rfl dL_law_677 dL_law_678 dL_law_679 dL_law_680 dL_law_681 ?_
  refine wl_if_eq X (tgt := 689) dL_law_682 (by decide) (fun hz1_ => ?_) (fun hz1_ => ?_)
  · refine wl_iconst X (v := 0) dL_law_689 (by decide) ?_
    refine wl_callC X (as := [vI (xs (i.toInt.toNat + 1)), vI 0]) (rest := []) (c_X11_goes l G cy ad 0 (xs (i.toInt.toNat + 1)) 0 M hI ⟨by decide, by decide⟩) kV_X11_goes pnn_0 (Nat.le_of_ble_eq_true rfl) m_661 rfl rfl rfl (by decide) (Nat.le_of_ble_eq_true rfl) (Nat.le_of_ble_eq_true rfl) dL_law_690 (fun r2_ M3_ q4_ => ?_)
    obtain ⟨hI1_, hF1_, -, hs1_⟩ := q4_
    have e1_ : mgC M3_ M = M3_ := mgC_self hF1_ SC_X11_goes
    rw [e1_]
    have hD1_ : InvD M3_ := e1_ ▸ mgC_D (M' := M3_) hD
    refine wl_pop X dL_law_693 ?_
    refine wl_aload_n X dL_law_694 rfl 3 rfl ?_
    refine wl_arg X 1 hi (by decide) (v := 1) (by decide) (ki := 1) (by decide) 1 0 rfl rfl dL_law_695 dL_law_696 dL_law_697 dL_law_698 dL_law_699 ?_
    refine wl_arg X 2 hi (by decide) (v := 2) (by decide) (ki := 2) (by decide) 1 0 rfl rfl dL_law_700 dL_law_701 dL_law_702 dL_law_703 dL_law_704 ?_
    refine wl_if_eq X (tgt := 712) dL_law_705 (by decide) (fun hz5_ => ?_) (fun hz5_ => ?_)
    · refine wl_iconst X (v := 0) dL_law_712 (by decide) ?_
      refine wl_callD X (as := [vI (xs (i.toInt.toNat + 1)), vI 0]) (rest := []) (c_X12_goes l G cy ad 0 (xs (i.toInt.toNat + 1)) 0 M3_ hD1_ ⟨by decide, by decide⟩) kV_X12_goes pnn_17 (Nat.le_of_ble_eq_true rfl) m_1546 rfl rfl rfl (by decide) (Nat.le_of_ble_eq_true rfl) (Nat.le_of_ble_eq_true rfl) dL_law_713 (fun r6_ M7_ q8_ => ?_)
      obtain ⟨hI2_, hF2_, -, hs2_⟩ := q8_
      have e2_ : (mgD M7_ M3_).1 = M7_.1 := mgD_self hF2_ SD_X12_goes
      have hI9_ : Inv (mgD M7_ M3_) := mgD_I hI1_
      have hD9_ : InvD (mgD M7_ M3_) := mgD_D hI2_
      have st_ := sy_13 hR hD hD1_ hI2_ hF1_ hs1_ hF2_ hs2_ (by decide)
      refine wl_pop X dL_law_716 ?_
      refine wl_goto X (tgt := 1731) dL_law_717 (by decide) ?_
      exact hend _ hI9_ hD9_ (by rw [e2_]; exact st_.1)
    · exact absurd hz1_ hz5_
  · refine wl_iconst X (v := 1) dL_law_685 (by decide) ?_
    refine wl_goto X (tgt := 690) dL_law_686 (by decide) ?_
    refine wl_callC X (as := [vI (xs (i.toInt.toNat + 1)), vI 1]) (rest := []) (c_X11_goes l G cy ad 0 (xs (i.toInt.toNat + 1)) 1 M hI ⟨by decide, by decide⟩) kV_X11_goes pnn_0 (Nat.le_of_ble_eq_true rfl) m_661 rfl rfl rfl (by decide) (Nat.le_of_ble_eq_true rfl) (Nat.le_of_ble_eq_true rfl) dL_law_690 (fun r9_ M10_ q11_ => ?_)
    obtain ⟨hI1_, hF1_, -, hs1_⟩ := q11_
    have e1_ : mgC M10_ M = M10_ := mgC_self hF1_ SC_X11_goes
    rw [e1_]
    have hD1_ : InvD M10_ := e1_ ▸ mgC_D (M' := M10_) hD
    refine wl_pop X dL_law_693 ?_
    refine wl_aload_n X dL_law_694 rfl 3 rfl ?_
    refine wl_arg X 1 hi (by decide) (v := 1) (by decide) (ki := 1) (by decide) 1 0 rfl rfl dL_law_695 dL_law_696 dL_law_697 dL_law_698 dL_law_699 ?_
    refine wl_arg X 2 hi (by decide) (v := 2) (by decide) (ki := 2) (by decide) 1 0 rfl rfl dL_law_700 dL_law_701 dL_law_702 dL_law_703 dL_law_704 ?_
    refine wl_if_eq X (tgt := 712) dL_law_705 (by decide) (fun hz12_ => ?_) (fun hz12_ => ?_)
    · exact absurd hz12_ hz1_
    · refine wl_iconst X (v := 1) dL_law_708 (by decide) ?_
      refine wl_goto X (tgt := 713) dL_law_709 (by decide) ?_
      refine wl_callD X (as := [vI (xs (i.toInt.toNat + 1)), vI 1]) (rest := []) (c_X12_goes l G cy ad 0 (xs (i.toInt.toNat + 1)) 1 M10_ hD1_ ⟨by decide, by decide⟩) kV_X12_goes pnn_17 (Nat.le_of_ble_eq_true rfl) m_1546 rfl rfl rfl (by decide) (Nat.le_of_ble_eq_true rfl) (Nat.le_of_ble_eq_true rfl) dL_law_713 (fun r13_ M14_ q15_ => ?_)
      obtain ⟨hI2_, hF2_, -, hs2_⟩ := q15_
      have e2_ : (mgD M14_ M10_).1 = M14_.1 := mgD_self hF2_ SD_X12_goes
      have hI9_ : Inv (mgD M14_ M10_) := mgD_I hI1_
      have hD9_ : InvD (mgD M14_ M10_) := mgD_D hI2_
      have st_ := sy_13 hR hD hD1_ hI2_ hF1_ hs1_ hF2_ hs2_ (by decide)
      refine wl_pop X dL_law_716 ?_
      refine wl_goto X (tgt := 1731) dL_law_717 (by decide) ?_
      exact hend _ hI9_ hD9_ (by rw [e2_]; exact st_.1)
set_option maxHeartbeats 4000000 in
set_option maxRecDepth 100000 in
theorem law_case_14 {p : Program} {l : Launch} {e : Env} {s : State} {m : MethodId} {below : List Frame} {meth : Method} {c : Code} {b L : Nat} {xs : Nat → Int32} {A : Nat → Prop} {G : va_G} {cy : Nat → ClassId} {ad : rf → Nat} {ce sl : Nat} {Z : State → Prop} (X : LX p s m c b L xs A G cy ad ce sl) {i : Int32} {M : mM} (hI : Inv M) (hD : InvD M) (hR : RY M.1) (hi : 0 ≤ i.toInt ∧ i.toInt + 6 ≤ (L : Int)) (hend : ∀ M' : mM, Inv M' → InvD M' → RY M'.1 → WL p l e s m below meth c b A G cy ad ce sl Z 1731 [(3, vI i), (0, vR (94, 0, 0)), (1, vR (11, 0, 0)), (2, vR (12, 0, 0))] [] M') : WL p l e s m below meth c b A G cy ad ce sl Z 720 [(3, vI i), (0, vR (94, 0, 0)), (1, vR (11, 0, 0)), (2, vR (12, 0, 0))] [] M := by
  refine wl_aload_n X dL_law_720 rfl 2 rfl ?_
  refine wl_arg X 1 hi (by decide) (v := 1) (by decide) (ki := 1) (by decide) 1 0 rfl rfl dL_law_721 dL_law_722 dL_law_723 dL_law_724 dL_law_725 ?_
  refine wl_i2l X dL_law_726 ?_
  refine wl_bipush X (v := 32) dL_law_727 (by decide) ?_
  refine wl_lshl X dL_law_729 ?_
  refine wl_arg X 2 hi (by decide) (v := 2) (by decide) (ki := 2) (by decide) 1 0 rfl rfl dL_law_730 dL_law_731 dL_law_732 dL_law_733 dL_law_734 ?_
  refine wl_i2l X dL_law_735 ?_
  refine wl_ldc2 X (v := 4294967295) m_1870 dL_law_736 ?_
  refine wl_land X dL_law_739 ?_
  refine wl_lor X dL_law_740 ?_
  refine wl_arg X 3 hi (by decide) (v := 3) (by decide) (ki := 3) (by decide) 1 0 rfl rfl dL_law_741 dL_law_742 dL_law_743 dL_law_744 dL_law_745 ?_
  refine wl_callC X (as := [vL (((((xs (i.toInt.toNat + 1))).toInt64) <<< ((32 : Int32).toInt64 &&& 63)) ||| (((((xs (i.toInt.toNat + 2))).toInt64) &&& (4294967295 : Int64)) : Int64)), vI (xs (i.toInt.toNat + 3))]) (rest := []) (c_X11_feed l G cy ad 0 (((((xs (i.toInt.toNat + 1))).toInt64) <<< ((32 : Int32).toInt64 &&& 63)) ||| (((((xs (i.toInt.toNat + 2))).toInt64) &&& (4294967295 : Int64)) : Int64)) (xs (i.toInt.toNat + 3)) M hI) kV_X11_feed pnn_0 (Nat.le_of_ble_eq_true rfl) m_665 rfl rfl rfl (by decide) (Nat.le_of_ble_eq_true rfl) (Nat.le_of_ble_eq_true rfl) dL_law_746 (fun r1_ M2_ q3_ => ?_)
  obtain ⟨hI1_, hF1_, -, hs1_⟩ := q3_
  have e1_ : mgC M2_ M = M2_ := mgC_self hF1_ SC_X11_feed
  rw [e1_]
  have hD1_ : InvD M2_ := e1_ ▸ mgC_D (M' := M2_) hD
  refine wl_pop X dL_law_749 ?_
  refine wl_aload_n X dL_law_750 rfl 3 rfl ?_
  refine wl_arg X 1 hi (by decide) (v := 1) (by decide) (ki := 1) (by decide) 1 0 rfl rfl dL_law_751 dL_law_752 dL_law_753 dL_law_754 dL_law_755 ?_
  refine wl_i2l X dL_law_756 ?_
  refine wl_bipush X (v := 32) dL_law_757 (by decide) ?_
  refine wl_lshl X dL_law_759 ?_
  refine wl_arg X 2 hi (by decide) (v := 2) (by decide) (ki := 2) (by decide) 1 0 rfl rfl dL_law_760 dL_law_761 dL_law_762 dL_law_763 dL_law_764 ?_
  refine wl_i2l X dL_law_765 ?_
  refine wl_ldc2 X (v := 4294967295) m_1870 dL_law_766 ?_
  refine wl_land X dL_law_769 ?_
  refine wl_lor X dL_law_770 ?_
  refine wl_arg X 3 hi (by decide) (v := 3) (by decide) (ki := 3) (by decide) 1 0 rfl rfl dL_law_771 dL_law_772 dL_law_773 dL_law_774 dL_law_775 ?_
  refine wl_callD X (as := [vL (((((xs (i.toInt.toNat + 1))).toInt64) <<< ((32 : Int32).toInt64 &&& 63)) ||| (((((xs (i.toInt.toNat + 2))).toInt64) &&& (4294967295 : Int64)) : Int64)), vI (xs (i.toInt.toNat + 3))]) (rest := []) (c_X12_feed l G cy ad 0 (((((xs (i.toInt.toNat + 1))).toInt64) <<< ((32 : Int32).toInt64 &&& 63)) ||| (((((xs (i.toInt.toNat + 2))).toInt64) &&& (4294967295 : Int64)) : Int64)) (xs (i.toInt.toNat + 3)) M2_ hD1_) kV_X12_feed pnn_17 (Nat.le_of_ble_eq_true rfl) m_1550 rfl rfl rfl (by decide) (Nat.le_of_ble_eq_true rfl) (Nat.le_of_ble_eq_true rfl) dL_law_776 (fun r4_ M5_ q6_ => ?_)
  obtain ⟨hI2_, hF2_, -, hs2_⟩ := q6_
  have e2_ : (mgD M5_ M2_).1 = M5_.1 := mgD_self hF2_ SD_X12_feed
  have hI9_ : Inv (mgD M5_ M2_) := mgD_I hI1_
  have hD9_ : InvD (mgD M5_ M2_) := mgD_D hI2_
  have st_ := sy_14 hR hD hD1_ hI2_ hF1_ hs1_ hF2_ hs2_
  refine wl_pop X dL_law_779 ?_
  refine wl_goto X (tgt := 1731) dL_law_780 (by decide) ?_
  exact hend _ hI9_ hD9_ (by rw [e2_]; exact st_.1)
set_option maxHeartbeats 4000000 in
set_option maxRecDepth 100000 in
theorem law_case_15 {p : Program} {l : Launch} {e : Env} {s : State} {m : MethodId} {below : List Frame} {meth : Method} {c : Code} {b L : Nat} {xs : Nat → Int32} {A : Nat → Prop} {G : va_G} {cy : Nat → ClassId} {ad : rf → Nat} {ce sl : Nat} {Z : State → Prop} (X : LX p s m c b L xs A G cy ad ce sl) {i : Int32} {M : mM} (hI : Inv M) (hD : InvD M) (hR : RY M.1) (hi : 0 ≤ i.toInt ∧ i.toInt + 6 ≤ (L : Int)) (hend : ∀ M' : mM, Inv M' → InvD M' → RY M'.1 → WL p l e s m below meth c b A G cy ad ce sl Z 1731 [(3, vI i), (0, vR (94, 0, 0)), (1, vR (11, 0, 0)), (2, vR (12, 0, 0))] [] M') : WL p l e s m below meth c b A G cy ad ce sl Z 783 [(3, vI i), (0, vR (94, 0, 0)), (1, vR (11, 0, 0)), (2, vR (12, 0, 0))] [] M := by
  refine wl_aload_n X dL_law_783 rfl 2 rfl ?_
  refine wl_arg X 1 hi (by decide) (v := 1) (by decide) (ki := 1) (by decide) 1 0 rfl rfl dL_law_784 dL_law_785 dL_law_786 dL_law_787 dL_law_788 ?_
  refine wl_callC X (as := [vI (xs (i.toInt.toNat + 1))]) (rest := []) (c_X11_text l G cy ad 0 (xs (i.toInt.toNat + 1)) M hI) kV_X11_text pnn_0 (Nat.le_of_ble_eq_true rfl) m_677 rfl rfl rfl (by decide) (Nat.le_of_ble_eq_true rfl) (Nat.le_of_ble_eq_true rfl) dL_law_789 (fun r1_ M2_ q3_ => ?_)
  obtain ⟨hI1_, hF1_, -, hs1_⟩ := q3_
  have e1_ : mgC M2_ M = M2_ := mgC_self hF1_ SC_X11_text
  rw [e1_]
  have hD1_ : InvD M2_ := e1_ ▸ mgC_D (M' := M2_) hD
  refine wl_pop X dL_law_792 ?_
  refine wl_aload_n X dL_law_793 rfl 3 rfl ?_
  refine wl_arg X 1 hi (by decide) (v := 1) (by decide) (ki := 1) (by decide) 1 0 rfl rfl dL_law_794 dL_law_795 dL_law_796 dL_law_797 dL_law_798 ?_
  refine wl_callD X (as := [vI (xs (i.toInt.toNat + 1))]) (rest := []) (c_X12_text_ l G cy ad 0 (xs (i.toInt.toNat + 1)) M2_ hD1_) kV_X12_text_ pnn_17 (Nat.le_of_ble_eq_true rfl) m_1555 rfl rfl rfl (by decide) (Nat.le_of_ble_eq_true rfl) (Nat.le_of_ble_eq_true rfl) dL_law_799 (fun r4_ M5_ q6_ => ?_)
  obtain ⟨hI2_, hF2_, -, hs2_⟩ := q6_
  have e2_ : (mgD M5_ M2_).1 = M5_.1 := mgD_self hF2_ SD_X12_text_
  have hI9_ : Inv (mgD M5_ M2_) := mgD_I hI1_
  have hD9_ : InvD (mgD M5_ M2_) := mgD_D hI2_
  have st_ := sy_15 hR hD hD1_ hI2_ hF1_ hs1_ hF2_ hs2_
  refine wl_pop X dL_law_802 ?_
  refine wl_goto X (tgt := 1731) dL_law_803 (by decide) ?_
  exact hend _ hI9_ hD9_ (by rw [e2_]; exact st_.1)
set_option maxHeartbeats 4000000 in
set_option maxRecDepth 100000 in
theorem law_case_16 {p : Program} {l : Launch} {e : Env} {s : State} {m : MethodId} {below : List Frame} {meth : Method} {c : Code} {b L : Nat} {xs : Nat → Int32} {A : Nat → Prop} {G : va_G} {cy : Nat → ClassId} {ad : rf → Nat} {ce sl : Nat} {Z : State → Prop} (X : LX p s m c b L xs A G cy ad ce sl) {i : Int32} {M : mM} (hI : Inv M) (hD : InvD M) (hR : RY M.1) (hi : 0 ≤ i.toInt ∧ i.toInt + 6 ≤ (L : Int)) (hend : ∀ M' : mM, Inv M' → InvD M' → RY M'.1 → WL p l e s m below meth c b A G cy ad ce sl Z 1731 [(3, vI i), (0, vR (94, 0, 0)), (1, vR (11, 0, 0)), (2, vR (12, 0, 0))] [] M') : WL p l e s m below meth c b A G cy ad ce sl Z 806 [(3, vI i), (0, vR (94, 0, 0)), (1, vR (11, 0, 0)), (2, vR (12, 0, 0))] [] M := by
  refine wl_aload_n X dL_law_806 rfl 2 rfl ?_
  refine wl_arg X 1 hi (by decide) (v := 1) (by decide) (ki := 1) (by decide) 1 0 rfl rfl dL_law_807 dL_law_808 dL_law_809 dL_law_810 dL_law_811 ?_
  refine wl_arg X 2 hi (by decide) (v := 2) (by decide) (ki := 2) (by decide) 1 0 rfl rfl dL_law_812 dL_law_813 dL_law_814 dL_law_815 dL_law_816 ?_
  refine wl_arg X 3 hi (by decide) (v := 3) (by decide) (ki := 3) (by decide) 1 0 rfl rfl dL_law_817 dL_law_818 dL_law_819 dL_law_820 dL_law_821 ?_
  refine wl_arg X 4 hi (by decide) (v := 4) (by decide) (ki := 4) (by decide) 1 0 rfl rfl dL_law_822 dL_law_823 dL_law_824 dL_law_825 dL_law_826 ?_
  refine wl_callC X (as := [vI (xs (i.toInt.toNat + 1)), vI (xs (i.toInt.toNat + 2)), vI (xs (i.toInt.toNat + 3)), vI (xs (i.toInt.toNat + 4))]) (rest := []) (c_X11_echo l G cy ad 0 (xs (i.toInt.toNat + 1)) (xs (i.toInt.toNat + 2)) (xs (i.toInt.toNat + 3)) (xs (i.toInt.toNat + 4)) M hI) kV_X11_echo pnn_0 (Nat.le_of_ble_eq_true rfl) m_835 rfl rfl rfl (by decide) (Nat.le_of_ble_eq_true rfl) (Nat.le_of_ble_eq_true rfl) dL_law_827 (fun r1_ M2_ q3_ => ?_)
  obtain ⟨hI1_, hF1_, -, hs1_⟩ := q3_
  have e1_ : mgC M2_ M = M2_ := mgC_self hF1_ SC_X11_echo
  rw [e1_]
  have hD1_ : InvD M2_ := e1_ ▸ mgC_D (M' := M2_) hD
  refine wl_pop X dL_law_830 ?_
  refine wl_aload_n X dL_law_831 rfl 3 rfl ?_
  refine wl_arg X 1 hi (by decide) (v := 1) (by decide) (ki := 1) (by decide) 1 0 rfl rfl dL_law_832 dL_law_833 dL_law_834 dL_law_835 dL_law_836 ?_
  refine wl_arg X 2 hi (by decide) (v := 2) (by decide) (ki := 2) (by decide) 1 0 rfl rfl dL_law_837 dL_law_838 dL_law_839 dL_law_840 dL_law_841 ?_
  refine wl_arg X 3 hi (by decide) (v := 3) (by decide) (ki := 3) (by decide) 1 0 rfl rfl dL_law_842 dL_law_843 dL_law_844 dL_law_845 dL_law_846 ?_
  refine wl_arg X 4 hi (by decide) (v := 4) (by decide) (ki := 4) (by decide) 1 0 rfl rfl dL_law_847 dL_law_848 dL_law_849 dL_law_850 dL_law_851 ?_
  refine wl_callD X (as := [vI (xs (i.toInt.toNat + 1)), vI (xs (i.toInt.toNat + 2)), vI (xs (i.toInt.toNat + 3)), vI (xs (i.toInt.toNat + 4))]) (rest := []) (c_X12_echo l G cy ad 0 (xs (i.toInt.toNat + 1)) (xs (i.toInt.toNat + 2)) (xs (i.toInt.toNat + 3)) (xs (i.toInt.toNat + 4)) M2_ hD1_) kV_X12_echo pnn_17 (Nat.le_of_ble_eq_true rfl) m_1620 rfl rfl rfl (by decide) (Nat.le_of_ble_eq_true rfl) (Nat.le_of_ble_eq_true rfl) dL_law_852 (fun r4_ M5_ q6_ => ?_)
  obtain ⟨hI2_, hF2_, -, hs2_⟩ := q6_
  have e2_ : (mgD M5_ M2_).1 = M5_.1 := mgD_self hF2_ SD_X12_echo
  have hI9_ : Inv (mgD M5_ M2_) := mgD_I hI1_
  have hD9_ : InvD (mgD M5_ M2_) := mgD_D hI2_
  have st_ := sy_16 hR hD hD1_ hI2_ hF1_ hs1_ hF2_ hs2_
  refine wl_pop X dL_law_855 ?_
  refine wl_goto X (tgt := 1731) dL_law_856 (by decide) ?_
  exact hend _ hI9_ hD9_ (by rw [e2_]; exact st_.1)
set_option maxHeartbeats 4000000 in
set_option maxRecDepth 100000 in
theorem law_case_17 {p : Program} {l : Launch} {e : Env} {s : State} {m : MethodId} {below : List Frame} {meth : Method} {c : Code} {b L : Nat} {xs : Nat → Int32} {A : Nat → Prop} {G : va_G} {cy : Nat → ClassId} {ad : rf → Nat} {ce sl : Nat} {Z : State → Prop} (X : LX p s m c b L xs A G cy ad ce sl) {i : Int32} {M : mM} (hI : Inv M) (hD : InvD M) (hR : RY M.1) (hi : 0 ≤ i.toInt ∧ i.toInt + 6 ≤ (L : Int)) (hend : ∀ M' : mM, Inv M' → InvD M' → RY M'.1 → WL p l e s m below meth c b A G cy ad ce sl Z 1731 [(3, vI i), (0, vR (94, 0, 0)), (1, vR (11, 0, 0)), (2, vR (12, 0, 0))] [] M') : WL p l e s m below meth c b A G cy ad ce sl Z 859 [(3, vI i), (0, vR (94, 0, 0)), (1, vR (11, 0, 0)), (2, vR (12, 0, 0))] [] M := by
  refine wl_aload_n X dL_law_859 rfl 2 rfl ?_
  refine wl_arg X 1 hi (by decide) (v := 1) (by decide) (ki := 1) (by decide) 1 0 rfl rfl dL_law_860 dL_law_861 dL_law_862 dL_law_863 dL_law_864 ?_
  refine wl_callC X (as := [vI (xs (i.toInt.toNat + 1))]) (rest := []) (c_X11_click l G cy ad 0 (xs (i.toInt.toNat + 1)) M hI) kV_X11_click pnn_0 (Nat.le_of_ble_eq_true rfl) m_892 rfl rfl rfl (by decide) (Nat.le_of_ble_eq_true rfl) (Nat.le_of_ble_eq_true rfl) dL_law_865 (fun r1_ M2_ q3_ => ?_)
  obtain ⟨hI1_, hF1_, -, hs1_⟩ := q3_
  have e1_ : mgC M2_ M = M2_ := mgC_self hF1_ SC_X11_click
  rw [e1_]
  have hD1_ : InvD M2_ := e1_ ▸ mgC_D (M' := M2_) hD
  refine wl_aload_n X dL_law_868 rfl 3 rfl ?_
  refine wl_arg X 1 hi (by decide) (v := 1) (by decide) (ki := 1) (by decide) 1 0 rfl rfl dL_law_869 dL_law_870 dL_law_871 dL_law_872 dL_law_873 ?_
  refine wl_callD X (as := [vI (xs (i.toInt.toNat + 1))]) (rest := [vI r1_]) (c_X12_click l G cy ad 0 (xs (i.toInt.toNat + 1)) M2_ hD1_) kV_X12_click pnn_17 (Nat.le_of_ble_eq_true rfl) m_1667 rfl rfl rfl (by decide) (Nat.le_of_ble_eq_true rfl) (Nat.le_of_ble_eq_true rfl) dL_law_874 (fun r4_ M5_ q6_ => ?_)
  obtain ⟨hI2_, hF2_, -, hs2_⟩ := q6_
  have e2_ : (mgD M5_ M2_).1 = M5_.1 := mgD_self hF2_ SD_X12_click
  have hI9_ : Inv (mgD M5_ M2_) := mgD_I hI1_
  have hD9_ : InvD (mgD M5_ M2_) := mgD_D hI2_
  have st_ := sy_17 hR hD hD1_ hI2_ hF1_ hs1_ hF2_ hs2_
  refine wl_icmp_eq X (tgt := 1731) dL_law_877 (by decide) (congrArg Int32.toInt st_.2) ?_
  exact hend _ hI9_ hD9_ (by rw [e2_]; exact st_.1)
set_option maxHeartbeats 4000000 in
set_option maxRecDepth 100000 in
theorem law_case_18 {p : Program} {l : Launch} {e : Env} {s : State} {m : MethodId} {below : List Frame} {meth : Method} {c : Code} {b L : Nat} {xs : Nat → Int32} {A : Nat → Prop} {G : va_G} {cy : Nat → ClassId} {ad : rf → Nat} {ce sl : Nat} {Z : State → Prop} (X : LX p s m c b L xs A G cy ad ce sl) {i : Int32} {M : mM} (hI : Inv M) (hD : InvD M) (hR : RY M.1) (hi : 0 ≤ i.toInt ∧ i.toInt + 6 ≤ (L : Int)) (hend : ∀ M' : mM, Inv M' → InvD M' → RY M'.1 → WL p l e s m below meth c b A G cy ad ce sl Z 1731 [(3, vI i), (0, vR (94, 0, 0)), (1, vR (11, 0, 0)), (2, vR (12, 0, 0))] [] M') : WL p l e s m below meth c b A G cy ad ce sl Z 882 [(3, vI i), (0, vR (94, 0, 0)), (1, vR (11, 0, 0)), (2, vR (12, 0, 0))] [] M := by
  refine wl_aload_n X dL_law_882 rfl 2 rfl ?_
  refine wl_arg X 1 hi (by decide) (v := 1) (by decide) (ki := 1) (by decide) 1 0 rfl rfl dL_law_883 dL_law_884 dL_law_885 dL_law_886 dL_law_887 ?_
  refine wl_arg X 2 hi (by decide) (v := 2) (by decide) (ki := 2) (by decide) 1 0 rfl rfl dL_law_888 dL_law_889 dL_law_890 dL_law_891 dL_law_892 ?_
  refine wl_arg X 3 hi (by decide) (v := 3) (by decide) (ki := 3) (by decide) 1 0 rfl rfl dL_law_893 dL_law_894 dL_law_895 dL_law_896 dL_law_897 ?_
  refine wl_callC X (as := [vI (xs (i.toInt.toNat + 1)), vI (xs (i.toInt.toNat + 2)), vI (xs (i.toInt.toNat + 3))]) (rest := []) (c_X11_head l G cy ad 0 (xs (i.toInt.toNat + 1)) (xs (i.toInt.toNat + 2)) (xs (i.toInt.toNat + 3)) M hI) kV_X11_head pnn_0 (Nat.le_of_ble_eq_true rfl) m_925 rfl rfl rfl (by decide) (Nat.le_of_ble_eq_true rfl) (Nat.le_of_ble_eq_true rfl) dL_law_898 (fun r1_ M2_ q3_ => ?_)
  obtain ⟨hI1_, hF1_, -, hs1_⟩ := q3_
  have e1_ : mgC M2_ M = M2_ := mgC_self hF1_ SC_X11_head
  rw [e1_]
  have hD1_ : InvD M2_ := e1_ ▸ mgC_D (M' := M2_) hD
  refine wl_pop X dL_law_901 ?_
  refine wl_aload_n X dL_law_902 rfl 3 rfl ?_
  refine wl_arg X 1 hi (by decide) (v := 1) (by decide) (ki := 1) (by decide) 1 0 rfl rfl dL_law_903 dL_law_904 dL_law_905 dL_law_906 dL_law_907 ?_
  refine wl_arg X 2 hi (by decide) (v := 2) (by decide) (ki := 2) (by decide) 1 0 rfl rfl dL_law_908 dL_law_909 dL_law_910 dL_law_911 dL_law_912 ?_
  refine wl_arg X 3 hi (by decide) (v := 3) (by decide) (ki := 3) (by decide) 1 0 rfl rfl dL_law_913 dL_law_914 dL_law_915 dL_law_916 dL_law_917 ?_
  refine wl_callD X (as := [vI (xs (i.toInt.toNat + 1)), vI (xs (i.toInt.toNat + 2)), vI (xs (i.toInt.toNat + 3))]) (rest := []) (c_X12_head l G cy ad 0 (xs (i.toInt.toNat + 1)) (xs (i.toInt.toNat + 2)) (xs (i.toInt.toNat + 3)) M2_ hD1_) kV_X12_head pnn_17 (Nat.le_of_ble_eq_true rfl) m_1691 rfl rfl rfl (by decide) (Nat.le_of_ble_eq_true rfl) (Nat.le_of_ble_eq_true rfl) dL_law_918 (fun r4_ M5_ q6_ => ?_)
  obtain ⟨hI2_, hF2_, -, hs2_⟩ := q6_
  have e2_ : (mgD M5_ M2_).1 = M5_.1 := mgD_self hF2_ SD_X12_head
  have hI9_ : Inv (mgD M5_ M2_) := mgD_I hI1_
  have hD9_ : InvD (mgD M5_ M2_) := mgD_D hI2_
  have st_ := sy_18 hR hD hD1_ hI2_ hF1_ hs1_ hF2_ hs2_
  refine wl_pop X dL_law_921 ?_
  refine wl_goto X (tgt := 1731) dL_law_922 (by decide) ?_
  exact hend _ hI9_ hD9_ (by rw [e2_]; exact st_.1)
set_option maxHeartbeats 4000000 in
set_option maxRecDepth 100000 in
theorem law_case_19 {p : Program} {l : Launch} {e : Env} {s : State} {m : MethodId} {below : List Frame} {meth : Method} {c : Code} {b L : Nat} {xs : Nat → Int32} {A : Nat → Prop} {G : va_G} {cy : Nat → ClassId} {ad : rf → Nat} {ce sl : Nat} {Z : State → Prop} (X : LX p s m c b L xs A G cy ad ce sl) {i : Int32} {M : mM} (hI : Inv M) (hD : InvD M) (hR : RY M.1) (hi : 0 ≤ i.toInt ∧ i.toInt + 6 ≤ (L : Int)) (hend : ∀ M' : mM, Inv M' → InvD M' → RY M'.1 → WL p l e s m below meth c b A G cy ad ce sl Z 1731 [(3, vI i), (0, vR (94, 0, 0)), (1, vR (11, 0, 0)), (2, vR (12, 0, 0))] [] M') : WL p l e s m below meth c b A G cy ad ce sl Z 925 [(3, vI i), (0, vR (94, 0, 0)), (1, vR (11, 0, 0)), (2, vR (12, 0, 0))] [] M := by
  refine wl_aload_n X dL_law_925 rfl 2 rfl ?_
  refine wl_arg X 1 hi (by decide) (v := 1) (by decide) (ki := 1) (by decide) 1 0 rfl rfl dL_law_926 dL_law_927 dL_law_928 dL_law_929 dL_law_930 ?_
  refine wl_arg X 2 hi (by decide) (v := 2) (by decide) (ki := 2) (by decide) 1 0 rfl rfl dL_law_931 dL_law_932 dL_law_933 dL_law_934 dL_law_935 ?_
  refine wl_callC X (as := [vI (xs (i.toInt.toNat + 1)), vI (xs (i.toInt.toNat + 2))]) (rest := []) (c_X11_heads l G cy ad 0 (xs (i.toInt.toNat + 1)) (xs (i.toInt.toNat + 2)) M hI) kV_X11_heads pnn_0 (Nat.le_of_ble_eq_true rfl) m_933 rfl rfl rfl (by decide) (Nat.le_of_ble_eq_true rfl) (Nat.le_of_ble_eq_true rfl) dL_law_936 (fun r1_ M2_ q3_ => ?_)
  obtain ⟨hI1_, hF1_, -, hs1_⟩ := q3_
  have e1_ : mgC M2_ M = M2_ := mgC_self hF1_ SC_X11_heads
  rw [e1_]
  have hD1_ : InvD M2_ := e1_ ▸ mgC_D (M' := M2_) hD
  refine wl_pop X dL_law_939 ?_
  refine wl_aload_n X dL_law_940 rfl 3 rfl ?_
  refine wl_arg X 1 hi (by decide) (v := 1) (by decide) (ki := 1) (by decide) 1 0 rfl rfl dL_law_941 dL_law_942 dL_law_943 dL_law_944 dL_law_945 ?_
  refine wl_arg X 2 hi (by decide) (v := 2) (by decide) (ki := 2) (by decide) 1 0 rfl rfl dL_law_946 dL_law_947 dL_law_948 dL_law_949 dL_law_950 ?_
  refine wl_callD X (as := [vI (xs (i.toInt.toNat + 1)), vI (xs (i.toInt.toNat + 2))]) (rest := []) (c_X12_heads l G cy ad 0 (xs (i.toInt.toNat + 1)) (xs (i.toInt.toNat + 2)) M2_ hD1_) kV_X12_heads pnn_17 (Nat.le_of_ble_eq_true rfl) m_1699 rfl rfl rfl (by decide) (Nat.le_of_ble_eq_true rfl) (Nat.le_of_ble_eq_true rfl) dL_law_951 (fun r4_ M5_ q6_ => ?_)
  obtain ⟨hI2_, hF2_, -, hs2_⟩ := q6_
  have e2_ : (mgD M5_ M2_).1 = M5_.1 := mgD_self hF2_ SD_X12_heads
  have hI9_ : Inv (mgD M5_ M2_) := mgD_I hI1_
  have hD9_ : InvD (mgD M5_ M2_) := mgD_D hI2_
  have st_ := sy_19 hR hD hD1_ hI2_ hF1_ hs1_ hF2_ hs2_
  refine wl_pop X dL_law_954 ?_
  refine wl_goto X (tgt := 1731) dL_law_955 (by decide) ?_
  exact hend _ hI9_ hD9_ (by rw [e2_]; exact st_.1)
end
section
set_option maxHeartbeats 4000000 in
set_option maxRecDepth 100000 in
theorem law_case_20 {p : Program} {l : Launch} {e : Env} {s : State} {m : MethodId} {below : List Frame} {meth : Method} {c : Code} {b L : Nat} {xs : Nat → Int32} {A : Nat → Prop} {G : va_G} {cy : Nat → ClassId} {ad : rf → Nat} {ce sl : Nat} {Z : State → Prop} (X : LX p s m c b L xs A G cy ad ce sl) {i : Int32} {M : mM} (hI : Inv M) (hD : InvD M) (hR : RY M.1) (hi : 0 ≤ i.toInt ∧ i.toInt + 6 ≤ (L : Int)) (hend : ∀ M' : mM, Inv M' → InvD M' → RY M'.1 → WL p l e s m below meth c b A G cy ad ce sl Z 1731 [(3, vI i), (0, vR (94, 0, 0)), (1, vR (11, 0, 0)), (2, vR (12, 0, 0))] [] M') : WL p l e s m below meth c b A G cy ad ce sl Z 958 [(3, vI i), (0, vR (94, 0, 0)), (1, vR (11, 0, 0)), (2, vR (12, 0, 0))] [] M := by
  refine wl_aload_n X dL_law_958 rfl 2 rfl ?_
  refine wl_arg X 1 hi (by decide) (v := 1) (by decide) (ki := 1) (by decide) 1 0 rfl rfl dL_law_959 dL_law_960 dL_law_961 dL_law_962 dL_law_963 ?_
  refine wl_arg X 2 hi (by decide) (v := 2) (by decide) (ki := 2) (by decide) 1 0 rfl rfl dL_law_964 dL_law_965 dL_law_966 dL_law_967 dL_law_968 ?_
  refine wl_arg X 3 hi (by decide) (v := 3) (by decide) (ki := 3) (by decide) 1 0 rfl rfl dL_law_969 dL_law_970 dL_law_971 dL_law_972 dL_law_973 ?_
  refine wl_arg X 4 hi (by decide) (v := 4) (by decide) (ki := 4) (by decide) 1 0 rfl rfl dL_law_974 dL_law_975 dL_law_976 dL_law_977 dL_law_978 ?_
  refine wl_arg X 5 hi (by decide) (v := 5) (by decide) (ki := 5) (by decide) 1 0 rfl rfl dL_law_979 dL_law_980 dL_law_981 dL_law_982 dL_law_983 ?_
  refine wl_callC X (as := [vI (xs (i.toInt.toNat + 1)), vI (xs (i.toInt.toNat + 2)), vI (xs (i.toInt.toNat + 3)), vI (xs (i.toInt.toNat + 4)), vI (xs (i.toInt.toNat + 5))]) (rest := []) (c_X11_alike l G cy ad 0 (xs (i.toInt.toNat + 1)) (xs (i.toInt.toNat + 2)) (xs (i.toInt.toNat + 3)) (xs (i.toInt.toNat + 4)) (xs (i.toInt.toNat + 5)) M hI) kV_X11_alike pnn_0 (Nat.le_of_ble_eq_true rfl) m_947 rfl rfl rfl (by decide) (Nat.le_of_ble_eq_true rfl) (Nat.le_of_ble_eq_true rfl) dL_law_984 (fun r1_ M2_ q3_ => ?_)
  obtain ⟨hI1_, hF1_, -, hs1_⟩ := q3_
  have e1_ : mgC M2_ M = M2_ := mgC_self hF1_ SC_X11_alike
  rw [e1_]
  have hD1_ : InvD M2_ := e1_ ▸ mgC_D (M' := M2_) hD
  refine wl_pop X dL_law_987 ?_
  refine wl_aload_n X dL_law_988 rfl 3 rfl ?_
  refine wl_arg X 1 hi (by decide) (v := 1) (by decide) (ki := 1) (by decide) 1 0 rfl rfl dL_law_989 dL_law_990 dL_law_991 dL_law_992 dL_law_993 ?_
  refine wl_arg X 2 hi (by decide) (v := 2) (by decide) (ki := 2) (by decide) 1 0 rfl rfl dL_law_994 dL_law_995 dL_law_996 dL_law_997 dL_law_998 ?_
  refine wl_arg X 3 hi (by decide) (v := 3) (by decide) (ki := 3) (by decide) 1 0 rfl rfl dL_law_999 dL_law_1000 dL_law_1001 dL_law_1002 dL_law_1003 ?_
  refine wl_arg X 4 hi (by decide) (v := 4) (by decide) (ki := 4) (by decide) 1 0 rfl rfl dL_law_1004 dL_law_1005 dL_law_1006 dL_law_1007 dL_law_1008 ?_
  refine wl_arg X 5 hi (by decide) (v := 5) (by decide) (ki := 5) (by decide) 1 0 rfl rfl dL_law_1009 dL_law_1010 dL_law_1011 dL_law_1012 dL_law_1013 ?_
  refine wl_callD X (as := [vI (xs (i.toInt.toNat + 1)), vI (xs (i.toInt.toNat + 2)), vI (xs (i.toInt.toNat + 3)), vI (xs (i.toInt.toNat + 4)), vI (xs (i.toInt.toNat + 5))]) (rest := []) (c_X12_alike l G cy ad 0 (xs (i.toInt.toNat + 1)) (xs (i.toInt.toNat + 2)) (xs (i.toInt.toNat + 3)) (xs (i.toInt.toNat + 4)) (xs (i.toInt.toNat + 5)) M2_ hD1_) kV_X12_alike pnn_17 (Nat.le_of_ble_eq_true rfl) m_1703 rfl rfl rfl (by decide) (Nat.le_of_ble_eq_true rfl) (Nat.le_of_ble_eq_true rfl) dL_law_1014 (fun r4_ M5_ q6_ => ?_)
  obtain ⟨hI2_, hF2_, -, hs2_⟩ := q6_
  have e2_ : (mgD M5_ M2_).1 = M5_.1 := mgD_self hF2_ SD_X12_alike
  have hI9_ : Inv (mgD M5_ M2_) := mgD_I hI1_
  have hD9_ : InvD (mgD M5_ M2_) := mgD_D hI2_
  have st_ := sy_20 hR hD hD1_ hI2_ hF1_ hs1_ hF2_ hs2_
  refine wl_pop X dL_law_1017 ?_
  refine wl_goto X (tgt := 1731) dL_law_1018 (by decide) ?_
  exact hend _ hI9_ hD9_ (by rw [e2_]; exact st_.1)
set_option maxHeartbeats 4000000 in
set_option maxRecDepth 100000 in
theorem law_case_21 {p : Program} {l : Launch} {e : Env} {s : State} {m : MethodId} {below : List Frame} {meth : Method} {c : Code} {b L : Nat} {xs : Nat → Int32} {A : Nat → Prop} {G : va_G} {cy : Nat → ClassId} {ad : rf → Nat} {ce sl : Nat} {Z : State → Prop} (X : LX p s m c b L xs A G cy ad ce sl) {i : Int32} {M : mM} (hI : Inv M) (hD : InvD M) (hR : RY M.1) (hi : 0 ≤ i.toInt ∧ i.toInt + 6 ≤ (L : Int)) (hend : ∀ M' : mM, Inv M' → InvD M' → RY M'.1 → WL p l e s m below meth c b A G cy ad ce sl Z 1731 [(3, vI i), (0, vR (94, 0, 0)), (1, vR (11, 0, 0)), (2, vR (12, 0, 0))] [] M') : WL p l e s m below meth c b A G cy ad ce sl Z 1021 [(3, vI i), (0, vR (94, 0, 0)), (1, vR (11, 0, 0)), (2, vR (12, 0, 0))] [] M := by
  refine wl_aload_n X dL_law_1021 rfl 2 rfl ?_
  refine wl_arg X 1 hi (by decide) (v := 1) (by decide) (ki := 1) (by decide) 1 0 rfl rfl dL_law_1022 dL_law_1023 dL_law_1024 dL_law_1025 dL_law_1026 ?_
  refine wl_arg X 2 hi (by decide) (v := 2) (by decide) (ki := 2) (by decide) 1 0 rfl rfl dL_law_1027 dL_law_1028 dL_law_1029 dL_law_1030 dL_law_1031 ?_
  refine wl_arg X 3 hi (by decide) (v := 3) (by decide) (ki := 3) (by decide) 1 0 rfl rfl dL_law_1032 dL_law_1033 dL_law_1034 dL_law_1035 dL_law_1036 ?_
  refine wl_arg X 4 hi (by decide) (v := 4) (by decide) (ki := 4) (by decide) 1 0 rfl rfl dL_law_1037 dL_law_1038 dL_law_1039 dL_law_1040 dL_law_1041 ?_
  refine wl_callC X (as := [vI (xs (i.toInt.toNat + 1)), vI (xs (i.toInt.toNat + 2)), vI (xs (i.toInt.toNat + 3)), vI (xs (i.toInt.toNat + 4))]) (rest := []) (c_X11_least l G cy ad 0 (xs (i.toInt.toNat + 1)) (xs (i.toInt.toNat + 2)) (xs (i.toInt.toNat + 3)) (xs (i.toInt.toNat + 4)) M hI) kV_X11_least pnn_0 (Nat.le_of_ble_eq_true rfl) m_957 rfl rfl rfl (by decide) (Nat.le_of_ble_eq_true rfl) (Nat.le_of_ble_eq_true rfl) dL_law_1042 (fun r1_ M2_ q3_ => ?_)
  obtain ⟨hI1_, hF1_, -, hs1_⟩ := q3_
  have e1_ : mgC M2_ M = M2_ := mgC_self hF1_ SC_X11_least
  rw [e1_]
  have hD1_ : InvD M2_ := e1_ ▸ mgC_D (M' := M2_) hD
  refine wl_pop X dL_law_1045 ?_
  refine wl_aload_n X dL_law_1046 rfl 3 rfl ?_
  refine wl_arg X 1 hi (by decide) (v := 1) (by decide) (ki := 1) (by decide) 1 0 rfl rfl dL_law_1047 dL_law_1048 dL_law_1049 dL_law_1050 dL_law_1051 ?_
  refine wl_arg X 2 hi (by decide) (v := 2) (by decide) (ki := 2) (by decide) 1 0 rfl rfl dL_law_1052 dL_law_1053 dL_law_1054 dL_law_1055 dL_law_1056 ?_
  refine wl_arg X 3 hi (by decide) (v := 3) (by decide) (ki := 3) (by decide) 1 0 rfl rfl dL_law_1057 dL_law_1058 dL_law_1059 dL_law_1060 dL_law_1061 ?_
  refine wl_arg X 4 hi (by decide) (v := 4) (by decide) (ki := 4) (by decide) 1 0 rfl rfl dL_law_1062 dL_law_1063 dL_law_1064 dL_law_1065 dL_law_1066 ?_
  refine wl_callD X (as := [vI (xs (i.toInt.toNat + 1)), vI (xs (i.toInt.toNat + 2)), vI (xs (i.toInt.toNat + 3)), vI (xs (i.toInt.toNat + 4))]) (rest := []) (c_X12_least l G cy ad 0 (xs (i.toInt.toNat + 1)) (xs (i.toInt.toNat + 2)) (xs (i.toInt.toNat + 3)) (xs (i.toInt.toNat + 4)) M2_ hD1_) kV_X12_least pnn_17 (Nat.le_of_ble_eq_true rfl) m_1707 rfl rfl rfl (by decide) (Nat.le_of_ble_eq_true rfl) (Nat.le_of_ble_eq_true rfl) dL_law_1067 (fun r4_ M5_ q6_ => ?_)
  obtain ⟨hI2_, hF2_, -, hs2_⟩ := q6_
  have e2_ : (mgD M5_ M2_).1 = M5_.1 := mgD_self hF2_ SD_X12_least
  have hI9_ : Inv (mgD M5_ M2_) := mgD_I hI1_
  have hD9_ : InvD (mgD M5_ M2_) := mgD_D hI2_
  have st_ := sy_21 hR hD hD1_ hI2_ hF1_ hs1_ hF2_ hs2_
  refine wl_pop X dL_law_1070 ?_
  refine wl_goto X (tgt := 1731) dL_law_1071 (by decide) ?_
  exact hend _ hI9_ hD9_ (by rw [e2_]; exact st_.1)
set_option maxHeartbeats 4000000 in
set_option maxRecDepth 100000 in
theorem law_case_22 {p : Program} {l : Launch} {e : Env} {s : State} {m : MethodId} {below : List Frame} {meth : Method} {c : Code} {b L : Nat} {xs : Nat → Int32} {A : Nat → Prop} {G : va_G} {cy : Nat → ClassId} {ad : rf → Nat} {ce sl : Nat} {Z : State → Prop} (X : LX p s m c b L xs A G cy ad ce sl) {i : Int32} {M : mM} (hI : Inv M) (hD : InvD M) (hR : RY M.1) (hi : 0 ≤ i.toInt ∧ i.toInt + 6 ≤ (L : Int)) (hend : ∀ M' : mM, Inv M' → InvD M' → RY M'.1 → WL p l e s m below meth c b A G cy ad ce sl Z 1731 [(3, vI i), (0, vR (94, 0, 0)), (1, vR (11, 0, 0)), (2, vR (12, 0, 0))] [] M') : WL p l e s m below meth c b A G cy ad ce sl Z 1074 [(3, vI i), (0, vR (94, 0, 0)), (1, vR (11, 0, 0)), (2, vR (12, 0, 0))] [] M := by
  refine wl_aload_n X dL_law_1074 rfl 2 rfl ?_
  refine wl_arg X 1 hi (by decide) (v := 1) (by decide) (ki := 1) (by decide) 1 0 rfl rfl dL_law_1075 dL_law_1076 dL_law_1077 dL_law_1078 dL_law_1079 ?_
  refine wl_arg X 2 hi (by decide) (v := 2) (by decide) (ki := 2) (by decide) 1 0 rfl rfl dL_law_1080 dL_law_1081 dL_law_1082 dL_law_1083 dL_law_1084 ?_
  refine wl_arg X 3 hi (by decide) (v := 3) (by decide) (ki := 3) (by decide) 1 0 rfl rfl dL_law_1085 dL_law_1086 dL_law_1087 dL_law_1088 dL_law_1089 ?_
  refine wl_callC X (as := [vI (xs (i.toInt.toNat + 1)), vI (xs (i.toInt.toNat + 2)), vI (xs (i.toInt.toNat + 3))]) (rest := []) (c_X11_farthest l G cy ad 0 (xs (i.toInt.toNat + 1)) (xs (i.toInt.toNat + 2)) (xs (i.toInt.toNat + 3)) M hI) kV_X11_farthest pnn_0 (Nat.le_of_ble_eq_true rfl) m_969 rfl rfl rfl (by decide) (Nat.le_of_ble_eq_true rfl) (Nat.le_of_ble_eq_true rfl) dL_law_1090 (fun r1_ M2_ q3_ => ?_)
  obtain ⟨hI1_, hF1_, -, hs1_⟩ := q3_
  have e1_ : mgC M2_ M = M2_ := mgC_self hF1_ SC_X11_farthest
  rw [e1_]
  have hD1_ : InvD M2_ := e1_ ▸ mgC_D (M' := M2_) hD
  refine wl_pop X dL_law_1093 ?_
  refine wl_aload_n X dL_law_1094 rfl 3 rfl ?_
  refine wl_arg X 1 hi (by decide) (v := 1) (by decide) (ki := 1) (by decide) 1 0 rfl rfl dL_law_1095 dL_law_1096 dL_law_1097 dL_law_1098 dL_law_1099 ?_
  refine wl_arg X 2 hi (by decide) (v := 2) (by decide) (ki := 2) (by decide) 1 0 rfl rfl dL_law_1100 dL_law_1101 dL_law_1102 dL_law_1103 dL_law_1104 ?_
  refine wl_arg X 3 hi (by decide) (v := 3) (by decide) (ki := 3) (by decide) 1 0 rfl rfl dL_law_1105 dL_law_1106 dL_law_1107 dL_law_1108 dL_law_1109 ?_
  refine wl_callD X (as := [vI (xs (i.toInt.toNat + 1)), vI (xs (i.toInt.toNat + 2)), vI (xs (i.toInt.toNat + 3))]) (rest := []) (c_X12_farthest l G cy ad 0 (xs (i.toInt.toNat + 1)) (xs (i.toInt.toNat + 2)) (xs (i.toInt.toNat + 3)) M2_ hD1_) kV_X12_farthest pnn_17 (Nat.le_of_ble_eq_true rfl) m_1711 rfl rfl rfl (by decide) (Nat.le_of_ble_eq_true rfl) (Nat.le_of_ble_eq_true rfl) dL_law_1110 (fun r4_ M5_ q6_ => ?_)
  obtain ⟨hI2_, hF2_, -, hs2_⟩ := q6_
  have e2_ : (mgD M5_ M2_).1 = M5_.1 := mgD_self hF2_ SD_X12_farthest
  have hI9_ : Inv (mgD M5_ M2_) := mgD_I hI1_
  have hD9_ : InvD (mgD M5_ M2_) := mgD_D hI2_
  have st_ := sy_22 hR hD hD1_ hI2_ hF1_ hs1_ hF2_ hs2_
  refine wl_pop X dL_law_1113 ?_
  refine wl_goto X (tgt := 1731) dL_law_1114 (by decide) ?_
  exact hend _ hI9_ hD9_ (by rw [e2_]; exact st_.1)
set_option maxHeartbeats 4000000 in
set_option maxRecDepth 100000 in
theorem law_case_23 {p : Program} {l : Launch} {e : Env} {s : State} {m : MethodId} {below : List Frame} {meth : Method} {c : Code} {b L : Nat} {xs : Nat → Int32} {A : Nat → Prop} {G : va_G} {cy : Nat → ClassId} {ad : rf → Nat} {ce sl : Nat} {Z : State → Prop} (X : LX p s m c b L xs A G cy ad ce sl) {i : Int32} {M : mM} (hI : Inv M) (hD : InvD M) (hR : RY M.1) (hi : 0 ≤ i.toInt ∧ i.toInt + 6 ≤ (L : Int)) (hend : ∀ M' : mM, Inv M' → InvD M' → RY M'.1 → WL p l e s m below meth c b A G cy ad ce sl Z 1731 [(3, vI i), (0, vR (94, 0, 0)), (1, vR (11, 0, 0)), (2, vR (12, 0, 0))] [] M') : WL p l e s m below meth c b A G cy ad ce sl Z 1117 [(3, vI i), (0, vR (94, 0, 0)), (1, vR (11, 0, 0)), (2, vR (12, 0, 0))] [] M := by
  refine wl_aload_n X dL_law_1117 rfl 2 rfl ?_
  refine wl_arg X 1 hi (by decide) (v := 1) (by decide) (ki := 1) (by decide) 1 0 rfl rfl dL_law_1118 dL_law_1119 dL_law_1120 dL_law_1121 dL_law_1122 ?_
  refine wl_arg X 2 hi (by decide) (v := 2) (by decide) (ki := 2) (by decide) 1 0 rfl rfl dL_law_1123 dL_law_1124 dL_law_1125 dL_law_1126 dL_law_1127 ?_
  refine wl_arg X 3 hi (by decide) (v := 3) (by decide) (ki := 3) (by decide) 1 0 rfl rfl dL_law_1128 dL_law_1129 dL_law_1130 dL_law_1131 dL_law_1132 ?_
  refine wl_arg X 4 hi (by decide) (v := 4) (by decide) (ki := 4) (by decide) 1 0 rfl rfl dL_law_1133 dL_law_1134 dL_law_1135 dL_law_1136 dL_law_1137 ?_
  refine wl_callC X (as := [vI (xs (i.toInt.toNat + 1)), vI (xs (i.toInt.toNat + 2)), vI (xs (i.toInt.toNat + 3)), vI (xs (i.toInt.toNat + 4))]) (rest := []) (c_X11_spots l G cy ad 0 (xs (i.toInt.toNat + 1)) (xs (i.toInt.toNat + 2)) (xs (i.toInt.toNat + 3)) (xs (i.toInt.toNat + 4)) M hI) kV_X11_spots pnn_0 (Nat.le_of_ble_eq_true rfl) m_974 rfl rfl rfl (by decide) (Nat.le_of_ble_eq_true rfl) (Nat.le_of_ble_eq_true rfl) dL_law_1138 (fun r1_ M2_ q3_ => ?_)
  obtain ⟨hI1_, hF1_, -, hs1_⟩ := q3_
  have e1_ : mgC M2_ M = M2_ := mgC_self hF1_ SC_X11_spots
  rw [e1_]
  have hD1_ : InvD M2_ := e1_ ▸ mgC_D (M' := M2_) hD
  refine wl_pop X dL_law_1141 ?_
  refine wl_aload_n X dL_law_1142 rfl 3 rfl ?_
  refine wl_arg X 1 hi (by decide) (v := 1) (by decide) (ki := 1) (by decide) 1 0 rfl rfl dL_law_1143 dL_law_1144 dL_law_1145 dL_law_1146 dL_law_1147 ?_
  refine wl_arg X 2 hi (by decide) (v := 2) (by decide) (ki := 2) (by decide) 1 0 rfl rfl dL_law_1148 dL_law_1149 dL_law_1150 dL_law_1151 dL_law_1152 ?_
  refine wl_arg X 3 hi (by decide) (v := 3) (by decide) (ki := 3) (by decide) 1 0 rfl rfl dL_law_1153 dL_law_1154 dL_law_1155 dL_law_1156 dL_law_1157 ?_
  refine wl_arg X 4 hi (by decide) (v := 4) (by decide) (ki := 4) (by decide) 1 0 rfl rfl dL_law_1158 dL_law_1159 dL_law_1160 dL_law_1161 dL_law_1162 ?_
  refine wl_callD X (as := [vI (xs (i.toInt.toNat + 1)), vI (xs (i.toInt.toNat + 2)), vI (xs (i.toInt.toNat + 3)), vI (xs (i.toInt.toNat + 4))]) (rest := []) (c_X12_spots l G cy ad 0 (xs (i.toInt.toNat + 1)) (xs (i.toInt.toNat + 2)) (xs (i.toInt.toNat + 3)) (xs (i.toInt.toNat + 4)) M2_ hD1_) kV_X12_spots pnn_17 (Nat.le_of_ble_eq_true rfl) m_1715 rfl rfl rfl (by decide) (Nat.le_of_ble_eq_true rfl) (Nat.le_of_ble_eq_true rfl) dL_law_1163 (fun r4_ M5_ q6_ => ?_)
  obtain ⟨hI2_, hF2_, -, hs2_⟩ := q6_
  have e2_ : (mgD M5_ M2_).1 = M5_.1 := mgD_self hF2_ SD_X12_spots
  have hI9_ : Inv (mgD M5_ M2_) := mgD_I hI1_
  have hD9_ : InvD (mgD M5_ M2_) := mgD_D hI2_
  have st_ := sy_23 hR hD hD1_ hI2_ hF1_ hs1_ hF2_ hs2_
  refine wl_pop X dL_law_1166 ?_
  refine wl_goto X (tgt := 1731) dL_law_1167 (by decide) ?_
  exact hend _ hI9_ hD9_ (by rw [e2_]; exact st_.1)
set_option maxHeartbeats 4000000 in
set_option maxRecDepth 100000 in
theorem law_case_24 {p : Program} {l : Launch} {e : Env} {s : State} {m : MethodId} {below : List Frame} {meth : Method} {c : Code} {b L : Nat} {xs : Nat → Int32} {A : Nat → Prop} {G : va_G} {cy : Nat → ClassId} {ad : rf → Nat} {ce sl : Nat} {Z : State → Prop} (X : LX p s m c b L xs A G cy ad ce sl) {i : Int32} {M : mM} (hI : Inv M) (hD : InvD M) (hR : RY M.1) (hi : 0 ≤ i.toInt ∧ i.toInt + 6 ≤ (L : Int)) (hend : ∀ M' : mM, Inv M' → InvD M' → RY M'.1 → WL p l e s m below meth c b A G cy ad ce sl Z 1731 [(3, vI i), (0, vR (94, 0, 0)), (1, vR (11, 0, 0)), (2, vR (12, 0, 0))] [] M') : WL p l e s m below meth c b A G cy ad ce sl Z 1170 [(3, vI i), (0, vR (94, 0, 0)), (1, vR (11, 0, 0)), (2, vR (12, 0, 0))] [] M := by
  refine wl_aload_n X dL_law_1170 rfl 2 rfl ?_
  refine wl_arg X 1 hi (by decide) (v := 1) (by decide) (ki := 1) (by decide) 1 0 rfl rfl dL_law_1171 dL_law_1172 dL_law_1173 dL_law_1174 dL_law_1175 ?_
  refine wl_callC X (as := [vI (xs (i.toInt.toNat + 1))]) (rest := []) (c_X11_tenths l G cy ad 0 (xs (i.toInt.toNat + 1)) M hI) kV_X11_tenths pnn_0 (Nat.le_of_ble_eq_true rfl) m_1021 rfl rfl rfl (by decide) (Nat.le_of_ble_eq_true rfl) (Nat.le_of_ble_eq_true rfl) dL_law_1176 (fun r1_ M2_ q3_ => ?_)
  obtain ⟨hI1_, hF1_, -, hs1_⟩ := q3_
  have e1_ : mgC M2_ M = M2_ := mgC_self hF1_ SC_X11_tenths
  rw [e1_]
  have hD1_ : InvD M2_ := e1_ ▸ mgC_D (M' := M2_) hD
  refine wl_pop X dL_law_1179 ?_
  refine wl_aload_n X dL_law_1180 rfl 3 rfl ?_
  refine wl_arg X 1 hi (by decide) (v := 1) (by decide) (ki := 1) (by decide) 1 0 rfl rfl dL_law_1181 dL_law_1182 dL_law_1183 dL_law_1184 dL_law_1185 ?_
  refine wl_callD X (as := [vI (xs (i.toInt.toNat + 1))]) (rest := []) (c_X12_tenths l G cy ad 0 (xs (i.toInt.toNat + 1)) M2_ hD1_) kV_X12_tenths pnn_17 (Nat.le_of_ble_eq_true rfl) m_1734 rfl rfl rfl (by decide) (Nat.le_of_ble_eq_true rfl) (Nat.le_of_ble_eq_true rfl) dL_law_1186 (fun r4_ M5_ q6_ => ?_)
  obtain ⟨hI2_, hF2_, -, hs2_⟩ := q6_
  have e2_ : (mgD M5_ M2_).1 = M5_.1 := mgD_self hF2_ SD_X12_tenths
  have hI9_ : Inv (mgD M5_ M2_) := mgD_I hI1_
  have hD9_ : InvD (mgD M5_ M2_) := mgD_D hI2_
  have st_ := sy_24 hR hD hD1_ hI2_ hF1_ hs1_ hF2_ hs2_
  refine wl_pop X dL_law_1189 ?_
  refine wl_goto X (tgt := 1731) dL_law_1190 (by decide) ?_
  exact hend _ hI9_ hD9_ (by rw [e2_]; exact st_.1)
set_option maxHeartbeats 4000000 in
set_option maxRecDepth 100000 in
theorem law_case_25 {p : Program} {l : Launch} {e : Env} {s : State} {m : MethodId} {below : List Frame} {meth : Method} {c : Code} {b L : Nat} {xs : Nat → Int32} {A : Nat → Prop} {G : va_G} {cy : Nat → ClassId} {ad : rf → Nat} {ce sl : Nat} {Z : State → Prop} (X : LX p s m c b L xs A G cy ad ce sl) {i : Int32} {M : mM} (hI : Inv M) (hD : InvD M) (hR : RY M.1) (hi : 0 ≤ i.toInt ∧ i.toInt + 6 ≤ (L : Int)) (hend : ∀ M' : mM, Inv M' → InvD M' → RY M'.1 → WL p l e s m below meth c b A G cy ad ce sl Z 1731 [(3, vI i), (0, vR (94, 0, 0)), (1, vR (11, 0, 0)), (2, vR (12, 0, 0))] [] M') : WL p l e s m below meth c b A G cy ad ce sl Z 1193 [(3, vI i), (0, vR (94, 0, 0)), (1, vR (11, 0, 0)), (2, vR (12, 0, 0))] [] M := by
  refine wl_aload_n X dL_law_1193 rfl 2 rfl ?_
  refine wl_arg X 1 hi (by decide) (v := 1) (by decide) (ki := 1) (by decide) 1 0 rfl rfl dL_law_1194 dL_law_1195 dL_law_1196 dL_law_1197 dL_law_1198 ?_
  refine wl_arg X 2 hi (by decide) (v := 2) (by decide) (ki := 2) (by decide) 1 0 rfl rfl dL_law_1199 dL_law_1200 dL_law_1201 dL_law_1202 dL_law_1203 ?_
  refine wl_arg X 3 hi (by decide) (v := 3) (by decide) (ki := 3) (by decide) 1 0 rfl rfl dL_law_1204 dL_law_1205 dL_law_1206 dL_law_1207 dL_law_1208 ?_
  refine wl_callC X (as := [vI (xs (i.toInt.toNat + 1)), vI (xs (i.toInt.toNat + 2)), vI (xs (i.toInt.toNat + 3))]) (rest := []) (c_X11_way l G cy ad 0 (xs (i.toInt.toNat + 1)) (xs (i.toInt.toNat + 2)) (xs (i.toInt.toNat + 3)) M hI) kV_X11_way pnn_0 (Nat.le_of_ble_eq_true rfl) m_1067 rfl rfl rfl (by decide) (Nat.le_of_ble_eq_true rfl) (Nat.le_of_ble_eq_true rfl) dL_law_1209 (fun r1_ M2_ q3_ => ?_)
  obtain ⟨hI1_, hF1_, -, hs1_⟩ := q3_
  have e1_ : mgC M2_ M = M2_ := mgC_self hF1_ SC_X11_way
  rw [e1_]
  have hD1_ : InvD M2_ := e1_ ▸ mgC_D (M' := M2_) hD
  refine wl_pop X dL_law_1212 ?_
  refine wl_aload_n X dL_law_1213 rfl 3 rfl ?_
  refine wl_arg X 1 hi (by decide) (v := 1) (by decide) (ki := 1) (by decide) 1 0 rfl rfl dL_law_1214 dL_law_1215 dL_law_1216 dL_law_1217 dL_law_1218 ?_
  refine wl_arg X 2 hi (by decide) (v := 2) (by decide) (ki := 2) (by decide) 1 0 rfl rfl dL_law_1219 dL_law_1220 dL_law_1221 dL_law_1222 dL_law_1223 ?_
  refine wl_arg X 3 hi (by decide) (v := 3) (by decide) (ki := 3) (by decide) 1 0 rfl rfl dL_law_1224 dL_law_1225 dL_law_1226 dL_law_1227 dL_law_1228 ?_
  refine wl_callD X (as := [vI (xs (i.toInt.toNat + 1)), vI (xs (i.toInt.toNat + 2)), vI (xs (i.toInt.toNat + 3))]) (rest := []) (c_X12_way l G cy ad 0 (xs (i.toInt.toNat + 1)) (xs (i.toInt.toNat + 2)) (xs (i.toInt.toNat + 3)) M2_ hD1_) kV_X12_way pnn_17 (Nat.le_of_ble_eq_true rfl) m_1762 rfl rfl rfl (by decide) (Nat.le_of_ble_eq_true rfl) (Nat.le_of_ble_eq_true rfl) dL_law_1229 (fun r4_ M5_ q6_ => ?_)
  obtain ⟨hI2_, hF2_, -, hs2_⟩ := q6_
  have e2_ : (mgD M5_ M2_).1 = M5_.1 := mgD_self hF2_ SD_X12_way
  have hI9_ : Inv (mgD M5_ M2_) := mgD_I hI1_
  have hD9_ : InvD (mgD M5_ M2_) := mgD_D hI2_
  have st_ := sy_25 hR hD hD1_ hI2_ hF1_ hs1_ hF2_ hs2_
  refine wl_pop X dL_law_1232 ?_
  refine wl_goto X (tgt := 1731) dL_law_1233 (by decide) ?_
  exact hend _ hI9_ hD9_ (by rw [e2_]; exact st_.1)
set_option maxHeartbeats 4000000 in
set_option maxRecDepth 100000 in
theorem law_case_26 {p : Program} {l : Launch} {e : Env} {s : State} {m : MethodId} {below : List Frame} {meth : Method} {c : Code} {b L : Nat} {xs : Nat → Int32} {A : Nat → Prop} {G : va_G} {cy : Nat → ClassId} {ad : rf → Nat} {ce sl : Nat} {Z : State → Prop} (X : LX p s m c b L xs A G cy ad ce sl) {i : Int32} {M : mM} (hI : Inv M) (hD : InvD M) (hR : RY M.1) (hi : 0 ≤ i.toInt ∧ i.toInt + 6 ≤ (L : Int)) (hend : ∀ M' : mM, Inv M' → InvD M' → RY M'.1 → WL p l e s m below meth c b A G cy ad ce sl Z 1731 [(3, vI i), (0, vR (94, 0, 0)), (1, vR (11, 0, 0)), (2, vR (12, 0, 0))] [] M') : WL p l e s m below meth c b A G cy ad ce sl Z 1236 [(3, vI i), (0, vR (94, 0, 0)), (1, vR (11, 0, 0)), (2, vR (12, 0, 0))] [] M := by
  refine wl_aload_n X dL_law_1236 rfl 2 rfl ?_
  refine wl_arg X 1 hi (by decide) (v := 1) (by decide) (ki := 1) (by decide) 1 0 rfl rfl dL_law_1237 dL_law_1238 dL_law_1239 dL_law_1240 dL_law_1241 ?_
  refine wl_callC X (as := [vI (xs (i.toInt.toNat + 1))]) (rest := []) (c_X11_safe l G cy ad 0 (xs (i.toInt.toNat + 1)) M hI) kV_X11_safe pnn_0 (Nat.le_of_ble_eq_true rfl) m_1098 rfl rfl rfl (by decide) (Nat.le_of_ble_eq_true rfl) (Nat.le_of_ble_eq_true rfl) dL_law_1242 (fun r1_ M2_ q3_ => ?_)
  obtain ⟨hI1_, hF1_, -, hs1_⟩ := q3_
  have e1_ : mgC M2_ M = M2_ := mgC_self hF1_ SC_X11_safe
  rw [e1_]
  have hD1_ : InvD M2_ := e1_ ▸ mgC_D (M' := M2_) hD
  refine wl_pop X dL_law_1245 ?_
  refine wl_aload_n X dL_law_1246 rfl 3 rfl ?_
  refine wl_arg X 1 hi (by decide) (v := 1) (by decide) (ki := 1) (by decide) 1 0 rfl rfl dL_law_1247 dL_law_1248 dL_law_1249 dL_law_1250 dL_law_1251 ?_
  refine wl_callD X (as := [vI (xs (i.toInt.toNat + 1))]) (rest := []) (c_X12_safe l G cy ad 0 (xs (i.toInt.toNat + 1)) M2_ hD1_) kV_X12_safe pnn_17 (Nat.le_of_ble_eq_true rfl) m_1775 rfl rfl rfl (by decide) (Nat.le_of_ble_eq_true rfl) (Nat.le_of_ble_eq_true rfl) dL_law_1252 (fun r4_ M5_ q6_ => ?_)
  obtain ⟨hI2_, hF2_, -, hs2_⟩ := q6_
  have e2_ : (mgD M5_ M2_).1 = M5_.1 := mgD_self hF2_ SD_X12_safe
  have hI9_ : Inv (mgD M5_ M2_) := mgD_I hI1_
  have hD9_ : InvD (mgD M5_ M2_) := mgD_D hI2_
  have st_ := sy_26 hR hD hD1_ hI2_ hF1_ hs1_ hF2_ hs2_
  refine wl_pop X dL_law_1255 ?_
  refine wl_goto X (tgt := 1731) dL_law_1256 (by decide) ?_
  exact hend _ hI9_ hD9_ (by rw [e2_]; exact st_.1)
set_option maxHeartbeats 4000000 in
set_option maxRecDepth 100000 in
theorem law_case_27 {p : Program} {l : Launch} {e : Env} {s : State} {m : MethodId} {below : List Frame} {meth : Method} {c : Code} {b L : Nat} {xs : Nat → Int32} {A : Nat → Prop} {G : va_G} {cy : Nat → ClassId} {ad : rf → Nat} {ce sl : Nat} {Z : State → Prop} (X : LX p s m c b L xs A G cy ad ce sl) {i : Int32} {M : mM} (hI : Inv M) (hD : InvD M) (hR : RY M.1) (hi : 0 ≤ i.toInt ∧ i.toInt + 6 ≤ (L : Int)) (hend : ∀ M' : mM, Inv M' → InvD M' → RY M'.1 → WL p l e s m below meth c b A G cy ad ce sl Z 1731 [(3, vI i), (0, vR (94, 0, 0)), (1, vR (11, 0, 0)), (2, vR (12, 0, 0))] [] M') : WL p l e s m below meth c b A G cy ad ce sl Z 1259 [(3, vI i), (0, vR (94, 0, 0)), (1, vR (11, 0, 0)), (2, vR (12, 0, 0))] [] M := by
  refine wl_aload_n X dL_law_1259 rfl 2 rfl ?_
  refine wl_arg X 1 hi (by decide) (v := 1) (by decide) (ki := 1) (by decide) 1 0 rfl rfl dL_law_1260 dL_law_1261 dL_law_1262 dL_law_1263 dL_law_1264 ?_
  refine wl_arg X 2 hi (by decide) (v := 2) (by decide) (ki := 2) (by decide) 1 0 rfl rfl dL_law_1265 dL_law_1266 dL_law_1267 dL_law_1268 dL_law_1269 ?_
  refine wl_arg X 3 hi (by decide) (v := 3) (by decide) (ki := 3) (by decide) 1 0 rfl rfl dL_law_1270 dL_law_1271 dL_law_1272 dL_law_1273 dL_law_1274 ?_
  refine wl_callC X (as := [vI (xs (i.toInt.toNat + 1)), vI (xs (i.toInt.toNat + 2)), vI (xs (i.toInt.toNat + 3))]) (rest := []) (c_X11_lesson l G cy ad 0 (xs (i.toInt.toNat + 1)) (xs (i.toInt.toNat + 2)) (xs (i.toInt.toNat + 3)) M hI) kV_X11_lesson pnn_0 (Nat.le_of_ble_eq_true rfl) m_1110 rfl rfl rfl (by decide) (Nat.le_of_ble_eq_true rfl) (Nat.le_of_ble_eq_true rfl) dL_law_1275 (fun r1_ M2_ q3_ => ?_)
  obtain ⟨hI1_, hF1_, -, hs1_⟩ := q3_
  have e1_ : mgC M2_ M = M2_ := mgC_self hF1_ SC_X11_lesson
  rw [e1_]
  have hD1_ : InvD M2_ := e1_ ▸ mgC_D (M' := M2_) hD
  refine wl_pop X dL_law_1278 ?_
  refine wl_aload_n X dL_law_1279 rfl 3 rfl ?_
  refine wl_arg X 1 hi (by decide) (v := 1) (by decide) (ki := 1) (by decide) 1 0 rfl rfl dL_law_1280 dL_law_1281 dL_law_1282 dL_law_1283 dL_law_1284 ?_
  refine wl_arg X 2 hi (by decide) (v := 2) (by decide) (ki := 2) (by decide) 1 0 rfl rfl dL_law_1285 dL_law_1286 dL_law_1287 dL_law_1288 dL_law_1289 ?_
  refine wl_arg X 3 hi (by decide) (v := 3) (by decide) (ki := 3) (by decide) 1 0 rfl rfl dL_law_1290 dL_law_1291 dL_law_1292 dL_law_1293 dL_law_1294 ?_
  refine wl_callD X (as := [vI (xs (i.toInt.toNat + 1)), vI (xs (i.toInt.toNat + 2)), vI (xs (i.toInt.toNat + 3))]) (rest := []) (c_X12_lesson l G cy ad 0 (xs (i.toInt.toNat + 1)) (xs (i.toInt.toNat + 2)) (xs (i.toInt.toNat + 3)) M2_ hD1_) kV_X12_lesson pnn_17 (Nat.le_of_ble_eq_true rfl) m_1779 rfl rfl rfl (by decide) (Nat.le_of_ble_eq_true rfl) (Nat.le_of_ble_eq_true rfl) dL_law_1295 (fun r4_ M5_ q6_ => ?_)
  obtain ⟨hI2_, hF2_, -, hs2_⟩ := q6_
  have e2_ : (mgD M5_ M2_).1 = M5_.1 := mgD_self hF2_ SD_X12_lesson
  have hI9_ : Inv (mgD M5_ M2_) := mgD_I hI1_
  have hD9_ : InvD (mgD M5_ M2_) := mgD_D hI2_
  have st_ := sy_27 hR hD hD1_ hI2_ hF1_ hs1_ hF2_ hs2_
  refine wl_pop X dL_law_1298 ?_
  refine wl_goto X (tgt := 1731) dL_law_1299 (by decide) ?_
  exact hend _ hI9_ hD9_ (by rw [e2_]; exact st_.1)
set_option maxHeartbeats 4000000 in
set_option maxRecDepth 100000 in
theorem law_case_28 {p : Program} {l : Launch} {e : Env} {s : State} {m : MethodId} {below : List Frame} {meth : Method} {c : Code} {b L : Nat} {xs : Nat → Int32} {A : Nat → Prop} {G : va_G} {cy : Nat → ClassId} {ad : rf → Nat} {ce sl : Nat} {Z : State → Prop} (X : LX p s m c b L xs A G cy ad ce sl) {i : Int32} {M : mM} (hI : Inv M) (hD : InvD M) (hR : RY M.1) (hi : 0 ≤ i.toInt ∧ i.toInt + 6 ≤ (L : Int)) (hend : ∀ M' : mM, Inv M' → InvD M' → RY M'.1 → WL p l e s m below meth c b A G cy ad ce sl Z 1731 [(3, vI i), (0, vR (94, 0, 0)), (1, vR (11, 0, 0)), (2, vR (12, 0, 0))] [] M') : WL p l e s m below meth c b A G cy ad ce sl Z 1302 [(3, vI i), (0, vR (94, 0, 0)), (1, vR (11, 0, 0)), (2, vR (12, 0, 0))] [] M := by
  refine wl_aload_n X dL_law_1302 rfl 2 rfl ?_
  refine wl_arg X 1 hi (by decide) (v := 1) (by decide) (ki := 1) (by decide) 1 0 rfl rfl dL_law_1303 dL_law_1304 dL_law_1305 dL_law_1306 dL_law_1307 ?_
  refine wl_arg X 2 hi (by decide) (v := 2) (by decide) (ki := 2) (by decide) 1 0 rfl rfl dL_law_1308 dL_law_1309 dL_law_1310 dL_law_1311 dL_law_1312 ?_
  refine wl_arg X 3 hi (by decide) (v := 3) (by decide) (ki := 3) (by decide) 1 0 rfl rfl dL_law_1313 dL_law_1314 dL_law_1315 dL_law_1316 dL_law_1317 ?_
  refine wl_callC X (as := [vI (xs (i.toInt.toNat + 1)), vI (xs (i.toInt.toNat + 2)), vI (xs (i.toInt.toNat + 3))]) (rest := []) (c_X11_learn l G cy ad 0 (xs (i.toInt.toNat + 1)) (xs (i.toInt.toNat + 2)) (xs (i.toInt.toNat + 3)) M hI) kV_X11_learn pnn_0 (Nat.le_of_ble_eq_true rfl) m_1125 rfl rfl rfl (by decide) (Nat.le_of_ble_eq_true rfl) (Nat.le_of_ble_eq_true rfl) dL_law_1318 (fun r1_ M2_ q3_ => ?_)
  obtain ⟨hI1_, hF1_, -, hs1_⟩ := q3_
  have e1_ : mgC M2_ M = M2_ := mgC_self hF1_ SC_X11_learn
  rw [e1_]
  have hD1_ : InvD M2_ := e1_ ▸ mgC_D (M' := M2_) hD
  refine wl_pop X dL_law_1321 ?_
  refine wl_aload_n X dL_law_1322 rfl 3 rfl ?_
  refine wl_arg X 1 hi (by decide) (v := 1) (by decide) (ki := 1) (by decide) 1 0 rfl rfl dL_law_1323 dL_law_1324 dL_law_1325 dL_law_1326 dL_law_1327 ?_
  refine wl_arg X 2 hi (by decide) (v := 2) (by decide) (ki := 2) (by decide) 1 0 rfl rfl dL_law_1328 dL_law_1329 dL_law_1330 dL_law_1331 dL_law_1332 ?_
  refine wl_arg X 3 hi (by decide) (v := 3) (by decide) (ki := 3) (by decide) 1 0 rfl rfl dL_law_1333 dL_law_1334 dL_law_1335 dL_law_1336 dL_law_1337 ?_
  refine wl_callD X (as := [vI (xs (i.toInt.toNat + 1)), vI (xs (i.toInt.toNat + 2)), vI (xs (i.toInt.toNat + 3))]) (rest := []) (c_X12_learn l G cy ad 0 (xs (i.toInt.toNat + 1)) (xs (i.toInt.toNat + 2)) (xs (i.toInt.toNat + 3)) M2_ hD1_) kV_X12_learn pnn_17 (Nat.le_of_ble_eq_true rfl) m_1783 rfl rfl rfl (by decide) (Nat.le_of_ble_eq_true rfl) (Nat.le_of_ble_eq_true rfl) dL_law_1338 (fun r4_ M5_ q6_ => ?_)
  obtain ⟨hI2_, hF2_, -, hs2_⟩ := q6_
  have e2_ : (mgD M5_ M2_).1 = M5_.1 := mgD_self hF2_ SD_X12_learn
  have hI9_ : Inv (mgD M5_ M2_) := mgD_I hI1_
  have hD9_ : InvD (mgD M5_ M2_) := mgD_D hI2_
  have st_ := sy_28 hR hD hD1_ hI2_ hF1_ hs1_ hF2_ hs2_
  refine wl_pop X dL_law_1341 ?_
  refine wl_goto X (tgt := 1731) dL_law_1342 (by decide) ?_
  exact hend _ hI9_ hD9_ (by rw [e2_]; exact st_.1)
set_option maxHeartbeats 4000000 in
set_option maxRecDepth 100000 in
theorem law_case_29 {p : Program} {l : Launch} {e : Env} {s : State} {m : MethodId} {below : List Frame} {meth : Method} {c : Code} {b L : Nat} {xs : Nat → Int32} {A : Nat → Prop} {G : va_G} {cy : Nat → ClassId} {ad : rf → Nat} {ce sl : Nat} {Z : State → Prop} (X : LX p s m c b L xs A G cy ad ce sl) {i : Int32} {M : mM} (hI : Inv M) (hD : InvD M) (hR : RY M.1) (hi : 0 ≤ i.toInt ∧ i.toInt + 6 ≤ (L : Int)) (hend : ∀ M' : mM, Inv M' → InvD M' → RY M'.1 → WL p l e s m below meth c b A G cy ad ce sl Z 1731 [(3, vI i), (0, vR (94, 0, 0)), (1, vR (11, 0, 0)), (2, vR (12, 0, 0))] [] M') : WL p l e s m below meth c b A G cy ad ce sl Z 1345 [(3, vI i), (0, vR (94, 0, 0)), (1, vR (11, 0, 0)), (2, vR (12, 0, 0))] [] M := by
  refine wl_aload_n X dL_law_1345 rfl 2 rfl ?_
  refine wl_arg X 1 hi (by decide) (v := 1) (by decide) (ki := 1) (by decide) 1 0 rfl rfl dL_law_1346 dL_law_1347 dL_law_1348 dL_law_1349 dL_law_1350 ?_
  refine wl_arg X 2 hi (by decide) (v := 2) (by decide) (ki := 2) (by decide) 1 0 rfl rfl dL_law_1351 dL_law_1352 dL_law_1353 dL_law_1354 dL_law_1355 ?_
  refine wl_arg X 3 hi (by decide) (v := 3) (by decide) (ki := 3) (by decide) 1 0 rfl rfl dL_law_1356 dL_law_1357 dL_law_1358 dL_law_1359 dL_law_1360 ?_
  refine wl_arg X 4 hi (by decide) (v := 4) (by decide) (ki := 4) (by decide) 1 0 rfl rfl dL_law_1361 dL_law_1362 dL_law_1363 dL_law_1364 dL_law_1365 ?_
  refine wl_callC X (as := [vI (xs (i.toInt.toNat + 1)), vI (xs (i.toInt.toNat + 2)), vI (xs (i.toInt.toNat + 3)), vI (xs (i.toInt.toNat + 4))]) (rest := []) (c_X11_posts l G cy ad 0 (xs (i.toInt.toNat + 1)) (xs (i.toInt.toNat + 2)) (xs (i.toInt.toNat + 3)) (xs (i.toInt.toNat + 4)) M hI) kV_X11_posts pnn_0 (Nat.le_of_ble_eq_true rfl) m_1155 rfl rfl rfl (by decide) (Nat.le_of_ble_eq_true rfl) (Nat.le_of_ble_eq_true rfl) dL_law_1366 (fun r1_ M2_ q3_ => ?_)
  obtain ⟨hI1_, hF1_, -, hs1_⟩ := q3_
  have e1_ : mgC M2_ M = M2_ := mgC_self hF1_ SC_X11_posts
  rw [e1_]
  have hD1_ : InvD M2_ := e1_ ▸ mgC_D (M' := M2_) hD
  refine wl_pop X dL_law_1369 ?_
  refine wl_aload_n X dL_law_1370 rfl 3 rfl ?_
  refine wl_arg X 1 hi (by decide) (v := 1) (by decide) (ki := 1) (by decide) 1 0 rfl rfl dL_law_1371 dL_law_1372 dL_law_1373 dL_law_1374 dL_law_1375 ?_
  refine wl_arg X 2 hi (by decide) (v := 2) (by decide) (ki := 2) (by decide) 1 0 rfl rfl dL_law_1376 dL_law_1377 dL_law_1378 dL_law_1379 dL_law_1380 ?_
  refine wl_arg X 3 hi (by decide) (v := 3) (by decide) (ki := 3) (by decide) 1 0 rfl rfl dL_law_1381 dL_law_1382 dL_law_1383 dL_law_1384 dL_law_1385 ?_
  refine wl_arg X 4 hi (by decide) (v := 4) (by decide) (ki := 4) (by decide) 1 0 rfl rfl dL_law_1386 dL_law_1387 dL_law_1388 dL_law_1389 dL_law_1390 ?_
  refine wl_callD X (as := [vI (xs (i.toInt.toNat + 1)), vI (xs (i.toInt.toNat + 2)), vI (xs (i.toInt.toNat + 3)), vI (xs (i.toInt.toNat + 4))]) (rest := []) (c_X12_posts l G cy ad 0 (xs (i.toInt.toNat + 1)) (xs (i.toInt.toNat + 2)) (xs (i.toInt.toNat + 3)) (xs (i.toInt.toNat + 4)) M2_ hD1_) kV_X12_posts pnn_17 (Nat.le_of_ble_eq_true rfl) m_1791 rfl rfl rfl (by decide) (Nat.le_of_ble_eq_true rfl) (Nat.le_of_ble_eq_true rfl) dL_law_1391 (fun r4_ M5_ q6_ => ?_)
  obtain ⟨hI2_, hF2_, -, hs2_⟩ := q6_
  have e2_ : (mgD M5_ M2_).1 = M5_.1 := mgD_self hF2_ SD_X12_posts
  have hI9_ : Inv (mgD M5_ M2_) := mgD_I hI1_
  have hD9_ : InvD (mgD M5_ M2_) := mgD_D hI2_
  have st_ := sy_29 hR hD hD1_ hI2_ hF1_ hs1_ hF2_ hs2_
  refine wl_pop X dL_law_1394 ?_
  refine wl_goto X (tgt := 1731) dL_law_1395 (by decide) ?_
  exact hend _ hI9_ hD9_ (by rw [e2_]; exact st_.1)
set_option maxHeartbeats 4000000 in
set_option maxRecDepth 100000 in
theorem law_case_30 {p : Program} {l : Launch} {e : Env} {s : State} {m : MethodId} {below : List Frame} {meth : Method} {c : Code} {b L : Nat} {xs : Nat → Int32} {A : Nat → Prop} {G : va_G} {cy : Nat → ClassId} {ad : rf → Nat} {ce sl : Nat} {Z : State → Prop} (X : LX p s m c b L xs A G cy ad ce sl) {i : Int32} {M : mM} (hI : Inv M) (hD : InvD M) (hR : RY M.1) (hi : 0 ≤ i.toInt ∧ i.toInt + 6 ≤ (L : Int)) (hend : ∀ M' : mM, Inv M' → InvD M' → RY M'.1 → WL p l e s m below meth c b A G cy ad ce sl Z 1731 [(3, vI i), (0, vR (94, 0, 0)), (1, vR (11, 0, 0)), (2, vR (12, 0, 0))] [] M') : WL p l e s m below meth c b A G cy ad ce sl Z 1398 [(3, vI i), (0, vR (94, 0, 0)), (1, vR (11, 0, 0)), (2, vR (12, 0, 0))] [] M := by
  refine wl_aload_n X dL_law_1398 rfl 2 rfl ?_
  refine wl_arg X 1 hi (by decide) (v := 1) (by decide) (ki := 1) (by decide) 1 0 rfl rfl dL_law_1399 dL_law_1400 dL_law_1401 dL_law_1402 dL_law_1403 ?_
  refine wl_arg X 2 hi (by decide) (v := 2) (by decide) (ki := 2) (by decide) 1 0 rfl rfl dL_law_1404 dL_law_1405 dL_law_1406 dL_law_1407 dL_law_1408 ?_
  refine wl_arg X 3 hi (by decide) (v := 3) (by decide) (ki := 3) (by decide) 1 0 rfl rfl dL_law_1409 dL_law_1410 dL_law_1411 dL_law_1412 dL_law_1413 ?_
  refine wl_callC X (as := [vI (xs (i.toInt.toNat + 1)), vI (xs (i.toInt.toNat + 2)), vI (xs (i.toInt.toNat + 3))]) (rest := []) (c_X11_voice l G cy ad 0 (xs (i.toInt.toNat + 1)) (xs (i.toInt.toNat + 2)) (xs (i.toInt.toNat + 3)) M hI) kV_X11_voice pnn_0 (Nat.le_of_ble_eq_true rfl) m_1176 rfl rfl rfl (by decide) (Nat.le_of_ble_eq_true rfl) (Nat.le_of_ble_eq_true rfl) dL_law_1414 (fun r1_ M2_ q3_ => ?_)
  obtain ⟨hI1_, hF1_, -, hs1_⟩ := q3_
  have e1_ : mgC M2_ M = M2_ := mgC_self hF1_ SC_X11_voice
  rw [e1_]
  have hD1_ : InvD M2_ := e1_ ▸ mgC_D (M' := M2_) hD
  refine wl_pop X dL_law_1417 ?_
  refine wl_aload_n X dL_law_1418 rfl 3 rfl ?_
  refine wl_arg X 1 hi (by decide) (v := 1) (by decide) (ki := 1) (by decide) 1 0 rfl rfl dL_law_1419 dL_law_1420 dL_law_1421 dL_law_1422 dL_law_1423 ?_
  refine wl_arg X 2 hi (by decide) (v := 2) (by decide) (ki := 2) (by decide) 1 0 rfl rfl dL_law_1424 dL_law_1425 dL_law_1426 dL_law_1427 dL_law_1428 ?_
  refine wl_arg X 3 hi (by decide) (v := 3) (by decide) (ki := 3) (by decide) 1 0 rfl rfl dL_law_1429 dL_law_1430 dL_law_1431 dL_law_1432 dL_law_1433 ?_
  refine wl_callD X (as := [vI (xs (i.toInt.toNat + 1)), vI (xs (i.toInt.toNat + 2)), vI (xs (i.toInt.toNat + 3))]) (rest := []) (c_X12_voice l G cy ad 0 (xs (i.toInt.toNat + 1)) (xs (i.toInt.toNat + 2)) (xs (i.toInt.toNat + 3)) M2_ hD1_) kV_X12_voice pnn_17 (Nat.le_of_ble_eq_true rfl) m_1799 rfl rfl rfl (by decide) (Nat.le_of_ble_eq_true rfl) (Nat.le_of_ble_eq_true rfl) dL_law_1434 (fun r4_ M5_ q6_ => ?_)
  obtain ⟨hI2_, hF2_, -, hs2_⟩ := q6_
  have e2_ : (mgD M5_ M2_).1 = M5_.1 := mgD_self hF2_ SD_X12_voice
  have hI9_ : Inv (mgD M5_ M2_) := mgD_I hI1_
  have hD9_ : InvD (mgD M5_ M2_) := mgD_D hI2_
  have st_ := sy_30 hR hD hD1_ hI2_ hF1_ hs1_ hF2_ hs2_
  refine wl_pop X dL_law_1437 ?_
  refine wl_goto X (tgt := 1731) dL_law_1438 (by decide) ?_
  exact hend _ hI9_ hD9_ (by rw [e2_]; exact st_.1)
set_option maxHeartbeats 4000000 in
set_option maxRecDepth 100000 in
theorem law_case_31 {p : Program} {l : Launch} {e : Env} {s : State} {m : MethodId} {below : List Frame} {meth : Method} {c : Code} {b L : Nat} {xs : Nat → Int32} {A : Nat → Prop} {G : va_G} {cy : Nat → ClassId} {ad : rf → Nat} {ce sl : Nat} {Z : State → Prop} (X : LX p s m c b L xs A G cy ad ce sl) {i : Int32} {M : mM} (hI : Inv M) (hD : InvD M) (hR : RY M.1) (hi : 0 ≤ i.toInt ∧ i.toInt + 6 ≤ (L : Int)) (hend : ∀ M' : mM, Inv M' → InvD M' → RY M'.1 → WL p l e s m below meth c b A G cy ad ce sl Z 1731 [(3, vI i), (0, vR (94, 0, 0)), (1, vR (11, 0, 0)), (2, vR (12, 0, 0))] [] M') : WL p l e s m below meth c b A G cy ad ce sl Z 1441 [(3, vI i), (0, vR (94, 0, 0)), (1, vR (11, 0, 0)), (2, vR (12, 0, 0))] [] M := by
  refine wl_aload_n X dL_law_1441 rfl 2 rfl ?_
  refine wl_arg X 1 hi (by decide) (v := 1) (by decide) (ki := 1) (by decide) 1 0 rfl rfl dL_law_1442 dL_law_1443 dL_law_1444 dL_law_1445 dL_law_1446 ?_
  refine wl_callC X (as := [vI (xs (i.toInt.toNat + 1))]) (rest := []) (c_X11_trace l G cy ad 0 (xs (i.toInt.toNat + 1)) M hI) kV_X11_trace pnn_0 (Nat.le_of_ble_eq_true rfl) m_1210 rfl rfl rfl (by decide) (Nat.le_of_ble_eq_true rfl) (Nat.le_of_ble_eq_true rfl) dL_law_1447 (fun r1_ M2_ q3_ => ?_)
  obtain ⟨hI1_, hF1_, -, hs1_⟩ := q3_
  have e1_ : mgC M2_ M = M2_ := mgC_self hF1_ SC_X11_trace
  rw [e1_]
  have hD1_ : InvD M2_ := e1_ ▸ mgC_D (M' := M2_) hD
  refine wl_pop X dL_law_1450 ?_
  refine wl_aload_n X dL_law_1451 rfl 3 rfl ?_
  refine wl_arg X 1 hi (by decide) (v := 1) (by decide) (ki := 1) (by decide) 1 0 rfl rfl dL_law_1452 dL_law_1453 dL_law_1454 dL_law_1455 dL_law_1456 ?_
  refine wl_callD X (as := [vI (xs (i.toInt.toNat + 1))]) (rest := []) (c_X12_trace l G cy ad 0 (xs (i.toInt.toNat + 1)) M2_ hD1_) kV_X12_trace pnn_17 (Nat.le_of_ble_eq_true rfl) m_1823 rfl rfl rfl (by decide) (Nat.le_of_ble_eq_true rfl) (Nat.le_of_ble_eq_true rfl) dL_law_1457 (fun r4_ M5_ q6_ => ?_)
  obtain ⟨hI2_, hF2_, -, hs2_⟩ := q6_
  have e2_ : (mgD M5_ M2_).1 = M5_.1 := mgD_self hF2_ SD_X12_trace
  have hI9_ : Inv (mgD M5_ M2_) := mgD_I hI1_
  have hD9_ : InvD (mgD M5_ M2_) := mgD_D hI2_
  have st_ := sy_31 hR hD hD1_ hI2_ hF1_ hs1_ hF2_ hs2_
  refine wl_pop X dL_law_1460 ?_
  refine wl_goto X (tgt := 1731) dL_law_1461 (by decide) ?_
  exact hend _ hI9_ hD9_ (by rw [e2_]; exact st_.1)
set_option maxHeartbeats 4000000 in
set_option maxRecDepth 100000 in
theorem law_case_32 {p : Program} {l : Launch} {e : Env} {s : State} {m : MethodId} {below : List Frame} {meth : Method} {c : Code} {b L : Nat} {xs : Nat → Int32} {A : Nat → Prop} {G : va_G} {cy : Nat → ClassId} {ad : rf → Nat} {ce sl : Nat} {Z : State → Prop} (X : LX p s m c b L xs A G cy ad ce sl) {i : Int32} {M : mM} (hI : Inv M) (hD : InvD M) (hR : RY M.1) (hi : 0 ≤ i.toInt ∧ i.toInt + 6 ≤ (L : Int)) (hend : ∀ M' : mM, Inv M' → InvD M' → RY M'.1 → WL p l e s m below meth c b A G cy ad ce sl Z 1731 [(3, vI i), (0, vR (94, 0, 0)), (1, vR (11, 0, 0)), (2, vR (12, 0, 0))] [] M') : WL p l e s m below meth c b A G cy ad ce sl Z 1464 [(3, vI i), (0, vR (94, 0, 0)), (1, vR (11, 0, 0)), (2, vR (12, 0, 0))] [] M := by
  refine wl_aload_n X dL_law_1464 rfl 2 rfl ?_
  refine wl_arg X 1 hi (by decide) (v := 1) (by decide) (ki := 1) (by decide) 1 0 rfl rfl dL_law_1465 dL_law_1466 dL_law_1467 dL_law_1468 dL_law_1469 ?_
  refine wl_arg X 2 hi (by decide) (v := 2) (by decide) (ki := 2) (by decide) 1 0 rfl rfl dL_law_1470 dL_law_1471 dL_law_1472 dL_law_1473 dL_law_1474 ?_
  refine wl_arg X 3 hi (by decide) (v := 3) (by decide) (ki := 3) (by decide) 1 0 rfl rfl dL_law_1475 dL_law_1476 dL_law_1477 dL_law_1478 dL_law_1479 ?_
  refine wl_callC X (as := [vI (xs (i.toInt.toNat + 1)), vI (xs (i.toInt.toNat + 2)), vI (xs (i.toInt.toNat + 3))]) (rest := []) (c_X11_sheet l G cy ad 0 (xs (i.toInt.toNat + 1)) (xs (i.toInt.toNat + 2)) (xs (i.toInt.toNat + 3)) M hI) kV_X11_sheet pnn_0 (Nat.le_of_ble_eq_true rfl) m_1218 rfl rfl rfl (by decide) (Nat.le_of_ble_eq_true rfl) (Nat.le_of_ble_eq_true rfl) dL_law_1480 (fun r1_ M2_ q3_ => ?_)
  obtain ⟨hI1_, hF1_, -, hs1_⟩ := q3_
  have e1_ : mgC M2_ M = M2_ := mgC_self hF1_ SC_X11_sheet
  rw [e1_]
  have hD1_ : InvD M2_ := e1_ ▸ mgC_D (M' := M2_) hD
  refine wl_pop X dL_law_1483 ?_
  refine wl_aload_n X dL_law_1484 rfl 3 rfl ?_
  refine wl_arg X 1 hi (by decide) (v := 1) (by decide) (ki := 1) (by decide) 1 0 rfl rfl dL_law_1485 dL_law_1486 dL_law_1487 dL_law_1488 dL_law_1489 ?_
  refine wl_arg X 2 hi (by decide) (v := 2) (by decide) (ki := 2) (by decide) 1 0 rfl rfl dL_law_1490 dL_law_1491 dL_law_1492 dL_law_1493 dL_law_1494 ?_
  refine wl_arg X 3 hi (by decide) (v := 3) (by decide) (ki := 3) (by decide) 1 0 rfl rfl dL_law_1495 dL_law_1496 dL_law_1497 dL_law_1498 dL_law_1499 ?_
  refine wl_callD X (as := [vI (xs (i.toInt.toNat + 1)), vI (xs (i.toInt.toNat + 2)), vI (xs (i.toInt.toNat + 3))]) (rest := []) (c_X12_sheet l G cy ad 0 (xs (i.toInt.toNat + 1)) (xs (i.toInt.toNat + 2)) (xs (i.toInt.toNat + 3)) M2_ hD1_) kV_X12_sheet pnn_17 (Nat.le_of_ble_eq_true rfl) m_1827 rfl rfl rfl (by decide) (Nat.le_of_ble_eq_true rfl) (Nat.le_of_ble_eq_true rfl) dL_law_1500 (fun r4_ M5_ q6_ => ?_)
  obtain ⟨hI2_, hF2_, -, hs2_⟩ := q6_
  have e2_ : (mgD M5_ M2_).1 = M5_.1 := mgD_self hF2_ SD_X12_sheet
  have hI9_ : Inv (mgD M5_ M2_) := mgD_I hI1_
  have hD9_ : InvD (mgD M5_ M2_) := mgD_D hI2_
  have st_ := sy_32 hR hD hD1_ hI2_ hF1_ hs1_ hF2_ hs2_
  refine wl_pop X dL_law_1503 ?_
  refine wl_goto X (tgt := 1731) dL_law_1504 (by decide) ?_
  exact hend _ hI9_ hD9_ (by rw [e2_]; exact st_.1)
set_option maxHeartbeats 4000000 in
set_option maxRecDepth 100000 in
theorem law_case_33 {p : Program} {l : Launch} {e : Env} {s : State} {m : MethodId} {below : List Frame} {meth : Method} {c : Code} {b L : Nat} {xs : Nat → Int32} {A : Nat → Prop} {G : va_G} {cy : Nat → ClassId} {ad : rf → Nat} {ce sl : Nat} {Z : State → Prop} (X : LX p s m c b L xs A G cy ad ce sl) {i : Int32} {M : mM} (hI : Inv M) (hD : InvD M) (hR : RY M.1) (hi : 0 ≤ i.toInt ∧ i.toInt + 6 ≤ (L : Int)) (hend : ∀ M' : mM, Inv M' → InvD M' → RY M'.1 → WL p l e s m below meth c b A G cy ad ce sl Z 1731 [(3, vI i), (0, vR (94, 0, 0)), (1, vR (11, 0, 0)), (2, vR (12, 0, 0))] [] M') : WL p l e s m below meth c b A G cy ad ce sl Z 1507 [(3, vI i), (0, vR (94, 0, 0)), (1, vR (11, 0, 0)), (2, vR (12, 0, 0))] [] M := by
  refine wl_aload_n X dL_law_1507 rfl 2 rfl ?_
  refine wl_arg X 1 hi (by decide) (v := 1) (by decide) (ki := 1) (by decide) 1 0 rfl rfl dL_law_1508 dL_law_1509 dL_law_1510 dL_law_1511 dL_law_1512 ?_
  refine wl_arg X 2 hi (by decide) (v := 2) (by decide) (ki := 2) (by decide) 1 0 rfl rfl dL_law_1513 dL_law_1514 dL_law_1515 dL_law_1516 dL_law_1517 ?_
  refine wl_arg X 3 hi (by decide) (v := 3) (by decide) (ki := 3) (by decide) 1 0 rfl rfl dL_law_1518 dL_law_1519 dL_law_1520 dL_law_1521 dL_law_1522 ?_
  refine wl_callC X (as := [vI (xs (i.toInt.toNat + 1)), vI (xs (i.toInt.toNat + 2)), vI (xs (i.toInt.toNat + 3))]) (rest := []) (c_X11_put l G cy ad 0 (xs (i.toInt.toNat + 1)) (xs (i.toInt.toNat + 2)) (xs (i.toInt.toNat + 3)) M hI) kV_X11_put pnn_0 (Nat.le_of_ble_eq_true rfl) m_1232 rfl rfl rfl (by decide) (Nat.le_of_ble_eq_true rfl) (Nat.le_of_ble_eq_true rfl) dL_law_1523 (fun r1_ M2_ q3_ => ?_)
  obtain ⟨hI1_, hF1_, -, hs1_⟩ := q3_
  have e1_ : mgC M2_ M = M2_ := mgC_self hF1_ SC_X11_put
  rw [e1_]
  have hD1_ : InvD M2_ := e1_ ▸ mgC_D (M' := M2_) hD
  refine wl_pop X dL_law_1526 ?_
  refine wl_aload_n X dL_law_1527 rfl 3 rfl ?_
  refine wl_arg X 1 hi (by decide) (v := 1) (by decide) (ki := 1) (by decide) 1 0 rfl rfl dL_law_1528 dL_law_1529 dL_law_1530 dL_law_1531 dL_law_1532 ?_
  refine wl_arg X 2 hi (by decide) (v := 2) (by decide) (ki := 2) (by decide) 1 0 rfl rfl dL_law_1533 dL_law_1534 dL_law_1535 dL_law_1536 dL_law_1537 ?_
  refine wl_arg X 3 hi (by decide) (v := 3) (by decide) (ki := 3) (by decide) 1 0 rfl rfl dL_law_1538 dL_law_1539 dL_law_1540 dL_law_1541 dL_law_1542 ?_
  refine wl_callD X (as := [vI (xs (i.toInt.toNat + 1)), vI (xs (i.toInt.toNat + 2)), vI (xs (i.toInt.toNat + 3))]) (rest := []) (c_X12_put l G cy ad 0 (xs (i.toInt.toNat + 1)) (xs (i.toInt.toNat + 2)) (xs (i.toInt.toNat + 3)) M2_ hD1_) kV_X12_put pnn_17 (Nat.le_of_ble_eq_true rfl) m_1831 rfl rfl rfl (by decide) (Nat.le_of_ble_eq_true rfl) (Nat.le_of_ble_eq_true rfl) dL_law_1543 (fun r4_ M5_ q6_ => ?_)
  obtain ⟨hI2_, hF2_, -, hs2_⟩ := q6_
  have e2_ : (mgD M5_ M2_).1 = M5_.1 := mgD_self hF2_ SD_X12_put
  have hI9_ : Inv (mgD M5_ M2_) := mgD_I hI1_
  have hD9_ : InvD (mgD M5_ M2_) := mgD_D hI2_
  have st_ := sy_33 hR hD hD1_ hI2_ hF1_ hs1_ hF2_ hs2_
  refine wl_pop X dL_law_1546 ?_
  refine wl_goto X (tgt := 1731) dL_law_1547 (by decide) ?_
  exact hend _ hI9_ hD9_ (by rw [e2_]; exact st_.1)
set_option maxHeartbeats 4000000 in
set_option maxRecDepth 100000 in
theorem law_case_34 {p : Program} {l : Launch} {e : Env} {s : State} {m : MethodId} {below : List Frame} {meth : Method} {c : Code} {b L : Nat} {xs : Nat → Int32} {A : Nat → Prop} {G : va_G} {cy : Nat → ClassId} {ad : rf → Nat} {ce sl : Nat} {Z : State → Prop} (X : LX p s m c b L xs A G cy ad ce sl) {i : Int32} {M : mM} (hI : Inv M) (hD : InvD M) (hR : RY M.1) (hi : 0 ≤ i.toInt ∧ i.toInt + 6 ≤ (L : Int)) (hend : ∀ M' : mM, Inv M' → InvD M' → RY M'.1 → WL p l e s m below meth c b A G cy ad ce sl Z 1731 [(3, vI i), (0, vR (94, 0, 0)), (1, vR (11, 0, 0)), (2, vR (12, 0, 0))] [] M') : WL p l e s m below meth c b A G cy ad ce sl Z 1550 [(3, vI i), (0, vR (94, 0, 0)), (1, vR (11, 0, 0)), (2, vR (12, 0, 0))] [] M := by
  refine wl_aload_n X dL_law_1550 rfl 2 rfl ?_
  refine wl_arg X 1 hi (by decide) (v := 1) (by decide) (ki := 1) (by decide) 1 0 rfl rfl dL_law_1551 dL_law_1552 dL_law_1553 dL_law_1554 dL_law_1555 ?_
  refine wl_arg X 2 hi (by decide) (v := 2) (by decide) (ki := 2) (by decide) 1 0 rfl rfl dL_law_1556 dL_law_1557 dL_law_1558 dL_law_1559 dL_law_1560 ?_
  refine wl_arg X 3 hi (by decide) (v := 3) (by decide) (ki := 3) (by decide) 1 0 rfl rfl dL_law_1561 dL_law_1562 dL_law_1563 dL_law_1564 dL_law_1565 ?_
  refine wl_arg X 4 hi (by decide) (v := 4) (by decide) (ki := 4) (by decide) 1 0 rfl rfl dL_law_1566 dL_law_1567 dL_law_1568 dL_law_1569 dL_law_1570 ?_
  refine wl_arg X 5 hi (by decide) (v := 5) (by decide) (ki := 5) (by decide) 1 0 rfl rfl dL_law_1571 dL_law_1572 dL_law_1573 dL_law_1574 dL_law_1575 ?_
  refine wl_callC X (as := [vI (xs (i.toInt.toNat + 1)), vI (xs (i.toInt.toNat + 2)), vI (xs (i.toInt.toNat + 3)), vI (xs (i.toInt.toNat + 4)), vI (xs (i.toInt.toNat + 5))]) (rest := []) (c_X11_move l G cy ad 0 (xs (i.toInt.toNat + 1)) (xs (i.toInt.toNat + 2)) (xs (i.toInt.toNat + 3)) (xs (i.toInt.toNat + 4)) (xs (i.toInt.toNat + 5)) M hI) kV_X11_move pnn_0 (Nat.le_of_ble_eq_true rfl) m_1241 rfl rfl rfl (by decide) (Nat.le_of_ble_eq_true rfl) (Nat.le_of_ble_eq_true rfl) dL_law_1576 (fun r1_ M2_ q3_ => ?_)
  obtain ⟨hI1_, hF1_, -, hs1_⟩ := q3_
  have e1_ : mgC M2_ M = M2_ := mgC_self hF1_ SC_X11_move
  rw [e1_]
  have hD1_ : InvD M2_ := e1_ ▸ mgC_D (M' := M2_) hD
  refine wl_pop X dL_law_1579 ?_
  refine wl_aload_n X dL_law_1580 rfl 3 rfl ?_
  refine wl_arg X 1 hi (by decide) (v := 1) (by decide) (ki := 1) (by decide) 1 0 rfl rfl dL_law_1581 dL_law_1582 dL_law_1583 dL_law_1584 dL_law_1585 ?_
  refine wl_arg X 2 hi (by decide) (v := 2) (by decide) (ki := 2) (by decide) 1 0 rfl rfl dL_law_1586 dL_law_1587 dL_law_1588 dL_law_1589 dL_law_1590 ?_
  refine wl_arg X 3 hi (by decide) (v := 3) (by decide) (ki := 3) (by decide) 1 0 rfl rfl dL_law_1591 dL_law_1592 dL_law_1593 dL_law_1594 dL_law_1595 ?_
  refine wl_arg X 4 hi (by decide) (v := 4) (by decide) (ki := 4) (by decide) 1 0 rfl rfl dL_law_1596 dL_law_1597 dL_law_1598 dL_law_1599 dL_law_1600 ?_
  refine wl_arg X 5 hi (by decide) (v := 5) (by decide) (ki := 5) (by decide) 1 0 rfl rfl dL_law_1601 dL_law_1602 dL_law_1603 dL_law_1604 dL_law_1605 ?_
  refine wl_callD X (as := [vI (xs (i.toInt.toNat + 1)), vI (xs (i.toInt.toNat + 2)), vI (xs (i.toInt.toNat + 3)), vI (xs (i.toInt.toNat + 4)), vI (xs (i.toInt.toNat + 5))]) (rest := []) (c_X12_move l G cy ad 0 (xs (i.toInt.toNat + 1)) (xs (i.toInt.toNat + 2)) (xs (i.toInt.toNat + 3)) (xs (i.toInt.toNat + 4)) (xs (i.toInt.toNat + 5)) M2_ hD1_) kV_X12_move pnn_17 (Nat.le_of_ble_eq_true rfl) m_1835 rfl rfl rfl (by decide) (Nat.le_of_ble_eq_true rfl) (Nat.le_of_ble_eq_true rfl) dL_law_1606 (fun r4_ M5_ q6_ => ?_)
  obtain ⟨hI2_, hF2_, -, hs2_⟩ := q6_
  have e2_ : (mgD M5_ M2_).1 = M5_.1 := mgD_self hF2_ SD_X12_move
  have hI9_ : Inv (mgD M5_ M2_) := mgD_I hI1_
  have hD9_ : InvD (mgD M5_ M2_) := mgD_D hI2_
  have st_ := sy_34 hR hD hD1_ hI2_ hF1_ hs1_ hF2_ hs2_
  refine wl_pop X dL_law_1609 ?_
  refine wl_goto X (tgt := 1731) dL_law_1610 (by decide) ?_
  exact hend _ hI9_ hD9_ (by rw [e2_]; exact st_.1)
set_option maxHeartbeats 4000000 in
set_option maxRecDepth 100000 in
theorem law_case_35 {p : Program} {l : Launch} {e : Env} {s : State} {m : MethodId} {below : List Frame} {meth : Method} {c : Code} {b L : Nat} {xs : Nat → Int32} {A : Nat → Prop} {G : va_G} {cy : Nat → ClassId} {ad : rf → Nat} {ce sl : Nat} {Z : State → Prop} (X : LX p s m c b L xs A G cy ad ce sl) {i : Int32} {M : mM} (hI : Inv M) (hD : InvD M) (hR : RY M.1) (hi : 0 ≤ i.toInt ∧ i.toInt + 6 ≤ (L : Int)) (hend : ∀ M' : mM, Inv M' → InvD M' → RY M'.1 → WL p l e s m below meth c b A G cy ad ce sl Z 1731 [(3, vI i), (0, vR (94, 0, 0)), (1, vR (11, 0, 0)), (2, vR (12, 0, 0))] [] M') : WL p l e s m below meth c b A G cy ad ce sl Z 1613 [(3, vI i), (0, vR (94, 0, 0)), (1, vR (11, 0, 0)), (2, vR (12, 0, 0))] [] M := by
  refine wl_aload_n X dL_law_1613 rfl 2 rfl ?_
  refine wl_callC X (as := []) (rest := []) (c_X11_image l G cy ad 0 M hI) kV_X11_image pnn_0 (Nat.le_of_ble_eq_true rfl) m_1250 rfl rfl rfl (by decide) (Nat.le_of_ble_eq_true rfl) (Nat.le_of_ble_eq_true rfl) dL_law_1614 (fun r1_ M2_ q3_ => ?_)
  obtain ⟨hI1_, hF1_, -, hs1_⟩ := q3_
  have e1_ : mgC M2_ M = M2_ := mgC_self hF1_ SC_X11_image
  rw [e1_]
  have hD1_ : InvD M2_ := e1_ ▸ mgC_D (M' := M2_) hD
  refine wl_pop X dL_law_1617 ?_
  refine wl_aload_n X dL_law_1618 rfl 3 rfl ?_
  refine wl_callD X (as := []) (rest := []) (c_X12_image l G cy ad 0 M2_ hD1_) kV_X12_image pnn_17 (Nat.le_of_ble_eq_true rfl) m_1839 rfl rfl rfl (by decide) (Nat.le_of_ble_eq_true rfl) (Nat.le_of_ble_eq_true rfl) dL_law_1619 (fun r4_ M5_ q6_ => ?_)
  obtain ⟨hI2_, hF2_, -, hs2_⟩ := q6_
  have e2_ : (mgD M5_ M2_).1 = M5_.1 := mgD_self hF2_ SD_X12_image
  have hI9_ : Inv (mgD M5_ M2_) := mgD_I hI1_
  have hD9_ : InvD (mgD M5_ M2_) := mgD_D hI2_
  have st_ := sy_35 hR hD hD1_ hI2_ hF1_ hs1_ hF2_ hs2_
  refine wl_pop X dL_law_1622 ?_
  refine wl_goto X (tgt := 1731) dL_law_1623 (by decide) ?_
  exact hend _ hI9_ hD9_ (by rw [e2_]; exact st_.1)
set_option maxHeartbeats 4000000 in
set_option maxRecDepth 100000 in
theorem law_case_36 {p : Program} {l : Launch} {e : Env} {s : State} {m : MethodId} {below : List Frame} {meth : Method} {c : Code} {b L : Nat} {xs : Nat → Int32} {A : Nat → Prop} {G : va_G} {cy : Nat → ClassId} {ad : rf → Nat} {ce sl : Nat} {Z : State → Prop} (X : LX p s m c b L xs A G cy ad ce sl) {i : Int32} {M : mM} (hI : Inv M) (hD : InvD M) (hR : RY M.1) (hi : 0 ≤ i.toInt ∧ i.toInt + 6 ≤ (L : Int)) (hend : ∀ M' : mM, Inv M' → InvD M' → RY M'.1 → WL p l e s m below meth c b A G cy ad ce sl Z 1731 [(3, vI i), (0, vR (94, 0, 0)), (1, vR (11, 0, 0)), (2, vR (12, 0, 0))] [] M') : WL p l e s m below meth c b A G cy ad ce sl Z 1626 [(3, vI i), (0, vR (94, 0, 0)), (1, vR (11, 0, 0)), (2, vR (12, 0, 0))] [] M := by
  refine wl_aload_n X dL_law_1626 rfl 2 rfl ?_
  refine wl_callC X (as := []) (rest := []) (c_X11_restore l G cy ad 0 M hI) kV_X11_restore pnn_0 (Nat.le_of_ble_eq_true rfl) m_1280 rfl rfl rfl (by decide) (Nat.le_of_ble_eq_true rfl) (Nat.le_of_ble_eq_true rfl) dL_law_1627 (fun r1_ M2_ q3_ => ?_)
  obtain ⟨hI1_, hF1_, -, hs1_⟩ := q3_
  have e1_ : mgC M2_ M = M2_ := mgC_self hF1_ SC_X11_restore
  rw [e1_]
  have hD1_ : InvD M2_ := e1_ ▸ mgC_D (M' := M2_) hD
  refine wl_pop X dL_law_1630 ?_
  refine wl_aload_n X dL_law_1631 rfl 3 rfl ?_
  refine wl_callD X (as := []) (rest := []) (c_X12_restore l G cy ad 0 M2_ hD1_) kV_X12_restore pnn_17 (Nat.le_of_ble_eq_true rfl) m_1846 rfl rfl rfl (by decide) (Nat.le_of_ble_eq_true rfl) (Nat.le_of_ble_eq_true rfl) dL_law_1632 (fun r4_ M5_ q6_ => ?_)
  obtain ⟨hI2_, hF2_, -, hs2_⟩ := q6_
  have e2_ : (mgD M5_ M2_).1 = M5_.1 := mgD_self hF2_ SD_X12_restore
  have hI9_ : Inv (mgD M5_ M2_) := mgD_I hI1_
  have hD9_ : InvD (mgD M5_ M2_) := mgD_D hI2_
  have st_ := sy_36 hR hD hD1_ hI2_ hF1_ hs1_ hF2_ hs2_
  refine wl_pop X dL_law_1635 ?_
  refine wl_goto X (tgt := 1731) dL_law_1636 (by decide) ?_
  exact hend _ hI9_ hD9_ (by rw [e2_]; exact st_.1)
set_option maxHeartbeats 4000000 in
set_option maxRecDepth 100000 in
theorem law_case_37 {p : Program} {l : Launch} {e : Env} {s : State} {m : MethodId} {below : List Frame} {meth : Method} {c : Code} {b L : Nat} {xs : Nat → Int32} {A : Nat → Prop} {G : va_G} {cy : Nat → ClassId} {ad : rf → Nat} {ce sl : Nat} {Z : State → Prop} (X : LX p s m c b L xs A G cy ad ce sl) {i : Int32} {M : mM} (hI : Inv M) (hD : InvD M) (hR : RY M.1) (hi : 0 ≤ i.toInt ∧ i.toInt + 6 ≤ (L : Int)) (hend : ∀ M' : mM, Inv M' → InvD M' → RY M'.1 → WL p l e s m below meth c b A G cy ad ce sl Z 1731 [(3, vI i), (0, vR (94, 0, 0)), (1, vR (11, 0, 0)), (2, vR (12, 0, 0))] [] M') : WL p l e s m below meth c b A G cy ad ce sl Z 1639 [(3, vI i), (0, vR (94, 0, 0)), (1, vR (11, 0, 0)), (2, vR (12, 0, 0))] [] M := by
  refine wl_aload_n X dL_law_1639 rfl 2 rfl ?_
  refine wl_arg X 1 hi (by decide) (v := 1) (by decide) (ki := 1) (by decide) 1 0 rfl rfl dL_law_1640 dL_law_1641 dL_law_1642 dL_law_1643 dL_law_1644 ?_
  refine wl_callC X (as := [vI (xs (i.toInt.toNat + 1))]) (rest := []) (c_X11_tell l G cy ad 0 (xs (i.toInt.toNat + 1)) M hI) kV_X11_tell pnn_0 (Nat.le_of_ble_eq_true rfl) m_1284 rfl rfl rfl (by decide) (Nat.le_of_ble_eq_true rfl) (Nat.le_of_ble_eq_true rfl) dL_law_1645 (fun r1_ M2_ q3_ => ?_)
  obtain ⟨hI1_, hF1_, -, hs1_⟩ := q3_
  have e1_ : mgC M2_ M = M2_ := mgC_self hF1_ SC_X11_tell
  rw [e1_]
  have hD1_ : InvD M2_ := e1_ ▸ mgC_D (M' := M2_) hD
  refine wl_pop X dL_law_1648 ?_
  refine wl_aload_n X dL_law_1649 rfl 3 rfl ?_
  refine wl_arg X 1 hi (by decide) (v := 1) (by decide) (ki := 1) (by decide) 1 0 rfl rfl dL_law_1650 dL_law_1651 dL_law_1652 dL_law_1653 dL_law_1654 ?_
  refine wl_callD X (as := [vI (xs (i.toInt.toNat + 1))]) (rest := []) (c_X12_tell l G cy ad 0 (xs (i.toInt.toNat + 1)) M2_ hD1_) kV_X12_tell pnn_17 (Nat.le_of_ble_eq_true rfl) m_1850 rfl rfl rfl (by decide) (Nat.le_of_ble_eq_true rfl) (Nat.le_of_ble_eq_true rfl) dL_law_1655 (fun r4_ M5_ q6_ => ?_)
  obtain ⟨hI2_, hF2_, -, hs2_⟩ := q6_
  have e2_ : (mgD M5_ M2_).1 = M5_.1 := mgD_self hF2_ SD_X12_tell
  have hI9_ : Inv (mgD M5_ M2_) := mgD_I hI1_
  have hD9_ : InvD (mgD M5_ M2_) := mgD_D hI2_
  have st_ := sy_37 hR hD hD1_ hI2_ hF1_ hs1_ hF2_ hs2_
  refine wl_pop X dL_law_1658 ?_
  refine wl_goto X (tgt := 1731) dL_law_1659 (by decide) ?_
  exact hend _ hI9_ hD9_ (by rw [e2_]; exact st_.1)
set_option maxHeartbeats 4000000 in
set_option maxRecDepth 100000 in
theorem law_case_38 {p : Program} {l : Launch} {e : Env} {s : State} {m : MethodId} {below : List Frame} {meth : Method} {c : Code} {b L : Nat} {xs : Nat → Int32} {A : Nat → Prop} {G : va_G} {cy : Nat → ClassId} {ad : rf → Nat} {ce sl : Nat} {Z : State → Prop} (X : LX p s m c b L xs A G cy ad ce sl) {i : Int32} {M : mM} (hI : Inv M) (hD : InvD M) (hR : RY M.1) (hi : 0 ≤ i.toInt ∧ i.toInt + 6 ≤ (L : Int)) (hend : ∀ M' : mM, Inv M' → InvD M' → RY M'.1 → WL p l e s m below meth c b A G cy ad ce sl Z 1731 [(3, vI i), (0, vR (94, 0, 0)), (1, vR (11, 0, 0)), (2, vR (12, 0, 0))] [] M') : WL p l e s m below meth c b A G cy ad ce sl Z 1662 [(3, vI i), (0, vR (94, 0, 0)), (1, vR (11, 0, 0)), (2, vR (12, 0, 0))] [] M := by
  refine wl_aload_n X dL_law_1662 rfl 2 rfl ?_
  refine wl_arg X 1 hi (by decide) (v := 1) (by decide) (ki := 1) (by decide) 1 0 rfl rfl dL_law_1663 dL_law_1664 dL_law_1665 dL_law_1666 dL_law_1667 ?_
  refine wl_callC X (as := [vI (xs (i.toInt.toNat + 1))]) (rest := []) (c_X11_check l G cy ad 0 (xs (i.toInt.toNat + 1)) M hI) kV_X11_check pnn_0 (Nat.le_of_ble_eq_true rfl) m_1288 rfl rfl rfl (by decide) (Nat.le_of_ble_eq_true rfl) (Nat.le_of_ble_eq_true rfl) dL_law_1668 (fun r1_ M2_ q3_ => ?_)
  obtain ⟨hI1_, hF1_, -, hs1_⟩ := q3_
  have e1_ : mgC M2_ M = M2_ := mgC_self hF1_ SC_X11_check
  rw [e1_]
  have hD1_ : InvD M2_ := e1_ ▸ mgC_D (M' := M2_) hD
  refine wl_pop X dL_law_1671 ?_
  refine wl_aload_n X dL_law_1672 rfl 3 rfl ?_
  refine wl_arg X 1 hi (by decide) (v := 1) (by decide) (ki := 1) (by decide) 1 0 rfl rfl dL_law_1673 dL_law_1674 dL_law_1675 dL_law_1676 dL_law_1677 ?_
  refine wl_callD X (as := [vI (xs (i.toInt.toNat + 1))]) (rest := []) (c_X12_check l G cy ad 0 (xs (i.toInt.toNat + 1)) M2_ hD1_) kV_X12_check pnn_17 (Nat.le_of_ble_eq_true rfl) m_1854 rfl rfl rfl (by decide) (Nat.le_of_ble_eq_true rfl) (Nat.le_of_ble_eq_true rfl) dL_law_1678 (fun r4_ M5_ q6_ => ?_)
  obtain ⟨hI2_, hF2_, -, hs2_⟩ := q6_
  have e2_ : (mgD M5_ M2_).1 = M5_.1 := mgD_self hF2_ SD_X12_check
  have hI9_ : Inv (mgD M5_ M2_) := mgD_I hI1_
  have hD9_ : InvD (mgD M5_ M2_) := mgD_D hI2_
  have st_ := sy_38 hR hD hD1_ hI2_ hF1_ hs1_ hF2_ hs2_
  refine wl_pop X dL_law_1681 ?_
  refine wl_goto X (tgt := 1731) dL_law_1682 (by decide) ?_
  exact hend _ hI9_ hD9_ (by rw [e2_]; exact st_.1)
set_option maxHeartbeats 4000000 in
set_option maxRecDepth 100000 in
theorem law_case_39 {p : Program} {l : Launch} {e : Env} {s : State} {m : MethodId} {below : List Frame} {meth : Method} {c : Code} {b L : Nat} {xs : Nat → Int32} {A : Nat → Prop} {G : va_G} {cy : Nat → ClassId} {ad : rf → Nat} {ce sl : Nat} {Z : State → Prop} (X : LX p s m c b L xs A G cy ad ce sl) {i : Int32} {M : mM} (hI : Inv M) (hD : InvD M) (hR : RY M.1) (hi : 0 ≤ i.toInt ∧ i.toInt + 6 ≤ (L : Int)) (hend : ∀ M' : mM, Inv M' → InvD M' → RY M'.1 → WL p l e s m below meth c b A G cy ad ce sl Z 1731 [(3, vI i), (0, vR (94, 0, 0)), (1, vR (11, 0, 0)), (2, vR (12, 0, 0))] [] M') : WL p l e s m below meth c b A G cy ad ce sl Z 1685 [(3, vI i), (0, vR (94, 0, 0)), (1, vR (11, 0, 0)), (2, vR (12, 0, 0))] [] M := by
  refine wl_aload_n X dL_law_1685 rfl 2 rfl ?_
  refine wl_arg X 1 hi (by decide) (v := 1) (by decide) (ki := 1) (by decide) 1 0 rfl rfl dL_law_1686 dL_law_1687 dL_law_1688 dL_law_1689 dL_law_1690 ?_
  refine wl_callC X (as := [vI (xs (i.toInt.toNat + 1))]) (rest := []) (c_X11_count l G cy ad 0 (xs (i.toInt.toNat + 1)) M hI) kV_X11_count pnn_0 (Nat.le_of_ble_eq_true rfl) m_1292 rfl rfl rfl (by decide) (Nat.le_of_ble_eq_true rfl) (Nat.le_of_ble_eq_true rfl) dL_law_1691 (fun r1_ M2_ q3_ => ?_)
  obtain ⟨hI1_, hF1_, -, hs1_⟩ := q3_
  have e1_ : mgC M2_ M = M2_ := mgC_self hF1_ SC_X11_count
  rw [e1_]
  have hD1_ : InvD M2_ := e1_ ▸ mgC_D (M' := M2_) hD
  refine wl_pop X dL_law_1694 ?_
  refine wl_aload_n X dL_law_1695 rfl 3 rfl ?_
  refine wl_arg X 1 hi (by decide) (v := 1) (by decide) (ki := 1) (by decide) 1 0 rfl rfl dL_law_1696 dL_law_1697 dL_law_1698 dL_law_1699 dL_law_1700 ?_
  refine wl_callD X (as := [vI (xs (i.toInt.toNat + 1))]) (rest := []) (c_X12_count l G cy ad 0 (xs (i.toInt.toNat + 1)) M2_ hD1_) kV_X12_count pnn_17 (Nat.le_of_ble_eq_true rfl) m_1858 rfl rfl rfl (by decide) (Nat.le_of_ble_eq_true rfl) (Nat.le_of_ble_eq_true rfl) dL_law_1701 (fun r4_ M5_ q6_ => ?_)
  obtain ⟨hI2_, hF2_, -, hs2_⟩ := q6_
  have e2_ : (mgD M5_ M2_).1 = M5_.1 := mgD_self hF2_ SD_X12_count
  have hI9_ : Inv (mgD M5_ M2_) := mgD_I hI1_
  have hD9_ : InvD (mgD M5_ M2_) := mgD_D hI2_
  have st_ := sy_39 hR hD hD1_ hI2_ hF1_ hs1_ hF2_ hs2_
  refine wl_pop X dL_law_1704 ?_
  refine wl_goto X (tgt := 1731) dL_law_1705 (by decide) ?_
  exact hend _ hI9_ hD9_ (by rw [e2_]; exact st_.1)
set_option maxHeartbeats 4000000 in
set_option maxRecDepth 100000 in
theorem law_case_40 {p : Program} {l : Launch} {e : Env} {s : State} {m : MethodId} {below : List Frame} {meth : Method} {c : Code} {b L : Nat} {xs : Nat → Int32} {A : Nat → Prop} {G : va_G} {cy : Nat → ClassId} {ad : rf → Nat} {ce sl : Nat} {Z : State → Prop} (X : LX p s m c b L xs A G cy ad ce sl) {i : Int32} {M : mM} (hI : Inv M) (hD : InvD M) (hR : RY M.1) (hi : 0 ≤ i.toInt ∧ i.toInt + 6 ≤ (L : Int)) (hend : ∀ M' : mM, Inv M' → InvD M' → RY M'.1 → WL p l e s m below meth c b A G cy ad ce sl Z 1731 [(3, vI i), (0, vR (94, 0, 0)), (1, vR (11, 0, 0)), (2, vR (12, 0, 0))] [] M') : WL p l e s m below meth c b A G cy ad ce sl Z 1708 [(3, vI i), (0, vR (94, 0, 0)), (1, vR (11, 0, 0)), (2, vR (12, 0, 0))] [] M := by
  refine wl_aload_n X dL_law_1708 rfl 2 rfl ?_
  refine wl_arg X 1 hi (by decide) (v := 1) (by decide) (ki := 1) (by decide) 1 0 rfl rfl dL_law_1709 dL_law_1710 dL_law_1711 dL_law_1712 dL_law_1713 ?_
  refine wl_callC X (as := [vI (xs (i.toInt.toNat + 1))]) (rest := []) (c_X11_told l G cy ad 0 (xs (i.toInt.toNat + 1)) M hI) kV_X11_told pnn_0 (Nat.le_of_ble_eq_true rfl) m_1308 rfl rfl rfl (by decide) (Nat.le_of_ble_eq_true rfl) (Nat.le_of_ble_eq_true rfl) dL_law_1714 (fun r1_ M2_ q3_ => ?_)
  obtain ⟨hI1_, hF1_, -, hs1_⟩ := q3_
  have e1_ : mgC M2_ M = M2_ := mgC_self hF1_ SC_X11_told
  rw [e1_]
  have hD1_ : InvD M2_ := e1_ ▸ mgC_D (M' := M2_) hD
  refine wl_pop X dL_law_1717 ?_
  refine wl_aload_n X dL_law_1718 rfl 3 rfl ?_
  refine wl_arg X 1 hi (by decide) (v := 1) (by decide) (ki := 1) (by decide) 1 0 rfl rfl dL_law_1719 dL_law_1720 dL_law_1721 dL_law_1722 dL_law_1723 ?_
  refine wl_callD X (as := [vI (xs (i.toInt.toNat + 1))]) (rest := []) (c_X12_told l G cy ad 0 (xs (i.toInt.toNat + 1)) M2_ hD1_) kV_X12_told pnn_17 (Nat.le_of_ble_eq_true rfl) m_1866 rfl rfl rfl (by decide) (Nat.le_of_ble_eq_true rfl) (Nat.le_of_ble_eq_true rfl) dL_law_1724 (fun r4_ M5_ q6_ => ?_)
  obtain ⟨hI2_, hF2_, -, hs2_⟩ := q6_
  have e2_ : (mgD M5_ M2_).1 = M5_.1 := mgD_self hF2_ SD_X12_told
  have hI9_ : Inv (mgD M5_ M2_) := mgD_I hI1_
  have hD9_ : InvD (mgD M5_ M2_) := mgD_D hI2_
  have st_ := sy_40 hR hD hD1_ hI2_ hF1_ hs1_ hF2_ hs2_
  refine wl_pop X dL_law_1727 ?_
  refine wl_goto X (tgt := 1731) dL_law_1728 (by decide) ?_
  exact hend _ hI9_ hD9_ (by rw [e2_]; exact st_.1)
end
