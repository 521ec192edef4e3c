set_option maxHeartbeats 4000000 in
set_option maxRecDepth 100000 in
theorem law_case_0 {p : Program} {l : Launch} {e : Env} {s : State} {m : MethodId} {below : List Frame} {meth : Method} {c : Code} {b L : Nat} {xs : Nat → Int32} {A : Nat → Prop} {G : va_G} {cy : Nat → ClassId} {ad : rf → Nat} {ce sl : Nat} {Z : State → Prop} (X : LX p s m c b L xs A G cy ad ce sl) {i : Int32} {M : mM} (hI : Inv M) (hD : InvD M) (hR : RY M.1) (hi : 0 ≤ i.toInt ∧ i.toInt + 6 ≤ (L : Int)) (hend : ∀ M' : mM, Inv M' → InvD M' → RY M'.1 → WL p l e s m below meth c b A G cy ad ce sl Z 1731 [(3, vI i), (0, vR (94, 0, 0)), (1, vR (11, 0, 0)), (2, vR (12, 0, 0))] [] M') : WL p l e s m below meth c b A G cy ad ce sl Z 212 [(3, vI i), (0, vR (94, 0, 0)), (1, vR (11, 0, 0)), (2, vR (12, 0, 0))] [] M := by
  refine wl_aload_n X dL_law_212 rfl 2 rfl ?_
  refine wl_arg X 1 hi (by decide) (v := 1) (by decide) (ki := 1) (by decide) 1 0 rfl rfl dL_law_213 dL_law_214 dL_law_215 dL_law_216 dL_law_217 ?_
  refine wl_arg X 2 hi (by decide) (v := 2) (by decide) (ki := 2) (by decide) 1 0 rfl rfl dL_law_218 dL_law_219 dL_law_220 dL_law_221 dL_law_222 ?_
  refine wl_callC X (as := [vI (xs (i.toInt.toNat + 1)), vI (xs (i.toInt.toNat + 2))]) (rest := []) (c_X11_thing l G cy ad 0 (xs (i.toInt.toNat + 1)) (xs (i.toInt.toNat + 2)) M hI) kV_X11_thing (by decide +kernel) (Nat.le_of_ble_eq_true rfl) m_487 rfl rfl rfl (by decide) (Nat.le_of_ble_eq_true rfl) (Nat.le_of_ble_eq_true rfl) dL_law_223 (fun r1_ M2_ q3_ => ?_)
  obtain ⟨hI1_, hF1_, -, hs1_⟩ := q3_
  have e1_ : mgC M2_ M = M2_ := mgC_self hF1_ SC_X11_thing
  rw [e1_]
  have hD1_ : InvD M2_ := e1_ ▸ mgC_D (M' := M2_) hD
  refine wl_pop X dL_law_226 ?_
  refine wl_aload_n X dL_law_227 rfl 3 rfl ?_
  refine wl_arg X 1 hi (by decide) (v := 1) (by decide) (ki := 1) (by decide) 1 0 rfl rfl dL_law_228 dL_law_229 dL_law_230 dL_law_231 dL_law_232 ?_
  refine wl_arg X 2 hi (by decide) (v := 2) (by decide) (ki := 2) (by decide) 1 0 rfl rfl dL_law_233 dL_law_234 dL_law_235 dL_law_236 dL_law_237 ?_
  refine wl_callD X (as := [vI (xs (i.toInt.toNat + 1)), vI (xs (i.toInt.toNat + 2))]) (rest := []) (c_X12_thing_ l G cy ad 0 (xs (i.toInt.toNat + 1)) (xs (i.toInt.toNat + 2)) M2_ hD1_) kV_X12_thing_ (by decide +kernel) (Nat.le_of_ble_eq_true rfl) m_1423 rfl rfl rfl (by decide) (Nat.le_of_ble_eq_true rfl) (Nat.le_of_ble_eq_true rfl) dL_law_238 (fun r4_ M5_ q6_ => ?_)
  obtain ⟨hI2_, hF2_, -, hs2_⟩ := q6_
  have e2_ : (mgD M5_ M2_).1 = M5_.1 := mgD_self hF2_ SD_X12_thing_
  have hI9_ : Inv (mgD M5_ M2_) := mgD_I hI1_
  have hD9_ : InvD (mgD M5_ M2_) := mgD_D hI2_
  have st_ := sy_0 hR hD hD1_ hI2_ hF1_ hs1_ hF2_ hs2_
  refine wl_pop X dL_law_241 ?_
  refine wl_goto X (tgt := 1731) dL_law_242 (by decide) ?_
  exact hend _ hI9_ hD9_ (by rw [e2_]; exact st_.1)
set_option maxHeartbeats 4000000 in
set_option maxRecDepth 100000 in
theorem law_case_1 {p : Program} {l : Launch} {e : Env} {s : State} {m : MethodId} {below : List Frame} {meth : Method} {c : Code} {b L : Nat} {xs : Nat → Int32} {A : Nat → Prop} {G : va_G} {cy : Nat → ClassId} {ad : rf → Nat} {ce sl : Nat} {Z : State → Prop} (X : LX p s m c b L xs A G cy ad ce sl) {i : Int32} {M : mM} (hI : Inv M) (hD : InvD M) (hR : RY M.1) (hi : 0 ≤ i.toInt ∧ i.toInt + 6 ≤ (L : Int)) (hend : ∀ M' : mM, Inv M' → InvD M' → RY M'.1 → WL p l e s m below meth c b A G cy ad ce sl Z 1731 [(3, vI i), (0, vR (94, 0, 0)), (1, vR (11, 0, 0)), (2, vR (12, 0, 0))] [] M') : WL p l e s m below meth c b A G cy ad ce sl Z 245 [(3, vI i), (0, vR (94, 0, 0)), (1, vR (11, 0, 0)), (2, vR (12, 0, 0))] [] M := by
  refine wl_aload_n X dL_law_245 rfl 2 rfl ?_
  refine wl_arg X 1 hi (by decide) (v := 1) (by decide) (ki := 1) (by decide) 1 0 rfl rfl dL_law_246 dL_law_247 dL_law_248 dL_law_249 dL_law_250 ?_
  refine wl_arg X 2 hi (by decide) (v := 2) (by decide) (ki := 2) (by decide) 1 0 rfl rfl dL_law_251 dL_law_252 dL_law_253 dL_law_254 dL_law_255 ?_
  refine wl_callC X (as := [vI (xs (i.toInt.toNat + 1)), vI (xs (i.toInt.toNat + 2))]) (rest := []) (c_X11_thingIs l G cy ad 0 (xs (i.toInt.toNat + 1)) (xs (i.toInt.toNat + 2)) M hI) kV_X11_thingIs (by decide +kernel) (Nat.le_of_ble_eq_true rfl) m_522 rfl rfl rfl (by decide) (Nat.le_of_ble_eq_true rfl) (Nat.le_of_ble_eq_true rfl) dL_law_256 (fun r1_ M2_ q3_ => ?_)
  obtain ⟨hI1_, hF1_, -, hs1_⟩ := q3_
  have e1_ : mgC M2_ M = M2_ := mgC_self hF1_ SC_X11_thingIs
  rw [e1_]
  have hD1_ : InvD M2_ := e1_ ▸ mgC_D (M' := M2_) hD
  refine wl_pop X dL_law_259 ?_
  refine wl_aload_n X dL_law_260 rfl 3 rfl ?_
  refine wl_arg X 1 hi (by decide) (v := 1) (by decide) (ki := 1) (by decide) 1 0 rfl rfl dL_law_261 dL_law_262 dL_law_263 dL_law_264 dL_law_265 ?_
  refine wl_arg X 2 hi (by decide) (v := 2) (by decide) (ki := 2) (by decide) 1 0 rfl rfl dL_law_266 dL_law_267 dL_law_268 dL_law_269 dL_law_270 ?_
  refine wl_callD X (as := [vI (xs (i.toInt.toNat + 1)), vI (xs (i.toInt.toNat + 2))]) (rest := []) (c_X12_thingIs l G cy ad 0 (xs (i.toInt.toNat + 1)) (xs (i.toInt.toNat + 2)) M2_ hD1_) kV_X12_thingIs (by decide +kernel) (Nat.le_of_ble_eq_true rfl) m_1461 rfl rfl rfl (by decide) (Nat.le_of_ble_eq_true rfl) (Nat.le_of_ble_eq_true rfl) dL_law_271 (fun r4_ M5_ q6_ => ?_)
  obtain ⟨hI2_, hF2_, -, hs2_⟩ := q6_
  have e2_ : (mgD M5_ M2_).1 = M5_.1 := mgD_self hF2_ SD_X12_thingIs
  have hI9_ : Inv (mgD M5_ M2_) := mgD_I hI1_
  have hD9_ : InvD (mgD M5_ M2_) := mgD_D hI2_
  have st_ := sy_1 hR hD hD1_ hI2_ hF1_ hs1_ hF2_ hs2_
  refine wl_pop X dL_law_274 ?_
  refine wl_goto X (tgt := 1731) dL_law_275 (by decide) ?_
  exact hend _ hI9_ hD9_ (by rw [e2_]; exact st_.1)
set_option maxHeartbeats 4000000 in
set_option maxRecDepth 100000 in
theorem law_case_2 {p : Program} {l : Launch} {e : Env} {s : State} {m : MethodId} {below : List Frame} {meth : Method} {c : Code} {b L : Nat} {xs : Nat → Int32} {A : Nat → Prop} {G : va_G} {cy : Nat → ClassId} {ad : rf → Nat} {ce sl : Nat} {Z : State → Prop} (X : LX p s m c b L xs A G cy ad ce sl) {i : Int32} {M : mM} (hI : Inv M) (hD : InvD M) (hR : RY M.1) (hi : 0 ≤ i.toInt ∧ i.toInt + 6 ≤ (L : Int)) (hend : ∀ M' : mM, Inv M' → InvD M' → RY M'.1 → WL p l e s m below meth c b A G cy ad ce sl Z 1731 [(3, vI i), (0, vR (94, 0, 0)), (1, vR (11, 0, 0)), (2, vR (12, 0, 0))] [] M') : WL p l e s m below meth c b A G cy ad ce sl Z 278 [(3, vI i), (0, vR (94, 0, 0)), (1, vR (11, 0, 0)), (2, vR (12, 0, 0))] [] M := by
  refine wl_aload_n X dL_law_278 rfl 2 rfl ?_
  refine wl_arg X 1 hi (by decide) (v := 1) (by decide) (ki := 1) (by decide) 1 0 rfl rfl dL_law_279 dL_law_280 dL_law_281 dL_law_282 dL_law_283 ?_
  refine wl_arg X 2 hi (by decide) (v := 2) (by decide) (ki := 2) (by decide) 1 0 rfl rfl dL_law_284 dL_law_285 dL_law_286 dL_law_287 dL_law_288 ?_
  refine wl_arg X 3 hi (by decide) (v := 3) (by decide) (ki := 3) (by decide) 1 0 rfl rfl dL_law_289 dL_law_290 dL_law_291 dL_law_292 dL_law_293 ?_
  refine wl_callC X (as := [vI (xs (i.toInt.toNat + 1)), vI (xs (i.toInt.toNat + 2)), vI (xs (i.toInt.toNat + 3))]) (rest := []) (c_X11_moves l G cy ad 0 (xs (i.toInt.toNat + 1)) (xs (i.toInt.toNat + 2)) (xs (i.toInt.toNat + 3)) M hI) kV_X11_moves (by decide +kernel) (Nat.le_of_ble_eq_true rfl) m_535 rfl rfl rfl (by decide) (Nat.le_of_ble_eq_true rfl) (Nat.le_of_ble_eq_true rfl) dL_law_294 (fun r1_ M2_ q3_ => ?_)
  obtain ⟨hI1_, hF1_, -, hs1_⟩ := q3_
  have e1_ : mgC M2_ M = M2_ := mgC_self hF1_ SC_X11_moves
  rw [e1_]
  have hD1_ : InvD M2_ := e1_ ▸ mgC_D (M' := M2_) hD
  refine wl_pop X dL_law_297 ?_
  refine wl_aload_n X dL_law_298 rfl 3 rfl ?_
  refine wl_arg X 1 hi (by decide) (v := 1) (by decide) (ki := 1) (by decide) 1 0 rfl rfl dL_law_299 dL_law_300 dL_law_301 dL_law_302 dL_law_303 ?_
  refine wl_arg X 2 hi (by decide) (v := 2) (by decide) (ki := 2) (by decide) 1 0 rfl rfl dL_law_304 dL_law_305 dL_law_306 dL_law_307 dL_law_308 ?_
  refine wl_arg X 3 hi (by decide) (v := 3) (by decide) (ki := 3) (by decide) 1 0 rfl rfl dL_law_309 dL_law_310 dL_law_311 dL_law_312 dL_law_313 ?_
  refine wl_callD X (as := [vI (xs (i.toInt.toNat + 1)), vI (xs (i.toInt.toNat + 2)), vI (xs (i.toInt.toNat + 3))]) (rest := []) (c_X12_moves l G cy ad 0 (xs (i.toInt.toNat + 1)) (xs (i.toInt.toNat + 2)) (xs (i.toInt.toNat + 3)) M2_ hD1_) kV_X12_moves (by decide +kernel) (Nat.le_of_ble_eq_true rfl) m_1469 rfl rfl rfl (by decide) (Nat.le_of_ble_eq_true rfl) (Nat.le_of_ble_eq_true rfl) dL_law_314 (fun r4_ M5_ q6_ => ?_)
  obtain ⟨hI2_, hF2_, -, hs2_⟩ := q6_
  have e2_ : (mgD M5_ M2_).1 = M5_.1 := mgD_self hF2_ SD_X12_moves
  have hI9_ : Inv (mgD M5_ M2_) := mgD_I hI1_
  have hD9_ : InvD (mgD M5_ M2_) := mgD_D hI2_
  have st_ := sy_2 hR hD hD1_ hI2_ hF1_ hs1_ hF2_ hs2_
  refine wl_pop X dL_law_317 ?_
  refine wl_goto X (tgt := 1731) dL_law_318 (by decide) ?_
  exact hend _ hI9_ hD9_ (by rw [e2_]; exact st_.1)
set_option maxHeartbeats 4000000 in
set_option maxRecDepth 100000 in
theorem law_case_3 {p : Program} {l : Launch} {e : Env} {s : State} {m : MethodId} {below : List Frame} {meth : Method} {c : Code} {b L : Nat} {xs : Nat → Int32} {A : Nat → Prop} {G : va_G} {cy : Nat → ClassId} {ad : rf → Nat} {ce sl : Nat} {Z : State → Prop} (X : LX p s m c b L xs A G cy ad ce sl) {i : Int32} {M : mM} (hI : Inv M) (hD : InvD M) (hR : RY M.1) (hi : 0 ≤ i.toInt ∧ i.toInt + 6 ≤ (L : Int)) (hend : ∀ M' : mM, Inv M' → InvD M' → RY M'.1 → WL p l e s m below meth c b A G cy ad ce sl Z 1731 [(3, vI i), (0, vR (94, 0, 0)), (1, vR (11, 0, 0)), (2, vR (12, 0, 0))] [] M') : WL p l e s m below meth c b A G cy ad ce sl Z 321 [(3, vI i), (0, vR (94, 0, 0)), (1, vR (11, 0, 0)), (2, vR (12, 0, 0))] [] M := by
  refine wl_aload_n X dL_law_321 rfl 2 rfl ?_
  refine wl_arg X 1 hi (by decide) (v := 1) (by decide) (ki := 1) (by decide) 1 0 rfl rfl dL_law_322 dL_law_323 dL_law_324 dL_law_325 dL_law_326 ?_
  refine wl_callC X (as := [vI (xs (i.toInt.toNat + 1))]) (rest := []) (c_X11_away l G cy ad 0 (xs (i.toInt.toNat + 1)) M hI) kV_X11_away (by decide +kernel) (Nat.le_of_ble_eq_true rfl) m_542 rfl rfl rfl (by decide) (Nat.le_of_ble_eq_true rfl) (Nat.le_of_ble_eq_true rfl) dL_law_327 (fun r1_ M2_ q3_ => ?_)
  obtain ⟨hI1_, hF1_, -, hs1_⟩ := q3_
  have e1_ : mgC M2_ M = M2_ := mgC_self hF1_ SC_X11_away
  rw [e1_]
  have hD1_ : InvD M2_ := e1_ ▸ mgC_D (M' := M2_) hD
  refine wl_aload_n X dL_law_330 rfl 3 rfl ?_
  refine wl_arg X 1 hi (by decide) (v := 1) (by decide) (ki := 1) (by decide) 1 0 rfl rfl dL_law_331 dL_law_332 dL_law_333 dL_law_334 dL_law_335 ?_
  refine wl_callD X (as := [vI (xs (i.toInt.toNat + 1))]) (rest := [vI r1_]) (c_X12_away l G cy ad 0 (xs (i.toInt.toNat + 1)) M2_ hD1_) kV_X12_away (by decide +kernel) (Nat.le_of_ble_eq_true rfl) m_1477 rfl rfl rfl (by decide) (Nat.le_of_ble_eq_true rfl) (Nat.le_of_ble_eq_true rfl) dL_law_336 (fun r4_ M5_ q6_ => ?_)
  obtain ⟨hI2_, hF2_, -, hs2_⟩ := q6_
  have e2_ : (mgD M5_ M2_).1 = M5_.1 := mgD_self hF2_ SD_X12_away
  have hI9_ : Inv (mgD M5_ M2_) := mgD_I hI1_
  have hD9_ : InvD (mgD M5_ M2_) := mgD_D hI2_
  have st_ := sy_3 hR hD hD1_ hI2_ hF1_ hs1_ hF2_ hs2_
  refine wl_icmp_eq X (tgt := 1731) dL_law_339 (by decide) (congrArg Int32.toInt st_.2) ?_
  exact hend _ hI9_ hD9_ (by rw [e2_]; exact st_.1)
set_option maxHeartbeats 4000000 in
set_option maxRecDepth 100000 in
theorem law_case_4 {p : Program} {l : Launch} {e : Env} {s : State} {m : MethodId} {below : List Frame} {meth : Method} {c : Code} {b L : Nat} {xs : Nat → Int32} {A : Nat → Prop} {G : va_G} {cy : Nat → ClassId} {ad : rf → Nat} {ce sl : Nat} {Z : State → Prop} (X : LX p s m c b L xs A G cy ad ce sl) {i : Int32} {M : mM} (hI : Inv M) (hD : InvD M) (hR : RY M.1) (hi : 0 ≤ i.toInt ∧ i.toInt + 6 ≤ (L : Int)) (hend : ∀ M' : mM, Inv M' → InvD M' → RY M'.1 → WL p l e s m below meth c b A G cy ad ce sl Z 1731 [(3, vI i), (0, vR (94, 0, 0)), (1, vR (11, 0, 0)), (2, vR (12, 0, 0))] [] M') : WL p l e s m below meth c b A G cy ad ce sl Z 344 [(3, vI i), (0, vR (94, 0, 0)), (1, vR (11, 0, 0)), (2, vR (12, 0, 0))] [] M := by
  refine wl_aload_n X dL_law_344 rfl 2 rfl ?_
  refine wl_arg X 1 hi (by decide) (v := 1) (by decide) (ki := 1) (by decide) 1 0 rfl rfl dL_law_345 dL_law_346 dL_law_347 dL_law_348 dL_law_349 ?_
  refine wl_arg X 2 hi (by decide) (v := 2) (by decide) (ki := 2) (by decide) 1 0 rfl rfl dL_law_350 dL_law_351 dL_law_352 dL_law_353 dL_law_354 ?_
  refine wl_arg X 3 hi (by decide) (v := 3) (by decide) (ki := 3) (by decide) 1 0 rfl rfl dL_law_355 dL_law_356 dL_law_357 dL_law_358 dL_law_359 ?_
  refine wl_callC X (as := [vI (xs (i.toInt.toNat + 1)), vI (xs (i.toInt.toNat + 2)), vI (xs (i.toInt.toNat + 3))]) (rest := []) (c_X11_kind l G cy ad 0 (xs (i.toInt.toNat + 1)) (xs (i.toInt.toNat + 2)) (xs (i.toInt.toNat + 3)) M hI) kV_X11_kind (by decide +kernel) (Nat.le_of_ble_eq_true rfl) m_550 rfl rfl rfl (by decide) (Nat.le_of_ble_eq_true rfl) (Nat.le_of_ble_eq_true rfl) dL_law_360 (fun r1_ M2_ q3_ => ?_)
  obtain ⟨hI1_, hF1_, -, hs1_⟩ := q3_
  have e1_ : mgC M2_ M = M2_ := mgC_self hF1_ SC_X11_kind
  rw [e1_]
  have hD1_ : InvD M2_ := e1_ ▸ mgC_D (M' := M2_) hD
  refine wl_pop X dL_law_363 ?_
  refine wl_aload_n X dL_law_364 rfl 3 rfl ?_
  refine wl_arg X 1 hi (by decide) (v := 1) (by decide) (ki := 1) (by decide) 1 0 rfl rfl dL_law_365 dL_law_366 dL_law_367 dL_law_368 dL_law_369 ?_
  refine wl_arg X 2 hi (by decide) (v := 2) (by decide) (ki := 2) (by decide) 1 0 rfl rfl dL_law_370 dL_law_371 dL_law_372 dL_law_373 dL_law_374 ?_
  refine wl_arg X 3 hi (by decide) (v := 3) (by decide) (ki := 3) (by decide) 1 0 rfl rfl dL_law_375 dL_law_376 dL_law_377 dL_law_378 dL_law_379 ?_
  refine wl_callD X (as := [vI (xs (i.toInt.toNat + 1)), vI (xs (i.toInt.toNat + 2)), vI (xs (i.toInt.toNat + 3))]) (rest := []) (c_X12_kind l G cy ad 0 (xs (i.toInt.toNat + 1)) (xs (i.toInt.toNat + 2)) (xs (i.toInt.toNat + 3)) M2_ hD1_) kV_X12_kind (by decide +kernel) (Nat.le_of_ble_eq_true rfl) m_1485 rfl rfl rfl (by decide) (Nat.le_of_ble_eq_true rfl) (Nat.le_of_ble_eq_true rfl) dL_law_380 (fun r4_ M5_ q6_ => ?_)
  obtain ⟨hI2_, hF2_, -, hs2_⟩ := q6_
  have e2_ : (mgD M5_ M2_).1 = M5_.1 := mgD_self hF2_ SD_X12_kind
  have hI9_ : Inv (mgD M5_ M2_) := mgD_I hI1_
  have hD9_ : InvD (mgD M5_ M2_) := mgD_D hI2_
  have st_ := sy_4 hR hD hD1_ hI2_ hF1_ hs1_ hF2_ hs2_
  refine wl_pop X dL_law_383 ?_
  refine wl_goto X (tgt := 1731) dL_law_384 (by decide) ?_
  exact hend _ hI9_ hD9_ (by rw [e2_]; exact st_.1)
set_option maxHeartbeats 4000000 in
set_option maxRecDepth 100000 in
theorem law_case_5 {p : Program} {l : Launch} {e : Env} {s : State} {m : MethodId} {below : List Frame} {meth : Method} {c : Code} {b L : Nat} {xs : Nat → Int32} {A : Nat → Prop} {G : va_G} {cy : Nat → ClassId} {ad : rf → Nat} {ce sl : Nat} {Z : State → Prop} (X : LX p s m c b L xs A G cy ad ce sl) {i : Int32} {M : mM} (hI : Inv M) (hD : InvD M) (hR : RY M.1) (hi : 0 ≤ i.toInt ∧ i.toInt + 6 ≤ (L : Int)) (hend : ∀ M' : mM, Inv M' → InvD M' → RY M'.1 → WL p l e s m below meth c b A G cy ad ce sl Z 1731 [(3, vI i), (0, vR (94, 0, 0)), (1, vR (11, 0, 0)), (2, vR (12, 0, 0))] [] M') : WL p l e s m below meth c b A G cy ad ce sl Z 387 [(3, vI i), (0, vR (94, 0, 0)), (1, vR (11, 0, 0)), (2, vR (12, 0, 0))] [] M := by
  refine wl_aload_n X dL_law_387 rfl 2 rfl ?_
  refine wl_arg X 1 hi (by decide) (v := 1) (by decide) (ki := 1) (by decide) 1 0 rfl rfl dL_law_388 dL_law_389 dL_law_390 dL_law_391 dL_law_392 ?_
  refine wl_callC X (as := [vI (xs (i.toInt.toNat + 1))]) (rest := []) (c_X11_at l G cy ad 0 (xs (i.toInt.toNat + 1)) M hI) kV_X11_at (by decide +kernel) (Nat.le_of_ble_eq_true rfl) m_558 rfl rfl rfl (by decide) (Nat.le_of_ble_eq_true rfl) (Nat.le_of_ble_eq_true rfl) dL_law_393 (fun r1_ M2_ q3_ => ?_)
  obtain ⟨hI1_, hF1_, -, hs1_⟩ := q3_
  have e1_ : mgC M2_ M = M2_ := mgC_self hF1_ SC_X11_at
  rw [e1_]
  have hD1_ : InvD M2_ := e1_ ▸ mgC_D (M' := M2_) hD
  refine wl_pop X dL_law_396 ?_
  refine wl_aload_n X dL_law_397 rfl 3 rfl ?_
  refine wl_arg X 1 hi (by decide) (v := 1) (by decide) (ki := 1) (by decide) 1 0 rfl rfl dL_law_398 dL_law_399 dL_law_400 dL_law_401 dL_law_402 ?_
  refine wl_callD X (as := [vI (xs (i.toInt.toNat + 1))]) (rest := []) (c_X12_at l G cy ad 0 (xs (i.toInt.toNat + 1)) M2_ hD1_) kV_X12_at (by decide +kernel) (Nat.le_of_ble_eq_true rfl) m_1489 rfl rfl rfl (by decide) (Nat.le_of_ble_eq_true rfl) (Nat.le_of_ble_eq_true rfl) dL_law_403 (fun r4_ M5_ q6_ => ?_)
  obtain ⟨hI2_, hF2_, -, hs2_⟩ := q6_
  have e2_ : (mgD M5_ M2_).1 = M5_.1 := mgD_self hF2_ SD_X12_at
  have hI9_ : Inv (mgD M5_ M2_) := mgD_I hI1_
  have hD9_ : InvD (mgD M5_ M2_) := mgD_D hI2_
  have st_ := sy_5 hR hD hD1_ hI2_ hF1_ hs1_ hF2_ hs2_
  refine wl_pop X dL_law_406 ?_
  refine wl_goto X (tgt := 1731) dL_law_407 (by decide) ?_
  exact hend _ hI9_ hD9_ (by rw [e2_]; exact st_.1)
set_option maxHeartbeats 4000000 in
set_option maxRecDepth 100000 in
theorem law_case_6 {p : Program} {l : Launch} {e : Env} {s : State} {m : MethodId} {below : List Frame} {meth : Method} {c : Code} {b L : Nat} {xs : Nat → Int32} {A : Nat → Prop} {G : va_G} {cy : Nat → ClassId} {ad : rf → Nat} {ce sl : Nat} {Z : State → Prop} (X : LX p s m c b L xs A G cy ad ce sl) {i : Int32} {M : mM} (hI : Inv M) (hD : InvD M) (hR : RY M.1) (hi : 0 ≤ i.toInt ∧ i.toInt + 6 ≤ (L : Int)) (hend : ∀ M' : mM, Inv M' → InvD M' → RY M'.1 → WL p l e s m below meth c b A G cy ad ce sl Z 1731 [(3, vI i), (0, vR (94, 0, 0)), (1, vR (11, 0, 0)), (2, vR (12, 0, 0))] [] M') : WL p l e s m below meth c b A G cy ad ce sl Z 410 [(3, vI i), (0, vR (94, 0, 0)), (1, vR (11, 0, 0)), (2, vR (12, 0, 0))] [] M := by
  refine wl_aload_n X dL_law_410 rfl 2 rfl ?_
  refine wl_arg X 1 hi (by decide) (v := 1) (by decide) (ki := 1) (by decide) 1 0 rfl rfl dL_law_411 dL_law_412 dL_law_413 dL_law_414 dL_law_415 ?_
  refine wl_arg X 2 hi (by decide) (v := 2) (by decide) (ki := 2) (by decide) 1 0 rfl rfl dL_law_416 dL_law_417 dL_law_418 dL_law_419 dL_law_420 ?_
  refine wl_callC X (as := [vI (xs (i.toInt.toNat + 1)), vI (xs (i.toInt.toNat + 2))]) (rest := []) (c_X11_lays l G cy ad 0 (xs (i.toInt.toNat + 1)) (xs (i.toInt.toNat + 2)) M hI) kV_X11_lays (by decide +kernel) (Nat.le_of_ble_eq_true rfl) m_562 rfl rfl rfl (by decide) (Nat.le_of_ble_eq_true rfl) (Nat.le_of_ble_eq_true rfl) dL_law_421 (fun r1_ M2_ q3_ => ?_)
  obtain ⟨hI1_, hF1_, -, hs1_⟩ := q3_
  have e1_ : mgC M2_ M = M2_ := mgC_self hF1_ SC_X11_lays
  rw [e1_]
  have hD1_ : InvD M2_ := e1_ ▸ mgC_D (M' := M2_) hD
  refine wl_pop X dL_law_424 ?_
  refine wl_aload_n X dL_law_425 rfl 3 rfl ?_
  refine wl_arg X 1 hi (by decide) (v := 1) (by decide) (ki := 1) (by decide) 1 0 rfl rfl dL_law_426 dL_law_427 dL_law_428 dL_law_429 dL_law_430 ?_
  refine wl_arg X 2 hi (by decide) (v := 2) (by decide) (ki := 2) (by decide) 1 0 rfl rfl dL_law_431 dL_law_432 dL_law_433 dL_law_434 dL_law_435 ?_
  refine wl_callD X (as := [vI (xs (i.toInt.toNat + 1)), vI (xs (i.toInt.toNat + 2))]) (rest := []) (c_X12_lays l G cy ad 0 (xs (i.toInt.toNat + 1)) (xs (i.toInt.toNat + 2)) M2_ hD1_) kV_X12_lays (by decide +kernel) (Nat.le_of_ble_eq_true rfl) m_1493 rfl rfl rfl (by decide) (Nat.le_of_ble_eq_true rfl) (Nat.le_of_ble_eq_true rfl) dL_law_436 (fun r4_ M5_ q6_ => ?_)
  obtain ⟨hI2_, hF2_, -, hs2_⟩ := q6_
  have e2_ : (mgD M5_ M2_).1 = M5_.1 := mgD_self hF2_ SD_X12_lays
  have hI9_ : Inv (mgD M5_ M2_) := mgD_I hI1_
  have hD9_ : InvD (mgD M5_ M2_) := mgD_D hI2_
  have st_ := sy_6 hR hD hD1_ hI2_ hF1_ hs1_ hF2_ hs2_
  refine wl_pop X dL_law_439 ?_
  refine wl_goto X (tgt := 1731) dL_law_440 (by decide) ?_
  exact hend _ hI9_ hD9_ (by rw [e2_]; exact st_.1)
set_option maxHeartbeats 4000000 in
set_option maxRecDepth 100000 in
theorem law_case_7 {p : Program} {l : Launch} {e : Env} {s : State} {m : MethodId} {below : List Frame} {meth : Method} {c : Code} {b L : Nat} {xs : Nat → Int32} {A : Nat → Prop} {G : va_G} {cy : Nat → ClassId} {ad : rf → Nat} {ce sl : Nat} {Z : State → Prop} (X : LX p s m c b L xs A G cy ad ce sl) {i : Int32} {M : mM} (hI : Inv M) (hD : InvD M) (hR : RY M.1) (hi : 0 ≤ i.toInt ∧ i.toInt + 6 ≤ (L : Int)) (hend : ∀ M' : mM, Inv M' → InvD M' → RY M'.1 → WL p l e s m below meth c b A G cy ad ce sl Z 1731 [(3, vI i), (0, vR (94, 0, 0)), (1, vR (11, 0, 0)), (2, vR (12, 0, 0))] [] M') : WL p l e s m below meth c b A G cy ad ce sl Z 443 [(3, vI i), (0, vR (94, 0, 0)), (1, vR (11, 0, 0)), (2, vR (12, 0, 0))] [] M := by
  refine wl_aload_n X dL_law_443 rfl 2 rfl ?_
  refine wl_arg X 1 hi (by decide) (v := 1) (by decide) (ki := 1) (by decide) 1 0 rfl rfl dL_law_444 dL_law_445 dL_law_446 dL_law_447 dL_law_448 ?_
  refine wl_arg X 2 hi (by decide) (v := 2) (by decide) (ki := 2) (by decide) 1 0 rfl rfl dL_law_449 dL_law_450 dL_law_451 dL_law_452 dL_law_453 ?_
  refine wl_callC X (as := [vI (xs (i.toInt.toNat + 1)), vI (xs (i.toInt.toNat + 2))]) (rest := []) (c_X11_air l G cy ad 0 (xs (i.toInt.toNat + 1)) (xs (i.toInt.toNat + 2)) M hI) kV_X11_air (by decide +kernel) (Nat.le_of_ble_eq_true rfl) m_581 rfl rfl rfl (by decide) (Nat.le_of_ble_eq_true rfl) (Nat.le_of_ble_eq_true rfl) dL_law_454 (fun r1_ M2_ q3_ => ?_)
  obtain ⟨hI1_, hF1_, -, hs1_⟩ := q3_
  have e1_ : mgC M2_ M = M2_ := mgC_self hF1_ SC_X11_air
  rw [e1_]
  have hD1_ : InvD M2_ := e1_ ▸ mgC_D (M' := M2_) hD
  refine wl_pop X dL_law_457 ?_
  refine wl_aload_n X dL_law_458 rfl 3 rfl ?_
  refine wl_arg X 1 hi (by decide) (v := 1) (by decide) (ki := 1) (by decide) 1 0 rfl rfl dL_law_459 dL_law_460 dL_law_461 dL_law_462 dL_law_463 ?_
  refine wl_arg X 2 hi (by decide) (v := 2) (by decide) (ki := 2) (by decide) 1 0 rfl rfl dL_law_464 dL_law_465 dL_law_466 dL_law_467 dL_law_468 ?_
  refine wl_callD X (as := [vI (xs (i.toInt.toNat + 1)), vI (xs (i.toInt.toNat + 2))]) (rest := []) (c_X12_air l G cy ad 0 (xs (i.toInt.toNat + 1)) (xs (i.toInt.toNat + 2)) M2_ hD1_) kV_X12_air (by decide +kernel) (Nat.le_of_ble_eq_true rfl) m_1501 rfl rfl rfl (by decide) (Nat.le_of_ble_eq_true rfl) (Nat.le_of_ble_eq_true rfl) dL_law_469 (fun r4_ M5_ q6_ => ?_)
  obtain ⟨hI2_, hF2_, -, hs2_⟩ := q6_
  have e2_ : (mgD M5_ M2_).1 = M5_.1 := mgD_self hF2_ SD_X12_air
  have hI9_ : Inv (mgD M5_ M2_) := mgD_I hI1_
  have hD9_ : InvD (mgD M5_ M2_) := mgD_D hI2_
  have st_ := sy_7 hR hD hD1_ hI2_ hF1_ hs1_ hF2_ hs2_
  refine wl_pop X dL_law_472 ?_
  refine wl_goto X (tgt := 1731) dL_law_473 (by decide) ?_
  exact hend _ hI9_ hD9_ (by rw [e2_]; exact st_.1)
set_option maxHeartbeats 4000000 in
set_option maxRecDepth 100000 in
theorem law_case_8 {p : Program} {l : Launch} {e : Env} {s : State} {m : MethodId} {below : List Frame} {meth : Method} {c : Code} {b L : Nat} {xs : Nat → Int32} {A : Nat → Prop} {G : va_G} {cy : Nat → ClassId} {ad : rf → Nat} {ce sl : Nat} {Z : State → Prop} (X : LX p s m c b L xs A G cy ad ce sl) {i : Int32} {M : mM} (hI : Inv M) (hD : InvD M) (hR : RY M.1) (hi : 0 ≤ i.toInt ∧ i.toInt + 6 ≤ (L : Int)) (hend : ∀ M' : mM, Inv M' → InvD M' → RY M'.1 → WL p l e s m below meth c b A G cy ad ce sl Z 1731 [(3, vI i), (0, vR (94, 0, 0)), (1, vR (11, 0, 0)), (2, vR (12, 0, 0))] [] M') : WL p l e s m below meth c b A G cy ad ce sl Z 476 [(3, vI i), (0, vR (94, 0, 0)), (1, vR (11, 0, 0)), (2, vR (12, 0, 0))] [] M := by
  refine wl_aload_n X dL_law_476 rfl 2 rfl ?_
  refine wl_arg X 1 hi (by decide) (v := 1) (by decide) (ki := 1) (by decide) 1 0 rfl rfl dL_law_477 dL_law_478 dL_law_479 dL_law_480 dL_law_481 ?_
  refine wl_arg X 2 hi (by decide) (v := 2) (by decide) (ki := 2) (by decide) 1 0 rfl rfl dL_law_482 dL_law_483 dL_law_484 dL_law_485 dL_law_486 ?_
  refine wl_arg X 3 hi (by decide) (v := 3) (by decide) (ki := 3) (by decide) 1 0 rfl rfl dL_law_487 dL_law_488 dL_law_489 dL_law_490 dL_law_491 ?_
  refine wl_callC X (as := [vI (xs (i.toInt.toNat + 1)), vI (xs (i.toInt.toNat + 2)), vI (xs (i.toInt.toNat + 3))]) (rest := []) (c_X11_walker l G cy ad 0 (xs (i.toInt.toNat + 1)) (xs (i.toInt.toNat + 2)) (xs (i.toInt.toNat + 3)) M hI) kV_X11_walker (by decide +kernel) (Nat.le_of_ble_eq_true rfl) m_589 rfl rfl rfl (by decide) (Nat.le_of_ble_eq_true rfl) (Nat.le_of_ble_eq_true rfl) dL_law_492 (fun r1_ M2_ q3_ => ?_)
  obtain ⟨hI1_, hF1_, -, hs1_⟩ := q3_
  have e1_ : mgC M2_ M = M2_ := mgC_self hF1_ SC_X11_walker
  rw [e1_]
  have hD1_ : InvD M2_ := e1_ ▸ mgC_D (M' := M2_) hD
  refine wl_pop X dL_law_495 ?_
  refine wl_aload_n X dL_law_496 rfl 3 rfl ?_
  refine wl_arg X 1 hi (by decide) (v := 1) (by decide) (ki := 1) (by decide) 1 0 rfl rfl dL_law_497 dL_law_498 dL_law_499 dL_law_500 dL_law_501 ?_
  refine wl_arg X 2 hi (by decide) (v := 2) (by decide) (ki := 2) (by decide) 1 0 rfl rfl dL_law_502 dL_law_503 dL_law_504 dL_law_505 dL_law_506 ?_
  refine wl_arg X 3 hi (by decide) (v := 3) (by decide) (ki := 3) (by decide) 1 0 rfl rfl dL_law_507 dL_law_508 dL_law_509 dL_law_510 dL_law_511 ?_
  refine wl_callD X (as := [vI (xs (i.toInt.toNat + 1)), vI (xs (i.toInt.toNat + 2)), vI (xs (i.toInt.toNat + 3))]) (rest := []) (c_X12_walker l G cy ad 0 (xs (i.toInt.toNat + 1)) (xs (i.toInt.toNat + 2)) (xs (i.toInt.toNat + 3)) M2_ hD1_) kV_X12_walker (by decide +kernel) (Nat.le_of_ble_eq_true rfl) m_1505 rfl rfl rfl (by decide) (Nat.le_of_ble_eq_true rfl) (Nat.le_of_ble_eq_true rfl) dL_law_512 (fun r4_ M5_ q6_ => ?_)
  obtain ⟨hI2_, hF2_, -, hs2_⟩ := q6_
  have e2_ : (mgD M5_ M2_).1 = M5_.1 := mgD_self hF2_ SD_X12_walker
  have hI9_ : Inv (mgD M5_ M2_) := mgD_I hI1_
  have hD9_ : InvD (mgD M5_ M2_) := mgD_D hI2_
  have st_ := sy_8 hR hD hD1_ hI2_ hF1_ hs1_ hF2_ hs2_
  refine wl_pop X dL_law_515 ?_
  refine wl_goto X (tgt := 1731) dL_law_516 (by decide) ?_
  exact hend _ hI9_ hD9_ (by rw [e2_]; exact st_.1)
set_option maxHeartbeats 4000000 in
set_option maxRecDepth 100000 in
theorem law_case_9 {p : Program} {l : Launch} {e : Env} {s : State} {m : MethodId} {below : List Frame} {meth : Method} {c : Code} {b L : Nat} {xs : Nat → Int32} {A : Nat → Prop} {G : va_G} {cy : Nat → ClassId} {ad : rf → Nat} {ce sl : Nat} {Z : State → Prop} (X : LX p s m c b L xs A G cy ad ce sl) {i : Int32} {M : mM} (hI : Inv M) (hD : InvD M) (hR : RY M.1) (hi : 0 ≤ i.toInt ∧ i.toInt + 6 ≤ (L : Int)) (hend : ∀ M' : mM, Inv M' → InvD M' → RY M'.1 → WL p l e s m below meth c b A G cy ad ce sl Z 1731 [(3, vI i), (0, vR (94, 0, 0)), (1, vR (11, 0, 0)), (2, vR (12, 0, 0))] [] M') : WL p l e s m below meth c b A G cy ad ce sl Z 519 [(3, vI i), (0, vR (94, 0, 0)), (1, vR (11, 0, 0)), (2, vR (12, 0, 0))] [] M := by
  refine wl_aload_n X dL_law_519 rfl 2 rfl ?_
  refine wl_arg X 1 hi (by decide) (v := 1) (by decide) (ki := 1) (by decide) 1 0 rfl rfl dL_law_520 dL_law_521 dL_law_522 dL_law_523 dL_law_524 ?_
  refine wl_arg X 2 hi (by decide) (v := 2) (by decide) (ki := 2) (by decide) 1 0 rfl rfl dL_law_525 dL_law_526 dL_law_527 dL_law_528 dL_law_529 ?_
  refine wl_callC X (as := [vI (xs (i.toInt.toNat + 1)), vI (xs (i.toInt.toNat + 2))]) (rest := []) (c_X11_walkerIs l G cy ad 0 (xs (i.toInt.toNat + 1)) (xs (i.toInt.toNat + 2)) M hI) kV_X11_walkerIs (by decide +kernel) (Nat.le_of_ble_eq_true rfl) m_605 rfl rfl rfl (by decide) (Nat.le_of_ble_eq_true rfl) (Nat.le_of_ble_eq_true rfl) dL_law_530 (fun r1_ M2_ q3_ => ?_)
  obtain ⟨hI1_, hF1_, -, hs1_⟩ := q3_
  have e1_ : mgC M2_ M = M2_ := mgC_self hF1_ SC_X11_walkerIs
  rw [e1_]
  have hD1_ : InvD M2_ := e1_ ▸ mgC_D (M' := M2_) hD
  refine wl_pop X dL_law_533 ?_
  refine wl_aload_n X dL_law_534 rfl 3 rfl ?_
  refine wl_arg X 1 hi (by decide) (v := 1) (by decide) (ki := 1) (by decide) 1 0 rfl rfl dL_law_535 dL_law_536 dL_law_537 dL_law_538 dL_law_539 ?_
  refine wl_arg X 2 hi (by decide) (v := 2) (by decide) (ki := 2) (by decide) 1 0 rfl rfl dL_law_540 dL_law_541 dL_law_542 dL_law_543 dL_law_544 ?_
  refine wl_callD X (as := [vI (xs (i.toInt.toNat + 1)), vI (xs (i.toInt.toNat + 2))]) (rest := []) (c_X12_walkerIs l G cy ad 0 (xs (i.toInt.toNat + 1)) (xs (i.toInt.toNat + 2)) M2_ hD1_) kV_X12_walkerIs (by decide +kernel) (Nat.le_of_ble_eq_true rfl) m_1509 rfl rfl rfl (by decide) (Nat.le_of_ble_eq_true rfl) (Nat.le_of_ble_eq_true rfl) dL_law_545 (fun r4_ M5_ q6_ => ?_)
  obtain ⟨hI2_, hF2_, -, hs2_⟩ := q6_
  have e2_ : (mgD M5_ M2_).1 = M5_.1 := mgD_self hF2_ SD_X12_walkerIs
  have hI9_ : Inv (mgD M5_ M2_) := mgD_I hI1_
  have hD9_ : InvD (mgD M5_ M2_) := mgD_D hI2_
  have st_ := sy_9 hR hD hD1_ hI2_ hF1_ hs1_ hF2_ hs2_
  refine wl_pop X dL_law_548 ?_
  refine wl_goto X (tgt := 1731) dL_law_549 (by decide) ?_
  exact hend _ hI9_ hD9_ (by rw [e2_]; exact st_.1)
set_option maxHeartbeats 4000000 in
set_option maxRecDepth 100000 in
theorem law_case_10 {p : Program} {l : Launch} {e : Env} {s : State} {m : MethodId} {below : List Frame} {meth : Method} {c : Code} {b L : Nat} {xs : Nat → Int32} {A : Nat → Prop} {G : va_G} {cy : Nat → ClassId} {ad : rf → Nat} {ce sl : Nat} {Z : State → Prop} (X : LX p s m c b L xs A G cy ad ce sl) {i : Int32} {M : mM} (hI : Inv M) (hD : InvD M) (hR : RY M.1) (hi : 0 ≤ i.toInt ∧ i.toInt + 6 ≤ (L : Int)) (hend : ∀ M' : mM, Inv M' → InvD M' → RY M'.1 → WL p l e s m below meth c b A G cy ad ce sl Z 1731 [(3, vI i), (0, vR (94, 0, 0)), (1, vR (11, 0, 0)), (2, vR (12, 0, 0))] [] M') : WL p l e s m below meth c b A G cy ad ce sl Z 552 [(3, vI i), (0, vR (94, 0, 0)), (1, vR (11, 0, 0)), (2, vR (12, 0, 0))] [] M := by
  refine wl_aload_n X dL_law_552 rfl 2 rfl ?_
  refine wl_arg X 1 hi (by decide) (v := 1) (by decide) (ki := 1) (by decide) 1 0 rfl rfl dL_law_553 dL_law_554 dL_law_555 dL_law_556 dL_law_557 ?_
  refine wl_arg X 2 hi (by decide) (v := 2) (by decide) (ki := 2) (by decide) 1 0 rfl rfl dL_law_558 dL_law_559 dL_law_560 dL_law_561 dL_law_562 ?_
  refine wl_callC X (as := [vI (xs (i.toInt.toNat + 1)), vI (xs (i.toInt.toNat + 2))]) (rest := []) (c_X11_as l G cy ad 0 (xs (i.toInt.toNat + 1)) (xs (i.toInt.toNat + 2)) M hI) kV_X11_as (by decide +kernel) (Nat.le_of_ble_eq_true rfl) m_635 rfl rfl rfl (by decide) (Nat.le_of_ble_eq_true rfl) (Nat.le_of_ble_eq_true rfl) dL_law_563 (fun r1_ M2_ q3_ => ?_)
  obtain ⟨hI1_, hF1_, -, hs1_⟩ := q3_
  have e1_ : mgC M2_ M = M2_ := mgC_self hF1_ SC_X11_as
  rw [e1_]
  have hD1_ : InvD M2_ := e1_ ▸ mgC_D (M' := M2_) hD
  refine wl_pop X dL_law_566 ?_
  refine wl_aload_n X dL_law_567 rfl 3 rfl ?_
  refine wl_arg X 1 hi (by decide) (v := 1) (by decide) (ki := 1) (by decide) 1 0 rfl rfl dL_law_568 dL_law_569 dL_law_570 dL_law_571 dL_law_572 ?_
  refine wl_arg X 2 hi (by decide) (v := 2) (by decide) (ki := 2) (by decide) 1 0 rfl rfl dL_law_573 dL_law_574 dL_law_575 dL_law_576 dL_law_577 ?_
  refine wl_callD X (as := [vI (xs (i.toInt.toNat + 1)), vI (xs (i.toInt.toNat + 2))]) (rest := []) (c_X12_as l G cy ad 0 (xs (i.toInt.toNat + 1)) (xs (i.toInt.toNat + 2)) M2_ hD1_) kV_X12_as (by decide +kernel) (Nat.le_of_ble_eq_true rfl) m_1528 rfl rfl rfl (by decide) (Nat.le_of_ble_eq_true rfl) (Nat.le_of_ble_eq_true rfl) dL_law_578 (fun r4_ M5_ q6_ => ?_)
  obtain ⟨hI2_, hF2_, -, hs2_⟩ := q6_
  have e2_ : (mgD M5_ M2_).1 = M5_.1 := mgD_self hF2_ SD_X12_as
  have hI9_ : Inv (mgD M5_ M2_) := mgD_I hI1_
  have hD9_ : InvD (mgD M5_ M2_) := mgD_D hI2_
  have st_ := sy_10 hR hD hD1_ hI2_ hF1_ hs1_ hF2_ hs2_
  refine wl_pop X dL_law_581 ?_
  refine wl_goto X (tgt := 1731) dL_law_582 (by decide) ?_
  exact hend _ hI9_ hD9_ (by rw [e2_]; exact st_.1)
set_option maxHeartbeats 4000000 in
set_option maxRecDepth 100000 in
theorem law_case_11 {p : Program} {l : Launch} {e : Env} {s : State} {m : MethodId} {below : List Frame} {meth : Method} {c : Code} {b L : Nat} {xs : Nat → Int32} {A : Nat → Prop} {G : va_G} {cy : Nat → ClassId} {ad : rf → Nat} {ce sl : Nat} {Z : State → Prop} (X : LX p s m c b L xs A G cy ad ce sl) {i : Int32} {M : mM} (hI : Inv M) (hD : InvD M) (hR : RY M.1) (hi : 0 ≤ i.toInt ∧ i.toInt + 6 ≤ (L : Int)) (hend : ∀ M' : mM, Inv M' → InvD M' → RY M'.1 → WL p l e s m below meth c b A G cy ad ce sl Z 1731 [(3, vI i), (0, vR (94, 0, 0)), (1, vR (11, 0, 0)), (2, vR (12, 0, 0))] [] M') : WL p l e s m below meth c b A G cy ad ce sl Z 585 [(3, vI i), (0, vR (94, 0, 0)), (1, vR (11, 0, 0)), (2, vR (12, 0, 0))] [] M := by
  refine wl_aload_n X dL_law_585 rfl 2 rfl ?_
  refine wl_arg X 1 hi (by decide) (v := 1) (by decide) (ki := 1) (by decide) 1 0 rfl rfl dL_law_586 dL_law_587 dL_law_588 dL_law_589 dL_law_590 ?_
  refine wl_arg X 2 hi (by decide) (v := 2) (by decide) (ki := 2) (by decide) 1 0 rfl rfl dL_law_591 dL_law_592 dL_law_593 dL_law_594 dL_law_595 ?_
  refine wl_arg X 3 hi (by decide) (v := 3) (by decide) (ki := 3) (by decide) 1 0 rfl rfl dL_law_596 dL_law_597 dL_law_598 dL_law_599 dL_law_600 ?_
  refine wl_arg X 4 hi (by decide) (v := 4) (by decide) (ki := 4) (by decide) 1 0 rfl rfl dL_law_601 dL_law_602 dL_law_603 dL_law_604 dL_law_605 ?_
  refine wl_callC X (as := [vI (xs (i.toInt.toNat + 1)), vI (xs (i.toInt.toNat + 2)), vI (xs (i.toInt.toNat + 3)), vI (xs (i.toInt.toNat + 4))]) (rest := []) (c_X11_habit l G cy ad 0 (xs (i.toInt.toNat + 1)) (xs (i.toInt.toNat + 2)) (xs (i.toInt.toNat + 3)) (xs (i.toInt.toNat + 4)) M hI) kV_X11_habit (by decide +kernel) (Nat.le_of_ble_eq_true rfl) m_649 rfl rfl rfl (by decide) (Nat.le_of_ble_eq_true rfl) (Nat.le_of_ble_eq_true rfl) dL_law_606 (fun r1_ M2_ q3_ => ?_)
  obtain ⟨hI1_, hF1_, -, hs1_⟩ := q3_
  have e1_ : mgC M2_ M = M2_ := mgC_self hF1_ SC_X11_habit
  rw [e1_]
  have hD1_ : InvD M2_ := e1_ ▸ mgC_D (M' := M2_) hD
  refine wl_pop X dL_law_609 ?_
  refine wl_aload_n X dL_law_610 rfl 3 rfl ?_
  refine wl_arg X 1 hi (by decide) (v := 1) (by decide) (ki := 1) (by decide) 1 0 rfl rfl dL_law_611 dL_law_612 dL_law_613 dL_law_614 dL_law_615 ?_
  refine wl_arg X 2 hi (by decide) (v := 2) (by decide) (ki := 2) (by decide) 1 0 rfl rfl dL_law_616 dL_law_617 dL_law_618 dL_law_619 dL_law_620 ?_
  refine wl_arg X 3 hi (by decide) (v := 3) (by decide) (ki := 3) (by decide) 1 0 rfl rfl dL_law_621 dL_law_622 dL_law_623 dL_law_624 dL_law_625 ?_
  refine wl_arg X 4 hi (by decide) (v := 4) (by decide) (ki := 4) (by decide) 1 0 rfl rfl dL_law_626 dL_law_627 dL_law_628 dL_law_629 dL_law_630 ?_
  refine wl_callD X (as := [vI (xs (i.toInt.toNat + 1)), vI (xs (i.toInt.toNat + 2)), vI (xs (i.toInt.toNat + 3)), vI (xs (i.toInt.toNat + 4))]) (rest := []) (c_X12_habit l G cy ad 0 (xs (i.toInt.toNat + 1)) (xs (i.toInt.toNat + 2)) (xs (i.toInt.toNat + 3)) (xs (i.toInt.toNat + 4)) M2_ hD1_) kV_X12_habit (by decide +kernel) (Nat.le_of_ble_eq_true rfl) m_1538 rfl rfl rfl (by decide) (Nat.le_of_ble_eq_true rfl) (Nat.le_of_ble_eq_true rfl) dL_law_631 (fun r4_ M5_ q6_ => ?_)
  obtain ⟨hI2_, hF2_, -, hs2_⟩ := q6_
  have e2_ : (mgD M5_ M2_).1 = M5_.1 := mgD_self hF2_ SD_X12_habit
  have hI9_ : Inv (mgD M5_ M2_) := mgD_I hI1_
  have hD9_ : InvD (mgD M5_ M2_) := mgD_D hI2_
  have st_ := sy_11 hR hD hD1_ hI2_ hF1_ hs1_ hF2_ hs2_
  refine wl_pop X dL_law_634 ?_
  refine wl_goto X (tgt := 1731) dL_law_635 (by decide) ?_
  exact hend _ hI9_ hD9_ (by rw [e2_]; exact st_.1)
set_option maxHeartbeats 4000000 in
set_option maxRecDepth 100000 in
theorem law_case_12 {p : Program} {l : Launch} {e : Env} {s : State} {m : MethodId} {below : List Frame} {meth : Method} {c : Code} {b L : Nat} {xs : Nat → Int32} {A : Nat → Prop} {G : va_G} {cy : Nat → ClassId} {ad : rf → Nat} {ce sl : Nat} {Z : State → Prop} (X : LX p s m c b L xs A G cy ad ce sl) {i : Int32} {M : mM} (hI : Inv M) (hD : InvD M) (hR : RY M.1) (hi : 0 ≤ i.toInt ∧ i.toInt + 6 ≤ (L : Int)) (hend : ∀ M' : mM, Inv M' → InvD M' → RY M'.1 → WL p l e s m below meth c b A G cy ad ce sl Z 1731 [(3, vI i), (0, vR (94, 0, 0)), (1, vR (11, 0, 0)), (2, vR (12, 0, 0))] [] M') : WL p l e s m below meth c b A G cy ad ce sl Z 638 [(3, vI i), (0, vR (94, 0, 0)), (1, vR (11, 0, 0)), (2, vR (12, 0, 0))] [] M := by
  refine wl_aload_n X dL_law_638 rfl 2 rfl ?_
  refine wl_arg X 1 hi (by decide) (v := 1) (by decide) (ki := 1) (by decide) 1 0 rfl rfl dL_law_639 dL_law_640 dL_law_641 dL_law_642 dL_law_643 ?_
  refine wl_arg X 2 hi (by decide) (v := 2) (by decide) (ki := 2) (by decide) 1 0 rfl rfl dL_law_644 dL_law_645 dL_law_646 dL_law_647 dL_law_648 ?_
  refine wl_callC X (as := [vI (xs (i.toInt.toNat + 1)), vI (xs (i.toInt.toNat + 2))]) (rest := []) (c_X11_face l G cy ad 0 (xs (i.toInt.toNat + 1)) (xs (i.toInt.toNat + 2)) M hI) kV_X11_face (by decide +kernel) (Nat.le_of_ble_eq_true rfl) m_657 rfl rfl rfl (by decide) (Nat.le_of_ble_eq_true rfl) (Nat.le_of_ble_eq_true rfl) dL_law_649 (fun r1_ M2_ q3_ => ?_)
  obtain ⟨hI1_, hF1_, -, hs1_⟩ := q3_
  have e1_ : mgC M2_ M = M2_ := mgC_self hF1_ SC_X11_face
  rw [e1_]
  have hD1_ : InvD M2_ := e1_ ▸ mgC_D (M' := M2_) hD
  refine wl_pop X dL_law_652 ?_
  refine wl_aload_n X dL_law_653 rfl 3 rfl ?_
  refine wl_arg X 1 hi (by decide) (v := 1) (by decide) (ki := 1) (by decide) 1 0 rfl rfl dL_law_654 dL_law_655 dL_law_656 dL_law_657 dL_law_658 ?_
  refine wl_arg X 2 hi (by decide) (v := 2) (by decide) (ki := 2) (by decide) 1 0 rfl rfl dL_law_659 dL_law_660 dL_law_661 dL_law_662 dL_law_663 ?_
  refine wl_callD X (as := [vI (xs (i.toInt.toNat + 1)), vI (xs (i.toInt.toNat + 2))]) (rest := []) (c_X12_face l G cy ad 0 (xs (i.toInt.toNat + 1)) (xs (i.toInt.toNat + 2)) M2_ hD1_) kV_X12_face (by decide +kernel) (Nat.le_of_ble_eq_true rfl) m_1542 rfl rfl rfl (by decide) (Nat.le_of_ble_eq_true rfl) (Nat.le_of_ble_eq_true rfl) dL_law_664 (fun r4_ M5_ q6_ => ?_)
  obtain ⟨hI2_, hF2_, -, hs2_⟩ := q6_
  have e2_ : (mgD M5_ M2_).1 = M5_.1 := mgD_self hF2_ SD_X12_face
  have hI9_ : Inv (mgD M5_ M2_) := mgD_I hI1_
  have hD9_ : InvD (mgD M5_ M2_) := mgD_D hI2_
  have st_ := sy_12 hR hD hD1_ hI2_ hF1_ hs1_ hF2_ hs2_
  refine wl_pop X dL_law_667 ?_
  refine wl_goto X (tgt := 1731) dL_law_668 (by decide) ?_
  exact hend _ hI9_ hD9_ (by rw [e2_]; exact st_.1)
set_option maxHeartbeats 4000000 in
set_option maxRecDepth 100000 in
theorem law_case_13 {p : Program} {l : Launch} {e : Env} {s : State} {m : MethodId} {below : List Frame} {meth : Method} {c : Code} {b L : Nat} {xs : Nat → Int32} {A : Nat → Prop} {G : va_G} {cy : Nat → ClassId} {ad : rf → Nat} {ce sl : Nat} {Z : State → Prop} (X : LX p s m c b L xs A G cy ad ce sl) {i : Int32} {M : mM} (hI : Inv M) (hD : InvD M) (hR : RY M.1) (hi : 0 ≤ i.toInt ∧ i.toInt + 6 ≤ (L : Int)) (hend : ∀ M' : mM, Inv M' → InvD M' → RY M'.1 → WL p l e s m below meth c b A G cy ad ce sl Z 1731 [(3, vI i), (0, vR (94, 0, 0)), (1, vR (11, 0, 0)), (2, vR (12, 0, 0))] [] M') : WL p l e s m below meth c b A G cy ad ce sl Z 671 [(3, vI i), (0, vR (94, 0, 0)), (1, vR (11, 0, 0)), (2, vR (12, 0, 0))] [] M := by
  refine wl_aload_n X dL_law_671 rfl 2 rfl ?_
  refine wl_arg X 1 hi (by decide) (v := 1) (by decide) (ki := 1) (by decide) 1 0 rfl rfl dL_law_672 dL_law_673 dL_law_674 dL_law_675 dL_law_676 ?_
  refine wl_arg X 2 hi (by decide) (v := 2) (by decide) (ki := 2) (by decide) 1 0 rfl rfl dL_law_677 dL_law_678 dL_law_679 dL_law_680 dL_law_681 ?_
  refine wl_if_eq X (tgt := 689) dL_law_682 (by decide) (fun hz1_ => ?_) (fun hz1_ => ?_)
  · refine wl_iconst X (v := 0) dL_law_689 (by decide) ?_
    refine wl_callC X (as := [vI (xs (i.toInt.toNat + 1)), vI 0]) (rest := []) (c_X11_goes l G cy ad 0 (xs (i.toInt.toNat + 1)) 0 M hI ⟨by decide, by decide⟩) kV_X11_goes (by decide +kernel) (Nat.le_of_ble_eq_true rfl) m_661 rfl rfl rfl (by decide) (Nat.le_of_ble_eq_true rfl) (Nat.le_of_ble_eq_true rfl) dL_law_690 (fun r2_ M3_ q4_ => ?_)
    obtain ⟨hI1_, hF1_, -, hs1_⟩ := q4_
    have e1_ : mgC M3_ M = M3_ := mgC_self hF1_ SC_X11_goes
    rw [e1_]
    have hD1_ : InvD M3_ := e1_ ▸ mgC_D (M' := M3_) hD
    refine wl_pop X dL_law_693 ?_
    refine wl_aload_n X dL_law_694 rfl 3 rfl ?_
    refine wl_arg X 1 hi (by decide) (v := 1) (by decide) (ki := 1) (by decide) 1 0 rfl rfl dL_law_695 dL_law_696 dL_law_697 dL_law_698 dL_law_699 ?_
    refine wl_arg X 2 hi (by decide) (v := 2) (by decide) (ki := 2) (by decide) 1 0 rfl rfl dL_law_700 dL_law_701 dL_law_702 dL_law_703 dL_law_704 ?_
    refine wl_if_eq X (tgt := 712) dL_law_705 (by decide) (fun hz5_ => ?_) (fun hz5_ => ?_)
    · refine wl_iconst X (v := 0) dL_law_712 (by decide) ?_
      refine wl_callD X (as := [vI (xs (i.toInt.toNat + 1)), vI 0]) (rest := []) (c_X12_goes l G cy ad 0 (xs (i.toInt.toNat + 1)) 0 M3_ hD1_ ⟨by decide, by decide⟩) kV_X12_goes (by decide +kernel) (Nat.le_of_ble_eq_true rfl) m_1546 rfl rfl rfl (by decide) (Nat.le_of_ble_eq_true rfl) (Nat.le_of_ble_eq_true rfl) dL_law_713 (fun r6_ M7_ q8_ => ?_)
      obtain ⟨hI2_, hF2_, -, hs2_⟩ := q8_
      have e2_ : (mgD M7_ M3_).1 = M7_.1 := mgD_self hF2_ SD_X12_goes
      have hI9_ : Inv (mgD M7_ M3_) := mgD_I hI1_
      have hD9_ : InvD (mgD M7_ M3_) := mgD_D hI2_
      have st_ := sy_13 hR hD hD1_ hI2_ hF1_ hs1_ hF2_ hs2_ (by decide)
      refine wl_pop X dL_law_716 ?_
      refine wl_goto X (tgt := 1731) dL_law_717 (by decide) ?_
      exact hend _ hI9_ hD9_ (by rw [e2_]; exact st_.1)
    · exact absurd hz1_ hz5_
  · refine wl_iconst X (v := 1) dL_law_685 (by decide) ?_
    refine wl_goto X (tgt := 690) dL_law_686 (by decide) ?_
    refine wl_callC X (as := [vI (xs (i.toInt.toNat + 1)), vI 1]) (rest := []) (c_X11_goes l G cy ad 0 (xs (i.toInt.toNat + 1)) 1 M hI ⟨by decide, by decide⟩) kV_X11_goes (by decide +kernel) (Nat.le_of_ble_eq_true rfl) m_661 rfl rfl rfl (by decide) (Nat.le_of_ble_eq_true rfl) (Nat.le_of_ble_eq_true rfl) dL_law_690 (fun r9_ M10_ q11_ => ?_)
    obtain ⟨hI1_, hF1_, -, hs1_⟩ := q11_
    have e1_ : mgC M10_ M = M10_ := mgC_self hF1_ SC_X11_goes
    rw [e1_]
    have hD1_ : InvD M10_ := e1_ ▸ mgC_D (M' := M10_) hD
    refine wl_pop X dL_law_693 ?_
    refine wl_aload_n X dL_law_694 rfl 3 rfl ?_
    refine wl_arg X 1 hi (by decide) (v := 1) (by decide) (ki := 1) (by decide) 1 0 rfl rfl dL_law_695 dL_law_696 dL_law_697 dL_law_698 dL_law_699 ?_
    refine wl_arg X 2 hi (by decide) (v := 2) (by decide) (ki := 2) (by decide) 1 0 rfl rfl dL_law_700 dL_law_701 dL_law_702 dL_law_703 dL_law_704 ?_
    refine wl_if_eq X (tgt := 712) dL_law_705 (by decide) (fun hz12_ => ?_) (fun hz12_ => ?_)
    · exact absurd hz12_ hz1_
    · refine wl_iconst X (v := 1) dL_law_708 (by decide) ?_
      refine wl_goto X (tgt := 713) dL_law_709 (by decide) ?_
      refine wl_callD X (as := [vI (xs (i.toInt.toNat + 1)), vI 1]) (rest := []) (c_X12_goes l G cy ad 0 (xs (i.toInt.toNat + 1)) 1 M10_ hD1_ ⟨by decide, by decide⟩) kV_X12_goes (by decide +kernel) (Nat.le_of_ble_eq_true rfl) m_1546 rfl rfl rfl (by decide) (Nat.le_of_ble_eq_true rfl) (Nat.le_of_ble_eq_true rfl) dL_law_713 (fun r13_ M14_ q15_ => ?_)
      obtain ⟨hI2_, hF2_, -, hs2_⟩ := q15_
      have e2_ : (mgD M14_ M10_).1 = M14_.1 := mgD_self hF2_ SD_X12_goes
      have hI9_ : Inv (mgD M14_ M10_) := mgD_I hI1_
      have hD9_ : InvD (mgD M14_ M10_) := mgD_D hI2_
      have st_ := sy_13 hR hD hD1_ hI2_ hF1_ hs1_ hF2_ hs2_ (by decide)
      refine wl_pop X dL_law_716 ?_
      refine wl_goto X (tgt := 1731) dL_law_717 (by decide) ?_
      exact hend _ hI9_ hD9_ (by rw [e2_]; exact st_.1)
set_option maxHeartbeats 4000000 in
set_option maxRecDepth 100000 in
theorem law_case_14 {p : Program} {l : Launch} {e : Env} {s : State} {m : MethodId} {below : List Frame} {meth : Method} {c : Code} {b L : Nat} {xs : Nat → Int32} {A : Nat → Prop} {G : va_G} {cy : Nat → ClassId} {ad : rf → Nat} {ce sl : Nat} {Z : State → Prop} (X : LX p s m c b L xs A G cy ad ce sl) {i : Int32} {M : mM} (hI : Inv M) (hD : InvD M) (hR : RY M.1) (hi : 0 ≤ i.toInt ∧ i.toInt + 6 ≤ (L : Int)) (hend : ∀ M' : mM, Inv M' → InvD M' → RY M'.1 → WL p l e s m below meth c b A G cy ad ce sl Z 1731 [(3, vI i), (0, vR (94, 0, 0)), (1, vR (11, 0, 0)), (2, vR (12, 0, 0))] [] M') : WL p l e s m below meth c b A G cy ad ce sl Z 720 [(3, vI i), (0, vR (94, 0, 0)), (1, vR (11, 0, 0)), (2, vR (12, 0, 0))] [] M := by
  refine wl_aload_n X dL_law_720 rfl 2 rfl ?_
  refine wl_arg X 1 hi (by decide) (v := 1) (by decide) (ki := 1) (by decide) 1 0 rfl rfl dL_law_721 dL_law_722 dL_law_723 dL_law_724 dL_law_725 ?_
  refine wl_i2l X dL_law_726 ?_
  refine wl_bipush X (v := 32) dL_law_727 (by decide) ?_
  refine wl_lshl X dL_law_729 ?_
  refine wl_arg X 2 hi (by decide) (v := 2) (by decide) (ki := 2) (by decide) 1 0 rfl rfl dL_law_730 dL_law_731 dL_law_732 dL_law_733 dL_law_734 ?_
  refine wl_i2l X dL_law_735 ?_
  refine wl_ldc2 X (v := 4294967295) m_1870 dL_law_736 ?_
  refine wl_land X dL_law_739 ?_
  refine wl_lor X dL_law_740 ?_
  refine wl_arg X 3 hi (by decide) (v := 3) (by decide) (ki := 3) (by decide) 1 0 rfl rfl dL_law_741 dL_law_742 dL_law_743 dL_law_744 dL_law_745 ?_
  refine wl_callC X (as := [vL (((((xs (i.toInt.toNat + 1))).toInt64) <<< ((32 : Int32).toInt64 &&& 63)) ||| (((((xs (i.toInt.toNat + 2))).toInt64) &&& (4294967295 : Int64)) : Int64)), vI (xs (i.toInt.toNat + 3))]) (rest := []) (c_X11_feed l G cy ad 0 (((((xs (i.toInt.toNat + 1))).toInt64) <<< ((32 : Int32).toInt64 &&& 63)) ||| (((((xs (i.toInt.toNat + 2))).toInt64) &&& (4294967295 : Int64)) : Int64)) (xs (i.toInt.toNat + 3)) M hI) kV_X11_feed (by decide +kernel) (Nat.le_of_ble_eq_true rfl) m_665 rfl rfl rfl (by decide) (Nat.le_of_ble_eq_true rfl) (Nat.le_of_ble_eq_true rfl) dL_law_746 (fun r1_ M2_ q3_ => ?_)
  obtain ⟨hI1_, hF1_, -, hs1_⟩ := q3_
  have e1_ : mgC M2_ M = M2_ := mgC_self hF1_ SC_X11_feed
  rw [e1_]
  have hD1_ : InvD M2_ := e1_ ▸ mgC_D (M' := M2_) hD
  refine wl_pop X dL_law_749 ?_
  refine wl_aload_n X dL_law_750 rfl 3 rfl ?_
  refine wl_arg X 1 hi (by decide) (v := 1) (by decide) (ki := 1) (by decide) 1 0 rfl rfl dL_law_751 dL_law_752 dL_law_753 dL_law_754 dL_law_755 ?_
  refine wl_i2l X dL_law_756 ?_
  refine wl_bipush X (v := 32) dL_law_757 (by decide) ?_
  refine wl_lshl X dL_law_759 ?_
  refine wl_arg X 2 hi (by decide) (v := 2) (by decide) (ki := 2) (by decide) 1 0 rfl rfl dL_law_760 dL_law_761 dL_law_762 dL_law_763 dL_law_764 ?_
  refine wl_i2l X dL_law_765 ?_
  refine wl_ldc2 X (v := 4294967295) m_1870 dL_law_766 ?_
  refine wl_land X dL_law_769 ?_
  refine wl_lor X dL_law_770 ?_
  refine wl_arg X 3 hi (by decide) (v := 3) (by decide) (ki := 3) (by decide) 1 0 rfl rfl dL_law_771 dL_law_772 dL_law_773 dL_law_774 dL_law_775 ?_
  refine wl_callD X (as := [vL (((((xs (i.toInt.toNat + 1))).toInt64) <<< ((32 : Int32).toInt64 &&& 63)) ||| (((((xs (i.toInt.toNat + 2))).toInt64) &&& (4294967295 : Int64)) : Int64)), vI (xs (i.toInt.toNat + 3))]) (rest := []) (c_X12_feed l G cy ad 0 (((((xs (i.toInt.toNat + 1))).toInt64) <<< ((32 : Int32).toInt64 &&& 63)) ||| (((((xs (i.toInt.toNat + 2))).toInt64) &&& (4294967295 : Int64)) : Int64)) (xs (i.toInt.toNat + 3)) M2_ hD1_) kV_X12_feed (by decide +kernel) (Nat.le_of_ble_eq_true rfl) m_1550 rfl rfl rfl (by decide) (Nat.le_of_ble_eq_true rfl) (Nat.le_of_ble_eq_true rfl) dL_law_776 (fun r4_ M5_ q6_ => ?_)
  obtain ⟨hI2_, hF2_, -, hs2_⟩ := q6_
  have e2_ : (mgD M5_ M2_).1 = M5_.1 := mgD_self hF2_ SD_X12_feed
  have hI9_ : Inv (mgD M5_ M2_) := mgD_I hI1_
  have hD9_ : InvD (mgD M5_ M2_) := mgD_D hI2_
  have st_ := sy_14 hR hD hD1_ hI2_ hF1_ hs1_ hF2_ hs2_
  refine wl_pop X dL_law_779 ?_
  refine wl_goto X (tgt := 1731) dL_law_780 (by decide) ?_
  exact hend _ hI9_ hD9_ (by rw [e2_]; exact st_.1)
set_option maxHeartbeats 4000000 in
set_option maxRecDepth 100000 in
theorem law_case_15 {p : Program} {l : Launch} {e : Env} {s : State} {m : MethodId} {below : List Frame} {meth : Method} {c : Code} {b L : Nat} {xs : Nat → Int32} {A : Nat → Prop} {G : va_G} {cy : Nat → ClassId} {ad : rf → Nat} {ce sl : Nat} {Z : State → Prop} (X : LX p s m c b L xs A G cy ad ce sl) {i : Int32} {M : mM} (hI : Inv M) (hD : InvD M) (hR : RY M.1) (hi : 0 ≤ i.toInt ∧ i.toInt + 6 ≤ (L : Int)) (hend : ∀ M' : mM, Inv M' → InvD M' → RY M'.1 → WL p l e s m below meth c b A G cy ad ce sl Z 1731 [(3, vI i), (0, vR (94, 0, 0)), (1, vR (11, 0, 0)), (2, vR (12, 0, 0))] [] M') : WL p l e s m below meth c b A G cy ad ce sl Z 783 [(3, vI i), (0, vR (94, 0, 0)), (1, vR (11, 0, 0)), (2, vR (12, 0, 0))] [] M := by
  refine wl_aload_n X dL_law_783 rfl 2 rfl ?_
  refine wl_arg X 1 hi (by decide) (v := 1) (by decide) (ki := 1) (by decide) 1 0 rfl rfl dL_law_784 dL_law_785 dL_law_786 dL_law_787 dL_law_788 ?_
  refine wl_callC X (as := [vI (xs (i.toInt.toNat + 1))]) (rest := []) (c_X11_text l G cy ad 0 (xs (i.toInt.toNat + 1)) M hI) kV_X11_text (by decide +kernel) (Nat.le_of_ble_eq_true rfl) m_677 rfl rfl rfl (by decide) (Nat.le_of_ble_eq_true rfl) (Nat.le_of_ble_eq_true rfl) dL_law_789 (fun r1_ M2_ q3_ => ?_)
  obtain ⟨hI1_, hF1_, -, hs1_⟩ := q3_
  have e1_ : mgC M2_ M = M2_ := mgC_self hF1_ SC_X11_text
  rw [e1_]
  have hD1_ : InvD M2_ := e1_ ▸ mgC_D (M' := M2_) hD
  refine wl_pop X dL_law_792 ?_
  refine wl_aload_n X dL_law_793 rfl 3 rfl ?_
  refine wl_arg X 1 hi (by decide) (v := 1) (by decide) (ki := 1) (by decide) 1 0 rfl rfl dL_law_794 dL_law_795 dL_law_796 dL_law_797 dL_law_798 ?_
  refine wl_callD X (as := [vI (xs (i.toInt.toNat + 1))]) (rest := []) (c_X12_text_ l G cy ad 0 (xs (i.toInt.toNat + 1)) M2_ hD1_) kV_X12_text_ (by decide +kernel) (Nat.le_of_ble_eq_true rfl) m_1555 rfl rfl rfl (by decide) (Nat.le_of_ble_eq_true rfl) (Nat.le_of_ble_eq_true rfl) dL_law_799 (fun r4_ M5_ q6_ => ?_)
  obtain ⟨hI2_, hF2_, -, hs2_⟩ := q6_
  have e2_ : (mgD M5_ M2_).1 = M5_.1 := mgD_self hF2_ SD_X12_text_
  have hI9_ : Inv (mgD M5_ M2_) := mgD_I hI1_
  have hD9_ : InvD (mgD M5_ M2_) := mgD_D hI2_
  have st_ := sy_15 hR hD hD1_ hI2_ hF1_ hs1_ hF2_ hs2_
  refine wl_pop X dL_law_802 ?_
  refine wl_goto X (tgt := 1731) dL_law_803 (by decide) ?_
  exact hend _ hI9_ hD9_ (by rw [e2_]; exact st_.1)
set_option maxHeartbeats 4000000 in
set_option maxRecDepth 100000 in
theorem law_case_16 {p : Program} {l : Launch} {e : Env} {s : State} {m : MethodId} {below : List Frame} {meth : Method} {c : Code} {b L : Nat} {xs : Nat → Int32} {A : Nat → Prop} {G : va_G} {cy : Nat → ClassId} {ad : rf → Nat} {ce sl : Nat} {Z : State → Prop} (X : LX p s m c b L xs A G cy ad ce sl) {i : Int32} {M : mM} (hI : Inv M) (hD : InvD M) (hR : RY M.1) (hi : 0 ≤ i.toInt ∧ i.toInt + 6 ≤ (L : Int)) (hend : ∀ M' : mM, Inv M' → InvD M' → RY M'.1 → WL p l e s m below meth c b A G cy ad ce sl Z 1731 [(3, vI i), (0, vR (94, 0, 0)), (1, vR (11, 0, 0)), (2, vR (12, 0, 0))] [] M') : WL p l e s m below meth c b A G cy ad ce sl Z 806 [(3, vI i), (0, vR (94, 0, 0)), (1, vR (11, 0, 0)), (2, vR (12, 0, 0))] [] M := by
  refine wl_aload_n X dL_law_806 rfl 2 rfl ?_
  refine wl_arg X 1 hi (by decide) (v := 1) (by decide) (ki := 1) (by decide) 1 0 rfl rfl dL_law_807 dL_law_808 dL_law_809 dL_law_810 dL_law_811 ?_
  refine wl_arg X 2 hi (by decide) (v := 2) (by decide) (ki := 2) (by decide) 1 0 rfl rfl dL_law_812 dL_law_813 dL_law_814 dL_law_815 dL_law_816 ?_
  refine wl_arg X 3 hi (by decide) (v := 3) (by decide) (ki := 3) (by decide) 1 0 rfl rfl dL_law_817 dL_law_818 dL_law_819 dL_law_820 dL_law_821 ?_
  refine wl_arg X 4 hi (by decide) (v := 4) (by decide) (ki := 4) (by decide) 1 0 rfl rfl dL_law_822 dL_law_823 dL_law_824 dL_law_825 dL_law_826 ?_
  refine wl_callC X (as := [vI (xs (i.toInt.toNat + 1)), vI (xs (i.toInt.toNat + 2)), vI (xs (i.toInt.toNat + 3)), vI (xs (i.toInt.toNat + 4))]) (rest := []) (c_X11_echo l G cy ad 0 (xs (i.toInt.toNat + 1)) (xs (i.toInt.toNat + 2)) (xs (i.toInt.toNat + 3)) (xs (i.toInt.toNat + 4)) M hI) kV_X11_echo (by decide +kernel) (Nat.le_of_ble_eq_true rfl) m_835 rfl rfl rfl (by decide) (Nat.le_of_ble_eq_true rfl) (Nat.le_of_ble_eq_true rfl) dL_law_827 (fun r1_ M2_ q3_ => ?_)
  obtain ⟨hI1_, hF1_, -, hs1_⟩ := q3_
  have e1_ : mgC M2_ M = M2_ := mgC_self hF1_ SC_X11_echo
  rw [e1_]
  have hD1_ : InvD M2_ := e1_ ▸ mgC_D (M' := M2_) hD
  refine wl_pop X dL_law_830 ?_
  refine wl_aload_n X dL_law_831 rfl 3 rfl ?_
  refine wl_arg X 1 hi (by decide) (v := 1) (by decide) (ki := 1) (by decide) 1 0 rfl rfl dL_law_832 dL_law_833 dL_law_834 dL_law_835 dL_law_836 ?_
  refine wl_arg X 2 hi (by decide) (v := 2) (by decide) (ki := 2) (by decide) 1 0 rfl rfl dL_law_837 dL_law_838 dL_law_839 dL_law_840 dL_law_841 ?_
  refine wl_arg X 3 hi (by decide) (v := 3) (by decide) (ki := 3) (by decide) 1 0 rfl rfl dL_law_842 dL_law_843 dL_law_844 dL_law_845 dL_law_846 ?_
  refine wl_arg X 4 hi (by decide) (v := 4) (by decide) (ki := 4) (by decide) 1 0 rfl rfl dL_law_847 dL_law_848 dL_law_849 dL_law_850 dL_law_851 ?_
  refine wl_callD X (as := [vI (xs (i.toInt.toNat + 1)), vI (xs (i.toInt.toNat + 2)), vI (xs (i.toInt.toNat + 3)), vI (xs (i.toInt.toNat + 4))]) (rest := []) (c_X12_echo l G cy ad 0 (xs (i.toInt.toNat + 1)) (xs (i.toInt.toNat + 2)) (xs (i.toInt.toNat + 3)) (xs (i.toInt.toNat + 4)) M2_ hD1_) kV_X12_echo (by decide +kernel) (Nat.le_of_ble_eq_true rfl) m_1620 rfl rfl rfl (by decide) (Nat.le_of_ble_eq_true rfl) (Nat.le_of_ble_eq_true rfl) dL_law_852 (fun r4_ M5_ q6_ => ?_)
  obtain ⟨hI2_, hF2_, -, hs2_⟩ := q6_
  have e2_ : (mgD M5_ M2_).1 = M5_.1 := mgD_self hF2_ SD_X12_echo
  have hI9_ : Inv (mgD M5_ M2_) := mgD_I hI1_
  have hD9_ : InvD (mgD M5_ M2_) := mgD_D hI2_
  have st_ := sy_16 hR hD hD1_ hI2_ hF1_ hs1_ hF2_ hs2_
  refine wl_pop X dL_law_855 ?_
  refine wl_goto X (tgt := 1731) dL_law_856 (by decide) ?_
  exact hend _ hI9_ hD9_ (by rw [e2_]; exact st_.1)
set_option maxHeartbeats 4000000 in
set_option maxRecDepth 100000 in
theorem law_case_17 {p : Program} {l : Launch} {e : Env} {s : State} {m : MethodId} {below : List Frame} {meth : Method} {c : Code} {b L : Nat} {xs : Nat → Int32} {A : Nat → Prop} {G : va_G} {cy : Nat → ClassId} {ad : rf → Nat} {ce sl : Nat} {Z : State → Prop} (X : LX p s m c b L xs A G cy ad ce sl) {i : Int32} {M : mM} (hI : Inv M) (hD : InvD M) (hR : RY M.1) (hi : 0 ≤ i.toInt ∧ i.toInt + 6 ≤ (L : Int)) (hend : ∀ M' : mM, Inv M' → InvD M' → RY M'.1 → WL p l e s m below meth c b A G cy ad ce sl Z 1731 [(3, vI i), (0, vR (94, 0, 0)), (1, vR (11, 0, 0)), (2, vR (12, 0, 0))] [] M') : WL p l e s m below meth c b A G cy ad ce sl Z 859 [(3, vI i), (0, vR (94, 0, 0)), (1, vR (11, 0, 0)), (2, vR (12, 0, 0))] [] M := by
  refine wl_aload_n X dL_law_859 rfl 2 rfl ?_
  refine wl_arg X 1 hi (by decide) (v := 1) (by decide) (ki := 1) (by decide) 1 0 rfl rfl dL_law_860 dL_law_861 dL_law_862 dL_law_863 dL_law_864 ?_
  refine wl_callC X (as := [vI (xs (i.toInt.toNat + 1))]) (rest := []) (c_X11_click l G cy ad 0 (xs (i.toInt.toNat + 1)) M hI) kV_X11_click (by decide +kernel) (Nat.le_of_ble_eq_true rfl) m_892 rfl rfl rfl (by decide) (Nat.le_of_ble_eq_true rfl) (Nat.le_of_ble_eq_true rfl) dL_law_865 (fun r1_ M2_ q3_ => ?_)
  obtain ⟨hI1_, hF1_, -, hs1_⟩ := q3_
  have e1_ : mgC M2_ M = M2_ := mgC_self hF1_ SC_X11_click
  rw [e1_]
  have hD1_ : InvD M2_ := e1_ ▸ mgC_D (M' := M2_) hD
  refine wl_pop X dL_law_868 ?_
  refine wl_aload_n X dL_law_869 rfl 3 rfl ?_
  refine wl_arg X 1 hi (by decide) (v := 1) (by decide) (ki := 1) (by decide) 1 0 rfl rfl dL_law_870 dL_law_871 dL_law_872 dL_law_873 dL_law_874 ?_
  refine wl_callD X (as := [vI (xs (i.toInt.toNat + 1))]) (rest := []) (c_X12_click l G cy ad 0 (xs (i.toInt.toNat + 1)) M2_ hD1_) kV_X12_click (by decide +kernel) (Nat.le_of_ble_eq_true rfl) m_1667 rfl rfl rfl (by decide) (Nat.le_of_ble_eq_true rfl) (Nat.le_of_ble_eq_true rfl) dL_law_875 (fun r4_ M5_ q6_ => ?_)
  obtain ⟨hI2_, hF2_, -, hs2_⟩ := q6_
  have e2_ : (mgD M5_ M2_).1 = M5_.1 := mgD_self hF2_ SD_X12_click
  have hI9_ : Inv (mgD M5_ M2_) := mgD_I hI1_
  have hD9_ : InvD (mgD M5_ M2_) := mgD_D hI2_
  have st_ := sy_17 hR hD hD1_ hI2_ hF1_ hs1_ hF2_ hs2_
  refine wl_pop X dL_law_878 ?_
  refine wl_goto X (tgt := 1731) dL_law_879 (by decide) ?_
  exact hend _ hI9_ hD9_ (by rw [e2_]; exact st_.1)
set_option maxHeartbeats 4000000 in
set_option maxRecDepth 100000 in
theorem law_case_18 {p : Program} {l : Launch} {e : Env} {s : State} {m : MethodId} {below : List Frame} {meth : Method} {c : Code} {b L : Nat} {xs : Nat → Int32} {A : Nat → Prop} {G : va_G} {cy : Nat → ClassId} {ad : rf → Nat} {ce sl : Nat} {Z : State → Prop} (X : LX p s m c b L xs A G cy ad ce sl) {i : Int32} {M : mM} (hI : Inv M) (hD : InvD M) (hR : RY M.1) (hi : 0 ≤ i.toInt ∧ i.toInt + 6 ≤ (L : Int)) (hend : ∀ M' : mM, Inv M' → InvD M' → RY M'.1 → WL p l e s m below meth c b A G cy ad ce sl Z 1731 [(3, vI i), (0, vR (94, 0, 0)), (1, vR (11, 0, 0)), (2, vR (12, 0, 0))] [] M') : WL p l e s m below meth c b A G cy ad ce sl Z 882 [(3, vI i), (0, vR (94, 0, 0)), (1, vR (11, 0, 0)), (2, vR (12, 0, 0))] [] M := by
  refine wl_aload_n X dL_law_882 rfl 2 rfl ?_
  refine wl_arg X 1 hi (by decide) (v := 1) (by decide) (ki := 1) (by decide) 1 0 rfl rfl dL_law_883 dL_law_884 dL_law_885 dL_law_886 dL_law_887 ?_
  refine wl_arg X 2 hi (by decide) (v := 2) (by decide) (ki := 2) (by decide) 1 0 rfl rfl dL_law_888 dL_law_889 dL_law_890 dL_law_891 dL_law_892 ?_
  refine wl_arg X 3 hi (by decide) (v := 3) (by decide) (ki := 3) (by decide) 1 0 rfl rfl dL_law_893 dL_law_894 dL_law_895 dL_law_896 dL_law_897 ?_
  refine wl_callC X (as := [vI (xs (i.toInt.toNat + 1)), vI (xs (i.toInt.toNat + 2)), vI (xs (i.toInt.toNat + 3))]) (rest := []) (c_X11_head l G cy ad 0 (xs (i.toInt.toNat + 1)) (xs (i.toInt.toNat + 2)) (xs (i.toInt.toNat + 3)) M hI) kV_X11_head (by decide +kernel) (Nat.le_of_ble_eq_true rfl) m_925 rfl rfl rfl (by decide) (Nat.le_of_ble_eq_true rfl) (Nat.le_of_ble_eq_true rfl) dL_law_898 (fun r1_ M2_ q3_ => ?_)
  obtain ⟨hI1_, hF1_, -, hs1_⟩ := q3_
  have e1_ : mgC M2_ M = M2_ := mgC_self hF1_ SC_X11_head
  rw [e1_]
  have hD1_ : InvD M2_ := e1_ ▸ mgC_D (M' := M2_) hD
  refine wl_pop X dL_law_901 ?_
  refine wl_aload_n X dL_law_902 rfl 3 rfl ?_
  refine wl_arg X 1 hi (by decide) (v := 1) (by decide) (ki := 1) (by decide) 1 0 rfl rfl dL_law_903 dL_law_904 dL_law_905 dL_law_906 dL_law_907 ?_
  refine wl_arg X 2 hi (by decide) (v := 2) (by decide) (ki := 2) (by decide) 1 0 rfl rfl dL_law_908 dL_law_909 dL_law_910 dL_law_911 dL_law_912 ?_
  refine wl_arg X 3 hi (by decide) (v := 3) (by decide) (ki := 3) (by decide) 1 0 rfl rfl dL_law_913 dL_law_914 dL_law_915 dL_law_916 dL_law_917 ?_
  refine wl_callD X (as := [vI (xs (i.toInt.toNat + 1)), vI (xs (i.toInt.toNat + 2)), vI (xs (i.toInt.toNat + 3))]) (rest := []) (c_X12_head l G cy ad 0 (xs (i.toInt.toNat + 1)) (xs (i.toInt.toNat + 2)) (xs (i.toInt.toNat + 3)) M2_ hD1_) kV_X12_head (by decide +kernel) (Nat.le_of_ble_eq_true rfl) m_1691 rfl rfl rfl (by decide) (Nat.le_of_ble_eq_true rfl) (Nat.le_of_ble_eq_true rfl) dL_law_918 (fun r4_ M5_ q6_ => ?_)
  obtain ⟨hI2_, hF2_, -, hs2_⟩ := q6_
  have e2_ : (mgD M5_ M2_).1 = M5_.1 := mgD_self hF2_ SD_X12_head
  have hI9_ : Inv (mgD M5_ M2_) := mgD_I hI1_
  have hD9_ : InvD (mgD M5_ M2_) := mgD_D hI2_
  have st_ := sy_18 hR hD hD1_ hI2_ hF1_ hs1_ hF2_ hs2_
  refine wl_pop X dL_law_921 ?_
  refine wl_goto X (tgt := 1731) dL_law_922 (by decide) ?_
  exact hend _ hI9_ hD9_ (by rw [e2_]; exact st_.1)
set_option maxHeartbeats 4000000 in
set_option maxRecDepth 100000 in
theorem law_case_19 {p : Program} {l : Launch} {e : Env} {s : State} {m : MethodId} {below : List Frame} {meth : Method} {c : Code} {b L : Nat} {xs : Nat → Int32} {A : Nat → Prop} {G : va_G} {cy : Nat → ClassId} {ad : rf → Nat} {ce sl : Nat} {Z : State → Prop} (X : LX p s m c b L xs A G cy ad ce sl) {i : Int32} {M : mM} (hI : Inv M) (hD : InvD M) (hR : RY M.1) (hi : 0 ≤ i.toInt ∧ i.toInt + 6 ≤ (L : Int)) (hend : ∀ M' : mM, Inv M' → InvD M' → RY M'.1 → WL p l e s m below meth c b A G cy ad ce sl Z 1731 [(3, vI i), (0, vR (94, 0, 0)), (1, vR (11, 0, 0)), (2, vR (12, 0, 0))] [] M') : WL p l e s m below meth c b A G cy ad ce sl Z 925 [(3, vI i), (0, vR (94, 0, 0)), (1, vR (11, 0, 0)), (2, vR (12, 0, 0))] [] M := by
  refine wl_aload_n X dL_law_925 rfl 2 rfl ?_
  refine wl_arg X 1 hi (by decide) (v := 1) (by decide) (ki := 1) (by decide) 1 0 rfl rfl dL_law_926 dL_law_927 dL_law_928 dL_law_929 dL_law_930 ?_
  refine wl_arg X 2 hi (by decide) (v := 2) (by decide) (ki := 2) (by decide) 1 0 rfl rfl dL_law_931 dL_law_932 dL_law_933 dL_law_934 dL_law_935 ?_
  refine wl_callC X (as := [vI (xs (i.toInt.toNat + 1)), vI (xs (i.toInt.toNat + 2))]) (rest := []) (c_X11_heads l G cy ad 0 (xs (i.toInt.toNat + 1)) (xs (i.toInt.toNat + 2)) M hI) kV_X11_heads (by decide +kernel) (Nat.le_of_ble_eq_true rfl) m_933 rfl rfl rfl (by decide) (Nat.le_of_ble_eq_true rfl) (Nat.le_of_ble_eq_true rfl) dL_law_936 (fun r1_ M2_ q3_ => ?_)
  obtain ⟨hI1_, hF1_, -, hs1_⟩ := q3_
  have e1_ : mgC M2_ M = M2_ := mgC_self hF1_ SC_X11_heads
  rw [e1_]
  have hD1_ : InvD M2_ := e1_ ▸ mgC_D (M' := M2_) hD
  refine wl_pop X dL_law_939 ?_
  refine wl_aload_n X dL_law_940 rfl 3 rfl ?_
  refine wl_arg X 1 hi (by decide) (v := 1) (by decide) (ki := 1) (by decide) 1 0 rfl rfl dL_law_941 dL_law_942 dL_law_943 dL_law_944 dL_law_945 ?_
  refine wl_arg X 2 hi (by decide) (v := 2) (by decide) (ki := 2) (by decide) 1 0 rfl rfl dL_law_946 dL_law_947 dL_law_948 dL_law_949 dL_law_950 ?_
  refine wl_callD X (as := [vI (xs (i.toInt.toNat + 1)), vI (xs (i.toInt.toNat + 2))]) (rest := []) (c_X12_heads l G cy ad 0 (xs (i.toInt.toNat + 1)) (xs (i.toInt.toNat + 2)) M2_ hD1_) kV_X12_heads (by decide +kernel) (Nat.le_of_ble_eq_true rfl) m_1699 rfl rfl rfl (by decide) (Nat.le_of_ble_eq_true rfl) (Nat.le_of_ble_eq_true rfl) dL_law_951 (fun r4_ M5_ q6_ => ?_)
  obtain ⟨hI2_, hF2_, -, hs2_⟩ := q6_
  have e2_ : (mgD M5_ M2_).1 = M5_.1 := mgD_self hF2_ SD_X12_heads
  have hI9_ : Inv (mgD M5_ M2_) := mgD_I hI1_
  have hD9_ : InvD (mgD M5_ M2_) := mgD_D hI2_
  have st_ := sy_19 hR hD hD1_ hI2_ hF1_ hs1_ hF2_ hs2_
  refine wl_pop X dL_law_954 ?_
  refine wl_goto X (tgt := 1731) dL_law_955 (by decide) ?_
  exact hend _ hI9_ hD9_ (by rw [e2_]; exact st_.1)
