/-! The law's cases. -/
set_option maxRecDepth 100000 in
set_option maxHeartbeats 4000000 in
theorem lc_row {p : Program} {l : Launch} {e : Env} {s : State} {m : MethodId} {below : List Frame} {meth : Method} {c : Code} {kc ks : Nat} {ret9 : Option FieldType} {D : va_G} {yc : Nat → ClassId} {t1 t2 : Nat} {A : Nat → Prop} {Q : State → Prop} {a b : Int → Nat} {g h : Mm} {b0 L : Nat} {xs : Nat → Int32} (C : VC p s m #[Value.ref b0] meth c cL_law 4 wsL_law RL ret9 D yc t1 t2 A (pW a b yc)) (hX : va_X b0 L xs s s.heap) (hbl : b0 < s.heap.size) (hbA : ¬ A b0) (hL : L ≤ 384) {i : Int} (hi0 : 0 ≤ i) (hi1 : i + 6 ≤ L) (hk : kc + 0 ≤ room_1.cells ∧ ks + 0 ≤ room_1.slots) (H : Rel g h) (kk : ∀ g' h' : Mm, Rel g' h' → VX p l e room_1 s m #[Value.ref b0] below meth c 4 kc ks D A (pW a b yc) Q 1453 [(0, .ref b0), (1, .ref (a 0)), (2, .ref (b 0)), (3, .int (iI (i)))] [] (g', h')) : VX p l e room_1 s m #[Value.ref b0] below meth c 4 kc ks D A (pW a b yc) Q 232 [(0, .ref b0), (1, .ref (a 0)), (2, .ref (b 0)), (3, .int (iI (i)))] [] (g, h) := by
  obtain ⟨r9, h9, hC9, hM9⟩ := p_row l D yc t1 t2 a b (Ac 86 a) (Ac 12 b) H (xv xs (i + 1)) (xv xs (i + 2)) (xv_r _ _) (xv_r _ _)
  refine x_aload_n C 1 dL_law_232 rfl ?_
  refine x_aload_n C 0 dL_law_233 rfl ?_
  refine x_iload_n C 3 dL_law_234 rfl ?_
  refine x_iconst C dL_law_235 ?_
  refine x_iadd C dL_law_236 ?_
  refine y_sld C hX hbl hbA (by omega) (by omega) hL dL_law_237 ?_
  refine x_aload_n C 0 dL_law_238 rfl ?_
  refine x_iload_n C 3 dL_law_239 rfl ?_
  refine x_iconst C dL_law_240 ?_
  refine x_iadd C dL_law_241 ?_
  refine y_sld C hX hbl hbA (by omega) (by omega) hL dL_law_242 ?_
  refine y_cCi C hk (As := [.int (iI (xv xs (i + 1))), .int (iI (xv xs (i + 2)))]) (rest := []) hC9 (cwV 2 C.hts gL_law_X4_row rfl rfl rfl (by decide +kernel) ⟨by decide, by decide⟩) rfl rfl (Nat.le_of_ble_eq_true rfl) dL_law_243 ?_
  rintro r8 g9 ⟨rfl, hR⟩
  refine x_aload_n C 2 dL_law_246 rfl ?_
  refine x_aload_n C 0 dL_law_247 rfl ?_
  refine x_iload_n C 3 dL_law_248 rfl ?_
  refine x_iconst C dL_law_249 ?_
  refine x_iadd C dL_law_250 ?_
  refine y_sld C hX hbl hbA (by omega) (by omega) hL dL_law_251 ?_
  refine x_aload_n C 0 dL_law_252 rfl ?_
  refine x_iload_n C 3 dL_law_253 rfl ?_
  refine x_iconst C dL_law_254 ?_
  refine x_iadd C dL_law_255 ?_
  refine y_sld C hX hbl hbA (by omega) (by omega) hL dL_law_256 ?_
  refine y_cMi C hk (As := [.int (iI (xv xs (i + 1))), .int (iI (xv xs (i + 2)))]) hM9 (cwV 2 C.hts gL_law_X5_row rfl rfl rfl (by decide +kernel) ⟨by decide, by decide⟩) rfl rfl (Nat.le_of_ble_eq_true rfl) dL_law_257 ?_
  rintro r7 h8 ⟨rfl, rfl⟩
  refine x_icr (tgt := 1453) C dL_law_260 (by decide) ?_
  exact kk _ _ hR
set_option maxRecDepth 100000 in
set_option maxHeartbeats 4000000 in
theorem lc_lay {p : Program} {l : Launch} {e : Env} {s : State} {m : MethodId} {below : List Frame} {meth : Method} {c : Code} {kc ks : Nat} {ret9 : Option FieldType} {D : va_G} {yc : Nat → ClassId} {t1 t2 : Nat} {A : Nat → Prop} {Q : State → Prop} {a b : Int → Nat} {g h : Mm} {b0 L : Nat} {xs : Nat → Int32} (C : VC p s m #[Value.ref b0] meth c cL_law 4 wsL_law RL ret9 D yc t1 t2 A (pW a b yc)) (hX : va_X b0 L xs s s.heap) (hbl : b0 < s.heap.size) (hbA : ¬ A b0) (hL : L ≤ 384) {i : Int} (hi0 : 0 ≤ i) (hi1 : i + 6 ≤ L) (hk : kc + 0 ≤ room_1.cells ∧ ks + 0 ≤ room_1.slots) (H : Rel g h) (kk : ∀ g' h' : Mm, Rel g' h' → VX p l e room_1 s m #[Value.ref b0] below meth c 4 kc ks D A (pW a b yc) Q 1453 [(0, .ref b0), (1, .ref (a 0)), (2, .ref (b 0)), (3, .int (iI (i)))] [] (g', h')) : VX p l e room_1 s m #[Value.ref b0] below meth c 4 kc ks D A (pW a b yc) Q 265 [(0, .ref b0), (1, .ref (a 0)), (2, .ref (b 0)), (3, .int (iI (i)))] [] (g, h) := by
  obtain ⟨r9, h9, hC9, hM9⟩ := p_lay l D yc t1 t2 a b (Ac 86 a) (Ac 12 b) H (xv xs (i + 1)) (xv xs (i + 2)) (xv xs (i + 3)) (xv_r _ _) (xv_r _ _) (xv_r _ _)
  refine x_aload_n C 1 dL_law_265 rfl ?_
  refine x_aload_n C 0 dL_law_266 rfl ?_
  refine x_iload_n C 3 dL_law_267 rfl ?_
  refine x_iconst C dL_law_268 ?_
  refine x_iadd C dL_law_269 ?_
  refine y_sld C hX hbl hbA (by omega) (by omega) hL dL_law_270 ?_
  refine x_aload_n C 0 dL_law_271 rfl ?_
  refine x_iload_n C 3 dL_law_272 rfl ?_
  refine x_iconst C dL_law_273 ?_
  refine x_iadd C dL_law_274 ?_
  refine y_sld C hX hbl hbA (by omega) (by omega) hL dL_law_275 ?_
  refine x_aload_n C 0 dL_law_276 rfl ?_
  refine x_iload_n C 3 dL_law_277 rfl ?_
  refine x_iconst C dL_law_278 ?_
  refine x_iadd C dL_law_279 ?_
  refine y_sld C hX hbl hbA (by omega) (by omega) hL dL_law_280 ?_
  refine y_cCi C hk (As := [.int (iI (xv xs (i + 1))), .int (iI (xv xs (i + 2))), .int (iI (xv xs (i + 3)))]) (rest := []) hC9 (cwV 3 C.hts gL_law_X4_lay rfl rfl rfl (by decide +kernel) ⟨by decide, by decide⟩) rfl rfl (Nat.le_of_ble_eq_true rfl) dL_law_281 ?_
  rintro r8 g9 ⟨rfl, hR⟩
  refine x_aload_n C 2 dL_law_284 rfl ?_
  refine x_aload_n C 0 dL_law_285 rfl ?_
  refine x_iload_n C 3 dL_law_286 rfl ?_
  refine x_iconst C dL_law_287 ?_
  refine x_iadd C dL_law_288 ?_
  refine y_sld C hX hbl hbA (by omega) (by omega) hL dL_law_289 ?_
  refine x_aload_n C 0 dL_law_290 rfl ?_
  refine x_iload_n C 3 dL_law_291 rfl ?_
  refine x_iconst C dL_law_292 ?_
  refine x_iadd C dL_law_293 ?_
  refine y_sld C hX hbl hbA (by omega) (by omega) hL dL_law_294 ?_
  refine x_aload_n C 0 dL_law_295 rfl ?_
  refine x_iload_n C 3 dL_law_296 rfl ?_
  refine x_iconst C dL_law_297 ?_
  refine x_iadd C dL_law_298 ?_
  refine y_sld C hX hbl hbA (by omega) (by omega) hL dL_law_299 ?_
  refine y_cMi C hk (As := [.int (iI (xv xs (i + 1))), .int (iI (xv xs (i + 2))), .int (iI (xv xs (i + 3)))]) hM9 (cwV 3 C.hts gL_law_X5_lay rfl rfl rfl (by decide +kernel) ⟨by decide, by decide⟩) rfl rfl (Nat.le_of_ble_eq_true rfl) dL_law_300 ?_
  rintro r7 h8 ⟨rfl, rfl⟩
  refine x_icr (tgt := 1453) C dL_law_303 (by decide) ?_
  exact kk _ _ hR
set_option maxRecDepth 100000 in
set_option maxHeartbeats 4000000 in
theorem lc_at {p : Program} {l : Launch} {e : Env} {s : State} {m : MethodId} {below : List Frame} {meth : Method} {c : Code} {kc ks : Nat} {ret9 : Option FieldType} {D : va_G} {yc : Nat → ClassId} {t1 t2 : Nat} {A : Nat → Prop} {Q : State → Prop} {a b : Int → Nat} {g h : Mm} {b0 L : Nat} {xs : Nat → Int32} (C : VC p s m #[Value.ref b0] meth c cL_law 4 wsL_law RL ret9 D yc t1 t2 A (pW a b yc)) (hX : va_X b0 L xs s s.heap) (hbl : b0 < s.heap.size) (hbA : ¬ A b0) (hL : L ≤ 384) {i : Int} (hi0 : 0 ≤ i) (hi1 : i + 6 ≤ L) (hk : kc + 0 ≤ room_1.cells ∧ ks + 0 ≤ room_1.slots) (H : Rel g h) (kk : ∀ g' h' : Mm, Rel g' h' → VX p l e room_1 s m #[Value.ref b0] below meth c 4 kc ks D A (pW a b yc) Q 1453 [(0, .ref b0), (1, .ref (a 0)), (2, .ref (b 0)), (3, .int (iI (i)))] [] (g', h')) : VX p l e room_1 s m #[Value.ref b0] below meth c 4 kc ks D A (pW a b yc) Q 308 [(0, .ref b0), (1, .ref (a 0)), (2, .ref (b 0)), (3, .int (iI (i)))] [] (g, h) := by
  obtain ⟨r9, h9, hC9, hM9⟩ := p_at l D yc t1 t2 a b (Ac 86 a) (Ac 12 b) H (xv xs (i + 1)) (xv xs (i + 2)) (xv_r _ _) (xv_r _ _)
  refine x_aload_n C 1 dL_law_308 rfl ?_
  refine x_aload_n C 0 dL_law_309 rfl ?_
  refine x_iload_n C 3 dL_law_310 rfl ?_
  refine x_iconst C dL_law_311 ?_
  refine x_iadd C dL_law_312 ?_
  refine y_sld C hX hbl hbA (by omega) (by omega) hL dL_law_313 ?_
  refine x_aload_n C 0 dL_law_314 rfl ?_
  refine x_iload_n C 3 dL_law_315 rfl ?_
  refine x_iconst C dL_law_316 ?_
  refine x_iadd C dL_law_317 ?_
  refine y_sld C hX hbl hbA (by omega) (by omega) hL dL_law_318 ?_
  refine y_cCi C hk (As := [.int (iI (xv xs (i + 1))), .int (iI (xv xs (i + 2)))]) (rest := []) hC9 (cwV 2 C.hts gL_law_X4_at rfl rfl rfl (by decide +kernel) ⟨by decide, by decide⟩) rfl rfl (Nat.le_of_ble_eq_true rfl) dL_law_319 ?_
  rintro r8 g9 ⟨rfl, hR⟩
  refine x_aload_n C 2 dL_law_322 rfl ?_
  refine x_aload_n C 0 dL_law_323 rfl ?_
  refine x_iload_n C 3 dL_law_324 rfl ?_
  refine x_iconst C dL_law_325 ?_
  refine x_iadd C dL_law_326 ?_
  refine y_sld C hX hbl hbA (by omega) (by omega) hL dL_law_327 ?_
  refine x_aload_n C 0 dL_law_328 rfl ?_
  refine x_iload_n C 3 dL_law_329 rfl ?_
  refine x_iconst C dL_law_330 ?_
  refine x_iadd C dL_law_331 ?_
  refine y_sld C hX hbl hbA (by omega) (by omega) hL dL_law_332 ?_
  refine y_cMi C hk (As := [.int (iI (xv xs (i + 1))), .int (iI (xv xs (i + 2)))]) hM9 (cwV 2 C.hts gL_law_X5_at rfl rfl rfl (by decide +kernel) ⟨by decide, by decide⟩) rfl rfl (Nat.le_of_ble_eq_true rfl) dL_law_333 ?_
  rintro r7 h8 ⟨rfl, rfl⟩
  refine x_icr (tgt := 1453) C dL_law_336 (by decide) ?_
  exact kk _ _ hR
set_option maxRecDepth 100000 in
set_option maxHeartbeats 4000000 in
theorem lc_tear {p : Program} {l : Launch} {e : Env} {s : State} {m : MethodId} {below : List Frame} {meth : Method} {c : Code} {kc ks : Nat} {ret9 : Option FieldType} {D : va_G} {yc : Nat → ClassId} {t1 t2 : Nat} {A : Nat → Prop} {Q : State → Prop} {a b : Int → Nat} {g h : Mm} {b0 L : Nat} {xs : Nat → Int32} (C : VC p s m #[Value.ref b0] meth c cL_law 4 wsL_law RL ret9 D yc t1 t2 A (pW a b yc)) (hX : va_X b0 L xs s s.heap) (hbl : b0 < s.heap.size) (hbA : ¬ A b0) (hL : L ≤ 384) {i : Int} (hi0 : 0 ≤ i) (hi1 : i + 6 ≤ L) (hk : kc + 0 ≤ room_1.cells ∧ ks + 0 ≤ room_1.slots) (H : Rel g h) (kk : ∀ g' h' : Mm, Rel g' h' → VX p l e room_1 s m #[Value.ref b0] below meth c 4 kc ks D A (pW a b yc) Q 1453 [(0, .ref b0), (1, .ref (a 0)), (2, .ref (b 0)), (3, .int (iI (i)))] [] (g', h')) : VX p l e room_1 s m #[Value.ref b0] below meth c 4 kc ks D A (pW a b yc) Q 341 [(0, .ref b0), (1, .ref (a 0)), (2, .ref (b 0)), (3, .int (iI (i)))] [] (g, h) := by
  obtain ⟨r9, h9, hC9, hM9⟩ := p_tear l D yc t1 t2 a b (Ac 86 a) (Ac 12 b) H (xv xs (i + 1)) (xv_r _ _)
  refine x_aload_n C 1 dL_law_341 rfl ?_
  refine x_aload_n C 0 dL_law_342 rfl ?_
  refine x_iload_n C 3 dL_law_343 rfl ?_
  refine x_iconst C dL_law_344 ?_
  refine x_iadd C dL_law_345 ?_
  refine y_sld C hX hbl hbA (by omega) (by omega) hL dL_law_346 ?_
  refine y_cCi C hk (As := [.int (iI (xv xs (i + 1)))]) (rest := []) hC9 (cwV 1 C.hts gL_law_X4_tear rfl rfl rfl (by decide +kernel) ⟨by decide, by decide⟩) rfl rfl (Nat.le_of_ble_eq_true rfl) dL_law_347 ?_
  rintro r8 g9 ⟨rfl, hR⟩
  refine x_aload_n C 2 dL_law_350 rfl ?_
  refine x_aload_n C 0 dL_law_351 rfl ?_
  refine x_iload_n C 3 dL_law_352 rfl ?_
  refine x_iconst C dL_law_353 ?_
  refine x_iadd C dL_law_354 ?_
  refine y_sld C hX hbl hbA (by omega) (by omega) hL dL_law_355 ?_
  refine y_cMi C hk (As := [.int (iI (xv xs (i + 1)))]) hM9 (cwV 1 C.hts gL_law_X5_tear rfl rfl rfl (by decide +kernel) ⟨by decide, by decide⟩) rfl rfl (Nat.le_of_ble_eq_true rfl) dL_law_356 ?_
  rintro r7 h8 ⟨rfl, rfl⟩
  refine x_icr (tgt := 1453) C dL_law_359 (by decide) ?_
  exact kk _ _ hR
set_option maxRecDepth 100000 in
set_option maxHeartbeats 4000000 in
theorem lc_copy {p : Program} {l : Launch} {e : Env} {s : State} {m : MethodId} {below : List Frame} {meth : Method} {c : Code} {kc ks : Nat} {ret9 : Option FieldType} {D : va_G} {yc : Nat → ClassId} {t1 t2 : Nat} {A : Nat → Prop} {Q : State → Prop} {a b : Int → Nat} {g h : Mm} {b0 L : Nat} {xs : Nat → Int32} (C : VC p s m #[Value.ref b0] meth c cL_law 4 wsL_law RL ret9 D yc t1 t2 A (pW a b yc)) (hX : va_X b0 L xs s s.heap) (hbl : b0 < s.heap.size) (hbA : ¬ A b0) (hL : L ≤ 384) {i : Int} (hi0 : 0 ≤ i) (hi1 : i + 6 ≤ L) (hk : kc + 0 ≤ room_1.cells ∧ ks + 0 ≤ room_1.slots) (H : Rel g h) (kk : ∀ g' h' : Mm, Rel g' h' → VX p l e room_1 s m #[Value.ref b0] below meth c 4 kc ks D A (pW a b yc) Q 1453 [(0, .ref b0), (1, .ref (a 0)), (2, .ref (b 0)), (3, .int (iI (i)))] [] (g', h')) : VX p l e room_1 s m #[Value.ref b0] below meth c 4 kc ks D A (pW a b yc) Q 364 [(0, .ref b0), (1, .ref (a 0)), (2, .ref (b 0)), (3, .int (iI (i)))] [] (g, h) := by
  obtain ⟨r9, h9, hC9, hM9⟩ := p_copy l D yc t1 t2 a b (Ac 86 a) (Ac 12 b) H (xv xs (i + 1)) (xv xs (i + 2)) (xv xs (i + 3)) (xv xs (i + 4)) (xv xs (i + 5)) (xv_r _ _) (xv_r _ _) (xv_r _ _) (xv_r _ _) (xv_r _ _)
  refine x_aload_n C 1 dL_law_364 rfl ?_
  refine x_aload_n C 0 dL_law_365 rfl ?_
  refine x_iload_n C 3 dL_law_366 rfl ?_
  refine x_iconst C dL_law_367 ?_
  refine x_iadd C dL_law_368 ?_
  refine y_sld C hX hbl hbA (by omega) (by omega) hL dL_law_369 ?_
  refine x_aload_n C 0 dL_law_370 rfl ?_
  refine x_iload_n C 3 dL_law_371 rfl ?_
  refine x_iconst C dL_law_372 ?_
  refine x_iadd C dL_law_373 ?_
  refine y_sld C hX hbl hbA (by omega) (by omega) hL dL_law_374 ?_
  refine x_aload_n C 0 dL_law_375 rfl ?_
  refine x_iload_n C 3 dL_law_376 rfl ?_
  refine x_iconst C dL_law_377 ?_
  refine x_iadd C dL_law_378 ?_
  refine y_sld C hX hbl hbA (by omega) (by omega) hL dL_law_379 ?_
  refine x_aload_n C 0 dL_law_380 rfl ?_
  refine x_iload_n C 3 dL_law_381 rfl ?_
  refine x_iconst C dL_law_382 ?_
  refine x_iadd C dL_law_383 ?_
  refine y_sld C hX hbl hbA (by omega) (by omega) hL dL_law_384 ?_
  refine x_aload_n C 0 dL_law_385 rfl ?_
  refine x_iload_n C 3 dL_law_386 rfl ?_
  refine x_iconst C dL_law_387 ?_
  refine x_iadd C dL_law_388 ?_
  refine y_sld C hX hbl hbA (by omega) (by omega) hL dL_law_389 ?_
  refine y_cCi C hk (As := [.int (iI (xv xs (i + 1))), .int (iI (xv xs (i + 2))), .int (iI (xv xs (i + 3))), .int (iI (xv xs (i + 4))), .int (iI (xv xs (i + 5)))]) (rest := []) hC9 (cwV 5 C.hts gL_law_X4_copy rfl rfl rfl (by decide +kernel) ⟨by decide, by decide⟩) rfl rfl (Nat.le_of_ble_eq_true rfl) dL_law_390 ?_
  rintro r8 g9 ⟨rfl, hR⟩
  refine x_aload_n C 2 dL_law_393 rfl ?_
  refine x_aload_n C 0 dL_law_394 rfl ?_
  refine x_iload_n C 3 dL_law_395 rfl ?_
  refine x_iconst C dL_law_396 ?_
  refine x_iadd C dL_law_397 ?_
  refine y_sld C hX hbl hbA (by omega) (by omega) hL dL_law_398 ?_
  refine x_aload_n C 0 dL_law_399 rfl ?_
  refine x_iload_n C 3 dL_law_400 rfl ?_
  refine x_iconst C dL_law_401 ?_
  refine x_iadd C dL_law_402 ?_
  refine y_sld C hX hbl hbA (by omega) (by omega) hL dL_law_403 ?_
  refine x_aload_n C 0 dL_law_404 rfl ?_
  refine x_iload_n C 3 dL_law_405 rfl ?_
  refine x_iconst C dL_law_406 ?_
  refine x_iadd C dL_law_407 ?_
  refine y_sld C hX hbl hbA (by omega) (by omega) hL dL_law_408 ?_
  refine x_aload_n C 0 dL_law_409 rfl ?_
  refine x_iload_n C 3 dL_law_410 rfl ?_
  refine x_iconst C dL_law_411 ?_
  refine x_iadd C dL_law_412 ?_
  refine y_sld C hX hbl hbA (by omega) (by omega) hL dL_law_413 ?_
  refine x_aload_n C 0 dL_law_414 rfl ?_
  refine x_iload_n C 3 dL_law_415 rfl ?_
  refine x_iconst C dL_law_416 ?_
  refine x_iadd C dL_law_417 ?_
  refine y_sld C hX hbl hbA (by omega) (by omega) hL dL_law_418 ?_
  refine y_cMi C hk (As := [.int (iI (xv xs (i + 1))), .int (iI (xv xs (i + 2))), .int (iI (xv xs (i + 3))), .int (iI (xv xs (i + 4))), .int (iI (xv xs (i + 5)))]) hM9 (cwV 5 C.hts gL_law_X5_copy rfl rfl rfl (by decide +kernel) ⟨by decide, by decide⟩) rfl rfl (Nat.le_of_ble_eq_true rfl) dL_law_419 ?_
  rintro r7 h8 ⟨rfl, rfl⟩
  refine x_icr (tgt := 1453) C dL_law_422 (by decide) ?_
  exact kk _ _ hR
set_option maxRecDepth 100000 in
set_option maxHeartbeats 4000000 in
theorem lc_mean {p : Program} {l : Launch} {e : Env} {s : State} {m : MethodId} {below : List Frame} {meth : Method} {c : Code} {kc ks : Nat} {ret9 : Option FieldType} {D : va_G} {yc : Nat → ClassId} {t1 t2 : Nat} {A : Nat → Prop} {Q : State → Prop} {a b : Int → Nat} {g h : Mm} {b0 L : Nat} {xs : Nat → Int32} (C : VC p s m #[Value.ref b0] meth c cL_law 4 wsL_law RL ret9 D yc t1 t2 A (pW a b yc)) (hX : va_X b0 L xs s s.heap) (hbl : b0 < s.heap.size) (hbA : ¬ A b0) (hL : L ≤ 384) {i : Int} (hi0 : 0 ≤ i) (hi1 : i + 6 ≤ L) (hk : kc + 0 ≤ room_1.cells ∧ ks + 0 ≤ room_1.slots) (H : Rel g h) (kk : ∀ g' h' : Mm, Rel g' h' → VX p l e room_1 s m #[Value.ref b0] below meth c 4 kc ks D A (pW a b yc) Q 1453 [(0, .ref b0), (1, .ref (a 0)), (2, .ref (b 0)), (3, .int (iI (i)))] [] (g', h')) : VX p l e room_1 s m #[Value.ref b0] below meth c 4 kc ks D A (pW a b yc) Q 427 [(0, .ref b0), (1, .ref (a 0)), (2, .ref (b 0)), (3, .int (iI (i)))] [] (g, h) := by
  obtain ⟨r9, h9, hC9, hM9⟩ := p_mean l D yc t1 t2 a b (Ac 86 a) (Ac 12 b) H (xv xs (i + 1)) (xv_r _ _)
  refine x_aload_n C 1 dL_law_427 rfl ?_
  refine x_aload_n C 0 dL_law_428 rfl ?_
  refine x_iload_n C 3 dL_law_429 rfl ?_
  refine x_iconst C dL_law_430 ?_
  refine x_iadd C dL_law_431 ?_
  refine y_sld C hX hbl hbA (by omega) (by omega) hL dL_law_432 ?_
  refine y_cCi C hk (As := [.int (iI (xv xs (i + 1)))]) (rest := []) hC9 (cwV 1 C.hts gL_law_X4_mean rfl rfl rfl (by decide +kernel) ⟨by decide, by decide⟩) rfl rfl (Nat.le_of_ble_eq_true rfl) dL_law_433 ?_
  rintro r8 g9 ⟨rfl, hR⟩
  refine x_aload_n C 2 dL_law_436 rfl ?_
  refine x_aload_n C 0 dL_law_437 rfl ?_
  refine x_iload_n C 3 dL_law_438 rfl ?_
  refine x_iconst C dL_law_439 ?_
  refine x_iadd C dL_law_440 ?_
  refine y_sld C hX hbl hbA (by omega) (by omega) hL dL_law_441 ?_
  refine y_cMi C hk (As := [.int (iI (xv xs (i + 1)))]) hM9 (cwV 1 C.hts gL_law_X5_mean rfl rfl rfl (by decide +kernel) ⟨by decide, by decide⟩) rfl rfl (Nat.le_of_ble_eq_true rfl) dL_law_442 ?_
  rintro r7 h8 ⟨rfl, rfl⟩
  refine x_icr (tgt := 1453) C dL_law_445 (by decide) ?_
  exact kk _ _ hR
set_option maxRecDepth 100000 in
set_option maxHeartbeats 4000000 in
theorem lc_text {p : Program} {l : Launch} {e : Env} {s : State} {m : MethodId} {below : List Frame} {meth : Method} {c : Code} {kc ks : Nat} {ret9 : Option FieldType} {D : va_G} {yc : Nat → ClassId} {t1 t2 : Nat} {A : Nat → Prop} {Q : State → Prop} {a b : Int → Nat} {g h : Mm} {b0 L : Nat} {xs : Nat → Int32} (C : VC p s m #[Value.ref b0] meth c cL_law 4 wsL_law RL ret9 D yc t1 t2 A (pW a b yc)) (hX : va_X b0 L xs s s.heap) (hbl : b0 < s.heap.size) (hbA : ¬ A b0) (hL : L ≤ 384) {i : Int} (hi0 : 0 ≤ i) (hi1 : i + 6 ≤ L) (hk : kc + 0 ≤ room_1.cells ∧ ks + 0 ≤ room_1.slots) (H : Rel g h) (kk : ∀ g' h' : Mm, Rel g' h' → VX p l e room_1 s m #[Value.ref b0] below meth c 4 kc ks D A (pW a b yc) Q 1453 [(0, .ref b0), (1, .ref (a 0)), (2, .ref (b 0)), (3, .int (iI (i)))] [] (g', h')) : VX p l e room_1 s m #[Value.ref b0] below meth c 4 kc ks D A (pW a b yc) Q 450 [(0, .ref b0), (1, .ref (a 0)), (2, .ref (b 0)), (3, .int (iI (i)))] [] (g, h) := by
  obtain ⟨r9, h9, hC9, hM9⟩ := p_text l D yc t1 t2 a b (Ac 86 a) (Ac 12 b) H (xv xs (i + 1)) (xv xs (i + 2)) (xv_r _ _) (xv_r _ _)
  refine x_aload_n C 1 dL_law_450 rfl ?_
  refine x_aload_n C 0 dL_law_451 rfl ?_
  refine x_iload_n C 3 dL_law_452 rfl ?_
  refine x_iconst C dL_law_453 ?_
  refine x_iadd C dL_law_454 ?_
  refine y_sld C hX hbl hbA (by omega) (by omega) hL dL_law_455 ?_
  refine x_aload_n C 0 dL_law_456 rfl ?_
  refine x_iload_n C 3 dL_law_457 rfl ?_
  refine x_iconst C dL_law_458 ?_
  refine x_iadd C dL_law_459 ?_
  refine y_sld C hX hbl hbA (by omega) (by omega) hL dL_law_460 ?_
  refine y_cCi C hk (As := [.int (iI (xv xs (i + 1))), .int (iI (xv xs (i + 2)))]) (rest := []) hC9 (cwV 2 C.hts gL_law_X4_text rfl rfl rfl (by decide +kernel) ⟨by decide, by decide⟩) rfl rfl (Nat.le_of_ble_eq_true rfl) dL_law_461 ?_
  rintro r8 g9 ⟨rfl, hR⟩
  refine x_aload_n C 2 dL_law_464 rfl ?_
  refine x_aload_n C 0 dL_law_465 rfl ?_
  refine x_iload_n C 3 dL_law_466 rfl ?_
  refine x_iconst C dL_law_467 ?_
  refine x_iadd C dL_law_468 ?_
  refine y_sld C hX hbl hbA (by omega) (by omega) hL dL_law_469 ?_
  refine x_aload_n C 0 dL_law_470 rfl ?_
  refine x_iload_n C 3 dL_law_471 rfl ?_
  refine x_iconst C dL_law_472 ?_
  refine x_iadd C dL_law_473 ?_
  refine y_sld C hX hbl hbA (by omega) (by omega) hL dL_law_474 ?_
  refine y_cMi C hk (As := [.int (iI (xv xs (i + 1))), .int (iI (xv xs (i + 2)))]) hM9 (cwV 2 C.hts gL_law_X5_text rfl rfl rfl (by decide +kernel) ⟨by decide, by decide⟩) rfl rfl (Nat.le_of_ble_eq_true rfl) dL_law_475 ?_
  rintro r7 h8 ⟨rfl, rfl⟩
  refine x_icr (tgt := 1453) C dL_law_478 (by decide) ?_
  exact kk _ _ hR
set_option maxRecDepth 100000 in
set_option maxHeartbeats 4000000 in
theorem lc_put {p : Program} {l : Launch} {e : Env} {s : State} {m : MethodId} {below : List Frame} {meth : Method} {c : Code} {kc ks : Nat} {ret9 : Option FieldType} {D : va_G} {yc : Nat → ClassId} {t1 t2 : Nat} {A : Nat → Prop} {Q : State → Prop} {a b : Int → Nat} {g h : Mm} {b0 L : Nat} {xs : Nat → Int32} (C : VC p s m #[Value.ref b0] meth c cL_law 4 wsL_law RL ret9 D yc t1 t2 A (pW a b yc)) (hX : va_X b0 L xs s s.heap) (hbl : b0 < s.heap.size) (hbA : ¬ A b0) (hL : L ≤ 384) {i : Int} (hi0 : 0 ≤ i) (hi1 : i + 6 ≤ L) (hk : kc + 0 ≤ room_1.cells ∧ ks + 0 ≤ room_1.slots) (H : Rel g h) (kk : ∀ g' h' : Mm, Rel g' h' → VX p l e room_1 s m #[Value.ref b0] below meth c 4 kc ks D A (pW a b yc) Q 1453 [(0, .ref b0), (1, .ref (a 0)), (2, .ref (b 0)), (3, .int (iI (i)))] [] (g', h')) : VX p l e room_1 s m #[Value.ref b0] below meth c 4 kc ks D A (pW a b yc) Q 483 [(0, .ref b0), (1, .ref (a 0)), (2, .ref (b 0)), (3, .int (iI (i)))] [] (g, h) := by
  obtain ⟨r9, h9, hC9, hM9⟩ := p_put l D yc t1 t2 a b (Ac 86 a) (Ac 12 b) H (xv xs (i + 1)) (xv xs (i + 2)) (xv xs (i + 3)) (xv_r _ _) (xv_r _ _) (xv_r _ _)
  refine x_aload_n C 1 dL_law_483 rfl ?_
  refine x_aload_n C 0 dL_law_484 rfl ?_
  refine x_iload_n C 3 dL_law_485 rfl ?_
  refine x_iconst C dL_law_486 ?_
  refine x_iadd C dL_law_487 ?_
  refine y_sld C hX hbl hbA (by omega) (by omega) hL dL_law_488 ?_
  refine x_aload_n C 0 dL_law_489 rfl ?_
  refine x_iload_n C 3 dL_law_490 rfl ?_
  refine x_iconst C dL_law_491 ?_
  refine x_iadd C dL_law_492 ?_
  refine y_sld C hX hbl hbA (by omega) (by omega) hL dL_law_493 ?_
  refine x_aload_n C 0 dL_law_494 rfl ?_
  refine x_iload_n C 3 dL_law_495 rfl ?_
  refine x_iconst C dL_law_496 ?_
  refine x_iadd C dL_law_497 ?_
  refine y_sld C hX hbl hbA (by omega) (by omega) hL dL_law_498 ?_
  refine y_cCi C hk (As := [.int (iI (xv xs (i + 1))), .int (iI (xv xs (i + 2))), .int (iI (xv xs (i + 3)))]) (rest := []) hC9 (cwV 3 C.hts gL_law_X4_put rfl rfl rfl (by decide +kernel) ⟨by decide, by decide⟩) rfl rfl (Nat.le_of_ble_eq_true rfl) dL_law_499 ?_
  rintro r8 g9 ⟨rfl, hR⟩
  refine x_aload_n C 2 dL_law_502 rfl ?_
  refine x_aload_n C 0 dL_law_503 rfl ?_
  refine x_iload_n C 3 dL_law_504 rfl ?_
  refine x_iconst C dL_law_505 ?_
  refine x_iadd C dL_law_506 ?_
  refine y_sld C hX hbl hbA (by omega) (by omega) hL dL_law_507 ?_
  refine x_aload_n C 0 dL_law_508 rfl ?_
  refine x_iload_n C 3 dL_law_509 rfl ?_
  refine x_iconst C dL_law_510 ?_
  refine x_iadd C dL_law_511 ?_
  refine y_sld C hX hbl hbA (by omega) (by omega) hL dL_law_512 ?_
  refine x_aload_n C 0 dL_law_513 rfl ?_
  refine x_iload_n C 3 dL_law_514 rfl ?_
  refine x_iconst C dL_law_515 ?_
  refine x_iadd C dL_law_516 ?_
  refine y_sld C hX hbl hbA (by omega) (by omega) hL dL_law_517 ?_
  refine y_cMi C hk (As := [.int (iI (xv xs (i + 1))), .int (iI (xv xs (i + 2))), .int (iI (xv xs (i + 3)))]) hM9 (cwV 3 C.hts gL_law_X5_put rfl rfl rfl (by decide +kernel) ⟨by decide, by decide⟩) rfl rfl (Nat.le_of_ble_eq_true rfl) dL_law_518 ?_
  rintro r7 h8 ⟨rfl, rfl⟩
  refine x_icr (tgt := 1453) C dL_law_521 (by decide) ?_
  exact kk _ _ hR
set_option maxRecDepth 100000 in
set_option maxHeartbeats 4000000 in
theorem lc_fault {p : Program} {l : Launch} {e : Env} {s : State} {m : MethodId} {below : List Frame} {meth : Method} {c : Code} {kc ks : Nat} {ret9 : Option FieldType} {D : va_G} {yc : Nat → ClassId} {t1 t2 : Nat} {A : Nat → Prop} {Q : State → Prop} {a b : Int → Nat} {g h : Mm} {b0 L : Nat} {xs : Nat → Int32} (C : VC p s m #[Value.ref b0] meth c cL_law 4 wsL_law RL ret9 D yc t1 t2 A (pW a b yc)) (hX : va_X b0 L xs s s.heap) (hbl : b0 < s.heap.size) (hbA : ¬ A b0) (hL : L ≤ 384) {i : Int} (hi0 : 0 ≤ i) (hi1 : i + 6 ≤ L) (hk : kc + 0 ≤ room_1.cells ∧ ks + 0 ≤ room_1.slots) (H : Rel g h) (kk : ∀ g' h' : Mm, Rel g' h' → VX p l e room_1 s m #[Value.ref b0] below meth c 4 kc ks D A (pW a b yc) Q 1453 [(0, .ref b0), (1, .ref (a 0)), (2, .ref (b 0)), (3, .int (iI (i)))] [] (g', h')) : VX p l e room_1 s m #[Value.ref b0] below meth c 4 kc ks D A (pW a b yc) Q 526 [(0, .ref b0), (1, .ref (a 0)), (2, .ref (b 0)), (3, .int (iI (i)))] [] (g, h) := by
  obtain ⟨r9, h9, hC9, hM9⟩ := p_fault l D yc t1 t2 a b (Ac 86 a) (Ac 12 b) H (xv xs (i + 1)) (xv_r _ _)
  refine x_aload_n C 1 dL_law_526 rfl ?_
  refine x_aload_n C 0 dL_law_527 rfl ?_
  refine x_iload_n C 3 dL_law_528 rfl ?_
  refine x_iconst C dL_law_529 ?_
  refine x_iadd C dL_law_530 ?_
  refine y_sld C hX hbl hbA (by omega) (by omega) hL dL_law_531 ?_
  refine y_cCi C hk (As := [.int (iI (xv xs (i + 1)))]) (rest := []) hC9 (cwV 1 C.hts gL_law_X4_fault rfl rfl rfl (by decide +kernel) ⟨by decide, by decide⟩) rfl rfl (Nat.le_of_ble_eq_true rfl) dL_law_532 ?_
  rintro r8 g9 ⟨rfl, hR⟩
  refine x_aload_n C 2 dL_law_535 rfl ?_
  refine x_aload_n C 0 dL_law_536 rfl ?_
  refine x_iload_n C 3 dL_law_537 rfl ?_
  refine x_iconst C dL_law_538 ?_
  refine x_iadd C dL_law_539 ?_
  refine y_sld C hX hbl hbA (by omega) (by omega) hL dL_law_540 ?_
  refine y_cMi C hk (As := [.int (iI (xv xs (i + 1)))]) hM9 (cwV 1 C.hts gL_law_X5_fault rfl rfl rfl (by decide +kernel) ⟨by decide, by decide⟩) rfl rfl (Nat.le_of_ble_eq_true rfl) dL_law_541 ?_
  rintro r7 h8 ⟨rfl, rfl⟩
  refine x_icr (tgt := 1453) C dL_law_544 (by decide) ?_
  exact kk _ _ hR
set_option maxRecDepth 100000 in
set_option maxHeartbeats 4000000 in
theorem lc_farms {p : Program} {l : Launch} {e : Env} {s : State} {m : MethodId} {below : List Frame} {meth : Method} {c : Code} {kc ks : Nat} {ret9 : Option FieldType} {D : va_G} {yc : Nat → ClassId} {t1 t2 : Nat} {A : Nat → Prop} {Q : State → Prop} {a b : Int → Nat} {g h : Mm} {b0 L : Nat} {xs : Nat → Int32} (C : VC p s m #[Value.ref b0] meth c cL_law 4 wsL_law RL ret9 D yc t1 t2 A (pW a b yc)) (hX : va_X b0 L xs s s.heap) (hbl : b0 < s.heap.size) (hbA : ¬ A b0) (hL : L ≤ 384) {i : Int} (hi0 : 0 ≤ i) (hi1 : i + 6 ≤ L) (hk : kc + 0 ≤ room_1.cells ∧ ks + 0 ≤ room_1.slots) (H : Rel g h) (kk : ∀ g' h' : Mm, Rel g' h' → VX p l e room_1 s m #[Value.ref b0] below meth c 4 kc ks D A (pW a b yc) Q 1453 [(0, .ref b0), (1, .ref (a 0)), (2, .ref (b 0)), (3, .int (iI (i)))] [] (g', h')) : VX p l e room_1 s m #[Value.ref b0] below meth c 4 kc ks D A (pW a b yc) Q 549 [(0, .ref b0), (1, .ref (a 0)), (2, .ref (b 0)), (3, .int (iI (i)))] [] (g, h) := by
  obtain ⟨r9, h9, hC9, hM9⟩ := p_farms l D yc t1 t2 a b (Ac 86 a) (Ac 12 b) H (xv xs (i + 1)) (xv_r _ _)
  refine x_aload_n C 1 dL_law_549 rfl ?_
  refine x_aload_n C 0 dL_law_550 rfl ?_
  refine x_iload_n C 3 dL_law_551 rfl ?_
  refine x_iconst C dL_law_552 ?_
  refine x_iadd C dL_law_553 ?_
  refine y_sld C hX hbl hbA (by omega) (by omega) hL dL_law_554 ?_
  refine y_cCi C hk (As := [.int (iI (xv xs (i + 1)))]) (rest := []) hC9 (cwV 1 C.hts gL_law_X4_farms rfl rfl rfl (by decide +kernel) ⟨by decide, by decide⟩) rfl rfl (Nat.le_of_ble_eq_true rfl) dL_law_555 ?_
  rintro r8 g9 ⟨rfl, hR⟩
  refine x_aload_n C 2 dL_law_558 rfl ?_
  refine x_aload_n C 0 dL_law_559 rfl ?_
  refine x_iload_n C 3 dL_law_560 rfl ?_
  refine x_iconst C dL_law_561 ?_
  refine x_iadd C dL_law_562 ?_
  refine y_sld C hX hbl hbA (by omega) (by omega) hL dL_law_563 ?_
  refine y_cMi C hk (As := [.int (iI (xv xs (i + 1)))]) hM9 (cwV 1 C.hts gL_law_X5_farms rfl rfl rfl (by decide +kernel) ⟨by decide, by decide⟩) rfl rfl (Nat.le_of_ble_eq_true rfl) dL_law_564 ?_
  rintro r7 h8 ⟨rfl, rfl⟩
  refine x_icr (tgt := 1453) C dL_law_567 (by decide) ?_
  exact kk _ _ hR
set_option maxRecDepth 100000 in
set_option maxHeartbeats 4000000 in
theorem lc_beast {p : Program} {l : Launch} {e : Env} {s : State} {m : MethodId} {below : List Frame} {meth : Method} {c : Code} {kc ks : Nat} {ret9 : Option FieldType} {D : va_G} {yc : Nat → ClassId} {t1 t2 : Nat} {A : Nat → Prop} {Q : State → Prop} {a b : Int → Nat} {g h : Mm} {b0 L : Nat} {xs : Nat → Int32} (C : VC p s m #[Value.ref b0] meth c cL_law 4 wsL_law RL ret9 D yc t1 t2 A (pW a b yc)) (hX : va_X b0 L xs s s.heap) (hbl : b0 < s.heap.size) (hbA : ¬ A b0) (hL : L ≤ 384) {i : Int} (hi0 : 0 ≤ i) (hi1 : i + 6 ≤ L) (hk : kc + 0 ≤ room_1.cells ∧ ks + 0 ≤ room_1.slots) (H : Rel g h) (kk : ∀ g' h' : Mm, Rel g' h' → VX p l e room_1 s m #[Value.ref b0] below meth c 4 kc ks D A (pW a b yc) Q 1453 [(0, .ref b0), (1, .ref (a 0)), (2, .ref (b 0)), (3, .int (iI (i)))] [] (g', h')) : VX p l e room_1 s m #[Value.ref b0] below meth c 4 kc ks D A (pW a b yc) Q 572 [(0, .ref b0), (1, .ref (a 0)), (2, .ref (b 0)), (3, .int (iI (i)))] [] (g, h) := by
  obtain ⟨r9, h9, hC9, hM9⟩ := p_beast l D yc t1 t2 a b (Ac 86 a) (Ac 12 b) H (xv xs (i + 1)) (xv xs (i + 2)) (xv_r _ _) (xv_r _ _)
  refine x_aload_n C 1 dL_law_572 rfl ?_
  refine x_aload_n C 0 dL_law_573 rfl ?_
  refine x_iload_n C 3 dL_law_574 rfl ?_
  refine x_iconst C dL_law_575 ?_
  refine x_iadd C dL_law_576 ?_
  refine y_sld C hX hbl hbA (by omega) (by omega) hL dL_law_577 ?_
  refine x_aload_n C 0 dL_law_578 rfl ?_
  refine x_iload_n C 3 dL_law_579 rfl ?_
  refine x_iconst C dL_law_580 ?_
  refine x_iadd C dL_law_581 ?_
  refine y_sld C hX hbl hbA (by omega) (by omega) hL dL_law_582 ?_
  refine y_cCi C hk (As := [.int (iI (xv xs (i + 1))), .int (iI (xv xs (i + 2)))]) (rest := []) hC9 (cwV 2 C.hts gL_law_X4_beast rfl rfl rfl (by decide +kernel) ⟨by decide, by decide⟩) rfl rfl (Nat.le_of_ble_eq_true rfl) dL_law_583 ?_
  rintro r8 g9 ⟨rfl, hR⟩
  refine x_aload_n C 2 dL_law_586 rfl ?_
  refine x_aload_n C 0 dL_law_587 rfl ?_
  refine x_iload_n C 3 dL_law_588 rfl ?_
  refine x_iconst C dL_law_589 ?_
  refine x_iadd C dL_law_590 ?_
  refine y_sld C hX hbl hbA (by omega) (by omega) hL dL_law_591 ?_
  refine x_aload_n C 0 dL_law_592 rfl ?_
  refine x_iload_n C 3 dL_law_593 rfl ?_
  refine x_iconst C dL_law_594 ?_
  refine x_iadd C dL_law_595 ?_
  refine y_sld C hX hbl hbA (by omega) (by omega) hL dL_law_596 ?_
  refine y_cMi C hk (As := [.int (iI (xv xs (i + 1))), .int (iI (xv xs (i + 2)))]) hM9 (cwV 2 C.hts gL_law_X5_beast rfl rfl rfl (by decide +kernel) ⟨by decide, by decide⟩) rfl rfl (Nat.le_of_ble_eq_true rfl) dL_law_597 ?_
  rintro r7 h8 ⟨rfl, rfl⟩
  refine x_icr (tgt := 1453) C dL_law_600 (by decide) ?_
  exact kk _ _ hR
set_option maxRecDepth 100000 in
set_option maxHeartbeats 4000000 in
theorem lc_mark {p : Program} {l : Launch} {e : Env} {s : State} {m : MethodId} {below : List Frame} {meth : Method} {c : Code} {kc ks : Nat} {ret9 : Option FieldType} {D : va_G} {yc : Nat → ClassId} {t1 t2 : Nat} {A : Nat → Prop} {Q : State → Prop} {a b : Int → Nat} {g h : Mm} {b0 L : Nat} {xs : Nat → Int32} (C : VC p s m #[Value.ref b0] meth c cL_law 4 wsL_law RL ret9 D yc t1 t2 A (pW a b yc)) (hX : va_X b0 L xs s s.heap) (hbl : b0 < s.heap.size) (hbA : ¬ A b0) (hL : L ≤ 384) {i : Int} (hi0 : 0 ≤ i) (hi1 : i + 6 ≤ L) (hk : kc + 0 ≤ room_1.cells ∧ ks + 0 ≤ room_1.slots) (H : Rel g h) (kk : ∀ g' h' : Mm, Rel g' h' → VX p l e room_1 s m #[Value.ref b0] below meth c 4 kc ks D A (pW a b yc) Q 1453 [(0, .ref b0), (1, .ref (a 0)), (2, .ref (b 0)), (3, .int (iI (i)))] [] (g', h')) : VX p l e room_1 s m #[Value.ref b0] below meth c 4 kc ks D A (pW a b yc) Q 605 [(0, .ref b0), (1, .ref (a 0)), (2, .ref (b 0)), (3, .int (iI (i)))] [] (g, h) := by
  obtain ⟨r9, h9, hC9, hM9⟩ := p_mark l D yc t1 t2 a b (Ac 86 a) (Ac 12 b) H (xv xs (i + 1)) (xv xs (i + 2)) (xv_r _ _) (xv_r _ _)
  refine x_aload_n C 1 dL_law_605 rfl ?_
  refine x_aload_n C 0 dL_law_606 rfl ?_
  refine x_iload_n C 3 dL_law_607 rfl ?_
  refine x_iconst C dL_law_608 ?_
  refine x_iadd C dL_law_609 ?_
  refine y_sld C hX hbl hbA (by omega) (by omega) hL dL_law_610 ?_
  refine x_aload_n C 0 dL_law_611 rfl ?_
  refine x_iload_n C 3 dL_law_612 rfl ?_
  refine x_iconst C dL_law_613 ?_
  refine x_iadd C dL_law_614 ?_
  refine y_sld C hX hbl hbA (by omega) (by omega) hL dL_law_615 ?_
  refine y_cCi C hk (As := [.int (iI (xv xs (i + 1))), .int (iI (xv xs (i + 2)))]) (rest := []) hC9 (cwV 2 C.hts gL_law_X4_mark rfl rfl rfl (by decide +kernel) ⟨by decide, by decide⟩) rfl rfl (Nat.le_of_ble_eq_true rfl) dL_law_616 ?_
  rintro r8 g9 ⟨rfl, hR⟩
  refine x_aload_n C 2 dL_law_619 rfl ?_
  refine x_aload_n C 0 dL_law_620 rfl ?_
  refine x_iload_n C 3 dL_law_621 rfl ?_
  refine x_iconst C dL_law_622 ?_
  refine x_iadd C dL_law_623 ?_
  refine y_sld C hX hbl hbA (by omega) (by omega) hL dL_law_624 ?_
  refine x_aload_n C 0 dL_law_625 rfl ?_
  refine x_iload_n C 3 dL_law_626 rfl ?_
  refine x_iconst C dL_law_627 ?_
  refine x_iadd C dL_law_628 ?_
  refine y_sld C hX hbl hbA (by omega) (by omega) hL dL_law_629 ?_
  refine y_cMi C hk (As := [.int (iI (xv xs (i + 1))), .int (iI (xv xs (i + 2)))]) hM9 (cwV 2 C.hts gL_law_X5_mark rfl rfl rfl (by decide +kernel) ⟨by decide, by decide⟩) rfl rfl (Nat.le_of_ble_eq_true rfl) dL_law_630 ?_
  rintro r7 h8 ⟨rfl, rfl⟩
  refine x_icr (tgt := 1453) C dL_law_633 (by decide) ?_
  exact kk _ _ hR
set_option maxRecDepth 100000 in
set_option maxHeartbeats 4000000 in
theorem lc_turn {p : Program} {l : Launch} {e : Env} {s : State} {m : MethodId} {below : List Frame} {meth : Method} {c : Code} {kc ks : Nat} {ret9 : Option FieldType} {D : va_G} {yc : Nat → ClassId} {t1 t2 : Nat} {A : Nat → Prop} {Q : State → Prop} {a b : Int → Nat} {g h : Mm} {b0 L : Nat} {xs : Nat → Int32} (C : VC p s m #[Value.ref b0] meth c cL_law 4 wsL_law RL ret9 D yc t1 t2 A (pW a b yc)) (hX : va_X b0 L xs s s.heap) (hbl : b0 < s.heap.size) (hbA : ¬ A b0) (hL : L ≤ 384) {i : Int} (hi0 : 0 ≤ i) (hi1 : i + 6 ≤ L) (hk : kc + 0 ≤ room_1.cells ∧ ks + 0 ≤ room_1.slots) (H : Rel g h) (kk : ∀ g' h' : Mm, Rel g' h' → VX p l e room_1 s m #[Value.ref b0] below meth c 4 kc ks D A (pW a b yc) Q 1453 [(0, .ref b0), (1, .ref (a 0)), (2, .ref (b 0)), (3, .int (iI (i)))] [] (g', h')) : VX p l e room_1 s m #[Value.ref b0] below meth c 4 kc ks D A (pW a b yc) Q 638 [(0, .ref b0), (1, .ref (a 0)), (2, .ref (b 0)), (3, .int (iI (i)))] [] (g, h) := by
  obtain ⟨r9, h9, hC9, hM9⟩ := p_turn l D yc t1 t2 a b (Ac 86 a) (Ac 12 b) H (xv xs (i + 1)) (xv xs (i + 2)) (xv_r _ _) (xv_r _ _)
  refine x_aload_n C 1 dL_law_638 rfl ?_
  refine x_aload_n C 0 dL_law_639 rfl ?_
  refine x_iload_n C 3 dL_law_640 rfl ?_
  refine x_iconst C dL_law_641 ?_
  refine x_iadd C dL_law_642 ?_
  refine y_sld C hX hbl hbA (by omega) (by omega) hL dL_law_643 ?_
  refine x_aload_n C 0 dL_law_644 rfl ?_
  refine x_iload_n C 3 dL_law_645 rfl ?_
  refine x_iconst C dL_law_646 ?_
  refine x_iadd C dL_law_647 ?_
  refine y_sld C hX hbl hbA (by omega) (by omega) hL dL_law_648 ?_
  refine y_cCi C hk (As := [.int (iI (xv xs (i + 1))), .int (iI (xv xs (i + 2)))]) (rest := []) hC9 (cwV 2 C.hts gL_law_X4_turn rfl rfl rfl (by decide +kernel) ⟨by decide, by decide⟩) rfl rfl (Nat.le_of_ble_eq_true rfl) dL_law_649 ?_
  rintro r8 g9 ⟨rfl, hR⟩
  refine x_aload_n C 2 dL_law_652 rfl ?_
  refine x_aload_n C 0 dL_law_653 rfl ?_
  refine x_iload_n C 3 dL_law_654 rfl ?_
  refine x_iconst C dL_law_655 ?_
  refine x_iadd C dL_law_656 ?_
  refine y_sld C hX hbl hbA (by omega) (by omega) hL dL_law_657 ?_
  refine x_aload_n C 0 dL_law_658 rfl ?_
  refine x_iload_n C 3 dL_law_659 rfl ?_
  refine x_iconst C dL_law_660 ?_
  refine x_iadd C dL_law_661 ?_
  refine y_sld C hX hbl hbA (by omega) (by omega) hL dL_law_662 ?_
  refine y_cMi C hk (As := [.int (iI (xv xs (i + 1))), .int (iI (xv xs (i + 2)))]) hM9 (cwV 2 C.hts gL_law_X5_turn rfl rfl rfl (by decide +kernel) ⟨by decide, by decide⟩) rfl rfl (Nat.le_of_ble_eq_true rfl) dL_law_663 ?_
  rintro r7 h8 ⟨rfl, rfl⟩
  refine x_icr (tgt := 1453) C dL_law_666 (by decide) ?_
  exact kk _ _ hR
set_option maxRecDepth 100000 in
set_option maxHeartbeats 4000000 in
theorem lc_day {p : Program} {l : Launch} {e : Env} {s : State} {m : MethodId} {below : List Frame} {meth : Method} {c : Code} {kc ks : Nat} {ret9 : Option FieldType} {D : va_G} {yc : Nat → ClassId} {t1 t2 : Nat} {A : Nat → Prop} {Q : State → Prop} {a b : Int → Nat} {g h : Mm} {b0 L : Nat} {xs : Nat → Int32} (C : VC p s m #[Value.ref b0] meth c cL_law 4 wsL_law RL ret9 D yc t1 t2 A (pW a b yc)) (hX : va_X b0 L xs s s.heap) (hbl : b0 < s.heap.size) (hbA : ¬ A b0) (hL : L ≤ 384) {i : Int} (hi0 : 0 ≤ i) (hi1 : i + 6 ≤ L) (hk : kc + 0 ≤ room_1.cells ∧ ks + 0 ≤ room_1.slots) (H : Rel g h) (kk : ∀ g' h' : Mm, Rel g' h' → VX p l e room_1 s m #[Value.ref b0] below meth c 4 kc ks D A (pW a b yc) Q 1453 [(0, .ref b0), (1, .ref (a 0)), (2, .ref (b 0)), (3, .int (iI (i)))] [] (g', h')) : VX p l e room_1 s m #[Value.ref b0] below meth c 4 kc ks D A (pW a b yc) Q 671 [(0, .ref b0), (1, .ref (a 0)), (2, .ref (b 0)), (3, .int (iI (i)))] [] (g, h) := by
  obtain ⟨r9, h9, hC9, hM9⟩ := p_day l D yc t1 t2 a b (Ac 86 a) (Ac 12 b) H
  refine x_aload_n C 1 dL_law_671 rfl ?_
  refine y_cCi C hk (As := []) (rest := []) hC9 (cwV 0 C.hts gL_law_X4_day rfl rfl rfl (by decide +kernel) ⟨by decide, by decide⟩) rfl rfl (Nat.le_of_ble_eq_true rfl) dL_law_672 ?_
  rintro r8 g9 ⟨rfl, hR⟩
  refine x_aload_n C 2 dL_law_675 rfl ?_
  refine y_cMi C hk (As := []) hM9 (cwV 0 C.hts gL_law_X5_day rfl rfl rfl (by decide +kernel) ⟨by decide, by decide⟩) rfl rfl (Nat.le_of_ble_eq_true rfl) dL_law_676 ?_
  rintro r7 h8 ⟨rfl, rfl⟩
  refine x_icr (tgt := 1453) C dL_law_679 (by decide) ?_
  exact kk _ _ hR
set_option maxRecDepth 100000 in
set_option maxHeartbeats 4000000 in
theorem lc_drive {p : Program} {l : Launch} {e : Env} {s : State} {m : MethodId} {below : List Frame} {meth : Method} {c : Code} {kc ks : Nat} {ret9 : Option FieldType} {D : va_G} {yc : Nat → ClassId} {t1 t2 : Nat} {A : Nat → Prop} {Q : State → Prop} {a b : Int → Nat} {g h : Mm} {b0 L : Nat} {xs : Nat → Int32} (C : VC p s m #[Value.ref b0] meth c cL_law 4 wsL_law RL ret9 D yc t1 t2 A (pW a b yc)) (hX : va_X b0 L xs s s.heap) (hbl : b0 < s.heap.size) (hbA : ¬ A b0) (hL : L ≤ 384) {i : Int} (hi0 : 0 ≤ i) (hi1 : i + 6 ≤ L) (hk : kc + 0 ≤ room_1.cells ∧ ks + 0 ≤ room_1.slots) (H : Rel g h) (kk : ∀ g' h' : Mm, Rel g' h' → VX p l e room_1 s m #[Value.ref b0] below meth c 4 kc ks D A (pW a b yc) Q 1453 [(0, .ref b0), (1, .ref (a 0)), (2, .ref (b 0)), (3, .int (iI (i)))] [] (g', h')) : VX p l e room_1 s m #[Value.ref b0] below meth c 4 kc ks D A (pW a b yc) Q 684 [(0, .ref b0), (1, .ref (a 0)), (2, .ref (b 0)), (3, .int (iI (i)))] [] (g, h) := by
  obtain ⟨r9, h9, hC9, hM9⟩ := p_drive l D yc t1 t2 a b (Ac 86 a) (Ac 12 b) H (xv xs (i + 1)) (xv_r _ _)
  refine x_aload_n C 1 dL_law_684 rfl ?_
  refine x_aload_n C 0 dL_law_685 rfl ?_
  refine x_iload_n C 3 dL_law_686 rfl ?_
  refine x_iconst C dL_law_687 ?_
  refine x_iadd C dL_law_688 ?_
  refine y_sld C hX hbl hbA (by omega) (by omega) hL dL_law_689 ?_
  refine y_cCi C hk (As := [.int (iI (xv xs (i + 1)))]) (rest := []) hC9 (cwV 1 C.hts gL_law_X4_drive rfl rfl rfl (by decide +kernel) ⟨by decide, by decide⟩) rfl rfl (Nat.le_of_ble_eq_true rfl) dL_law_690 ?_
  rintro r8 g9 ⟨rfl, hR⟩
  refine x_aload_n C 2 dL_law_693 rfl ?_
  refine x_aload_n C 0 dL_law_694 rfl ?_
  refine x_iload_n C 3 dL_law_695 rfl ?_
  refine x_iconst C dL_law_696 ?_
  refine x_iadd C dL_law_697 ?_
  refine y_sld C hX hbl hbA (by omega) (by omega) hL dL_law_698 ?_
  refine y_cMi C hk (As := [.int (iI (xv xs (i + 1)))]) hM9 (cwV 1 C.hts gL_law_X5_drive rfl rfl rfl (by decide +kernel) ⟨by decide, by decide⟩) rfl rfl (Nat.le_of_ble_eq_true rfl) dL_law_699 ?_
  rintro r7 h8 ⟨rfl, rfl⟩
  refine x_icr (tgt := 1453) C dL_law_702 (by decide) ?_
  exact kk _ _ hR
set_option maxRecDepth 100000 in
set_option maxHeartbeats 4000000 in
theorem lc_pay {p : Program} {l : Launch} {e : Env} {s : State} {m : MethodId} {below : List Frame} {meth : Method} {c : Code} {kc ks : Nat} {ret9 : Option FieldType} {D : va_G} {yc : Nat → ClassId} {t1 t2 : Nat} {A : Nat → Prop} {Q : State → Prop} {a b : Int → Nat} {g h : Mm} {b0 L : Nat} {xs : Nat → Int32} (C : VC p s m #[Value.ref b0] meth c cL_law 4 wsL_law RL ret9 D yc t1 t2 A (pW a b yc)) (hX : va_X b0 L xs s s.heap) (hbl : b0 < s.heap.size) (hbA : ¬ A b0) (hL : L ≤ 384) {i : Int} (hi0 : 0 ≤ i) (hi1 : i + 6 ≤ L) (hk : kc + 0 ≤ room_1.cells ∧ ks + 0 ≤ room_1.slots) (H : Rel g h) (kk : ∀ g' h' : Mm, Rel g' h' → VX p l e room_1 s m #[Value.ref b0] below meth c 4 kc ks D A (pW a b yc) Q 1453 [(0, .ref b0), (1, .ref (a 0)), (2, .ref (b 0)), (3, .int (iI (i)))] [] (g', h')) : VX p l e room_1 s m #[Value.ref b0] below meth c 4 kc ks D A (pW a b yc) Q 707 [(0, .ref b0), (1, .ref (a 0)), (2, .ref (b 0)), (3, .int (iI (i)))] [] (g, h) := by
  obtain ⟨r9, h9, hC9, hM9⟩ := p_pay l D yc t1 t2 a b (Ac 86 a) (Ac 12 b) H (xv xs (i + 1)) (xv xs (i + 2)) (xv_r _ _) (xv_r _ _)
  refine x_aload_n C 1 dL_law_707 rfl ?_
  refine x_aload_n C 0 dL_law_708 rfl ?_
  refine x_iload_n C 3 dL_law_709 rfl ?_
  refine x_iconst C dL_law_710 ?_
  refine x_iadd C dL_law_711 ?_
  refine y_sld C hX hbl hbA (by omega) (by omega) hL dL_law_712 ?_
  refine x_aload_n C 0 dL_law_713 rfl ?_
  refine x_iload_n C 3 dL_law_714 rfl ?_
  refine x_iconst C dL_law_715 ?_
  refine x_iadd C dL_law_716 ?_
  refine y_sld C hX hbl hbA (by omega) (by omega) hL dL_law_717 ?_
  refine y_cCi C hk (As := [.int (iI (xv xs (i + 1))), .int (iI (xv xs (i + 2)))]) (rest := []) hC9 (cwV 2 C.hts gL_law_X4_pay rfl rfl rfl (by decide +kernel) ⟨by decide, by decide⟩) rfl rfl (Nat.le_of_ble_eq_true rfl) dL_law_718 ?_
  rintro r8 g9 ⟨rfl, hR⟩
  refine x_aload_n C 2 dL_law_721 rfl ?_
  refine x_aload_n C 0 dL_law_722 rfl ?_
  refine x_iload_n C 3 dL_law_723 rfl ?_
  refine x_iconst C dL_law_724 ?_
  refine x_iadd C dL_law_725 ?_
  refine y_sld C hX hbl hbA (by omega) (by omega) hL dL_law_726 ?_
  refine x_aload_n C 0 dL_law_727 rfl ?_
  refine x_iload_n C 3 dL_law_728 rfl ?_
  refine x_iconst C dL_law_729 ?_
  refine x_iadd C dL_law_730 ?_
  refine y_sld C hX hbl hbA (by omega) (by omega) hL dL_law_731 ?_
  refine y_cMi C hk (As := [.int (iI (xv xs (i + 1))), .int (iI (xv xs (i + 2)))]) hM9 (cwV 2 C.hts gL_law_X5_pay rfl rfl rfl (by decide +kernel) ⟨by decide, by decide⟩) rfl rfl (Nat.le_of_ble_eq_true rfl) dL_law_732 ?_
  rintro r7 h8 ⟨rfl, rfl⟩
  refine x_icr (tgt := 1453) C dL_law_735 (by decide) ?_
  exact kk _ _ hR
set_option maxRecDepth 100000 in
set_option maxHeartbeats 4000000 in
theorem lc_undo {p : Program} {l : Launch} {e : Env} {s : State} {m : MethodId} {below : List Frame} {meth : Method} {c : Code} {kc ks : Nat} {ret9 : Option FieldType} {D : va_G} {yc : Nat → ClassId} {t1 t2 : Nat} {A : Nat → Prop} {Q : State → Prop} {a b : Int → Nat} {g h : Mm} {b0 L : Nat} {xs : Nat → Int32} (C : VC p s m #[Value.ref b0] meth c cL_law 4 wsL_law RL ret9 D yc t1 t2 A (pW a b yc)) (hX : va_X b0 L xs s s.heap) (hbl : b0 < s.heap.size) (hbA : ¬ A b0) (hL : L ≤ 384) {i : Int} (hi0 : 0 ≤ i) (hi1 : i + 6 ≤ L) (hk : kc + 0 ≤ room_1.cells ∧ ks + 0 ≤ room_1.slots) (H : Rel g h) (kk : ∀ g' h' : Mm, Rel g' h' → VX p l e room_1 s m #[Value.ref b0] below meth c 4 kc ks D A (pW a b yc) Q 1453 [(0, .ref b0), (1, .ref (a 0)), (2, .ref (b 0)), (3, .int (iI (i)))] [] (g', h')) : VX p l e room_1 s m #[Value.ref b0] below meth c 4 kc ks D A (pW a b yc) Q 740 [(0, .ref b0), (1, .ref (a 0)), (2, .ref (b 0)), (3, .int (iI (i)))] [] (g, h) := by
  obtain ⟨r9, h9, hC9, hM9⟩ := p_undo l D yc t1 t2 a b (Ac 86 a) (Ac 12 b) H (xv xs (i + 1)) (xv_r _ _)
  refine x_aload_n C 1 dL_law_740 rfl ?_
  refine x_aload_n C 0 dL_law_741 rfl ?_
  refine x_iload_n C 3 dL_law_742 rfl ?_
  refine x_iconst C dL_law_743 ?_
  refine x_iadd C dL_law_744 ?_
  refine y_sld C hX hbl hbA (by omega) (by omega) hL dL_law_745 ?_
  refine y_cCi C hk (As := [.int (iI (xv xs (i + 1)))]) (rest := []) hC9 (cwV 1 C.hts gL_law_X4_undo rfl rfl rfl (by decide +kernel) ⟨by decide, by decide⟩) rfl rfl (Nat.le_of_ble_eq_true rfl) dL_law_746 ?_
  rintro r8 g9 ⟨rfl, hR⟩
  refine x_aload_n C 2 dL_law_749 rfl ?_
  refine x_aload_n C 0 dL_law_750 rfl ?_
  refine x_iload_n C 3 dL_law_751 rfl ?_
  refine x_iconst C dL_law_752 ?_
  refine x_iadd C dL_law_753 ?_
  refine y_sld C hX hbl hbA (by omega) (by omega) hL dL_law_754 ?_
  refine y_cMi C hk (As := [.int (iI (xv xs (i + 1)))]) hM9 (cwV 1 C.hts gL_law_X5_undo rfl rfl rfl (by decide +kernel) ⟨by decide, by decide⟩) rfl rfl (Nat.le_of_ble_eq_true rfl) dL_law_755 ?_
  rintro r7 h8 ⟨rfl, rfl⟩
  refine x_icr (tgt := 1453) C dL_law_758 (by decide) ?_
  exact kk _ _ hR
set_option maxRecDepth 100000 in
set_option maxHeartbeats 4000000 in
theorem lc_keep {p : Program} {l : Launch} {e : Env} {s : State} {m : MethodId} {below : List Frame} {meth : Method} {c : Code} {kc ks : Nat} {ret9 : Option FieldType} {D : va_G} {yc : Nat → ClassId} {t1 t2 : Nat} {A : Nat → Prop} {Q : State → Prop} {a b : Int → Nat} {g h : Mm} {b0 L : Nat} {xs : Nat → Int32} (C : VC p s m #[Value.ref b0] meth c cL_law 4 wsL_law RL ret9 D yc t1 t2 A (pW a b yc)) (hX : va_X b0 L xs s s.heap) (hbl : b0 < s.heap.size) (hbA : ¬ A b0) (hL : L ≤ 384) {i : Int} (hi0 : 0 ≤ i) (hi1 : i + 6 ≤ L) (hk : kc + 0 ≤ room_1.cells ∧ ks + 0 ≤ room_1.slots) (H : Rel g h) (kk : ∀ g' h' : Mm, Rel g' h' → VX p l e room_1 s m #[Value.ref b0] below meth c 4 kc ks D A (pW a b yc) Q 1453 [(0, .ref b0), (1, .ref (a 0)), (2, .ref (b 0)), (3, .int (iI (i)))] [] (g', h')) : VX p l e room_1 s m #[Value.ref b0] below meth c 4 kc ks D A (pW a b yc) Q 763 [(0, .ref b0), (1, .ref (a 0)), (2, .ref (b 0)), (3, .int (iI (i)))] [] (g, h) := by
  obtain ⟨r9, h9, hC9, hM9⟩ := p_keep l D yc t1 t2 a b (Ac 86 a) (Ac 12 b) H (xv xs (i + 1)) (xv_r _ _)
  refine x_aload_n C 1 dL_law_763 rfl ?_
  refine x_aload_n C 0 dL_law_764 rfl ?_
  refine x_iload_n C 3 dL_law_765 rfl ?_
  refine x_iconst C dL_law_766 ?_
  refine x_iadd C dL_law_767 ?_
  refine y_sld C hX hbl hbA (by omega) (by omega) hL dL_law_768 ?_
  refine y_cCi C hk (As := [.int (iI (xv xs (i + 1)))]) (rest := []) hC9 (cwV 1 C.hts gL_law_X4_keep rfl rfl rfl (by decide +kernel) ⟨by decide, by decide⟩) rfl rfl (Nat.le_of_ble_eq_true rfl) dL_law_769 ?_
  rintro r8 g9 ⟨rfl, hR⟩
  refine x_aload_n C 2 dL_law_772 rfl ?_
  refine x_aload_n C 0 dL_law_773 rfl ?_
  refine x_iload_n C 3 dL_law_774 rfl ?_
  refine x_iconst C dL_law_775 ?_
  refine x_iadd C dL_law_776 ?_
  refine y_sld C hX hbl hbA (by omega) (by omega) hL dL_law_777 ?_
  refine y_cMi C hk (As := [.int (iI (xv xs (i + 1)))]) hM9 (cwV 1 C.hts gL_law_X5_keep rfl rfl rfl (by decide +kernel) ⟨by decide, by decide⟩) rfl rfl (Nat.le_of_ble_eq_true rfl) dL_law_778 ?_
  rintro r7 h8 ⟨rfl, rfl⟩
  refine x_icr (tgt := 1453) C dL_law_781 (by decide) ?_
  exact kk _ _ hR
set_option maxRecDepth 100000 in
set_option maxHeartbeats 4000000 in
theorem lc_on {p : Program} {l : Launch} {e : Env} {s : State} {m : MethodId} {below : List Frame} {meth : Method} {c : Code} {kc ks : Nat} {ret9 : Option FieldType} {D : va_G} {yc : Nat → ClassId} {t1 t2 : Nat} {A : Nat → Prop} {Q : State → Prop} {a b : Int → Nat} {g h : Mm} {b0 L : Nat} {xs : Nat → Int32} (C : VC p s m #[Value.ref b0] meth c cL_law 4 wsL_law RL ret9 D yc t1 t2 A (pW a b yc)) (hX : va_X b0 L xs s s.heap) (hbl : b0 < s.heap.size) (hbA : ¬ A b0) (hL : L ≤ 384) {i : Int} (hi0 : 0 ≤ i) (hi1 : i + 6 ≤ L) (hk : kc + 0 ≤ room_1.cells ∧ ks + 0 ≤ room_1.slots) (H : Rel g h) (kk : ∀ g' h' : Mm, Rel g' h' → VX p l e room_1 s m #[Value.ref b0] below meth c 4 kc ks D A (pW a b yc) Q 1453 [(0, .ref b0), (1, .ref (a 0)), (2, .ref (b 0)), (3, .int (iI (i)))] [] (g', h')) : VX p l e room_1 s m #[Value.ref b0] below meth c 4 kc ks D A (pW a b yc) Q 786 [(0, .ref b0), (1, .ref (a 0)), (2, .ref (b 0)), (3, .int (iI (i)))] [] (g, h) := by
  obtain ⟨r9, h9, hC9, hM9⟩ := p_on l D yc t1 t2 a b (Ac 86 a) (Ac 12 b) H (xv xs (i + 1)) (xv_r _ _)
  refine x_aload_n C 1 dL_law_786 rfl ?_
  refine x_aload_n C 0 dL_law_787 rfl ?_
  refine x_iload_n C 3 dL_law_788 rfl ?_
  refine x_iconst C dL_law_789 ?_
  refine x_iadd C dL_law_790 ?_
  refine y_sld C hX hbl hbA (by omega) (by omega) hL dL_law_791 ?_
  refine y_cCi C hk (As := [.int (iI (xv xs (i + 1)))]) (rest := []) hC9 (cwV 1 C.hts gL_law_X4_on rfl rfl rfl (by decide +kernel) ⟨by decide, by decide⟩) rfl rfl (Nat.le_of_ble_eq_true rfl) dL_law_792 ?_
  rintro r8 g9 ⟨rfl, hR⟩
  refine x_aload_n C 2 dL_law_795 rfl ?_
  refine x_aload_n C 0 dL_law_796 rfl ?_
  refine x_iload_n C 3 dL_law_797 rfl ?_
  refine x_iconst C dL_law_798 ?_
  refine x_iadd C dL_law_799 ?_
  refine y_sld C hX hbl hbA (by omega) (by omega) hL dL_law_800 ?_
  refine y_cMi C hk (As := [.int (iI (xv xs (i + 1)))]) hM9 (cwV 1 C.hts gL_law_X5_on rfl rfl rfl (by decide +kernel) ⟨by decide, by decide⟩) rfl rfl (Nat.le_of_ble_eq_true rfl) dL_law_801 ?_
  rintro r7 h8 ⟨rfl, rfl⟩
  refine x_icr (tgt := 1453) C dL_law_804 (by decide) ?_
  exact kk _ _ hR
set_option maxRecDepth 100000 in
set_option maxHeartbeats 4000000 in
theorem lc_where {p : Program} {l : Launch} {e : Env} {s : State} {m : MethodId} {below : List Frame} {meth : Method} {c : Code} {kc ks : Nat} {ret9 : Option FieldType} {D : va_G} {yc : Nat → ClassId} {t1 t2 : Nat} {A : Nat → Prop} {Q : State → Prop} {a b : Int → Nat} {g h : Mm} {b0 L : Nat} {xs : Nat → Int32} (C : VC p s m #[Value.ref b0] meth c cL_law 4 wsL_law RL ret9 D yc t1 t2 A (pW a b yc)) (hX : va_X b0 L xs s s.heap) (hbl : b0 < s.heap.size) (hbA : ¬ A b0) (hL : L ≤ 384) {i : Int} (hi0 : 0 ≤ i) (hi1 : i + 6 ≤ L) (hk : kc + 0 ≤ room_1.cells ∧ ks + 0 ≤ room_1.slots) (H : Rel g h) (kk : ∀ g' h' : Mm, Rel g' h' → VX p l e room_1 s m #[Value.ref b0] below meth c 4 kc ks D A (pW a b yc) Q 1453 [(0, .ref b0), (1, .ref (a 0)), (2, .ref (b 0)), (3, .int (iI (i)))] [] (g', h')) : VX p l e room_1 s m #[Value.ref b0] below meth c 4 kc ks D A (pW a b yc) Q 809 [(0, .ref b0), (1, .ref (a 0)), (2, .ref (b 0)), (3, .int (iI (i)))] [] (g, h) := by
  obtain ⟨r9, h9, hC9, hM9⟩ := p_where l D yc t1 t2 a b (Ac 86 a) (Ac 12 b) H (xv xs (i + 1)) (xv_r _ _)
  refine x_aload_n C 1 dL_law_809 rfl ?_
  refine x_aload_n C 0 dL_law_810 rfl ?_
  refine x_iload_n C 3 dL_law_811 rfl ?_
  refine x_iconst C dL_law_812 ?_
  refine x_iadd C dL_law_813 ?_
  refine y_sld C hX hbl hbA (by omega) (by omega) hL dL_law_814 ?_
  refine y_cCi C hk (As := [.int (iI (xv xs (i + 1)))]) (rest := []) hC9 (cwV 1 C.hts gL_law_X4_where rfl rfl rfl (by decide +kernel) ⟨by decide, by decide⟩) rfl rfl (Nat.le_of_ble_eq_true rfl) dL_law_815 ?_
  rintro r8 g9 ⟨rfl, hR⟩
  refine x_aload_n C 2 dL_law_818 rfl ?_
  refine x_aload_n C 0 dL_law_819 rfl ?_
  refine x_iload_n C 3 dL_law_820 rfl ?_
  refine x_iconst C dL_law_821 ?_
  refine x_iadd C dL_law_822 ?_
  refine y_sld C hX hbl hbA (by omega) (by omega) hL dL_law_823 ?_
  refine y_cMi C hk (As := [.int (iI (xv xs (i + 1)))]) hM9 (cwV 1 C.hts gL_law_X5_where rfl rfl rfl (by decide +kernel) ⟨by decide, by decide⟩) rfl rfl (Nat.le_of_ble_eq_true rfl) dL_law_824 ?_
  rintro r7 h8 ⟨rfl, rfl⟩
  refine x_icr (tgt := 1453) C dL_law_827 (by decide) ?_
  exact kk _ _ hR
set_option maxRecDepth 100000 in
set_option maxHeartbeats 4000000 in
theorem lc_milk {p : Program} {l : Launch} {e : Env} {s : State} {m : MethodId} {below : List Frame} {meth : Method} {c : Code} {kc ks : Nat} {ret9 : Option FieldType} {D : va_G} {yc : Nat → ClassId} {t1 t2 : Nat} {A : Nat → Prop} {Q : State → Prop} {a b : Int → Nat} {g h : Mm} {b0 L : Nat} {xs : Nat → Int32} (C : VC p s m #[Value.ref b0] meth c cL_law 4 wsL_law RL ret9 D yc t1 t2 A (pW a b yc)) (hX : va_X b0 L xs s s.heap) (hbl : b0 < s.heap.size) (hbA : ¬ A b0) (hL : L ≤ 384) {i : Int} (hi0 : 0 ≤ i) (hi1 : i + 6 ≤ L) (hk : kc + 0 ≤ room_1.cells ∧ ks + 0 ≤ room_1.slots) (H : Rel g h) (kk : ∀ g' h' : Mm, Rel g' h' → VX p l e room_1 s m #[Value.ref b0] below meth c 4 kc ks D A (pW a b yc) Q 1453 [(0, .ref b0), (1, .ref (a 0)), (2, .ref (b 0)), (3, .int (iI (i)))] [] (g', h')) : VX p l e room_1 s m #[Value.ref b0] below meth c 4 kc ks D A (pW a b yc) Q 832 [(0, .ref b0), (1, .ref (a 0)), (2, .ref (b 0)), (3, .int (iI (i)))] [] (g, h) := by
  obtain ⟨r9, h9, hC9, hM9⟩ := p_milk l D yc t1 t2 a b (Ac 86 a) (Ac 12 b) H (xv xs (i + 1)) (xv xs (i + 2)) (xv xs (i + 3)) (xv_r _ _) (xv_r _ _) (xv_r _ _)
  refine x_aload_n C 1 dL_law_832 rfl ?_
  refine x_aload_n C 0 dL_law_833 rfl ?_
  refine x_iload_n C 3 dL_law_834 rfl ?_
  refine x_iconst C dL_law_835 ?_
  refine x_iadd C dL_law_836 ?_
  refine y_sld C hX hbl hbA (by omega) (by omega) hL dL_law_837 ?_
  refine x_aload_n C 0 dL_law_838 rfl ?_
  refine x_iload_n C 3 dL_law_839 rfl ?_
  refine x_iconst C dL_law_840 ?_
  refine x_iadd C dL_law_841 ?_
  refine y_sld C hX hbl hbA (by omega) (by omega) hL dL_law_842 ?_
  refine x_aload_n C 0 dL_law_843 rfl ?_
  refine x_iload_n C 3 dL_law_844 rfl ?_
  refine x_iconst C dL_law_845 ?_
  refine x_iadd C dL_law_846 ?_
  refine y_sld C hX hbl hbA (by omega) (by omega) hL dL_law_847 ?_
  refine y_cCi C hk (As := [.int (iI (xv xs (i + 1))), .int (iI (xv xs (i + 2))), .int (iI (xv xs (i + 3)))]) (rest := []) hC9 (cwV 3 C.hts gL_law_X4_milk rfl rfl rfl (by decide +kernel) ⟨by decide, by decide⟩) rfl rfl (Nat.le_of_ble_eq_true rfl) dL_law_848 ?_
  rintro r8 g9 ⟨rfl, hR⟩
  refine x_aload_n C 2 dL_law_851 rfl ?_
  refine x_aload_n C 0 dL_law_852 rfl ?_
  refine x_iload_n C 3 dL_law_853 rfl ?_
  refine x_iconst C dL_law_854 ?_
  refine x_iadd C dL_law_855 ?_
  refine y_sld C hX hbl hbA (by omega) (by omega) hL dL_law_856 ?_
  refine x_aload_n C 0 dL_law_857 rfl ?_
  refine x_iload_n C 3 dL_law_858 rfl ?_
  refine x_iconst C dL_law_859 ?_
  refine x_iadd C dL_law_860 ?_
  refine y_sld C hX hbl hbA (by omega) (by omega) hL dL_law_861 ?_
  refine x_aload_n C 0 dL_law_862 rfl ?_
  refine x_iload_n C 3 dL_law_863 rfl ?_
  refine x_iconst C dL_law_864 ?_
  refine x_iadd C dL_law_865 ?_
  refine y_sld C hX hbl hbA (by omega) (by omega) hL dL_law_866 ?_
  refine y_cMi C hk (As := [.int (iI (xv xs (i + 1))), .int (iI (xv xs (i + 2))), .int (iI (xv xs (i + 3)))]) hM9 (cwV 3 C.hts gL_law_X5_milk rfl rfl rfl (by decide +kernel) ⟨by decide, by decide⟩) rfl rfl (Nat.le_of_ble_eq_true rfl) dL_law_867 ?_
  rintro r7 h8 ⟨rfl, rfl⟩
  refine x_icr (tgt := 1453) C dL_law_870 (by decide) ?_
  exact kk _ _ hR
set_option maxRecDepth 100000 in
set_option maxHeartbeats 4000000 in
theorem lc_walks {p : Program} {l : Launch} {e : Env} {s : State} {m : MethodId} {below : List Frame} {meth : Method} {c : Code} {kc ks : Nat} {ret9 : Option FieldType} {D : va_G} {yc : Nat → ClassId} {t1 t2 : Nat} {A : Nat → Prop} {Q : State → Prop} {a b : Int → Nat} {g h : Mm} {b0 L : Nat} {xs : Nat → Int32} (C : VC p s m #[Value.ref b0] meth c cL_law 4 wsL_law RL ret9 D yc t1 t2 A (pW a b yc)) (hX : va_X b0 L xs s s.heap) (hbl : b0 < s.heap.size) (hbA : ¬ A b0) (hL : L ≤ 384) {i : Int} (hi0 : 0 ≤ i) (hi1 : i + 6 ≤ L) (hk : kc + 0 ≤ room_1.cells ∧ ks + 0 ≤ room_1.slots) (H : Rel g h) (kk : ∀ g' h' : Mm, Rel g' h' → VX p l e room_1 s m #[Value.ref b0] below meth c 4 kc ks D A (pW a b yc) Q 1453 [(0, .ref b0), (1, .ref (a 0)), (2, .ref (b 0)), (3, .int (iI (i)))] [] (g', h')) : VX p l e room_1 s m #[Value.ref b0] below meth c 4 kc ks D A (pW a b yc) Q 875 [(0, .ref b0), (1, .ref (a 0)), (2, .ref (b 0)), (3, .int (iI (i)))] [] (g, h) := by
  obtain ⟨r9, h9, hC9, hM9⟩ := p_walks l D yc t1 t2 a b (Ac 86 a) (Ac 12 b) H (xv xs (i + 1)) (xv_r _ _)
  refine x_aload_n C 1 dL_law_875 rfl ?_
  refine x_aload_n C 0 dL_law_876 rfl ?_
  refine x_iload_n C 3 dL_law_877 rfl ?_
  refine x_iconst C dL_law_878 ?_
  refine x_iadd C dL_law_879 ?_
  refine y_sld C hX hbl hbA (by omega) (by omega) hL dL_law_880 ?_
  refine y_cCi C hk (As := [.int (iI (xv xs (i + 1)))]) (rest := []) hC9 (cwV 1 C.hts gL_law_X4_walks rfl rfl rfl (by decide +kernel) ⟨by decide, by decide⟩) rfl rfl (Nat.le_of_ble_eq_true rfl) dL_law_881 ?_
  rintro r8 g9 ⟨rfl, hR⟩
  refine x_aload_n C 2 dL_law_884 rfl ?_
  refine x_aload_n C 0 dL_law_885 rfl ?_
  refine x_iload_n C 3 dL_law_886 rfl ?_
  refine x_iconst C dL_law_887 ?_
  refine x_iadd C dL_law_888 ?_
  refine y_sld C hX hbl hbA (by omega) (by omega) hL dL_law_889 ?_
  refine y_cMi C hk (As := [.int (iI (xv xs (i + 1)))]) hM9 (cwV 1 C.hts gL_law_X5_walks rfl rfl rfl (by decide +kernel) ⟨by decide, by decide⟩) rfl rfl (Nat.le_of_ble_eq_true rfl) dL_law_890 ?_
  rintro r7 h8 ⟨rfl, rfl⟩
  refine x_icr (tgt := 1453) C dL_law_893 (by decide) ?_
  exact kk _ _ hR
set_option maxRecDepth 100000 in
set_option maxHeartbeats 4000000 in
theorem lc_out {p : Program} {l : Launch} {e : Env} {s : State} {m : MethodId} {below : List Frame} {meth : Method} {c : Code} {kc ks : Nat} {ret9 : Option FieldType} {D : va_G} {yc : Nat → ClassId} {t1 t2 : Nat} {A : Nat → Prop} {Q : State → Prop} {a b : Int → Nat} {g h : Mm} {b0 L : Nat} {xs : Nat → Int32} (C : VC p s m #[Value.ref b0] meth c cL_law 4 wsL_law RL ret9 D yc t1 t2 A (pW a b yc)) (hX : va_X b0 L xs s s.heap) (hbl : b0 < s.heap.size) (hbA : ¬ A b0) (hL : L ≤ 384) {i : Int} (hi0 : 0 ≤ i) (hi1 : i + 6 ≤ L) (hk : kc + 0 ≤ room_1.cells ∧ ks + 0 ≤ room_1.slots) (H : Rel g h) (kk : ∀ g' h' : Mm, Rel g' h' → VX p l e room_1 s m #[Value.ref b0] below meth c 4 kc ks D A (pW a b yc) Q 1453 [(0, .ref b0), (1, .ref (a 0)), (2, .ref (b 0)), (3, .int (iI (i)))] [] (g', h')) : VX p l e room_1 s m #[Value.ref b0] below meth c 4 kc ks D A (pW a b yc) Q 898 [(0, .ref b0), (1, .ref (a 0)), (2, .ref (b 0)), (3, .int (iI (i)))] [] (g, h) := by
  obtain ⟨r9, h9, hC9, hM9⟩ := p_out l D yc t1 t2 a b (Ac 86 a) (Ac 12 b) H (xv xs (i + 1)) (xv_r _ _)
  refine x_aload_n C 1 dL_law_898 rfl ?_
  refine x_aload_n C 0 dL_law_899 rfl ?_
  refine x_iload_n C 3 dL_law_900 rfl ?_
  refine x_iconst C dL_law_901 ?_
  refine x_iadd C dL_law_902 ?_
  refine y_sld C hX hbl hbA (by omega) (by omega) hL dL_law_903 ?_
  refine y_cCi C hk (As := [.int (iI (xv xs (i + 1)))]) (rest := []) hC9 (cwV 1 C.hts gL_law_X4_out rfl rfl rfl (by decide +kernel) ⟨by decide, by decide⟩) rfl rfl (Nat.le_of_ble_eq_true rfl) dL_law_904 ?_
  rintro r8 g9 ⟨rfl, hR⟩
  refine x_aload_n C 2 dL_law_907 rfl ?_
  refine x_aload_n C 0 dL_law_908 rfl ?_
  refine x_iload_n C 3 dL_law_909 rfl ?_
  refine x_iconst C dL_law_910 ?_
  refine x_iadd C dL_law_911 ?_
  refine y_sld C hX hbl hbA (by omega) (by omega) hL dL_law_912 ?_
  refine y_cMi C hk (As := [.int (iI (xv xs (i + 1)))]) hM9 (cwV 1 C.hts gL_law_X5_out rfl rfl rfl (by decide +kernel) ⟨by decide, by decide⟩) rfl rfl (Nat.le_of_ble_eq_true rfl) dL_law_913 ?_
  rintro r7 h8 ⟨rfl, rfl⟩
  refine x_icr (tgt := 1453) C dL_law_916 (by decide) ?_
  exact kk _ _ hR
set_option maxRecDepth 100000 in
set_option maxHeartbeats 4000000 in
theorem lc_round {p : Program} {l : Launch} {e : Env} {s : State} {m : MethodId} {below : List Frame} {meth : Method} {c : Code} {kc ks : Nat} {ret9 : Option FieldType} {D : va_G} {yc : Nat → ClassId} {t1 t2 : Nat} {A : Nat → Prop} {Q : State → Prop} {a b : Int → Nat} {g h : Mm} {b0 L : Nat} {xs : Nat → Int32} (C : VC p s m #[Value.ref b0] meth c cL_law 4 wsL_law RL ret9 D yc t1 t2 A (pW a b yc)) (hX : va_X b0 L xs s s.heap) (hbl : b0 < s.heap.size) (hbA : ¬ A b0) (hL : L ≤ 384) {i : Int} (hi0 : 0 ≤ i) (hi1 : i + 6 ≤ L) (hk : kc + 0 ≤ room_1.cells ∧ ks + 0 ≤ room_1.slots) (H : Rel g h) (kk : ∀ g' h' : Mm, Rel g' h' → VX p l e room_1 s m #[Value.ref b0] below meth c 4 kc ks D A (pW a b yc) Q 1453 [(0, .ref b0), (1, .ref (a 0)), (2, .ref (b 0)), (3, .int (iI (i)))] [] (g', h')) : VX p l e room_1 s m #[Value.ref b0] below meth c 4 kc ks D A (pW a b yc) Q 921 [(0, .ref b0), (1, .ref (a 0)), (2, .ref (b 0)), (3, .int (iI (i)))] [] (g, h) := by
  obtain ⟨r9, h9, hC9, hM9⟩ := p_round l D yc t1 t2 a b (Ac 86 a) (Ac 12 b) H
  refine x_aload_n C 1 dL_law_921 rfl ?_
  refine y_cCi C hk (As := []) (rest := []) hC9 (cwV 0 C.hts gL_law_X4_round rfl rfl rfl (by decide +kernel) ⟨by decide, by decide⟩) rfl rfl (Nat.le_of_ble_eq_true rfl) dL_law_922 ?_
  rintro r8 g9 ⟨rfl, hR⟩
  refine x_aload_n C 2 dL_law_925 rfl ?_
  refine y_cMi C hk (As := []) hM9 (cwV 0 C.hts gL_law_X5_round rfl rfl rfl (by decide +kernel) ⟨by decide, by decide⟩) rfl rfl (Nat.le_of_ble_eq_true rfl) dL_law_926 ?_
  rintro r7 h8 ⟨rfl, rfl⟩
  refine x_icr (tgt := 1453) C dL_law_929 (by decide) ?_
  exact kk _ _ hR
set_option maxRecDepth 100000 in
set_option maxHeartbeats 4000000 in
theorem lc_best {p : Program} {l : Launch} {e : Env} {s : State} {m : MethodId} {below : List Frame} {meth : Method} {c : Code} {kc ks : Nat} {ret9 : Option FieldType} {D : va_G} {yc : Nat → ClassId} {t1 t2 : Nat} {A : Nat → Prop} {Q : State → Prop} {a b : Int → Nat} {g h : Mm} {b0 L : Nat} {xs : Nat → Int32} (C : VC p s m #[Value.ref b0] meth c cL_law 4 wsL_law RL ret9 D yc t1 t2 A (pW a b yc)) (hX : va_X b0 L xs s s.heap) (hbl : b0 < s.heap.size) (hbA : ¬ A b0) (hL : L ≤ 384) {i : Int} (hi0 : 0 ≤ i) (hi1 : i + 6 ≤ L) (hk : kc + 0 ≤ room_1.cells ∧ ks + 0 ≤ room_1.slots) (H : Rel g h) (kk : ∀ g' h' : Mm, Rel g' h' → VX p l e room_1 s m #[Value.ref b0] below meth c 4 kc ks D A (pW a b yc) Q 1453 [(0, .ref b0), (1, .ref (a 0)), (2, .ref (b 0)), (3, .int (iI (i)))] [] (g', h')) : VX p l e room_1 s m #[Value.ref b0] below meth c 4 kc ks D A (pW a b yc) Q 934 [(0, .ref b0), (1, .ref (a 0)), (2, .ref (b 0)), (3, .int (iI (i)))] [] (g, h) := by
  obtain ⟨r9, h9, hC9, hM9⟩ := p_best l D yc t1 t2 a b (Ac 86 a) (Ac 12 b) H (xv xs (i + 1)) (xv xs (i + 2)) (xv_r _ _) (xv_r _ _)
  refine x_aload_n C 1 dL_law_934 rfl ?_
  refine x_aload_n C 0 dL_law_935 rfl ?_
  refine x_iload_n C 3 dL_law_936 rfl ?_
  refine x_iconst C dL_law_937 ?_
  refine x_iadd C dL_law_938 ?_
  refine y_sld C hX hbl hbA (by omega) (by omega) hL dL_law_939 ?_
  refine x_aload_n C 0 dL_law_940 rfl ?_
  refine x_iload_n C 3 dL_law_941 rfl ?_
  refine x_iconst C dL_law_942 ?_
  refine x_iadd C dL_law_943 ?_
  refine y_sld C hX hbl hbA (by omega) (by omega) hL dL_law_944 ?_
  refine y_cCi C hk (As := [.int (iI (xv xs (i + 1))), .int (iI (xv xs (i + 2)))]) (rest := []) hC9 (cwV 2 C.hts gL_law_X4_best rfl rfl rfl (by decide +kernel) ⟨by decide, by decide⟩) rfl rfl (Nat.le_of_ble_eq_true rfl) dL_law_945 ?_
  rintro r8 g9 ⟨rfl, hR⟩
  refine x_aload_n C 2 dL_law_948 rfl ?_
  refine x_aload_n C 0 dL_law_949 rfl ?_
  refine x_iload_n C 3 dL_law_950 rfl ?_
  refine x_iconst C dL_law_951 ?_
  refine x_iadd C dL_law_952 ?_
  refine y_sld C hX hbl hbA (by omega) (by omega) hL dL_law_953 ?_
  refine x_aload_n C 0 dL_law_954 rfl ?_
  refine x_iload_n C 3 dL_law_955 rfl ?_
  refine x_iconst C dL_law_956 ?_
  refine x_iadd C dL_law_957 ?_
  refine y_sld C hX hbl hbA (by omega) (by omega) hL dL_law_958 ?_
  refine y_cMi C hk (As := [.int (iI (xv xs (i + 1))), .int (iI (xv xs (i + 2)))]) hM9 (cwV 2 C.hts gL_law_X5_best rfl rfl rfl (by decide +kernel) ⟨by decide, by decide⟩) rfl rfl (Nat.le_of_ble_eq_true rfl) dL_law_959 ?_
  rintro r7 h8 ⟨rfl, rfl⟩
  refine x_icr (tgt := 1453) C dL_law_962 (by decide) ?_
  exact kk _ _ hR
set_option maxRecDepth 100000 in
set_option maxHeartbeats 4000000 in
theorem lc_even {p : Program} {l : Launch} {e : Env} {s : State} {m : MethodId} {below : List Frame} {meth : Method} {c : Code} {kc ks : Nat} {ret9 : Option FieldType} {D : va_G} {yc : Nat → ClassId} {t1 t2 : Nat} {A : Nat → Prop} {Q : State → Prop} {a b : Int → Nat} {g h : Mm} {b0 L : Nat} {xs : Nat → Int32} (C : VC p s m #[Value.ref b0] meth c cL_law 4 wsL_law RL ret9 D yc t1 t2 A (pW a b yc)) (hX : va_X b0 L xs s s.heap) (hbl : b0 < s.heap.size) (hbA : ¬ A b0) (hL : L ≤ 384) {i : Int} (hi0 : 0 ≤ i) (hi1 : i + 6 ≤ L) (hA : ∀ q, s.heap.size ≤ q → A q) (hk8 : kc + 1 ≤ room_1.cells ∧ ks + 8 ≤ room_1.slots) (hk9 : kc + 1 + 0 ≤ room_1.cells ∧ ks + 8 + 0 ≤ room_1.slots) (H : Rel g h) (kk : ∀ g' h' : Mm, Rel g' h' → VX p l e room_1 s m #[Value.ref b0] below meth c 4 (kc + 1) (ks + 8) D A (pW a b yc) Q 1453 [(0, .ref b0), (1, .ref (a 0)), (2, .ref (b 0)), (3, .int (iI (i)))] [] (g', h')) : VX p l e room_1 s m #[Value.ref b0] below meth c 4 kc ks D A (pW a b yc) Q 967 [(0, .ref b0), (1, .ref (a 0)), (2, .ref (b 0)), (3, .int (iI (i)))] [] (g, h) := by
  refine x_aload_n C 1 dL_law_967 rfl ?_
  refine y_cE C hA hk8 (rest := []) (fun A1 => c_X4_even l D yc t1 t2 a A1 g (h 6) H.F H.I) (cwV 0 C.hts gL_law_X4_even rfl rfl rfl (by decide +kernel) ⟨by decide, by decide⟩) rfl (Nat.le_of_ble_eq_true rfl) dL_law_968 ?_
  rintro r9 g9 ⟨rfl, rfl⟩
  refine x_aload_n C 2 dL_law_971 rfl ?_
  refine y_cMi C hk9 (As := []) (c_X5_even l D yc t1 t2 b (Ac 12 b) h H.I) (cwV 0 C.hts gL_law_X5_even rfl rfl rfl (by decide +kernel) ⟨by decide, by decide⟩) rfl rfl (Nat.le_of_ble_eq_true rfl) dL_law_972 ?_
  rintro r9 g9 ⟨rfl, rfl⟩
  refine x_icr (tgt := 1453) C dL_law_975 (by decide) ?_
  exact kk _ _ (Rel_if (fun _ => H) (fun _ => Rel_if (fun _ => H) (fun _ => Rel_as H _)))
set_option maxRecDepth 100000 in
set_option maxHeartbeats 4000000 in
theorem lc_value {p : Program} {l : Launch} {e : Env} {s : State} {m : MethodId} {below : List Frame} {meth : Method} {c : Code} {kc ks : Nat} {ret9 : Option FieldType} {D : va_G} {yc : Nat → ClassId} {t1 t2 : Nat} {A : Nat → Prop} {Q : State → Prop} {a b : Int → Nat} {g h : Mm} {b0 L : Nat} {xs : Nat → Int32} (C : VC p s m #[Value.ref b0] meth c cL_law 4 wsL_law RL ret9 D yc t1 t2 A (pW a b yc)) (hX : va_X b0 L xs s s.heap) (hbl : b0 < s.heap.size) (hbA : ¬ A b0) (hL : L ≤ 384) {i : Int} (hi0 : 0 ≤ i) (hi1 : i + 6 ≤ L) (hk : kc + 0 ≤ room_1.cells ∧ ks + 0 ≤ room_1.slots) (H : Rel g h) (kk : ∀ g' h' : Mm, Rel g' h' → VX p l e room_1 s m #[Value.ref b0] below meth c 4 kc ks D A (pW a b yc) Q 1453 [(0, .ref b0), (1, .ref (a 0)), (2, .ref (b 0)), (3, .int (iI (i)))] [] (g', h')) : VX p l e room_1 s m #[Value.ref b0] below meth c 4 kc ks D A (pW a b yc) Q 980 [(0, .ref b0), (1, .ref (a 0)), (2, .ref (b 0)), (3, .int (iI (i)))] [] (g, h) := by
  obtain ⟨r9, h9, hC9, hM9⟩ := p_value l D yc t1 t2 a b (Ac 86 a) (Ac 12 b) H (xv xs (i + 1)) (xv xs (i + 2)) (xv_r _ _) (xv_r _ _)
  refine x_aload_n C 1 dL_law_980 rfl ?_
  refine x_aload_n C 0 dL_law_981 rfl ?_
  refine x_iload_n C 3 dL_law_982 rfl ?_
  refine x_iconst C dL_law_983 ?_
  refine x_iadd C dL_law_984 ?_
  refine y_sld C hX hbl hbA (by omega) (by omega) hL dL_law_985 ?_
  refine x_aload_n C 0 dL_law_986 rfl ?_
  refine x_iload_n C 3 dL_law_987 rfl ?_
  refine x_iconst C dL_law_988 ?_
  refine x_iadd C dL_law_989 ?_
  refine y_sld C hX hbl hbA (by omega) (by omega) hL dL_law_990 ?_
  refine y_cCi C hk (As := [.int (iI (xv xs (i + 1))), .int (iI (xv xs (i + 2)))]) (rest := []) hC9 (cwV 2 C.hts gL_law_X4_value rfl rfl rfl (by decide +kernel) ⟨by decide, by decide⟩) rfl rfl (Nat.le_of_ble_eq_true rfl) dL_law_991 ?_
  rintro r8 g9 ⟨rfl, hR⟩
  refine x_aload_n C 2 dL_law_994 rfl ?_
  refine x_aload_n C 0 dL_law_995 rfl ?_
  refine x_iload_n C 3 dL_law_996 rfl ?_
  refine x_iconst C dL_law_997 ?_
  refine x_iadd C dL_law_998 ?_
  refine y_sld C hX hbl hbA (by omega) (by omega) hL dL_law_999 ?_
  refine x_aload_n C 0 dL_law_1000 rfl ?_
  refine x_iload_n C 3 dL_law_1001 rfl ?_
  refine x_iconst C dL_law_1002 ?_
  refine x_iadd C dL_law_1003 ?_
  refine y_sld C hX hbl hbA (by omega) (by omega) hL dL_law_1004 ?_
  refine y_cMi C hk (As := [.int (iI (xv xs (i + 1))), .int (iI (xv xs (i + 2)))]) hM9 (cwV 2 C.hts gL_law_X5_value rfl rfl rfl (by decide +kernel) ⟨by decide, by decide⟩) rfl rfl (Nat.le_of_ble_eq_true rfl) dL_law_1005 ?_
  rintro r7 h8 ⟨rfl, rfl⟩
  refine x_icr (tgt := 1453) C dL_law_1008 (by decide) ?_
  exact kk _ _ hR
set_option maxRecDepth 100000 in
set_option maxHeartbeats 4000000 in
theorem lc_fair {p : Program} {l : Launch} {e : Env} {s : State} {m : MethodId} {below : List Frame} {meth : Method} {c : Code} {kc ks : Nat} {ret9 : Option FieldType} {D : va_G} {yc : Nat → ClassId} {t1 t2 : Nat} {A : Nat → Prop} {Q : State → Prop} {a b : Int → Nat} {g h : Mm} {b0 L : Nat} {xs : Nat → Int32} (C : VC p s m #[Value.ref b0] meth c cL_law 4 wsL_law RL ret9 D yc t1 t2 A (pW a b yc)) (hX : va_X b0 L xs s s.heap) (hbl : b0 < s.heap.size) (hbA : ¬ A b0) (hL : L ≤ 384) {i : Int} (hi0 : 0 ≤ i) (hi1 : i + 6 ≤ L) (hk : kc + 0 ≤ room_1.cells ∧ ks + 0 ≤ room_1.slots) (H : Rel g h) (kk : ∀ g' h' : Mm, Rel g' h' → VX p l e room_1 s m #[Value.ref b0] below meth c 4 kc ks D A (pW a b yc) Q 1453 [(0, .ref b0), (1, .ref (a 0)), (2, .ref (b 0)), (3, .int (iI (i)))] [] (g', h')) : VX p l e room_1 s m #[Value.ref b0] below meth c 4 kc ks D A (pW a b yc) Q 1013 [(0, .ref b0), (1, .ref (a 0)), (2, .ref (b 0)), (3, .int (iI (i)))] [] (g, h) := by
  obtain ⟨r9, h9, hC9, hM9⟩ := p_fair l D yc t1 t2 a b (Ac 86 a) (Ac 12 b) H
  refine x_aload_n C 1 dL_law_1013 rfl ?_
  refine y_cCi C hk (As := []) (rest := []) hC9 (cwV 0 C.hts gL_law_X4_fair rfl rfl rfl (by decide +kernel) ⟨by decide, by decide⟩) rfl rfl (Nat.le_of_ble_eq_true rfl) dL_law_1014 ?_
  rintro r8 g9 ⟨rfl, hR⟩
  refine x_aload_n C 2 dL_law_1017 rfl ?_
  refine y_cMi C hk (As := []) hM9 (cwV 0 C.hts gL_law_X5_fair rfl rfl rfl (by decide +kernel) ⟨by decide, by decide⟩) rfl rfl (Nat.le_of_ble_eq_true rfl) dL_law_1018 ?_
  rintro r7 h8 ⟨rfl, rfl⟩
  refine x_icr (tgt := 1453) C dL_law_1021 (by decide) ?_
  exact kk _ _ hR
set_option maxRecDepth 100000 in
set_option maxHeartbeats 4000000 in
theorem lc_ways {p : Program} {l : Launch} {e : Env} {s : State} {m : MethodId} {below : List Frame} {meth : Method} {c : Code} {kc ks : Nat} {ret9 : Option FieldType} {D : va_G} {yc : Nat → ClassId} {t1 t2 : Nat} {A : Nat → Prop} {Q : State → Prop} {a b : Int → Nat} {g h : Mm} {b0 L : Nat} {xs : Nat → Int32} (C : VC p s m #[Value.ref b0] meth c cL_law 4 wsL_law RL ret9 D yc t1 t2 A (pW a b yc)) (hX : va_X b0 L xs s s.heap) (hbl : b0 < s.heap.size) (hbA : ¬ A b0) (hL : L ≤ 384) {i : Int} (hi0 : 0 ≤ i) (hi1 : i + 6 ≤ L) (hk : kc + 0 ≤ room_1.cells ∧ ks + 0 ≤ room_1.slots) (H : Rel g h) (kk : ∀ g' h' : Mm, Rel g' h' → VX p l e room_1 s m #[Value.ref b0] below meth c 4 kc ks D A (pW a b yc) Q 1453 [(0, .ref b0), (1, .ref (a 0)), (2, .ref (b 0)), (3, .int (iI (i)))] [] (g', h')) : VX p l e room_1 s m #[Value.ref b0] below meth c 4 kc ks D A (pW a b yc) Q 1026 [(0, .ref b0), (1, .ref (a 0)), (2, .ref (b 0)), (3, .int (iI (i)))] [] (g, h) := by
  obtain ⟨r9, h9, hC9, hM9⟩ := p_ways l D yc t1 t2 a b (Ac 86 a) (Ac 12 b) H
  refine x_aload_n C 1 dL_law_1026 rfl ?_
  refine y_cCi C hk (As := []) (rest := []) hC9 (cwV 0 C.hts gL_law_X4_ways rfl rfl rfl (by decide +kernel) ⟨by decide, by decide⟩) rfl rfl (Nat.le_of_ble_eq_true rfl) dL_law_1027 ?_
  rintro r8 g9 ⟨rfl, hR⟩
  refine x_aload_n C 2 dL_law_1030 rfl ?_
  refine y_cMi C hk (As := []) hM9 (cwV 0 C.hts gL_law_X5_ways rfl rfl rfl (by decide +kernel) ⟨by decide, by decide⟩) rfl rfl (Nat.le_of_ble_eq_true rfl) dL_law_1031 ?_
  rintro r7 h8 ⟨rfl, rfl⟩
  refine x_icr (tgt := 1453) C dL_law_1034 (by decide) ?_
  exact kk _ _ hR
set_option maxRecDepth 100000 in
set_option maxHeartbeats 4000000 in
theorem lc_part {p : Program} {l : Launch} {e : Env} {s : State} {m : MethodId} {below : List Frame} {meth : Method} {c : Code} {kc ks : Nat} {ret9 : Option FieldType} {D : va_G} {yc : Nat → ClassId} {t1 t2 : Nat} {A : Nat → Prop} {Q : State → Prop} {a b : Int → Nat} {g h : Mm} {b0 L : Nat} {xs : Nat → Int32} (C : VC p s m #[Value.ref b0] meth c cL_law 4 wsL_law RL ret9 D yc t1 t2 A (pW a b yc)) (hX : va_X b0 L xs s s.heap) (hbl : b0 < s.heap.size) (hbA : ¬ A b0) (hL : L ≤ 384) {i : Int} (hi0 : 0 ≤ i) (hi1 : i + 6 ≤ L) (hk : kc + 0 ≤ room_1.cells ∧ ks + 0 ≤ room_1.slots) (H : Rel g h) (kk : ∀ g' h' : Mm, Rel g' h' → VX p l e room_1 s m #[Value.ref b0] below meth c 4 kc ks D A (pW a b yc) Q 1453 [(0, .ref b0), (1, .ref (a 0)), (2, .ref (b 0)), (3, .int (iI (i)))] [] (g', h')) : VX p l e room_1 s m #[Value.ref b0] below meth c 4 kc ks D A (pW a b yc) Q 1039 [(0, .ref b0), (1, .ref (a 0)), (2, .ref (b 0)), (3, .int (iI (i)))] [] (g, h) := by
  obtain ⟨r9, h9, hC9, hM9⟩ := p_part l D yc t1 t2 a b (Ac 86 a) (Ac 12 b) H
  refine x_aload_n C 1 dL_law_1039 rfl ?_
  refine y_cCi C hk (As := []) (rest := []) hC9 (cwV 0 C.hts gL_law_X4_part rfl rfl rfl (by decide +kernel) ⟨by decide, by decide⟩) rfl rfl (Nat.le_of_ble_eq_true rfl) dL_law_1040 ?_
  rintro r8 g9 ⟨rfl, hR⟩
  refine x_aload_n C 2 dL_law_1043 rfl ?_
  refine y_cMi C hk (As := []) hM9 (cwV 0 C.hts gL_law_X5_part rfl rfl rfl (by decide +kernel) ⟨by decide, by decide⟩) rfl rfl (Nat.le_of_ble_eq_true rfl) dL_law_1044 ?_
  rintro r7 h8 ⟨rfl, rfl⟩
  refine x_icr (tgt := 1453) C dL_law_1047 (by decide) ?_
  exact kk _ _ hR
set_option maxRecDepth 100000 in
set_option maxHeartbeats 4000000 in
theorem lc_sum {p : Program} {l : Launch} {e : Env} {s : State} {m : MethodId} {below : List Frame} {meth : Method} {c : Code} {kc ks : Nat} {ret9 : Option FieldType} {D : va_G} {yc : Nat → ClassId} {t1 t2 : Nat} {A : Nat → Prop} {Q : State → Prop} {a b : Int → Nat} {g h : Mm} {b0 L : Nat} {xs : Nat → Int32} (C : VC p s m #[Value.ref b0] meth c cL_law 4 wsL_law RL ret9 D yc t1 t2 A (pW a b yc)) (hX : va_X b0 L xs s s.heap) (hbl : b0 < s.heap.size) (hbA : ¬ A b0) (hL : L ≤ 384) {i : Int} (hi0 : 0 ≤ i) (hi1 : i + 6 ≤ L) (hk : kc + 0 ≤ room_1.cells ∧ ks + 0 ≤ room_1.slots) (H : Rel g h) (kk : ∀ g' h' : Mm, Rel g' h' → VX p l e room_1 s m #[Value.ref b0] below meth c 4 kc ks D A (pW a b yc) Q 1453 [(0, .ref b0), (1, .ref (a 0)), (2, .ref (b 0)), (3, .int (iI (i)))] [] (g', h')) : VX p l e room_1 s m #[Value.ref b0] below meth c 4 kc ks D A (pW a b yc) Q 1052 [(0, .ref b0), (1, .ref (a 0)), (2, .ref (b 0)), (3, .int (iI (i)))] [] (g, h) := by
  obtain ⟨r9, h9, hC9, hM9⟩ := p_sum l D yc t1 t2 a b (Ac 86 a) (Ac 12 b) H
  refine x_aload_n C 1 dL_law_1052 rfl ?_
  refine y_cCi C hk (As := []) (rest := []) hC9 (cwV 0 C.hts gL_law_X4_sum rfl rfl rfl (by decide +kernel) ⟨by decide, by decide⟩) rfl rfl (Nat.le_of_ble_eq_true rfl) dL_law_1053 ?_
  rintro r8 g9 ⟨rfl, hR⟩
  refine x_aload_n C 2 dL_law_1056 rfl ?_
  refine y_cMi C hk (As := []) hM9 (cwV 0 C.hts gL_law_X5_sum rfl rfl rfl (by decide +kernel) ⟨by decide, by decide⟩) rfl rfl (Nat.le_of_ble_eq_true rfl) dL_law_1057 ?_
  rintro r7 h8 ⟨rfl, rfl⟩
  refine x_icr (tgt := 1453) C dL_law_1060 (by decide) ?_
  exact kk _ _ hR
set_option maxRecDepth 100000 in
set_option maxHeartbeats 4000000 in
theorem lc_heirs {p : Program} {l : Launch} {e : Env} {s : State} {m : MethodId} {below : List Frame} {meth : Method} {c : Code} {kc ks : Nat} {ret9 : Option FieldType} {D : va_G} {yc : Nat → ClassId} {t1 t2 : Nat} {A : Nat → Prop} {Q : State → Prop} {a b : Int → Nat} {g h : Mm} {b0 L : Nat} {xs : Nat → Int32} (C : VC p s m #[Value.ref b0] meth c cL_law 4 wsL_law RL ret9 D yc t1 t2 A (pW a b yc)) (hX : va_X b0 L xs s s.heap) (hbl : b0 < s.heap.size) (hbA : ¬ A b0) (hL : L ≤ 384) {i : Int} (hi0 : 0 ≤ i) (hi1 : i + 6 ≤ L) (hk : kc + 0 ≤ room_1.cells ∧ ks + 0 ≤ room_1.slots) (H : Rel g h) (kk : ∀ g' h' : Mm, Rel g' h' → VX p l e room_1 s m #[Value.ref b0] below meth c 4 kc ks D A (pW a b yc) Q 1453 [(0, .ref b0), (1, .ref (a 0)), (2, .ref (b 0)), (3, .int (iI (i)))] [] (g', h')) : VX p l e room_1 s m #[Value.ref b0] below meth c 4 kc ks D A (pW a b yc) Q 1065 [(0, .ref b0), (1, .ref (a 0)), (2, .ref (b 0)), (3, .int (iI (i)))] [] (g, h) := by
  obtain ⟨r9, h9, hC9, hM9⟩ := p_heirs l D yc t1 t2 a b (Ac 86 a) (Ac 12 b) H
  refine x_aload_n C 1 dL_law_1065 rfl ?_
  refine y_cCi C hk (As := []) (rest := []) hC9 (cwV 0 C.hts gL_law_X4_heirs rfl rfl rfl (by decide +kernel) ⟨by decide, by decide⟩) rfl rfl (Nat.le_of_ble_eq_true rfl) dL_law_1066 ?_
  rintro r8 g9 ⟨rfl, hR⟩
  refine x_aload_n C 2 dL_law_1069 rfl ?_
  refine y_cMi C hk (As := []) hM9 (cwV 0 C.hts gL_law_X5_heirs rfl rfl rfl (by decide +kernel) ⟨by decide, by decide⟩) rfl rfl (Nat.le_of_ble_eq_true rfl) dL_law_1070 ?_
  rintro r7 h8 ⟨rfl, rfl⟩
  refine x_icr (tgt := 1453) C dL_law_1073 (by decide) ?_
  exact kk _ _ hR
set_option maxRecDepth 100000 in
set_option maxHeartbeats 4000000 in
theorem lc_calf {p : Program} {l : Launch} {e : Env} {s : State} {m : MethodId} {below : List Frame} {meth : Method} {c : Code} {kc ks : Nat} {ret9 : Option FieldType} {D : va_G} {yc : Nat → ClassId} {t1 t2 : Nat} {A : Nat → Prop} {Q : State → Prop} {a b : Int → Nat} {g h : Mm} {b0 L : Nat} {xs : Nat → Int32} (C : VC p s m #[Value.ref b0] meth c cL_law 4 wsL_law RL ret9 D yc t1 t2 A (pW a b yc)) (hX : va_X b0 L xs s s.heap) (hbl : b0 < s.heap.size) (hbA : ¬ A b0) (hL : L ≤ 384) {i : Int} (hi0 : 0 ≤ i) (hi1 : i + 6 ≤ L) (hk : kc + 0 ≤ room_1.cells ∧ ks + 0 ≤ room_1.slots) (H : Rel g h) (kk : ∀ g' h' : Mm, Rel g' h' → VX p l e room_1 s m #[Value.ref b0] below meth c 4 kc ks D A (pW a b yc) Q 1453 [(0, .ref b0), (1, .ref (a 0)), (2, .ref (b 0)), (3, .int (iI (i)))] [] (g', h')) : VX p l e room_1 s m #[Value.ref b0] below meth c 4 kc ks D A (pW a b yc) Q 1078 [(0, .ref b0), (1, .ref (a 0)), (2, .ref (b 0)), (3, .int (iI (i)))] [] (g, h) := by
  obtain ⟨r9, h9, hC9, hM9⟩ := p_calf l D yc t1 t2 a b (Ac 86 a) (Ac 12 b) H (xv xs (i + 1)) (xv xs (i + 2)) (xv_r _ _) (xv_r _ _)
  refine x_aload_n C 1 dL_law_1078 rfl ?_
  refine x_aload_n C 0 dL_law_1079 rfl ?_
  refine x_iload_n C 3 dL_law_1080 rfl ?_
  refine x_iconst C dL_law_1081 ?_
  refine x_iadd C dL_law_1082 ?_
  refine y_sld C hX hbl hbA (by omega) (by omega) hL dL_law_1083 ?_
  refine x_aload_n C 0 dL_law_1084 rfl ?_
  refine x_iload_n C 3 dL_law_1085 rfl ?_
  refine x_iconst C dL_law_1086 ?_
  refine x_iadd C dL_law_1087 ?_
  refine y_sld C hX hbl hbA (by omega) (by omega) hL dL_law_1088 ?_
  refine y_cCi C hk (As := [.int (iI (xv xs (i + 1))), .int (iI (xv xs (i + 2)))]) (rest := []) hC9 (cwV 2 C.hts gL_law_X4_calf rfl rfl rfl (by decide +kernel) ⟨by decide, by decide⟩) rfl rfl (Nat.le_of_ble_eq_true rfl) dL_law_1089 ?_
  rintro r8 g9 ⟨rfl, hR⟩
  refine x_aload_n C 2 dL_law_1092 rfl ?_
  refine x_aload_n C 0 dL_law_1093 rfl ?_
  refine x_iload_n C 3 dL_law_1094 rfl ?_
  refine x_iconst C dL_law_1095 ?_
  refine x_iadd C dL_law_1096 ?_
  refine y_sld C hX hbl hbA (by omega) (by omega) hL dL_law_1097 ?_
  refine x_aload_n C 0 dL_law_1098 rfl ?_
  refine x_iload_n C 3 dL_law_1099 rfl ?_
  refine x_iconst C dL_law_1100 ?_
  refine x_iadd C dL_law_1101 ?_
  refine y_sld C hX hbl hbA (by omega) (by omega) hL dL_law_1102 ?_
  refine y_cMi C hk (As := [.int (iI (xv xs (i + 1))), .int (iI (xv xs (i + 2)))]) hM9 (cwV 2 C.hts gL_law_X5_calf rfl rfl rfl (by decide +kernel) ⟨by decide, by decide⟩) rfl rfl (Nat.le_of_ble_eq_true rfl) dL_law_1103 ?_
  rintro r7 h8 ⟨rfl, rfl⟩
  refine x_icr (tgt := 1453) C dL_law_1106 (by decide) ?_
  exact kk _ _ hR
set_option maxRecDepth 100000 in
set_option maxHeartbeats 4000000 in
theorem lc_quarrel {p : Program} {l : Launch} {e : Env} {s : State} {m : MethodId} {below : List Frame} {meth : Method} {c : Code} {kc ks : Nat} {ret9 : Option FieldType} {D : va_G} {yc : Nat → ClassId} {t1 t2 : Nat} {A : Nat → Prop} {Q : State → Prop} {a b : Int → Nat} {g h : Mm} {b0 L : Nat} {xs : Nat → Int32} (C : VC p s m #[Value.ref b0] meth c cL_law 4 wsL_law RL ret9 D yc t1 t2 A (pW a b yc)) (hX : va_X b0 L xs s s.heap) (hbl : b0 < s.heap.size) (hbA : ¬ A b0) (hL : L ≤ 384) {i : Int} (hi0 : 0 ≤ i) (hi1 : i + 6 ≤ L) (hk : kc + 0 ≤ room_1.cells ∧ ks + 0 ≤ room_1.slots) (H : Rel g h) (kk : ∀ g' h' : Mm, Rel g' h' → VX p l e room_1 s m #[Value.ref b0] below meth c 4 kc ks D A (pW a b yc) Q 1453 [(0, .ref b0), (1, .ref (a 0)), (2, .ref (b 0)), (3, .int (iI (i)))] [] (g', h')) : VX p l e room_1 s m #[Value.ref b0] below meth c 4 kc ks D A (pW a b yc) Q 1111 [(0, .ref b0), (1, .ref (a 0)), (2, .ref (b 0)), (3, .int (iI (i)))] [] (g, h) := by
  obtain ⟨r9, h9, hC9, hM9⟩ := p_quarrel l D yc t1 t2 a b (Ac 86 a) (Ac 12 b) H (xv xs (i + 1)) (xv xs (i + 2)) (xv xs (i + 3)) (xv_r _ _) (xv_r _ _) (xv_r _ _)
  refine x_aload_n C 1 dL_law_1111 rfl ?_
  refine x_aload_n C 0 dL_law_1112 rfl ?_
  refine x_iload_n C 3 dL_law_1113 rfl ?_
  refine x_iconst C dL_law_1114 ?_
  refine x_iadd C dL_law_1115 ?_
  refine y_sld C hX hbl hbA (by omega) (by omega) hL dL_law_1116 ?_
  refine x_aload_n C 0 dL_law_1117 rfl ?_
  refine x_iload_n C 3 dL_law_1118 rfl ?_
  refine x_iconst C dL_law_1119 ?_
  refine x_iadd C dL_law_1120 ?_
  refine y_sld C hX hbl hbA (by omega) (by omega) hL dL_law_1121 ?_
  refine x_aload_n C 0 dL_law_1122 rfl ?_
  refine x_iload_n C 3 dL_law_1123 rfl ?_
  refine x_iconst C dL_law_1124 ?_
  refine x_iadd C dL_law_1125 ?_
  refine y_sld C hX hbl hbA (by omega) (by omega) hL dL_law_1126 ?_
  refine y_cCi C hk (As := [.int (iI (xv xs (i + 1))), .int (iI (xv xs (i + 2))), .int (iI (xv xs (i + 3)))]) (rest := []) hC9 (cwV 3 C.hts gL_law_X4_quarrel rfl rfl rfl (by decide +kernel) ⟨by decide, by decide⟩) rfl rfl (Nat.le_of_ble_eq_true rfl) dL_law_1127 ?_
  rintro r8 g9 ⟨rfl, hR⟩
  refine x_aload_n C 2 dL_law_1130 rfl ?_
  refine x_aload_n C 0 dL_law_1131 rfl ?_
  refine x_iload_n C 3 dL_law_1132 rfl ?_
  refine x_iconst C dL_law_1133 ?_
  refine x_iadd C dL_law_1134 ?_
  refine y_sld C hX hbl hbA (by omega) (by omega) hL dL_law_1135 ?_
  refine x_aload_n C 0 dL_law_1136 rfl ?_
  refine x_iload_n C 3 dL_law_1137 rfl ?_
  refine x_iconst C dL_law_1138 ?_
  refine x_iadd C dL_law_1139 ?_
  refine y_sld C hX hbl hbA (by omega) (by omega) hL dL_law_1140 ?_
  refine x_aload_n C 0 dL_law_1141 rfl ?_
  refine x_iload_n C 3 dL_law_1142 rfl ?_
  refine x_iconst C dL_law_1143 ?_
  refine x_iadd C dL_law_1144 ?_
  refine y_sld C hX hbl hbA (by omega) (by omega) hL dL_law_1145 ?_
  refine y_cMi C hk (As := [.int (iI (xv xs (i + 1))), .int (iI (xv xs (i + 2))), .int (iI (xv xs (i + 3)))]) hM9 (cwV 3 C.hts gL_law_X5_quarrel rfl rfl rfl (by decide +kernel) ⟨by decide, by decide⟩) rfl rfl (Nat.le_of_ble_eq_true rfl) dL_law_1146 ?_
  rintro r7 h8 ⟨rfl, rfl⟩
  refine x_icr (tgt := 1453) C dL_law_1149 (by decide) ?_
  exact kk _ _ hR
set_option maxRecDepth 100000 in
set_option maxHeartbeats 4000000 in
theorem lc_bill {p : Program} {l : Launch} {e : Env} {s : State} {m : MethodId} {below : List Frame} {meth : Method} {c : Code} {kc ks : Nat} {ret9 : Option FieldType} {D : va_G} {yc : Nat → ClassId} {t1 t2 : Nat} {A : Nat → Prop} {Q : State → Prop} {a b : Int → Nat} {g h : Mm} {b0 L : Nat} {xs : Nat → Int32} (C : VC p s m #[Value.ref b0] meth c cL_law 4 wsL_law RL ret9 D yc t1 t2 A (pW a b yc)) (hX : va_X b0 L xs s s.heap) (hbl : b0 < s.heap.size) (hbA : ¬ A b0) (hL : L ≤ 384) {i : Int} (hi0 : 0 ≤ i) (hi1 : i + 6 ≤ L) (hk : kc + 0 ≤ room_1.cells ∧ ks + 0 ≤ room_1.slots) (H : Rel g h) (kk : ∀ g' h' : Mm, Rel g' h' → VX p l e room_1 s m #[Value.ref b0] below meth c 4 kc ks D A (pW a b yc) Q 1453 [(0, .ref b0), (1, .ref (a 0)), (2, .ref (b 0)), (3, .int (iI (i)))] [] (g', h')) : VX p l e room_1 s m #[Value.ref b0] below meth c 4 kc ks D A (pW a b yc) Q 1154 [(0, .ref b0), (1, .ref (a 0)), (2, .ref (b 0)), (3, .int (iI (i)))] [] (g, h) := by
  obtain ⟨r9, h9, hC9, hM9⟩ := p_bill l D yc t1 t2 a b (Ac 86 a) (Ac 12 b) H (xv xs (i + 1)) (xv xs (i + 2)) (xv_r _ _) (xv_r _ _)
  refine x_aload_n C 1 dL_law_1154 rfl ?_
  refine x_aload_n C 0 dL_law_1155 rfl ?_
  refine x_iload_n C 3 dL_law_1156 rfl ?_
  refine x_iconst C dL_law_1157 ?_
  refine x_iadd C dL_law_1158 ?_
  refine y_sld C hX hbl hbA (by omega) (by omega) hL dL_law_1159 ?_
  refine x_aload_n C 0 dL_law_1160 rfl ?_
  refine x_iload_n C 3 dL_law_1161 rfl ?_
  refine x_iconst C dL_law_1162 ?_
  refine x_iadd C dL_law_1163 ?_
  refine y_sld C hX hbl hbA (by omega) (by omega) hL dL_law_1164 ?_
  refine y_cCi C hk (As := [.int (iI (xv xs (i + 1))), .int (iI (xv xs (i + 2)))]) (rest := []) hC9 (cwV 2 C.hts gL_law_X4_bill rfl rfl rfl (by decide +kernel) ⟨by decide, by decide⟩) rfl rfl (Nat.le_of_ble_eq_true rfl) dL_law_1165 ?_
  rintro r8 g9 ⟨rfl, hR⟩
  refine x_aload_n C 2 dL_law_1168 rfl ?_
  refine x_aload_n C 0 dL_law_1169 rfl ?_
  refine x_iload_n C 3 dL_law_1170 rfl ?_
  refine x_iconst C dL_law_1171 ?_
  refine x_iadd C dL_law_1172 ?_
  refine y_sld C hX hbl hbA (by omega) (by omega) hL dL_law_1173 ?_
  refine x_aload_n C 0 dL_law_1174 rfl ?_
  refine x_iload_n C 3 dL_law_1175 rfl ?_
  refine x_iconst C dL_law_1176 ?_
  refine x_iadd C dL_law_1177 ?_
  refine y_sld C hX hbl hbA (by omega) (by omega) hL dL_law_1178 ?_
  refine y_cMi C hk (As := [.int (iI (xv xs (i + 1))), .int (iI (xv xs (i + 2)))]) hM9 (cwV 2 C.hts gL_law_X5_bill rfl rfl rfl (by decide +kernel) ⟨by decide, by decide⟩) rfl rfl (Nat.le_of_ble_eq_true rfl) dL_law_1179 ?_
  rintro r7 h8 ⟨rfl, rfl⟩
  refine x_icr (tgt := 1453) C dL_law_1182 (by decide) ?_
  exact kk _ _ hR
set_option maxRecDepth 100000 in
set_option maxHeartbeats 4000000 in
theorem lc_fits {p : Program} {l : Launch} {e : Env} {s : State} {m : MethodId} {below : List Frame} {meth : Method} {c : Code} {kc ks : Nat} {ret9 : Option FieldType} {D : va_G} {yc : Nat → ClassId} {t1 t2 : Nat} {A : Nat → Prop} {Q : State → Prop} {a b : Int → Nat} {g h : Mm} {b0 L : Nat} {xs : Nat → Int32} (C : VC p s m #[Value.ref b0] meth c cL_law 4 wsL_law RL ret9 D yc t1 t2 A (pW a b yc)) (hX : va_X b0 L xs s s.heap) (hbl : b0 < s.heap.size) (hbA : ¬ A b0) (hL : L ≤ 384) {i : Int} (hi0 : 0 ≤ i) (hi1 : i + 6 ≤ L) (hk : kc + 0 ≤ room_1.cells ∧ ks + 0 ≤ room_1.slots) (H : Rel g h) (kk : ∀ g' h' : Mm, Rel g' h' → VX p l e room_1 s m #[Value.ref b0] below meth c 4 kc ks D A (pW a b yc) Q 1453 [(0, .ref b0), (1, .ref (a 0)), (2, .ref (b 0)), (3, .int (iI (i)))] [] (g', h')) : VX p l e room_1 s m #[Value.ref b0] below meth c 4 kc ks D A (pW a b yc) Q 1187 [(0, .ref b0), (1, .ref (a 0)), (2, .ref (b 0)), (3, .int (iI (i)))] [] (g, h) := by
  obtain ⟨r9, h9, hC9, hM9⟩ := p_fits l D yc t1 t2 a b (Ac 86 a) (Ac 12 b) H (xv xs (i + 1)) (xv xs (i + 2)) (xv_r _ _) (xv_r _ _)
  refine x_aload_n C 1 dL_law_1187 rfl ?_
  refine x_aload_n C 0 dL_law_1188 rfl ?_
  refine x_iload_n C 3 dL_law_1189 rfl ?_
  refine x_iconst C dL_law_1190 ?_
  refine x_iadd C dL_law_1191 ?_
  refine y_sld C hX hbl hbA (by omega) (by omega) hL dL_law_1192 ?_
  refine x_aload_n C 0 dL_law_1193 rfl ?_
  refine x_iload_n C 3 dL_law_1194 rfl ?_
  refine x_iconst C dL_law_1195 ?_
  refine x_iadd C dL_law_1196 ?_
  refine y_sld C hX hbl hbA (by omega) (by omega) hL dL_law_1197 ?_
  refine y_cCi C hk (As := [.int (iI (xv xs (i + 1))), .int (iI (xv xs (i + 2)))]) (rest := []) hC9 (cwV 2 C.hts gL_law_X4_fits rfl rfl rfl (by decide +kernel) ⟨by decide, by decide⟩) rfl rfl (Nat.le_of_ble_eq_true rfl) dL_law_1198 ?_
  rintro r8 g9 ⟨rfl, hR⟩
  refine x_aload_n C 2 dL_law_1201 rfl ?_
  refine x_aload_n C 0 dL_law_1202 rfl ?_
  refine x_iload_n C 3 dL_law_1203 rfl ?_
  refine x_iconst C dL_law_1204 ?_
  refine x_iadd C dL_law_1205 ?_
  refine y_sld C hX hbl hbA (by omega) (by omega) hL dL_law_1206 ?_
  refine x_aload_n C 0 dL_law_1207 rfl ?_
  refine x_iload_n C 3 dL_law_1208 rfl ?_
  refine x_iconst C dL_law_1209 ?_
  refine x_iadd C dL_law_1210 ?_
  refine y_sld C hX hbl hbA (by omega) (by omega) hL dL_law_1211 ?_
  refine y_cMi C hk (As := [.int (iI (xv xs (i + 1))), .int (iI (xv xs (i + 2)))]) hM9 (cwV 2 C.hts gL_law_X5_fits rfl rfl rfl (by decide +kernel) ⟨by decide, by decide⟩) rfl rfl (Nat.le_of_ble_eq_true rfl) dL_law_1212 ?_
  rintro r7 h8 ⟨rfl, rfl⟩
  refine x_icr (tgt := 1453) C dL_law_1215 (by decide) ?_
  exact kk _ _ hR
set_option maxRecDepth 100000 in
set_option maxHeartbeats 4000000 in
theorem lc_sure {p : Program} {l : Launch} {e : Env} {s : State} {m : MethodId} {below : List Frame} {meth : Method} {c : Code} {kc ks : Nat} {ret9 : Option FieldType} {D : va_G} {yc : Nat → ClassId} {t1 t2 : Nat} {A : Nat → Prop} {Q : State → Prop} {a b : Int → Nat} {g h : Mm} {b0 L : Nat} {xs : Nat → Int32} (C : VC p s m #[Value.ref b0] meth c cL_law 4 wsL_law RL ret9 D yc t1 t2 A (pW a b yc)) (hX : va_X b0 L xs s s.heap) (hbl : b0 < s.heap.size) (hbA : ¬ A b0) (hL : L ≤ 384) {i : Int} (hi0 : 0 ≤ i) (hi1 : i + 6 ≤ L) (hk : kc + 0 ≤ room_1.cells ∧ ks + 0 ≤ room_1.slots) (H : Rel g h) (kk : ∀ g' h' : Mm, Rel g' h' → VX p l e room_1 s m #[Value.ref b0] below meth c 4 kc ks D A (pW a b yc) Q 1453 [(0, .ref b0), (1, .ref (a 0)), (2, .ref (b 0)), (3, .int (iI (i)))] [] (g', h')) : VX p l e room_1 s m #[Value.ref b0] below meth c 4 kc ks D A (pW a b yc) Q 1220 [(0, .ref b0), (1, .ref (a 0)), (2, .ref (b 0)), (3, .int (iI (i)))] [] (g, h) := by
  obtain ⟨r9, h9, hC9, hM9⟩ := p_sure l D yc t1 t2 a b (Ac 86 a) (Ac 12 b) H (xv xs (i + 1)) (xv xs (i + 2)) (xv xs (i + 3)) (xv_r _ _) (xv_r _ _) (xv_r _ _)
  refine x_aload_n C 1 dL_law_1220 rfl ?_
  refine x_aload_n C 0 dL_law_1221 rfl ?_
  refine x_iload_n C 3 dL_law_1222 rfl ?_
  refine x_iconst C dL_law_1223 ?_
  refine x_iadd C dL_law_1224 ?_
  refine y_sld C hX hbl hbA (by omega) (by omega) hL dL_law_1225 ?_
  refine x_aload_n C 0 dL_law_1226 rfl ?_
  refine x_iload_n C 3 dL_law_1227 rfl ?_
  refine x_iconst C dL_law_1228 ?_
  refine x_iadd C dL_law_1229 ?_
  refine y_sld C hX hbl hbA (by omega) (by omega) hL dL_law_1230 ?_
  refine x_aload_n C 0 dL_law_1231 rfl ?_
  refine x_iload_n C 3 dL_law_1232 rfl ?_
  refine x_iconst C dL_law_1233 ?_
  refine x_iadd C dL_law_1234 ?_
  refine y_sld C hX hbl hbA (by omega) (by omega) hL dL_law_1235 ?_
  refine y_cCi C hk (As := [.int (iI (xv xs (i + 1))), .int (iI (xv xs (i + 2))), .int (iI (xv xs (i + 3)))]) (rest := []) hC9 (cwV 3 C.hts gL_law_X4_sure rfl rfl rfl (by decide +kernel) ⟨by decide, by decide⟩) rfl rfl (Nat.le_of_ble_eq_true rfl) dL_law_1236 ?_
  rintro r8 g9 ⟨rfl, hR⟩
  refine x_aload_n C 2 dL_law_1239 rfl ?_
  refine x_aload_n C 0 dL_law_1240 rfl ?_
  refine x_iload_n C 3 dL_law_1241 rfl ?_
  refine x_iconst C dL_law_1242 ?_
  refine x_iadd C dL_law_1243 ?_
  refine y_sld C hX hbl hbA (by omega) (by omega) hL dL_law_1244 ?_
  refine x_aload_n C 0 dL_law_1245 rfl ?_
  refine x_iload_n C 3 dL_law_1246 rfl ?_
  refine x_iconst C dL_law_1247 ?_
  refine x_iadd C dL_law_1248 ?_
  refine y_sld C hX hbl hbA (by omega) (by omega) hL dL_law_1249 ?_
  refine x_aload_n C 0 dL_law_1250 rfl ?_
  refine x_iload_n C 3 dL_law_1251 rfl ?_
  refine x_iconst C dL_law_1252 ?_
  refine x_iadd C dL_law_1253 ?_
  refine y_sld C hX hbl hbA (by omega) (by omega) hL dL_law_1254 ?_
  refine y_cMi C hk (As := [.int (iI (xv xs (i + 1))), .int (iI (xv xs (i + 2))), .int (iI (xv xs (i + 3)))]) hM9 (cwV 3 C.hts gL_law_X5_sure rfl rfl rfl (by decide +kernel) ⟨by decide, by decide⟩) rfl rfl (Nat.le_of_ble_eq_true rfl) dL_law_1255 ?_
  rintro r7 h8 ⟨rfl, rfl⟩
  refine x_icr (tgt := 1453) C dL_law_1258 (by decide) ?_
  exact kk _ _ hR
set_option maxRecDepth 100000 in
set_option maxHeartbeats 4000000 in
theorem lc_odds {p : Program} {l : Launch} {e : Env} {s : State} {m : MethodId} {below : List Frame} {meth : Method} {c : Code} {kc ks : Nat} {ret9 : Option FieldType} {D : va_G} {yc : Nat → ClassId} {t1 t2 : Nat} {A : Nat → Prop} {Q : State → Prop} {a b : Int → Nat} {g h : Mm} {b0 L : Nat} {xs : Nat → Int32} (C : VC p s m #[Value.ref b0] meth c cL_law 4 wsL_law RL ret9 D yc t1 t2 A (pW a b yc)) (hX : va_X b0 L xs s s.heap) (hbl : b0 < s.heap.size) (hbA : ¬ A b0) (hL : L ≤ 384) {i : Int} (hi0 : 0 ≤ i) (hi1 : i + 6 ≤ L) (hk : kc + 0 ≤ room_1.cells ∧ ks + 0 ≤ room_1.slots) (H : Rel g h) (kk : ∀ g' h' : Mm, Rel g' h' → VX p l e room_1 s m #[Value.ref b0] below meth c 4 kc ks D A (pW a b yc) Q 1453 [(0, .ref b0), (1, .ref (a 0)), (2, .ref (b 0)), (3, .int (iI (i)))] [] (g', h')) : VX p l e room_1 s m #[Value.ref b0] below meth c 4 kc ks D A (pW a b yc) Q 1263 [(0, .ref b0), (1, .ref (a 0)), (2, .ref (b 0)), (3, .int (iI (i)))] [] (g, h) := by
  obtain ⟨r9, h9, hC9, hM9⟩ := p_odds l D yc t1 t2 a b (Ac 86 a) (Ac 12 b) H (xv xs (i + 1)) (xv xs (i + 2)) (xv xs (i + 3)) (xv_r _ _) (xv_r _ _) (xv_r _ _)
  refine x_aload_n C 1 dL_law_1263 rfl ?_
  refine x_aload_n C 0 dL_law_1264 rfl ?_
  refine x_iload_n C 3 dL_law_1265 rfl ?_
  refine x_iconst C dL_law_1266 ?_
  refine x_iadd C dL_law_1267 ?_
  refine y_sld C hX hbl hbA (by omega) (by omega) hL dL_law_1268 ?_
  refine x_aload_n C 0 dL_law_1269 rfl ?_
  refine x_iload_n C 3 dL_law_1270 rfl ?_
  refine x_iconst C dL_law_1271 ?_
  refine x_iadd C dL_law_1272 ?_
  refine y_sld C hX hbl hbA (by omega) (by omega) hL dL_law_1273 ?_
  refine x_aload_n C 0 dL_law_1274 rfl ?_
  refine x_iload_n C 3 dL_law_1275 rfl ?_
  refine x_iconst C dL_law_1276 ?_
  refine x_iadd C dL_law_1277 ?_
  refine y_sld C hX hbl hbA (by omega) (by omega) hL dL_law_1278 ?_
  refine y_cCi C hk (As := [.int (iI (xv xs (i + 1))), .int (iI (xv xs (i + 2))), .int (iI (xv xs (i + 3)))]) (rest := []) hC9 (cwV 3 C.hts gL_law_X4_odds rfl rfl rfl (by decide +kernel) ⟨by decide, by decide⟩) rfl rfl (Nat.le_of_ble_eq_true rfl) dL_law_1279 ?_
  rintro r8 g9 ⟨rfl, hR⟩
  refine x_aload_n C 2 dL_law_1282 rfl ?_
  refine x_aload_n C 0 dL_law_1283 rfl ?_
  refine x_iload_n C 3 dL_law_1284 rfl ?_
  refine x_iconst C dL_law_1285 ?_
  refine x_iadd C dL_law_1286 ?_
  refine y_sld C hX hbl hbA (by omega) (by omega) hL dL_law_1287 ?_
  refine x_aload_n C 0 dL_law_1288 rfl ?_
  refine x_iload_n C 3 dL_law_1289 rfl ?_
  refine x_iconst C dL_law_1290 ?_
  refine x_iadd C dL_law_1291 ?_
  refine y_sld C hX hbl hbA (by omega) (by omega) hL dL_law_1292 ?_
  refine x_aload_n C 0 dL_law_1293 rfl ?_
  refine x_iload_n C 3 dL_law_1294 rfl ?_
  refine x_iconst C dL_law_1295 ?_
  refine x_iadd C dL_law_1296 ?_
  refine y_sld C hX hbl hbA (by omega) (by omega) hL dL_law_1297 ?_
  refine y_cMi C hk (As := [.int (iI (xv xs (i + 1))), .int (iI (xv xs (i + 2))), .int (iI (xv xs (i + 3)))]) hM9 (cwV 3 C.hts gL_law_X5_odds rfl rfl rfl (by decide +kernel) ⟨by decide, by decide⟩) rfl rfl (Nat.le_of_ble_eq_true rfl) dL_law_1298 ?_
  rintro r7 h8 ⟨rfl, rfl⟩
  refine x_icr (tgt := 1453) C dL_law_1301 (by decide) ?_
  exact kk _ _ hR
set_option maxRecDepth 100000 in
set_option maxHeartbeats 4000000 in
theorem lc_lots {p : Program} {l : Launch} {e : Env} {s : State} {m : MethodId} {below : List Frame} {meth : Method} {c : Code} {kc ks : Nat} {ret9 : Option FieldType} {D : va_G} {yc : Nat → ClassId} {t1 t2 : Nat} {A : Nat → Prop} {Q : State → Prop} {a b : Int → Nat} {g h : Mm} {b0 L : Nat} {xs : Nat → Int32} (C : VC p s m #[Value.ref b0] meth c cL_law 4 wsL_law RL ret9 D yc t1 t2 A (pW a b yc)) (hX : va_X b0 L xs s s.heap) (hbl : b0 < s.heap.size) (hbA : ¬ A b0) (hL : L ≤ 384) {i : Int} (hi0 : 0 ≤ i) (hi1 : i + 6 ≤ L) (hk : kc + 0 ≤ room_1.cells ∧ ks + 0 ≤ room_1.slots) (H : Rel g h) (kk : ∀ g' h' : Mm, Rel g' h' → VX p l e room_1 s m #[Value.ref b0] below meth c 4 kc ks D A (pW a b yc) Q 1453 [(0, .ref b0), (1, .ref (a 0)), (2, .ref (b 0)), (3, .int (iI (i)))] [] (g', h')) : VX p l e room_1 s m #[Value.ref b0] below meth c 4 kc ks D A (pW a b yc) Q 1306 [(0, .ref b0), (1, .ref (a 0)), (2, .ref (b 0)), (3, .int (iI (i)))] [] (g, h) := by
  obtain ⟨r9, h9, hC9, hM9⟩ := p_lots l D yc t1 t2 a b (Ac 86 a) (Ac 12 b) H (xv xs (i + 1)) (xv xs (i + 2)) (xv_r _ _) (xv_r _ _)
  refine x_aload_n C 1 dL_law_1306 rfl ?_
  refine x_aload_n C 0 dL_law_1307 rfl ?_
  refine x_iload_n C 3 dL_law_1308 rfl ?_
  refine x_iconst C dL_law_1309 ?_
  refine x_iadd C dL_law_1310 ?_
  refine y_sld C hX hbl hbA (by omega) (by omega) hL dL_law_1311 ?_
  refine x_aload_n C 0 dL_law_1312 rfl ?_
  refine x_iload_n C 3 dL_law_1313 rfl ?_
  refine x_iconst C dL_law_1314 ?_
  refine x_iadd C dL_law_1315 ?_
  refine y_sld C hX hbl hbA (by omega) (by omega) hL dL_law_1316 ?_
  refine y_cCi C hk (As := [.int (iI (xv xs (i + 1))), .int (iI (xv xs (i + 2)))]) (rest := []) hC9 (cwV 2 C.hts gL_law_X4_lots rfl rfl rfl (by decide +kernel) ⟨by decide, by decide⟩) rfl rfl (Nat.le_of_ble_eq_true rfl) dL_law_1317 ?_
  rintro r8 g9 ⟨rfl, hR⟩
  refine x_aload_n C 2 dL_law_1320 rfl ?_
  refine x_aload_n C 0 dL_law_1321 rfl ?_
  refine x_iload_n C 3 dL_law_1322 rfl ?_
  refine x_iconst C dL_law_1323 ?_
  refine x_iadd C dL_law_1324 ?_
  refine y_sld C hX hbl hbA (by omega) (by omega) hL dL_law_1325 ?_
  refine x_aload_n C 0 dL_law_1326 rfl ?_
  refine x_iload_n C 3 dL_law_1327 rfl ?_
  refine x_iconst C dL_law_1328 ?_
  refine x_iadd C dL_law_1329 ?_
  refine y_sld C hX hbl hbA (by omega) (by omega) hL dL_law_1330 ?_
  refine y_cMi C hk (As := [.int (iI (xv xs (i + 1))), .int (iI (xv xs (i + 2)))]) hM9 (cwV 2 C.hts gL_law_X5_lots rfl rfl rfl (by decide +kernel) ⟨by decide, by decide⟩) rfl rfl (Nat.le_of_ble_eq_true rfl) dL_law_1331 ?_
  rintro r7 h8 ⟨rfl, rfl⟩
  refine x_icr (tgt := 1453) C dL_law_1334 (by decide) ?_
  exact kk _ _ hR
set_option maxRecDepth 100000 in
set_option maxHeartbeats 4000000 in
theorem lc_asked {p : Program} {l : Launch} {e : Env} {s : State} {m : MethodId} {below : List Frame} {meth : Method} {c : Code} {kc ks : Nat} {ret9 : Option FieldType} {D : va_G} {yc : Nat → ClassId} {t1 t2 : Nat} {A : Nat → Prop} {Q : State → Prop} {a b : Int → Nat} {g h : Mm} {b0 L : Nat} {xs : Nat → Int32} (C : VC p s m #[Value.ref b0] meth c cL_law 4 wsL_law RL ret9 D yc t1 t2 A (pW a b yc)) (hX : va_X b0 L xs s s.heap) (hbl : b0 < s.heap.size) (hbA : ¬ A b0) (hL : L ≤ 384) {i : Int} (hi0 : 0 ≤ i) (hi1 : i + 6 ≤ L) (hk : kc + 0 ≤ room_1.cells ∧ ks + 0 ≤ room_1.slots) (H : Rel g h) (kk : ∀ g' h' : Mm, Rel g' h' → VX p l e room_1 s m #[Value.ref b0] below meth c 4 kc ks D A (pW a b yc) Q 1453 [(0, .ref b0), (1, .ref (a 0)), (2, .ref (b 0)), (3, .int (iI (i)))] [] (g', h')) : VX p l e room_1 s m #[Value.ref b0] below meth c 4 kc ks D A (pW a b yc) Q 1339 [(0, .ref b0), (1, .ref (a 0)), (2, .ref (b 0)), (3, .int (iI (i)))] [] (g, h) := by
  obtain ⟨r9, h9, hC9, hM9⟩ := p_asked l D yc t1 t2 a b (Ac 86 a) (Ac 12 b) H
  refine x_aload_n C 1 dL_law_1339 rfl ?_
  refine y_cCi C hk (As := []) (rest := []) hC9 (cwV 0 C.hts gL_law_X4_asked rfl rfl rfl (by decide +kernel) ⟨by decide, by decide⟩) rfl rfl (Nat.le_of_ble_eq_true rfl) dL_law_1340 ?_
  rintro r8 g9 ⟨rfl, hR⟩
  refine x_aload_n C 2 dL_law_1343 rfl ?_
  refine y_cMi C hk (As := []) hM9 (cwV 0 C.hts gL_law_X5_asked rfl rfl rfl (by decide +kernel) ⟨by decide, by decide⟩) rfl rfl (Nat.le_of_ble_eq_true rfl) dL_law_1344 ?_
  rintro r7 h8 ⟨rfl, rfl⟩
  refine x_icr (tgt := 1453) C dL_law_1347 (by decide) ?_
  exact kk _ _ hR
set_option maxRecDepth 100000 in
set_option maxHeartbeats 4000000 in
theorem lc_upper {p : Program} {l : Launch} {e : Env} {s : State} {m : MethodId} {below : List Frame} {meth : Method} {c : Code} {kc ks : Nat} {ret9 : Option FieldType} {D : va_G} {yc : Nat → ClassId} {t1 t2 : Nat} {A : Nat → Prop} {Q : State → Prop} {a b : Int → Nat} {g h : Mm} {b0 L : Nat} {xs : Nat → Int32} (C : VC p s m #[Value.ref b0] meth c cL_law 4 wsL_law RL ret9 D yc t1 t2 A (pW a b yc)) (hX : va_X b0 L xs s s.heap) (hbl : b0 < s.heap.size) (hbA : ¬ A b0) (hL : L ≤ 384) {i : Int} (hi0 : 0 ≤ i) (hi1 : i + 6 ≤ L) (hk : kc + 0 ≤ room_1.cells ∧ ks + 0 ≤ room_1.slots) (H : Rel g h) (kk : ∀ g' h' : Mm, Rel g' h' → VX p l e room_1 s m #[Value.ref b0] below meth c 4 kc ks D A (pW a b yc) Q 1453 [(0, .ref b0), (1, .ref (a 0)), (2, .ref (b 0)), (3, .int (iI (i)))] [] (g', h')) : VX p l e room_1 s m #[Value.ref b0] below meth c 4 kc ks D A (pW a b yc) Q 1352 [(0, .ref b0), (1, .ref (a 0)), (2, .ref (b 0)), (3, .int (iI (i)))] [] (g, h) := by
  obtain ⟨r9, h9, hC9, hM9⟩ := p_upper l D yc t1 t2 a b (Ac 86 a) (Ac 12 b) H
  refine x_aload_n C 1 dL_law_1352 rfl ?_
  refine y_cCl C hk (As := []) (rest := []) hC9 (cwV 0 C.hts gL_law_X4_upper rfl rfl rfl (by decide +kernel) ⟨by decide, by decide⟩) rfl rfl (Nat.le_of_ble_eq_true rfl) dL_law_1353 ?_
  rintro r8 g9 ⟨rfl, hR⟩
  refine x_aload_n C 2 dL_law_1356 rfl ?_
  refine y_cMl C hk (As := []) hM9 (cwV 0 C.hts gL_law_X5_upper rfl rfl rfl (by decide +kernel) ⟨by decide, by decide⟩) rfl rfl (Nat.le_of_ble_eq_true rfl) dL_law_1357 ?_
  rintro r7 h8 ⟨rfl, rfl⟩
  refine x_lcr C dL_law_1360 ?_
  refine x_if_eq (tgt := 1453) C dL_law_1361 (by decide) (by decide) (fun _ => ?_) (fun h9 => absurd rfl h9)
  exact kk _ _ hR
set_option maxRecDepth 100000 in
set_option maxHeartbeats 4000000 in
theorem lc_lower {p : Program} {l : Launch} {e : Env} {s : State} {m : MethodId} {below : List Frame} {meth : Method} {c : Code} {kc ks : Nat} {ret9 : Option FieldType} {D : va_G} {yc : Nat → ClassId} {t1 t2 : Nat} {A : Nat → Prop} {Q : State → Prop} {a b : Int → Nat} {g h : Mm} {b0 L : Nat} {xs : Nat → Int32} (C : VC p s m #[Value.ref b0] meth c cL_law 4 wsL_law RL ret9 D yc t1 t2 A (pW a b yc)) (hX : va_X b0 L xs s s.heap) (hbl : b0 < s.heap.size) (hbA : ¬ A b0) (hL : L ≤ 384) {i : Int} (hi0 : 0 ≤ i) (hi1 : i + 6 ≤ L) (hk : kc + 0 ≤ room_1.cells ∧ ks + 0 ≤ room_1.slots) (H : Rel g h) (kk : ∀ g' h' : Mm, Rel g' h' → VX p l e room_1 s m #[Value.ref b0] below meth c 4 kc ks D A (pW a b yc) Q 1453 [(0, .ref b0), (1, .ref (a 0)), (2, .ref (b 0)), (3, .int (iI (i)))] [] (g', h')) : VX p l e room_1 s m #[Value.ref b0] below meth c 4 kc ks D A (pW a b yc) Q 1366 [(0, .ref b0), (1, .ref (a 0)), (2, .ref (b 0)), (3, .int (iI (i)))] [] (g, h) := by
  obtain ⟨r9, h9, hC9, hM9⟩ := p_lower l D yc t1 t2 a b (Ac 86 a) (Ac 12 b) H
  refine x_aload_n C 1 dL_law_1366 rfl ?_
  refine y_cCl C hk (As := []) (rest := []) hC9 (cwV 0 C.hts gL_law_X4_lower rfl rfl rfl (by decide +kernel) ⟨by decide, by decide⟩) rfl rfl (Nat.le_of_ble_eq_true rfl) dL_law_1367 ?_
  rintro r8 g9 ⟨rfl, hR⟩
  refine x_aload_n C 2 dL_law_1370 rfl ?_
  refine y_cMl C hk (As := []) hM9 (cwV 0 C.hts gL_law_X5_lower rfl rfl rfl (by decide +kernel) ⟨by decide, by decide⟩) rfl rfl (Nat.le_of_ble_eq_true rfl) dL_law_1371 ?_
  rintro r7 h8 ⟨rfl, rfl⟩
  refine x_lcr C dL_law_1374 ?_
  refine x_if_eq (tgt := 1453) C dL_law_1375 (by decide) (by decide) (fun _ => ?_) (fun h9 => absurd rfl h9)
  exact kk _ _ hR
set_option maxRecDepth 100000 in
set_option maxHeartbeats 4000000 in
theorem lc_count {p : Program} {l : Launch} {e : Env} {s : State} {m : MethodId} {below : List Frame} {meth : Method} {c : Code} {kc ks : Nat} {ret9 : Option FieldType} {D : va_G} {yc : Nat → ClassId} {t1 t2 : Nat} {A : Nat → Prop} {Q : State → Prop} {a b : Int → Nat} {g h : Mm} {b0 L : Nat} {xs : Nat → Int32} (C : VC p s m #[Value.ref b0] meth c cL_law 4 wsL_law RL ret9 D yc t1 t2 A (pW a b yc)) (hX : va_X b0 L xs s s.heap) (hbl : b0 < s.heap.size) (hbA : ¬ A b0) (hL : L ≤ 384) {i : Int} (hi0 : 0 ≤ i) (hi1 : i + 6 ≤ L) (hk : kc + 0 ≤ room_1.cells ∧ ks + 0 ≤ room_1.slots) (H : Rel g h) (kk : ∀ g' h' : Mm, Rel g' h' → VX p l e room_1 s m #[Value.ref b0] below meth c 4 kc ks D A (pW a b yc) Q 1453 [(0, .ref b0), (1, .ref (a 0)), (2, .ref (b 0)), (3, .int (iI (i)))] [] (g', h')) : VX p l e room_1 s m #[Value.ref b0] below meth c 4 kc ks D A (pW a b yc) Q 1380 [(0, .ref b0), (1, .ref (a 0)), (2, .ref (b 0)), (3, .int (iI (i)))] [] (g, h) := by
  obtain ⟨r9, h9, hC9, hM9⟩ := p_count l D yc t1 t2 a b (Ac 86 a) (Ac 12 b) H (xv xs (i + 1)) (xv_r _ _)
  refine x_aload_n C 1 dL_law_1380 rfl ?_
  refine x_aload_n C 0 dL_law_1381 rfl ?_
  refine x_iload_n C 3 dL_law_1382 rfl ?_
  refine x_iconst C dL_law_1383 ?_
  refine x_iadd C dL_law_1384 ?_
  refine y_sld C hX hbl hbA (by omega) (by omega) hL dL_law_1385 ?_
  refine y_cCi C hk (As := [.int (iI (xv xs (i + 1)))]) (rest := []) hC9 (cwV 1 C.hts gL_law_X4_count rfl rfl rfl (by decide +kernel) ⟨by decide, by decide⟩) rfl rfl (Nat.le_of_ble_eq_true rfl) dL_law_1386 ?_
  rintro r8 g9 ⟨rfl, hR⟩
  refine x_aload_n C 2 dL_law_1389 rfl ?_
  refine x_aload_n C 0 dL_law_1390 rfl ?_
  refine x_iload_n C 3 dL_law_1391 rfl ?_
  refine x_iconst C dL_law_1392 ?_
  refine x_iadd C dL_law_1393 ?_
  refine y_sld C hX hbl hbA (by omega) (by omega) hL dL_law_1394 ?_
  refine y_cMi C hk (As := [.int (iI (xv xs (i + 1)))]) hM9 (cwV 1 C.hts gL_law_X5_count rfl rfl rfl (by decide +kernel) ⟨by decide, by decide⟩) rfl rfl (Nat.le_of_ble_eq_true rfl) dL_law_1395 ?_
  rintro r7 h8 ⟨rfl, rfl⟩
  refine x_icr (tgt := 1453) C dL_law_1398 (by decide) ?_
  exact kk _ _ hR
set_option maxRecDepth 100000 in
set_option maxHeartbeats 4000000 in
theorem lc_finding {p : Program} {l : Launch} {e : Env} {s : State} {m : MethodId} {below : List Frame} {meth : Method} {c : Code} {kc ks : Nat} {ret9 : Option FieldType} {D : va_G} {yc : Nat → ClassId} {t1 t2 : Nat} {A : Nat → Prop} {Q : State → Prop} {a b : Int → Nat} {g h : Mm} {b0 L : Nat} {xs : Nat → Int32} (C : VC p s m #[Value.ref b0] meth c cL_law 4 wsL_law RL ret9 D yc t1 t2 A (pW a b yc)) (hX : va_X b0 L xs s s.heap) (hbl : b0 < s.heap.size) (hbA : ¬ A b0) (hL : L ≤ 384) {i : Int} (hi0 : 0 ≤ i) (hi1 : i + 6 ≤ L) (hk : kc + 0 ≤ room_1.cells ∧ ks + 0 ≤ room_1.slots) (H : Rel g h) (kk : ∀ g' h' : Mm, Rel g' h' → VX p l e room_1 s m #[Value.ref b0] below meth c 4 kc ks D A (pW a b yc) Q 1453 [(0, .ref b0), (1, .ref (a 0)), (2, .ref (b 0)), (3, .int (iI (i)))] [] (g', h')) : VX p l e room_1 s m #[Value.ref b0] below meth c 4 kc ks D A (pW a b yc) Q 1403 [(0, .ref b0), (1, .ref (a 0)), (2, .ref (b 0)), (3, .int (iI (i)))] [] (g, h) := by
  obtain ⟨r9, h9, hC9, hM9⟩ := p_finding l D yc t1 t2 a b (Ac 86 a) (Ac 12 b) H
  refine x_aload_n C 1 dL_law_1403 rfl ?_
  refine y_cCi C hk (As := []) (rest := []) hC9 (cwV 0 C.hts gL_law_X4_finding rfl rfl rfl (by decide +kernel) ⟨by decide, by decide⟩) rfl rfl (Nat.le_of_ble_eq_true rfl) dL_law_1404 ?_
  rintro r8 g9 ⟨rfl, hR⟩
  refine x_aload_n C 2 dL_law_1407 rfl ?_
  refine y_cMi C hk (As := []) hM9 (cwV 0 C.hts gL_law_X5_finding rfl rfl rfl (by decide +kernel) ⟨by decide, by decide⟩) rfl rfl (Nat.le_of_ble_eq_true rfl) dL_law_1408 ?_
  rintro r7 h8 ⟨rfl, rfl⟩
  refine x_icr (tgt := 1453) C dL_law_1411 (by decide) ?_
  exact kk _ _ hR
set_option maxRecDepth 100000 in
set_option maxHeartbeats 4000000 in
theorem lc_findings {p : Program} {l : Launch} {e : Env} {s : State} {m : MethodId} {below : List Frame} {meth : Method} {c : Code} {kc ks : Nat} {ret9 : Option FieldType} {D : va_G} {yc : Nat → ClassId} {t1 t2 : Nat} {A : Nat → Prop} {Q : State → Prop} {a b : Int → Nat} {g h : Mm} {b0 L : Nat} {xs : Nat → Int32} (C : VC p s m #[Value.ref b0] meth c cL_law 4 wsL_law RL ret9 D yc t1 t2 A (pW a b yc)) (hX : va_X b0 L xs s s.heap) (hbl : b0 < s.heap.size) (hbA : ¬ A b0) (hL : L ≤ 384) {i : Int} (hi0 : 0 ≤ i) (hi1 : i + 6 ≤ L) (hk : kc + 0 ≤ room_1.cells ∧ ks + 0 ≤ room_1.slots) (H : Rel g h) (kk : ∀ g' h' : Mm, Rel g' h' → VX p l e room_1 s m #[Value.ref b0] below meth c 4 kc ks D A (pW a b yc) Q 1453 [(0, .ref b0), (1, .ref (a 0)), (2, .ref (b 0)), (3, .int (iI (i)))] [] (g', h')) : VX p l e room_1 s m #[Value.ref b0] below meth c 4 kc ks D A (pW a b yc) Q 1416 [(0, .ref b0), (1, .ref (a 0)), (2, .ref (b 0)), (3, .int (iI (i)))] [] (g, h) := by
  obtain ⟨r9, h9, hC9, hM9⟩ := p_findings l D yc t1 t2 a b (Ac 86 a) (Ac 12 b) H (xv xs (i + 1)) (xv_r _ _)
  refine x_aload_n C 1 dL_law_1416 rfl ?_
  refine x_aload_n C 0 dL_law_1417 rfl ?_
  refine x_iload_n C 3 dL_law_1418 rfl ?_
  refine x_iconst C dL_law_1419 ?_
  refine x_iadd C dL_law_1420 ?_
  refine y_sld C hX hbl hbA (by omega) (by omega) hL dL_law_1421 ?_
  refine y_cCi C hk (As := [.int (iI (xv xs (i + 1)))]) (rest := []) hC9 (cwV 1 C.hts gL_law_X4_findings rfl rfl rfl (by decide +kernel) ⟨by decide, by decide⟩) rfl rfl (Nat.le_of_ble_eq_true rfl) dL_law_1422 ?_
  rintro r8 g9 ⟨rfl, hR⟩
  refine x_aload_n C 2 dL_law_1425 rfl ?_
  refine x_aload_n C 0 dL_law_1426 rfl ?_
  refine x_iload_n C 3 dL_law_1427 rfl ?_
  refine x_iconst C dL_law_1428 ?_
  refine x_iadd C dL_law_1429 ?_
  refine y_sld C hX hbl hbA (by omega) (by omega) hL dL_law_1430 ?_
  refine y_cMi C hk (As := [.int (iI (xv xs (i + 1)))]) hM9 (cwV 1 C.hts gL_law_X5_findings rfl rfl rfl (by decide +kernel) ⟨by decide, by decide⟩) rfl rfl (Nat.le_of_ble_eq_true rfl) dL_law_1431 ?_
  rintro r7 h8 ⟨rfl, rfl⟩
  refine x_icr (tgt := 1453) C dL_law_1434 (by decide) ?_
  exact kk _ _ hR
set_option maxRecDepth 100000 in
set_option maxHeartbeats 4000000 in
theorem lc_digest {p : Program} {l : Launch} {e : Env} {s : State} {m : MethodId} {below : List Frame} {meth : Method} {c : Code} {kc ks : Nat} {ret9 : Option FieldType} {D : va_G} {yc : Nat → ClassId} {t1 t2 : Nat} {A : Nat → Prop} {Q : State → Prop} {a b : Int → Nat} {g h : Mm} {b0 L : Nat} {xs : Nat → Int32} (C : VC p s m #[Value.ref b0] meth c cL_law 4 wsL_law RL ret9 D yc t1 t2 A (pW a b yc)) (hX : va_X b0 L xs s s.heap) (hbl : b0 < s.heap.size) (hbA : ¬ A b0) (hL : L ≤ 384) {i : Int} (hi0 : 0 ≤ i) (hi1 : i + 6 ≤ L) (hk : kc + 0 ≤ room_1.cells ∧ ks + 0 ≤ room_1.slots) (H : Rel g h) (kk : ∀ g' h' : Mm, Rel g' h' → VX p l e room_1 s m #[Value.ref b0] below meth c 4 kc ks D A (pW a b yc) Q 1453 [(0, .ref b0), (1, .ref (a 0)), (2, .ref (b 0)), (3, .int (iI (i)))] [] (g', h')) : VX p l e room_1 s m #[Value.ref b0] below meth c 4 kc ks D A (pW a b yc) Q 1439 [(0, .ref b0), (1, .ref (a 0)), (2, .ref (b 0)), (3, .int (iI (i)))] [] (g, h) := by
  obtain ⟨r9, h9, hC9, hM9⟩ := p_digest l D yc t1 t2 a b (Ac 86 a) (Ac 12 b) H
  refine x_aload_n C 1 dL_law_1439 rfl ?_
  refine y_cCl C hk (As := []) (rest := []) hC9 (cwV 0 C.hts gL_law_X4_digest rfl rfl rfl (by decide +kernel) ⟨by decide, by decide⟩) rfl rfl (Nat.le_of_ble_eq_true rfl) dL_law_1440 ?_
  rintro r8 g9 ⟨rfl, hR⟩
  refine x_aload_n C 2 dL_law_1443 rfl ?_
  refine y_cMl C hk (As := []) hM9 (cwV 0 C.hts gL_law_X5_digest rfl rfl rfl (by decide +kernel) ⟨by decide, by decide⟩) rfl rfl (Nat.le_of_ble_eq_true rfl) dL_law_1444 ?_
  rintro r7 h8 ⟨rfl, rfl⟩
  refine x_lcr C dL_law_1447 ?_
  refine x_if_eq (tgt := 1453) C dL_law_1448 (by decide) (by decide) (fun _ => ?_) (fun h9 => absurd rfl h9)
  exact kk _ _ hR
