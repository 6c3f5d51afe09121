/-! THE LAW: its cases, its loop -/
abbrev LL (i : Nat) : List (Option Value) := [some (.ref 1000003), some (.ref 0), some (.ref 360), some (.int (nI i))]
abbrev GL (sn : Nat) (xs : Nat → Int32) (pc i : Nat) (H : Hv) : Prop := Gx sn xs M_L 9 378 5803 pc (LL i) [] (mk H) 378 5803 (fun v _ => v = some (.int 1))
theorem sp_c0 : SP[0]? = some (6, [some 1, some 13, some 15, some 27, some 39, some 329, some 330, some 333, some 335, none]) := by decide +kernel
theorem sp_c360 : SP[360]? = some (7, [none, some 361, some 362, some 363, none, some 364, none, none, none, none, none, none, none, none, some 365, some 366, some 367, some 368, some 369, some 370, some 371, none, some 372, none, some 373, some 374, some 375, none, some 376, some 377]) := by decide +kernel
theorem lg_self (x : Int64) : lg_cmp x x = 0 := by
  unfold lg_cmp
  rw [if_neg (fun h => absurd h (by simp))]
  first | rfl | simp
theorem k_row {sn i : Nat} {xs : Nat → Int32} {H : Hv} (hn : sn < 2 ^ 31) (hi : i + 6 ≤ sn) (hR : Rel H) (k : ∀ H', Rel H' → GL sn xs 1459 i H') : GL sn xs 208 i H := by
  obtain ⟨h, w, rfl, hR⟩ := hR
  refine x_aload_n d_L_law_208 rfl ?_
  refine x_arg (L' := []) 1 (j := 1) d_L_law_209 d_L_law_210 d_L_law_211 d_L_law_212 d_L_law_213 (by decide +kernel) rfl rfl (by omega) hn ?_
  refine x_arg (L' := []) 2 (j := 2) d_L_law_214 d_L_law_215 d_L_law_216 d_L_law_217 d_L_law_218 (by decide +kernel) rfl rfl (by omega) hn ?_
  refine x_arg (L' := []) 3 (j := 3) d_L_law_219 d_L_law_220 d_L_law_221 d_L_law_222 d_L_law_223 (by decide +kernel) rfl rfl (by omega) hn ?_
  refine x_call (As := [.int (xs (i + 1)), .int (xs (i + 2)), .int (xs (i + 3))]) (o := 0) (st := []) d_L_law_224 cl_L_13 (op_row hR) sp_c0 (by decide) rfl rfl rfl (by decide) (by decide) (Nat.le_refl _) (Nat.le_refl _) (fun v h' hv => ?_)
  obtain ⟨r, rfl, hY⟩ := hv
  refine x_aload_n d_L_law_227 rfl ?_
  refine x_arg (L' := []) 1 (j := 1) d_L_law_228 d_L_law_229 d_L_law_230 d_L_law_231 d_L_law_232 (by decide +kernel) rfl rfl (by omega) hn ?_
  refine x_arg (L' := []) 2 (j := 2) d_L_law_233 d_L_law_234 d_L_law_235 d_L_law_236 d_L_law_237 (by decide +kernel) rfl rfl (by omega) hn ?_
  refine x_arg (L' := []) 3 (j := 3) d_L_law_238 d_L_law_239 d_L_law_240 d_L_law_241 d_L_law_242 (by decide +kernel) rfl rfl (by omega) hn ?_
  refine x_call (As := [.int (xs (i + 1)), .int (xs (i + 2)), .int (xs (i + 3))]) (o := 360) (st := [.int r]) d_L_law_243 cl_L_17 hY sp_c360 (by decide) rfl rfl rfl (Nat.le_of_ble_eq_true rfl) (by decide) (Nat.le_refl _) (Nat.le_refl _) (fun v h'' hv => ?_)
  obtain ⟨rfl, hR2⟩ := hv
  refine x_icmp_eq d_L_law_246 (fun _ => ?_) (fun hne => absurd rfl hne)
  exact k h'' hR2
theorem k_set {sn i : Nat} {xs : Nat → Int32} {H : Hv} (hn : sn < 2 ^ 31) (hi : i + 6 ≤ sn) (hR : Rel H) (k : ∀ H', Rel H' → GL sn xs 1459 i H') : GL sn xs 251 i H := by
  obtain ⟨h, w, rfl, hR⟩ := hR
  refine x_aload_n d_L_law_251 rfl ?_
  refine x_arg (L' := []) 1 (j := 1) d_L_law_252 d_L_law_253 d_L_law_254 d_L_law_255 d_L_law_256 (by decide +kernel) rfl rfl (by omega) hn ?_
  refine x_arg (L' := []) 2 (j := 2) d_L_law_257 d_L_law_258 d_L_law_259 d_L_law_260 d_L_law_261 (by decide +kernel) rfl rfl (by omega) hn ?_
  refine x_arg (L' := []) 3 (j := 3) d_L_law_262 d_L_law_263 d_L_law_264 d_L_law_265 d_L_law_266 (by decide +kernel) rfl rfl (by omega) hn ?_
  refine x_call (As := [.int (xs (i + 1)), .int (xs (i + 2)), .int (xs (i + 3))]) (o := 0) (st := []) d_L_law_267 cl_L_18 (op_set hR) sp_c0 (by decide) rfl rfl rfl (by decide) (by decide) (Nat.le_refl _) (Nat.le_refl _) (fun v h' hv => ?_)
  obtain ⟨r, rfl, hY⟩ := hv
  refine x_aload_n d_L_law_270 rfl ?_
  refine x_arg (L' := []) 1 (j := 1) d_L_law_271 d_L_law_272 d_L_law_273 d_L_law_274 d_L_law_275 (by decide +kernel) rfl rfl (by omega) hn ?_
  refine x_arg (L' := []) 2 (j := 2) d_L_law_276 d_L_law_277 d_L_law_278 d_L_law_279 d_L_law_280 (by decide +kernel) rfl rfl (by omega) hn ?_
  refine x_arg (L' := []) 3 (j := 3) d_L_law_281 d_L_law_282 d_L_law_283 d_L_law_284 d_L_law_285 (by decide +kernel) rfl rfl (by omega) hn ?_
  refine x_call (As := [.int (xs (i + 1)), .int (xs (i + 2)), .int (xs (i + 3))]) (o := 360) (st := [.int r]) d_L_law_286 cl_L_21 hY sp_c360 (by decide) rfl rfl rfl (Nat.le_of_ble_eq_true rfl) (by decide) (Nat.le_refl _) (Nat.le_refl _) (fun v h'' hv => ?_)
  obtain ⟨rfl, hR2⟩ := hv
  refine x_icmp_eq d_L_law_289 (fun _ => ?_) (fun hne => absurd rfl hne)
  exact k h'' hR2
theorem k_copy {sn i : Nat} {xs : Nat → Int32} {H : Hv} (hn : sn < 2 ^ 31) (hi : i + 6 ≤ sn) (hR : Rel H) (k : ∀ H', Rel H' → GL sn xs 1459 i H') : GL sn xs 294 i H := by
  obtain ⟨h, w, rfl, hR⟩ := hR
  refine x_aload_n d_L_law_294 rfl ?_
  refine x_arg (L' := []) 1 (j := 1) d_L_law_295 d_L_law_296 d_L_law_297 d_L_law_298 d_L_law_299 (by decide +kernel) rfl rfl (by omega) hn ?_
  refine x_arg (L' := []) 2 (j := 2) d_L_law_300 d_L_law_301 d_L_law_302 d_L_law_303 d_L_law_304 (by decide +kernel) rfl rfl (by omega) hn ?_
  refine x_arg (L' := []) 3 (j := 3) d_L_law_305 d_L_law_306 d_L_law_307 d_L_law_308 d_L_law_309 (by decide +kernel) rfl rfl (by omega) hn ?_
  refine x_arg (L' := []) 4 (j := 4) d_L_law_310 d_L_law_311 d_L_law_312 d_L_law_313 d_L_law_314 (by decide +kernel) rfl rfl (by omega) hn ?_
  refine x_arg (L' := []) 5 (j := 5) d_L_law_315 d_L_law_316 d_L_law_317 d_L_law_318 d_L_law_319 (by decide +kernel) rfl rfl (by omega) hn ?_
  refine x_call (As := [.int (xs (i + 1)), .int (xs (i + 2)), .int (xs (i + 3)), .int (xs (i + 4)), .int (xs (i + 5))]) (o := 0) (st := []) d_L_law_320 cl_L_22 (op_copy hR) sp_c0 (by decide) rfl rfl rfl (by decide) (by decide) (Nat.le_refl _) (Nat.le_refl _) (fun v h' hv => ?_)
  obtain ⟨r, rfl, hY⟩ := hv
  refine x_aload_n d_L_law_323 rfl ?_
  refine x_arg (L' := []) 1 (j := 1) d_L_law_324 d_L_law_325 d_L_law_326 d_L_law_327 d_L_law_328 (by decide +kernel) rfl rfl (by omega) hn ?_
  refine x_arg (L' := []) 2 (j := 2) d_L_law_329 d_L_law_330 d_L_law_331 d_L_law_332 d_L_law_333 (by decide +kernel) rfl rfl (by omega) hn ?_
  refine x_arg (L' := []) 3 (j := 3) d_L_law_334 d_L_law_335 d_L_law_336 d_L_law_337 d_L_law_338 (by decide +kernel) rfl rfl (by omega) hn ?_
  refine x_arg (L' := []) 4 (j := 4) d_L_law_339 d_L_law_340 d_L_law_341 d_L_law_342 d_L_law_343 (by decide +kernel) rfl rfl (by omega) hn ?_
  refine x_arg (L' := []) 5 (j := 5) d_L_law_344 d_L_law_345 d_L_law_346 d_L_law_347 d_L_law_348 (by decide +kernel) rfl rfl (by omega) hn ?_
  refine x_call (As := [.int (xs (i + 1)), .int (xs (i + 2)), .int (xs (i + 3)), .int (xs (i + 4)), .int (xs (i + 5))]) (o := 360) (st := [.int r]) d_L_law_349 cl_L_26 hY sp_c360 (by decide) rfl rfl rfl (Nat.le_of_ble_eq_true rfl) (by decide) (Nat.le_refl _) (Nat.le_refl _) (fun v h'' hv => ?_)
  obtain ⟨rfl, hR2⟩ := hv
  refine x_icmp_eq d_L_law_352 (fun _ => ?_) (fun hne => absurd rfl hne)
  exact k h'' hR2
theorem k_drop {sn i : Nat} {xs : Nat → Int32} {H : Hv} (hn : sn < 2 ^ 31) (hi : i + 6 ≤ sn) (hR : Rel H) (k : ∀ H', Rel H' → GL sn xs 1459 i H') : GL sn xs 357 i H := by
  obtain ⟨h, w, rfl, hR⟩ := hR
  refine x_aload_n d_L_law_357 rfl ?_
  refine x_arg (L' := []) 1 (j := 1) d_L_law_358 d_L_law_359 d_L_law_360 d_L_law_361 d_L_law_362 (by decide +kernel) rfl rfl (by omega) hn ?_
  refine x_call (As := [.int (xs (i + 1))]) (o := 0) (st := []) d_L_law_363 cl_L_27 (op_drop hR) sp_c0 (by decide) rfl rfl rfl (by decide) (by decide) (Nat.le_refl _) (Nat.le_refl _) (fun v h' hv => ?_)
  obtain ⟨r, rfl, hY⟩ := hv
  refine x_aload_n d_L_law_366 rfl ?_
  refine x_arg (L' := []) 1 (j := 1) d_L_law_367 d_L_law_368 d_L_law_369 d_L_law_370 d_L_law_371 (by decide +kernel) rfl rfl (by omega) hn ?_
  refine x_call (As := [.int (xs (i + 1))]) (o := 360) (st := [.int r]) d_L_law_372 cl_L_31 hY sp_c360 (by decide) rfl rfl rfl (Nat.le_of_ble_eq_true rfl) (by decide) (Nat.le_refl _) (Nat.le_refl _) (fun v h'' hv => ?_)
  obtain ⟨rfl, hR2⟩ := hv
  refine x_icmp_eq d_L_law_375 (fun _ => ?_) (fun hne => absurd rfl hne)
  exact k h'' hR2
theorem k_feed {sn i : Nat} {xs : Nat → Int32} {H : Hv} (hn : sn < 2 ^ 31) (hi : i + 6 ≤ sn) (hR : Rel H) (k : ∀ H', Rel H' → GL sn xs 1459 i H') : GL sn xs 380 i H := by
  obtain ⟨h, w, rfl, hR⟩ := hR
  refine x_aload_n d_L_law_380 rfl ?_
  refine x_arg (L' := []) 1 (j := 1) d_L_law_381 d_L_law_382 d_L_law_383 d_L_law_384 d_L_law_385 (by decide +kernel) rfl rfl (by omega) hn ?_
  refine x_call (As := [.int (xs (i + 1))]) (o := 0) (st := []) d_L_law_386 cl_L_32 (op_feed hR) sp_c0 (by decide) rfl rfl rfl (by decide) (by decide) (Nat.le_refl _) (Nat.le_refl _) (fun v h' hv => ?_)
  obtain ⟨r, rfl, hY⟩ := hv
  refine x_aload_n d_L_law_389 rfl ?_
  refine x_arg (L' := []) 1 (j := 1) d_L_law_390 d_L_law_391 d_L_law_392 d_L_law_393 d_L_law_394 (by decide +kernel) rfl rfl (by omega) hn ?_
  refine x_call (As := [.int (xs (i + 1))]) (o := 360) (st := [.int r]) d_L_law_395 cl_L_35 hY sp_c360 (by decide) rfl rfl rfl (Nat.le_of_ble_eq_true rfl) (by decide) (Nat.le_refl _) (Nat.le_refl _) (fun v h'' hv => ?_)
  obtain ⟨rfl, hR2⟩ := hv
  refine x_icmp_eq d_L_law_398 (fun _ => ?_) (fun hne => absurd rfl hne)
  exact k h'' hR2
theorem k_launderette {sn i : Nat} {xs : Nat → Int32} {H : Hv} (hn : sn < 2 ^ 31) (hi : i + 6 ≤ sn) (hR : Rel H) (k : ∀ H', Rel H' → GL sn xs 1459 i H') : GL sn xs 403 i H := by
  obtain ⟨h, w, rfl, hR⟩ := hR
  refine x_aload_n d_L_law_403 rfl ?_
  refine x_call (As := []) (o := 0) (st := []) d_L_law_404 cl_L_36 (op_launderette hR) sp_c0 (by decide) rfl rfl rfl (by decide) (by decide) (Nat.le_refl _) (Nat.le_refl _) (fun v h' hv => ?_)
  obtain ⟨r, rfl, hY⟩ := hv
  refine x_aload_n d_L_law_407 rfl ?_
  refine x_call (As := []) (o := 360) (st := [.int r]) d_L_law_408 cl_L_40 hY sp_c360 (by decide) rfl rfl rfl (Nat.le_of_ble_eq_true rfl) (by decide) (Nat.le_refl _) (Nat.le_refl _) (fun v h'' hv => ?_)
  obtain ⟨rfl, hR2⟩ := hv
  refine x_icmp_eq d_L_law_411 (fun _ => ?_) (fun hne => absurd rfl hne)
  exact k h'' hR2
theorem k_fault {sn i : Nat} {xs : Nat → Int32} {H : Hv} (hn : sn < 2 ^ 31) (hi : i + 6 ≤ sn) (hR : Rel H) (k : ∀ H', Rel H' → GL sn xs 1459 i H') : GL sn xs 416 i H := by
  obtain ⟨h, w, rfl, hR⟩ := hR
  refine x_aload_n d_L_law_416 rfl ?_
  refine x_call (As := []) (o := 0) (st := []) d_L_law_417 cl_L_41 (op_fault hR) sp_c0 (by decide) rfl rfl rfl (by decide) (by decide) (Nat.le_refl _) (Nat.le_refl _) (fun v h' hv => ?_)
  obtain ⟨r, rfl, hY⟩ := hv
  refine x_aload_n d_L_law_420 rfl ?_
  refine x_call (As := []) (o := 360) (st := [.int r]) d_L_law_421 cl_L_44 hY sp_c360 (by decide) rfl rfl rfl (Nat.le_of_ble_eq_true rfl) (by decide) (Nat.le_refl _) (Nat.le_refl _) (fun v h'' hv => ?_)
  obtain ⟨rfl, hR2⟩ := hv
  refine x_icmp_eq d_L_law_424 (fun _ => ?_) (fun hne => absurd rfl hne)
  exact k h'' hR2
theorem k_undo {sn i : Nat} {xs : Nat → Int32} {H : Hv} (hn : sn < 2 ^ 31) (hi : i + 6 ≤ sn) (hR : Rel H) (k : ∀ H', Rel H' → GL sn xs 1459 i H') : GL sn xs 429 i H := by
  obtain ⟨h, w, rfl, hR⟩ := hR
  refine x_aload_n d_L_law_429 rfl ?_
  refine x_call (As := []) (o := 0) (st := []) d_L_law_430 cl_L_45 (op_undo hR) sp_c0 (by decide) rfl rfl rfl (by decide) (by decide) (Nat.le_refl _) (Nat.le_refl _) (fun v h' hv => ?_)
  obtain ⟨r, rfl, hY⟩ := hv
  refine x_aload_n d_L_law_433 rfl ?_
  refine x_call (As := []) (o := 360) (st := [.int r]) d_L_law_434 cl_L_48 hY sp_c360 (by decide) rfl rfl rfl (Nat.le_of_ble_eq_true rfl) (by decide) (Nat.le_refl _) (Nat.le_refl _) (fun v h'' hv => ?_)
  obtain ⟨rfl, hR2⟩ := hv
  refine x_icmp_eq d_L_law_437 (fun _ => ?_) (fun hne => absurd rfl hne)
  exact k h'' hR2
theorem k_ticks {sn i : Nat} {xs : Nat → Int32} {H : Hv} (hn : sn < 2 ^ 31) (hi : i + 6 ≤ sn) (hR : Rel H) (k : ∀ H', Rel H' → GL sn xs 1459 i H') : GL sn xs 442 i H := by
  obtain ⟨h, w, rfl, hR⟩ := hR
  refine x_aload_n d_L_law_442 rfl ?_
  refine x_arg (L' := []) 1 (j := 1) d_L_law_443 d_L_law_444 d_L_law_445 d_L_law_446 d_L_law_447 (by decide +kernel) rfl rfl (by omega) hn ?_
  refine x_call (As := [.int (xs (i + 1))]) (o := 0) (st := []) d_L_law_448 cl_L_49 (op_ticks hR) sp_c0 (by decide) rfl rfl rfl (by decide) (by decide) (Nat.le_refl _) (Nat.le_refl _) (fun v h' hv => ?_)
  obtain ⟨r, rfl, hY⟩ := hv
  refine x_aload_n d_L_law_451 rfl ?_
  refine x_arg (L' := []) 1 (j := 1) d_L_law_452 d_L_law_453 d_L_law_454 d_L_law_455 d_L_law_456 (by decide +kernel) rfl rfl (by omega) hn ?_
  refine x_call (As := [.int (xs (i + 1))]) (o := 360) (st := [.int r]) d_L_law_457 cl_L_52 hY sp_c360 (by decide) rfl rfl rfl (Nat.le_of_ble_eq_true rfl) (by decide) (Nat.le_refl _) (Nat.le_refl _) (fun v h'' hv => ?_)
  obtain ⟨rfl, hR2⟩ := hv
  refine x_icmp_eq d_L_law_460 (fun _ => ?_) (fun hne => absurd rfl hne)
  exact k h'' hR2
theorem k_shut {sn i : Nat} {xs : Nat → Int32} {H : Hv} (hn : sn < 2 ^ 31) (hi : i + 6 ≤ sn) (hR : Rel H) (k : ∀ H', Rel H' → GL sn xs 1459 i H') : GL sn xs 465 i H := by
  obtain ⟨h, w, rfl, hR⟩ := hR
  refine x_aload_n d_L_law_465 rfl ?_
  refine x_arg (L' := []) 1 (j := 1) d_L_law_466 d_L_law_467 d_L_law_468 d_L_law_469 d_L_law_470 (by decide +kernel) rfl rfl (by omega) hn ?_
  refine x_call (As := [.int (xs (i + 1))]) (o := 0) (st := []) d_L_law_471 cl_L_53 (op_shut hR) sp_c0 (by decide) rfl rfl rfl (by decide) (by decide) (Nat.le_refl _) (Nat.le_refl _) (fun v h' hv => ?_)
  obtain ⟨r, rfl, hY⟩ := hv
  refine x_aload_n d_L_law_474 rfl ?_
  refine x_arg (L' := []) 1 (j := 1) d_L_law_475 d_L_law_476 d_L_law_477 d_L_law_478 d_L_law_479 (by decide +kernel) rfl rfl (by omega) hn ?_
  refine x_call (As := [.int (xs (i + 1))]) (o := 360) (st := [.int r]) d_L_law_480 cl_L_56 hY sp_c360 (by decide) rfl rfl rfl (Nat.le_of_ble_eq_true rfl) (by decide) (Nat.le_refl _) (Nat.le_refl _) (fun v h'' hv => ?_)
  obtain ⟨rfl, hR2⟩ := hv
  refine x_icmp_eq d_L_law_483 (fun _ => ?_) (fun hne => absurd rfl hne)
  exact k h'' hR2
theorem k_power {sn i : Nat} {xs : Nat → Int32} {H : Hv} (hn : sn < 2 ^ 31) (hi : i + 6 ≤ sn) (hR : Rel H) (k : ∀ H', Rel H' → GL sn xs 1459 i H') : GL sn xs 488 i H := by
  obtain ⟨h, w, rfl, hR⟩ := hR
  refine x_aload_n d_L_law_488 rfl ?_
  refine x_arg (L' := []) 1 (j := 1) d_L_law_489 d_L_law_490 d_L_law_491 d_L_law_492 d_L_law_493 (by decide +kernel) rfl rfl (by omega) hn ?_
  refine x_call (As := [.int (xs (i + 1))]) (o := 0) (st := []) d_L_law_494 cl_L_57 (op_power hR) sp_c0 (by decide) rfl rfl rfl (by decide) (by decide) (Nat.le_refl _) (Nat.le_refl _) (fun v h' hv => ?_)
  obtain ⟨r, rfl, hY⟩ := hv
  refine x_aload_n d_L_law_497 rfl ?_
  refine x_arg (L' := []) 1 (j := 1) d_L_law_498 d_L_law_499 d_L_law_500 d_L_law_501 d_L_law_502 (by decide +kernel) rfl rfl (by omega) hn ?_
  refine x_call (As := [.int (xs (i + 1))]) (o := 360) (st := [.int r]) d_L_law_503 cl_L_60 hY sp_c360 (by decide) rfl rfl rfl (Nat.le_of_ble_eq_true rfl) (by decide) (Nat.le_refl _) (Nat.le_refl _) (fun v h'' hv => ?_)
  obtain ⟨rfl, hR2⟩ := hv
  refine x_icmp_eq d_L_law_506 (fun _ => ?_) (fun hne => absurd rfl hne)
  exact k h'' hR2
theorem k_due {sn i : Nat} {xs : Nat → Int32} {H : Hv} (hn : sn < 2 ^ 31) (hi : i + 6 ≤ sn) (hR : Rel H) (k : ∀ H', Rel H' → GL sn xs 1459 i H') : GL sn xs 511 i H := by
  obtain ⟨h, w, rfl, hR⟩ := hR
  refine x_aload_n d_L_law_511 rfl ?_
  refine x_arg (L' := []) 1 (j := 1) d_L_law_512 d_L_law_513 d_L_law_514 d_L_law_515 d_L_law_516 (by decide +kernel) rfl rfl (by omega) hn ?_
  refine x_arg (L' := []) 2 (j := 2) d_L_law_517 d_L_law_518 d_L_law_519 d_L_law_520 d_L_law_521 (by decide +kernel) rfl rfl (by omega) hn ?_
  refine x_call (As := [.int (xs (i + 1)), .int (xs (i + 2))]) (o := 0) (st := []) d_L_law_522 cl_L_61 (op_due hR) sp_c0 (by decide) rfl rfl rfl (by decide) (by decide) (Nat.le_refl _) (Nat.le_refl _) (fun v h' hv => ?_)
  obtain ⟨r, rfl, hY⟩ := hv
  refine x_aload_n d_L_law_525 rfl ?_
  refine x_arg (L' := []) 1 (j := 1) d_L_law_526 d_L_law_527 d_L_law_528 d_L_law_529 d_L_law_530 (by decide +kernel) rfl rfl (by omega) hn ?_
  refine x_arg (L' := []) 2 (j := 2) d_L_law_531 d_L_law_532 d_L_law_533 d_L_law_534 d_L_law_535 (by decide +kernel) rfl rfl (by omega) hn ?_
  refine x_call (As := [.int (xs (i + 1)), .int (xs (i + 2))]) (o := 360) (st := [.int r]) d_L_law_536 cl_L_65 hY sp_c360 (by decide) rfl rfl rfl (Nat.le_of_ble_eq_true rfl) (by decide) (Nat.le_refl _) (Nat.le_refl _) (fun v h'' hv => ?_)
  obtain ⟨rfl, hR2⟩ := hv
  refine x_icmp_eq d_L_law_539 (fun _ => ?_) (fun hne => absurd rfl hne)
  exact k h'' hR2
theorem k_again {sn i : Nat} {xs : Nat → Int32} {H : Hv} (hn : sn < 2 ^ 31) (hi : i + 6 ≤ sn) (hR : Rel H) (k : ∀ H', Rel H' → GL sn xs 1459 i H') : GL sn xs 544 i H := by
  obtain ⟨h, w, rfl, hR⟩ := hR
  refine x_aload_n d_L_law_544 rfl ?_
  refine x_arg (L' := []) 1 (j := 1) d_L_law_545 d_L_law_546 d_L_law_547 d_L_law_548 d_L_law_549 (by decide +kernel) rfl rfl (by omega) hn ?_
  refine x_arg (L' := []) 2 (j := 2) d_L_law_550 d_L_law_551 d_L_law_552 d_L_law_553 d_L_law_554 (by decide +kernel) rfl rfl (by omega) hn ?_
  refine x_call (As := [.int (xs (i + 1)), .int (xs (i + 2))]) (o := 0) (st := []) d_L_law_555 cl_L_66 (op_again hR) sp_c0 (by decide) rfl rfl rfl (by decide) (by decide) (Nat.le_refl _) (Nat.le_refl _) (fun v h' hv => ?_)
  obtain ⟨r, rfl, hY⟩ := hv
  refine x_aload_n d_L_law_558 rfl ?_
  refine x_arg (L' := []) 1 (j := 1) d_L_law_559 d_L_law_560 d_L_law_561 d_L_law_562 d_L_law_563 (by decide +kernel) rfl rfl (by omega) hn ?_
  refine x_arg (L' := []) 2 (j := 2) d_L_law_564 d_L_law_565 d_L_law_566 d_L_law_567 d_L_law_568 (by decide +kernel) rfl rfl (by omega) hn ?_
  refine x_call (As := [.int (xs (i + 1)), .int (xs (i + 2))]) (o := 360) (st := [.int r]) d_L_law_569 cl_L_69 hY sp_c360 (by decide) rfl rfl rfl (Nat.le_of_ble_eq_true rfl) (by decide) (Nat.le_refl _) (Nat.le_refl _) (fun v h'' hv => ?_)
  obtain ⟨rfl, hR2⟩ := hv
  refine x_icmp_eq d_L_law_572 (fun _ => ?_) (fun hne => absurd rfl hne)
  exact k h'' hR2
theorem k_machine {sn i : Nat} {xs : Nat → Int32} {H : Hv} (hn : sn < 2 ^ 31) (hi : i + 6 ≤ sn) (hR : Rel H) (k : ∀ H', Rel H' → GL sn xs 1459 i H') : GL sn xs 577 i H := by
  obtain ⟨h, w, rfl, hR⟩ := hR
  refine x_aload_n d_L_law_577 rfl ?_
  refine x_arg (L' := []) 1 (j := 1) d_L_law_578 d_L_law_579 d_L_law_580 d_L_law_581 d_L_law_582 (by decide +kernel) rfl rfl (by omega) hn ?_
  refine x_arg (L' := []) 2 (j := 2) d_L_law_583 d_L_law_584 d_L_law_585 d_L_law_586 d_L_law_587 (by decide +kernel) rfl rfl (by omega) hn ?_
  refine x_call (As := [.int (xs (i + 1)), .int (xs (i + 2))]) (o := 0) (st := []) d_L_law_588 cl_L_70 (op_machine hR) sp_c0 (by decide) rfl rfl rfl (by decide) (by decide) (Nat.le_refl _) (Nat.le_refl _) (fun v h' hv => ?_)
  obtain ⟨r, rfl, hY⟩ := hv
  refine x_aload_n d_L_law_591 rfl ?_
  refine x_arg (L' := []) 1 (j := 1) d_L_law_592 d_L_law_593 d_L_law_594 d_L_law_595 d_L_law_596 (by decide +kernel) rfl rfl (by omega) hn ?_
  refine x_arg (L' := []) 2 (j := 2) d_L_law_597 d_L_law_598 d_L_law_599 d_L_law_600 d_L_law_601 (by decide +kernel) rfl rfl (by omega) hn ?_
  refine x_call (As := [.int (xs (i + 1)), .int (xs (i + 2))]) (o := 360) (st := [.int r]) d_L_law_602 cl_L_73 hY sp_c360 (by decide) rfl rfl rfl (Nat.le_of_ble_eq_true rfl) (by decide) (Nat.le_refl _) (Nat.le_refl _) (fun v h'' hv => ?_)
  obtain ⟨rfl, hR2⟩ := hv
  refine x_icmp_eq d_L_law_605 (fun _ => ?_) (fun hne => absurd rfl hne)
  exact k h'' hR2
theorem k_load {sn i : Nat} {xs : Nat → Int32} {H : Hv} (hn : sn < 2 ^ 31) (hi : i + 6 ≤ sn) (hR : Rel H) (k : ∀ H', Rel H' → GL sn xs 1459 i H') : GL sn xs 610 i H := by
  obtain ⟨h, w, rfl, hR⟩ := hR
  refine x_aload_n d_L_law_610 rfl ?_
  refine x_arg (L' := []) 1 (j := 1) d_L_law_611 d_L_law_612 d_L_law_613 d_L_law_614 d_L_law_615 (by decide +kernel) rfl rfl (by omega) hn ?_
  refine x_arg (L' := []) 2 (j := 2) d_L_law_616 d_L_law_617 d_L_law_618 d_L_law_619 d_L_law_620 (by decide +kernel) rfl rfl (by omega) hn ?_
  refine x_call (As := [.int (xs (i + 1)), .int (xs (i + 2))]) (o := 0) (st := []) d_L_law_621 cl_L_74 (op_load hR) sp_c0 (by decide) rfl rfl rfl (by decide) (by decide) (Nat.le_refl _) (Nat.le_refl _) (fun v h' hv => ?_)
  obtain ⟨r, rfl, hY⟩ := hv
  refine x_aload_n d_L_law_624 rfl ?_
  refine x_arg (L' := []) 1 (j := 1) d_L_law_625 d_L_law_626 d_L_law_627 d_L_law_628 d_L_law_629 (by decide +kernel) rfl rfl (by omega) hn ?_
  refine x_arg (L' := []) 2 (j := 2) d_L_law_630 d_L_law_631 d_L_law_632 d_L_law_633 d_L_law_634 (by decide +kernel) rfl rfl (by omega) hn ?_
  refine x_call (As := [.int (xs (i + 1)), .int (xs (i + 2))]) (o := 360) (st := [.int r]) d_L_law_635 cl_L_77 hY sp_c360 (by decide) rfl rfl rfl (Nat.le_of_ble_eq_true rfl) (by decide) (Nat.le_refl _) (Nat.le_refl _) (fun v h'' hv => ?_)
  obtain ⟨rfl, hR2⟩ := hv
  refine x_icmp_eq d_L_law_638 (fun _ => ?_) (fun hne => absurd rfl hne)
  exact k h'' hR2
theorem k_lasts {sn i : Nat} {xs : Nat → Int32} {H : Hv} (hn : sn < 2 ^ 31) (hi : i + 6 ≤ sn) (hR : Rel H) (k : ∀ H', Rel H' → GL sn xs 1459 i H') : GL sn xs 643 i H := by
  obtain ⟨h, w, rfl, hR⟩ := hR
  refine x_aload_n d_L_law_643 rfl ?_
  refine x_arg (L' := []) 1 (j := 1) d_L_law_644 d_L_law_645 d_L_law_646 d_L_law_647 d_L_law_648 (by decide +kernel) rfl rfl (by omega) hn ?_
  refine x_arg (L' := []) 2 (j := 2) d_L_law_649 d_L_law_650 d_L_law_651 d_L_law_652 d_L_law_653 (by decide +kernel) rfl rfl (by omega) hn ?_
  refine x_call (As := [.int (xs (i + 1)), .int (xs (i + 2))]) (o := 0) (st := []) d_L_law_654 cl_L_78 (op_lasts hR) sp_c0 (by decide) rfl rfl rfl (by decide) (by decide) (Nat.le_refl _) (Nat.le_refl _) (fun v h' hv => ?_)
  obtain ⟨r, rfl, hY⟩ := hv
  refine x_aload_n d_L_law_657 rfl ?_
  refine x_arg (L' := []) 1 (j := 1) d_L_law_658 d_L_law_659 d_L_law_660 d_L_law_661 d_L_law_662 (by decide +kernel) rfl rfl (by omega) hn ?_
  refine x_arg (L' := []) 2 (j := 2) d_L_law_663 d_L_law_664 d_L_law_665 d_L_law_666 d_L_law_667 (by decide +kernel) rfl rfl (by omega) hn ?_
  refine x_call (As := [.int (xs (i + 1)), .int (xs (i + 2))]) (o := 360) (st := [.int r]) d_L_law_668 cl_L_81 hY sp_c360 (by decide) rfl rfl rfl (Nat.le_of_ble_eq_true rfl) (by decide) (Nat.le_refl _) (Nat.le_refl _) (fun v h'' hv => ?_)
  obtain ⟨rfl, hR2⟩ := hv
  refine x_icmp_eq d_L_law_671 (fun _ => ?_) (fun hne => absurd rfl hne)
  exact k h'' hR2
theorem k_stand {sn i : Nat} {xs : Nat → Int32} {H : Hv} (hn : sn < 2 ^ 31) (hi : i + 6 ≤ sn) (hR : Rel H) (k : ∀ H', Rel H' → GL sn xs 1459 i H') : GL sn xs 676 i H := by
  obtain ⟨h, w, rfl, hR⟩ := hR
  refine x_aload_n d_L_law_676 rfl ?_
  refine x_arg (L' := []) 1 (j := 1) d_L_law_677 d_L_law_678 d_L_law_679 d_L_law_680 d_L_law_681 (by decide +kernel) rfl rfl (by omega) hn ?_
  refine x_call (As := [.int (xs (i + 1))]) (o := 0) (st := []) d_L_law_682 cl_L_82 (op_stand hR) sp_c0 (by decide) rfl rfl rfl (by decide) (by decide) (Nat.le_refl _) (Nat.le_refl _) (fun v h' hv => ?_)
  obtain ⟨r, rfl, hY⟩ := hv
  refine x_aload_n d_L_law_685 rfl ?_
  refine x_arg (L' := []) 1 (j := 1) d_L_law_686 d_L_law_687 d_L_law_688 d_L_law_689 d_L_law_690 (by decide +kernel) rfl rfl (by omega) hn ?_
  refine x_call (As := [.int (xs (i + 1))]) (o := 360) (st := [.int r]) d_L_law_691 cl_L_85 hY sp_c360 (by decide) rfl rfl rfl (Nat.le_of_ble_eq_true rfl) (by decide) (Nat.le_refl _) (Nat.le_refl _) (fun v h'' hv => ?_)
  obtain ⟨rfl, hR2⟩ := hv
  refine x_icmp_eq d_L_law_694 (fun _ => ?_) (fun hne => absurd rfl hne)
  exact k h'' hR2
theorem k_ahead {sn i : Nat} {xs : Nat → Int32} {H : Hv} (hn : sn < 2 ^ 31) (hi : i + 6 ≤ sn) (hR : Rel H) (k : ∀ H', Rel H' → GL sn xs 1459 i H') : GL sn xs 699 i H := by
  obtain ⟨h, w, rfl, hR⟩ := hR
  refine x_aload_n d_L_law_699 rfl ?_
  refine x_arg (L' := []) 1 (j := 1) d_L_law_700 d_L_law_701 d_L_law_702 d_L_law_703 d_L_law_704 (by decide +kernel) rfl rfl (by omega) hn ?_
  refine x_arg (L' := []) 2 (j := 2) d_L_law_705 d_L_law_706 d_L_law_707 d_L_law_708 d_L_law_709 (by decide +kernel) rfl rfl (by omega) hn ?_
  refine x_arg (L' := []) 3 (j := 3) d_L_law_710 d_L_law_711 d_L_law_712 d_L_law_713 d_L_law_714 (by decide +kernel) rfl rfl (by omega) hn ?_
  refine x_call (As := [.int (xs (i + 1)), .int (xs (i + 2)), .int (xs (i + 3))]) (o := 0) (st := []) d_L_law_715 cl_L_86 (op_ahead hR) sp_c0 (by decide) rfl rfl rfl (by decide) (by decide) (Nat.le_refl _) (Nat.le_refl _) (fun v h' hv => ?_)
  obtain ⟨r, rfl, hY⟩ := hv
  refine x_aload_n d_L_law_718 rfl ?_
  refine x_arg (L' := []) 1 (j := 1) d_L_law_719 d_L_law_720 d_L_law_721 d_L_law_722 d_L_law_723 (by decide +kernel) rfl rfl (by omega) hn ?_
  refine x_arg (L' := []) 2 (j := 2) d_L_law_724 d_L_law_725 d_L_law_726 d_L_law_727 d_L_law_728 (by decide +kernel) rfl rfl (by omega) hn ?_
  refine x_arg (L' := []) 3 (j := 3) d_L_law_729 d_L_law_730 d_L_law_731 d_L_law_732 d_L_law_733 (by decide +kernel) rfl rfl (by omega) hn ?_
  refine x_call (As := [.int (xs (i + 1)), .int (xs (i + 2)), .int (xs (i + 3))]) (o := 360) (st := [.int r]) d_L_law_734 cl_L_89 hY sp_c360 (by decide) rfl rfl rfl (Nat.le_of_ble_eq_true rfl) (by decide) (Nat.le_refl _) (Nat.le_refl _) (fun v h'' hv => ?_)
  obtain ⟨rfl, hR2⟩ := hv
  refine x_icmp_eq d_L_law_737 (fun _ => ?_) (fun hne => absurd rfl hne)
  exact k h'' hR2
theorem k_inside {sn i : Nat} {xs : Nat → Int32} {H : Hv} (hn : sn < 2 ^ 31) (hi : i + 6 ≤ sn) (hR : Rel H) (k : ∀ H', Rel H' → GL sn xs 1459 i H') : GL sn xs 742 i H := by
  obtain ⟨h, w, rfl, hR⟩ := hR
  refine x_aload_n d_L_law_742 rfl ?_
  refine x_arg (L' := []) 1 (j := 1) d_L_law_743 d_L_law_744 d_L_law_745 d_L_law_746 d_L_law_747 (by decide +kernel) rfl rfl (by omega) hn ?_
  refine x_arg (L' := []) 2 (j := 2) d_L_law_748 d_L_law_749 d_L_law_750 d_L_law_751 d_L_law_752 (by decide +kernel) rfl rfl (by omega) hn ?_
  refine x_arg (L' := []) 3 (j := 3) d_L_law_753 d_L_law_754 d_L_law_755 d_L_law_756 d_L_law_757 (by decide +kernel) rfl rfl (by omega) hn ?_
  refine x_call (As := [.int (xs (i + 1)), .int (xs (i + 2)), .int (xs (i + 3))]) (o := 0) (st := []) d_L_law_758 cl_L_90 (op_inside hR) sp_c0 (by decide) rfl rfl rfl (by decide) (by decide) (Nat.le_refl _) (Nat.le_refl _) (fun v h' hv => ?_)
  obtain ⟨r, rfl, hY⟩ := hv
  refine x_aload_n d_L_law_761 rfl ?_
  refine x_arg (L' := []) 1 (j := 1) d_L_law_762 d_L_law_763 d_L_law_764 d_L_law_765 d_L_law_766 (by decide +kernel) rfl rfl (by omega) hn ?_
  refine x_arg (L' := []) 2 (j := 2) d_L_law_767 d_L_law_768 d_L_law_769 d_L_law_770 d_L_law_771 (by decide +kernel) rfl rfl (by omega) hn ?_
  refine x_arg (L' := []) 3 (j := 3) d_L_law_772 d_L_law_773 d_L_law_774 d_L_law_775 d_L_law_776 (by decide +kernel) rfl rfl (by omega) hn ?_
  refine x_call (As := [.int (xs (i + 1)), .int (xs (i + 2)), .int (xs (i + 3))]) (o := 360) (st := [.int r]) d_L_law_777 cl_L_93 hY sp_c360 (by decide) rfl rfl rfl (Nat.le_of_ble_eq_true rfl) (by decide) (Nat.le_refl _) (Nat.le_refl _) (fun v h'' hv => ?_)
  obtain ⟨rfl, hR2⟩ := hv
  refine x_icmp_eq d_L_law_780 (fun _ => ?_) (fun hne => absurd rfl hne)
  exact k h'' hR2
theorem k_all {sn i : Nat} {xs : Nat → Int32} {H : Hv} (hn : sn < 2 ^ 31) (hi : i + 6 ≤ sn) (hR : Rel H) (k : ∀ H', Rel H' → GL sn xs 1459 i H') : GL sn xs 785 i H := by
  obtain ⟨h, w, rfl, hR⟩ := hR
  refine x_aload_n d_L_law_785 rfl ?_
  refine x_arg (L' := []) 1 (j := 1) d_L_law_786 d_L_law_787 d_L_law_788 d_L_law_789 d_L_law_790 (by decide +kernel) rfl rfl (by omega) hn ?_
  refine x_arg (L' := []) 2 (j := 2) d_L_law_791 d_L_law_792 d_L_law_793 d_L_law_794 d_L_law_795 (by decide +kernel) rfl rfl (by omega) hn ?_
  refine x_call (As := [.int (xs (i + 1)), .int (xs (i + 2))]) (o := 0) (st := []) d_L_law_796 cl_L_94 (op_all hR) sp_c0 (by decide) rfl rfl rfl (by decide) (by decide) (Nat.le_refl _) (Nat.le_refl _) (fun v h' hv => ?_)
  obtain ⟨r, rfl, hY⟩ := hv
  refine x_aload_n d_L_law_799 rfl ?_
  refine x_arg (L' := []) 1 (j := 1) d_L_law_800 d_L_law_801 d_L_law_802 d_L_law_803 d_L_law_804 (by decide +kernel) rfl rfl (by omega) hn ?_
  refine x_arg (L' := []) 2 (j := 2) d_L_law_805 d_L_law_806 d_L_law_807 d_L_law_808 d_L_law_809 (by decide +kernel) rfl rfl (by omega) hn ?_
  refine x_call (As := [.int (xs (i + 1)), .int (xs (i + 2))]) (o := 360) (st := [.int r]) d_L_law_810 cl_L_97 hY sp_c360 (by decide) rfl rfl rfl (Nat.le_of_ble_eq_true rfl) (by decide) (Nat.le_refl _) (Nat.le_refl _) (fun v h'' hv => ?_)
  obtain ⟨rfl, hR2⟩ := hv
  refine x_icmp_eq d_L_law_813 (fun _ => ?_) (fun hne => absurd rfl hne)
  exact k h'' hR2
theorem k_when {sn i : Nat} {xs : Nat → Int32} {H : Hv} (hn : sn < 2 ^ 31) (hi : i + 6 ≤ sn) (hR : Rel H) (k : ∀ H', Rel H' → GL sn xs 1459 i H') : GL sn xs 818 i H := by
  obtain ⟨h, w, rfl, hR⟩ := hR
  refine x_aload_n d_L_law_818 rfl ?_
  refine x_arg (L' := []) 1 (j := 1) d_L_law_819 d_L_law_820 d_L_law_821 d_L_law_822 d_L_law_823 (by decide +kernel) rfl rfl (by omega) hn ?_
  refine x_arg (L' := []) 2 (j := 2) d_L_law_824 d_L_law_825 d_L_law_826 d_L_law_827 d_L_law_828 (by decide +kernel) rfl rfl (by omega) hn ?_
  refine x_call (As := [.int (xs (i + 1)), .int (xs (i + 2))]) (o := 0) (st := []) d_L_law_829 cl_L_98 (op_when hR) sp_c0 (by decide) rfl rfl rfl (by decide) (by decide) (Nat.le_refl _) (Nat.le_refl _) (fun v h' hv => ?_)
  obtain ⟨r, rfl, hY⟩ := hv
  refine x_aload_n d_L_law_832 rfl ?_
  refine x_arg (L' := []) 1 (j := 1) d_L_law_833 d_L_law_834 d_L_law_835 d_L_law_836 d_L_law_837 (by decide +kernel) rfl rfl (by omega) hn ?_
  refine x_arg (L' := []) 2 (j := 2) d_L_law_838 d_L_law_839 d_L_law_840 d_L_law_841 d_L_law_842 (by decide +kernel) rfl rfl (by omega) hn ?_
  refine x_call (As := [.int (xs (i + 1)), .int (xs (i + 2))]) (o := 360) (st := [.int r]) d_L_law_843 cl_L_101 hY sp_c360 (by decide) rfl rfl rfl (Nat.le_of_ble_eq_true rfl) (by decide) (Nat.le_refl _) (Nat.le_refl _) (fun v h'' hv => ?_)
  obtain ⟨rfl, hR2⟩ := hv
  refine x_icmp_eq d_L_law_846 (fun _ => ?_) (fun hne => absurd rfl hne)
  exact k h'' hR2
theorem k_over {sn i : Nat} {xs : Nat → Int32} {H : Hv} (hn : sn < 2 ^ 31) (hi : i + 6 ≤ sn) (hR : Rel H) (k : ∀ H', Rel H' → GL sn xs 1459 i H') : GL sn xs 851 i H := by
  obtain ⟨h, w, rfl, hR⟩ := hR
  refine x_aload_n d_L_law_851 rfl ?_
  refine x_call (As := []) (o := 0) (st := []) d_L_law_852 cl_L_102 (op_over hR) sp_c0 (by decide) rfl rfl rfl (by decide) (by decide) (Nat.le_refl _) (Nat.le_refl _) (fun v h' hv => ?_)
  obtain ⟨r, rfl, hY⟩ := hv
  refine x_aload_n d_L_law_855 rfl ?_
  refine x_call (As := []) (o := 360) (st := [.int r]) d_L_law_856 cl_L_105 hY sp_c360 (by decide) rfl rfl rfl (Nat.le_of_ble_eq_true rfl) (by decide) (Nat.le_refl _) (Nat.le_refl _) (fun v h'' hv => ?_)
  obtain ⟨rfl, hR2⟩ := hv
  refine x_icmp_eq d_L_law_859 (fun _ => ?_) (fun hne => absurd rfl hne)
  exact k h'' hR2
theorem k_order {sn i : Nat} {xs : Nat → Int32} {H : Hv} (hn : sn < 2 ^ 31) (hi : i + 6 ≤ sn) (hR : Rel H) (k : ∀ H', Rel H' → GL sn xs 1459 i H') : GL sn xs 864 i H := by
  obtain ⟨h, w, rfl, hR⟩ := hR
  refine x_aload_n d_L_law_864 rfl ?_
  refine x_arg (L' := []) 1 (j := 1) d_L_law_865 d_L_law_866 d_L_law_867 d_L_law_868 d_L_law_869 (by decide +kernel) rfl rfl (by omega) hn ?_
  refine x_arg (L' := []) 2 (j := 2) d_L_law_870 d_L_law_871 d_L_law_872 d_L_law_873 d_L_law_874 (by decide +kernel) rfl rfl (by omega) hn ?_
  refine x_call (As := [.int (xs (i + 1)), .int (xs (i + 2))]) (o := 0) (st := []) d_L_law_875 cl_L_106 (op_order hR) sp_c0 (by decide) rfl rfl rfl (by decide) (by decide) (Nat.le_refl _) (Nat.le_refl _) (fun v h' hv => ?_)
  obtain ⟨r, rfl, hY⟩ := hv
  refine x_aload_n d_L_law_878 rfl ?_
  refine x_arg (L' := []) 1 (j := 1) d_L_law_879 d_L_law_880 d_L_law_881 d_L_law_882 d_L_law_883 (by decide +kernel) rfl rfl (by omega) hn ?_
  refine x_arg (L' := []) 2 (j := 2) d_L_law_884 d_L_law_885 d_L_law_886 d_L_law_887 d_L_law_888 (by decide +kernel) rfl rfl (by omega) hn ?_
  refine x_call (As := [.int (xs (i + 1)), .int (xs (i + 2))]) (o := 360) (st := [.int r]) d_L_law_889 cl_L_109 hY sp_c360 (by decide) rfl rfl rfl (Nat.le_of_ble_eq_true rfl) (by decide) (Nat.le_refl _) (Nat.le_refl _) (fun v h'' hv => ?_)
  obtain ⟨rfl, hR2⟩ := hv
  refine x_icmp_eq d_L_law_892 (fun _ => ?_) (fun hne => absurd rfl hne)
  exact k h'' hR2
theorem k_need {sn i : Nat} {xs : Nat → Int32} {H : Hv} (hn : sn < 2 ^ 31) (hi : i + 6 ≤ sn) (hR : Rel H) (k : ∀ H', Rel H' → GL sn xs 1459 i H') : GL sn xs 897 i H := by
  obtain ⟨h, w, rfl, hR⟩ := hR
  refine x_aload_n d_L_law_897 rfl ?_
  refine x_arg (L' := []) 1 (j := 1) d_L_law_898 d_L_law_899 d_L_law_900 d_L_law_901 d_L_law_902 (by decide +kernel) rfl rfl (by omega) hn ?_
  refine x_call (As := [.int (xs (i + 1))]) (o := 0) (st := []) d_L_law_903 cl_L_110 (op_need hR) sp_c0 (by decide) rfl rfl rfl (by decide) (by decide) (Nat.le_refl _) (Nat.le_refl _) (fun v h' hv => ?_)
  obtain ⟨r, rfl, hY⟩ := hv
  refine x_aload_n d_L_law_906 rfl ?_
  refine x_arg (L' := []) 1 (j := 1) d_L_law_907 d_L_law_908 d_L_law_909 d_L_law_910 d_L_law_911 (by decide +kernel) rfl rfl (by omega) hn ?_
  refine x_call (As := [.int (xs (i + 1))]) (o := 360) (st := [.int r]) d_L_law_912 cl_L_113 hY sp_c360 (by decide) rfl rfl rfl (Nat.le_of_ble_eq_true rfl) (by decide) (Nat.le_refl _) (Nat.le_refl _) (fun v h'' hv => ?_)
  obtain ⟨rfl, hR2⟩ := hv
  refine x_icmp_eq d_L_law_915 (fun _ => ?_) (fun hne => absurd rfl hne)
  exact k h'' hR2
theorem k_open {sn i : Nat} {xs : Nat → Int32} {H : Hv} (hn : sn < 2 ^ 31) (hi : i + 6 ≤ sn) (hR : Rel H) (k : ∀ H', Rel H' → GL sn xs 1459 i H') : GL sn xs 920 i H := by
  obtain ⟨h, w, rfl, hR⟩ := hR
  refine x_aload_n d_L_law_920 rfl ?_
  refine x_arg (L' := []) 1 (j := 1) d_L_law_921 d_L_law_922 d_L_law_923 d_L_law_924 d_L_law_925 (by decide +kernel) rfl rfl (by omega) hn ?_
  refine x_arg (L' := []) 2 (j := 2) d_L_law_926 d_L_law_927 d_L_law_928 d_L_law_929 d_L_law_930 (by decide +kernel) rfl rfl (by omega) hn ?_
  refine x_call (As := [.int (xs (i + 1)), .int (xs (i + 2))]) (o := 0) (st := []) d_L_law_931 cl_L_114 (op_open hR) sp_c0 (by decide) rfl rfl rfl (by decide) (by decide) (Nat.le_refl _) (Nat.le_refl _) (fun v h' hv => ?_)
  obtain ⟨r, rfl, hY⟩ := hv
  refine x_aload_n d_L_law_934 rfl ?_
  refine x_arg (L' := []) 1 (j := 1) d_L_law_935 d_L_law_936 d_L_law_937 d_L_law_938 d_L_law_939 (by decide +kernel) rfl rfl (by omega) hn ?_
  refine x_arg (L' := []) 2 (j := 2) d_L_law_940 d_L_law_941 d_L_law_942 d_L_law_943 d_L_law_944 (by decide +kernel) rfl rfl (by omega) hn ?_
  refine x_call (As := [.int (xs (i + 1)), .int (xs (i + 2))]) (o := 360) (st := [.int r]) d_L_law_945 cl_L_117 hY sp_c360 (by decide) rfl rfl rfl (Nat.le_of_ble_eq_true rfl) (by decide) (Nat.le_refl _) (Nat.le_refl _) (fun v h'' hv => ?_)
  obtain ⟨rfl, hR2⟩ := hv
  refine x_icmp_eq d_L_law_948 (fun _ => ?_) (fun hne => absurd rfl hne)
  exact k h'' hR2
theorem k_fills {sn i : Nat} {xs : Nat → Int32} {H : Hv} (hn : sn < 2 ^ 31) (hi : i + 6 ≤ sn) (hR : Rel H) (k : ∀ H', Rel H' → GL sn xs 1459 i H') : GL sn xs 953 i H := by
  obtain ⟨h, w, rfl, hR⟩ := hR
  refine x_aload_n d_L_law_953 rfl ?_
  refine x_arg (L' := []) 1 (j := 1) d_L_law_954 d_L_law_955 d_L_law_956 d_L_law_957 d_L_law_958 (by decide +kernel) rfl rfl (by omega) hn ?_
  refine x_arg (L' := []) 2 (j := 2) d_L_law_959 d_L_law_960 d_L_law_961 d_L_law_962 d_L_law_963 (by decide +kernel) rfl rfl (by omega) hn ?_
  refine x_call (As := [.int (xs (i + 1)), .int (xs (i + 2))]) (o := 0) (st := []) d_L_law_964 cl_L_118 (op_fills hR) sp_c0 (by decide) rfl rfl rfl (by decide) (by decide) (Nat.le_refl _) (Nat.le_refl _) (fun v h' hv => ?_)
  obtain ⟨r, rfl, hY⟩ := hv
  refine x_aload_n d_L_law_967 rfl ?_
  refine x_arg (L' := []) 1 (j := 1) d_L_law_968 d_L_law_969 d_L_law_970 d_L_law_971 d_L_law_972 (by decide +kernel) rfl rfl (by omega) hn ?_
  refine x_arg (L' := []) 2 (j := 2) d_L_law_973 d_L_law_974 d_L_law_975 d_L_law_976 d_L_law_977 (by decide +kernel) rfl rfl (by omega) hn ?_
  refine x_call (As := [.int (xs (i + 1)), .int (xs (i + 2))]) (o := 360) (st := [.int r]) d_L_law_978 cl_L_121 hY sp_c360 (by decide) rfl rfl rfl (Nat.le_of_ble_eq_true rfl) (by decide) (Nat.le_refl _) (Nat.le_refl _) (fun v h'' hv => ?_)
  obtain ⟨rfl, hR2⟩ := hv
  refine x_icmp_eq d_L_law_981 (fun _ => ?_) (fun hne => absurd rfl hne)
  exact k h'' hR2
theorem k_share {sn i : Nat} {xs : Nat → Int32} {H : Hv} (hn : sn < 2 ^ 31) (hi : i + 6 ≤ sn) (hR : Rel H) (k : ∀ H', Rel H' → GL sn xs 1459 i H') : GL sn xs 986 i H := by
  obtain ⟨h, w, rfl, hR⟩ := hR
  refine x_aload_n d_L_law_986 rfl ?_
  refine x_arg (L' := []) 1 (j := 1) d_L_law_987 d_L_law_988 d_L_law_989 d_L_law_990 d_L_law_991 (by decide +kernel) rfl rfl (by omega) hn ?_
  refine x_arg (L' := []) 2 (j := 2) d_L_law_992 d_L_law_993 d_L_law_994 d_L_law_995 d_L_law_996 (by decide +kernel) rfl rfl (by omega) hn ?_
  refine x_call (As := [.int (xs (i + 1)), .int (xs (i + 2))]) (o := 0) (st := []) d_L_law_997 cl_L_122 (op_share hR) sp_c0 (by decide) rfl rfl rfl (by decide) (by decide) (Nat.le_refl _) (Nat.le_refl _) (fun v h' hv => ?_)
  obtain ⟨r, rfl, hY⟩ := hv
  refine x_aload_n d_L_law_1000 rfl ?_
  refine x_arg (L' := []) 1 (j := 1) d_L_law_1001 d_L_law_1002 d_L_law_1003 d_L_law_1004 d_L_law_1005 (by decide +kernel) rfl rfl (by omega) hn ?_
  refine x_arg (L' := []) 2 (j := 2) d_L_law_1006 d_L_law_1007 d_L_law_1008 d_L_law_1009 d_L_law_1010 (by decide +kernel) rfl rfl (by omega) hn ?_
  refine x_call (As := [.int (xs (i + 1)), .int (xs (i + 2))]) (o := 360) (st := [.int r]) d_L_law_1011 cl_L_125 hY sp_c360 (by decide) rfl rfl rfl (Nat.le_of_ble_eq_true rfl) (by decide) (Nat.le_refl _) (Nat.le_refl _) (fun v h'' hv => ?_)
  obtain ⟨rfl, hR2⟩ := hv
  refine x_icmp_eq d_L_law_1014 (fun _ => ?_) (fun hne => absurd rfl hne)
  exact k h'' hR2
theorem k_byTurns {sn i : Nat} {xs : Nat → Int32} {H : Hv} (hn : sn < 2 ^ 31) (hi : i + 6 ≤ sn) (hR : Rel H) (k : ∀ H', Rel H' → GL sn xs 1459 i H') : GL sn xs 1019 i H := by
  obtain ⟨h, w, rfl, hR⟩ := hR
  refine x_aload_n d_L_law_1019 rfl ?_
  refine x_arg (L' := []) 1 (j := 1) d_L_law_1020 d_L_law_1021 d_L_law_1022 d_L_law_1023 d_L_law_1024 (by decide +kernel) rfl rfl (by omega) hn ?_
  refine x_arg (L' := []) 2 (j := 2) d_L_law_1025 d_L_law_1026 d_L_law_1027 d_L_law_1028 d_L_law_1029 (by decide +kernel) rfl rfl (by omega) hn ?_
  refine x_call (As := [.int (xs (i + 1)), .int (xs (i + 2))]) (o := 0) (st := []) d_L_law_1030 cl_L_126 (op_byTurns hR) sp_c0 (by decide) rfl rfl rfl (by decide) (by decide) (Nat.le_refl _) (Nat.le_refl _) (fun v h' hv => ?_)
  obtain ⟨r, rfl, hY⟩ := hv
  refine x_aload_n d_L_law_1033 rfl ?_
  refine x_arg (L' := []) 1 (j := 1) d_L_law_1034 d_L_law_1035 d_L_law_1036 d_L_law_1037 d_L_law_1038 (by decide +kernel) rfl rfl (by omega) hn ?_
  refine x_arg (L' := []) 2 (j := 2) d_L_law_1039 d_L_law_1040 d_L_law_1041 d_L_law_1042 d_L_law_1043 (by decide +kernel) rfl rfl (by omega) hn ?_
  refine x_call (As := [.int (xs (i + 1)), .int (xs (i + 2))]) (o := 360) (st := [.int r]) d_L_law_1044 cl_L_129 hY sp_c360 (by decide) rfl rfl rfl (Nat.le_of_ble_eq_true rfl) (by decide) (Nat.le_refl _) (Nat.le_refl _) (fun v h'' hv => ?_)
  obtain ⟨rfl, hR2⟩ := hv
  refine x_icmp_eq d_L_law_1047 (fun _ => ?_) (fun hne => absurd rfl hne)
  exact k h'' hR2
theorem k_who {sn i : Nat} {xs : Nat → Int32} {H : Hv} (hn : sn < 2 ^ 31) (hi : i + 6 ≤ sn) (hR : Rel H) (k : ∀ H', Rel H' → GL sn xs 1459 i H') : GL sn xs 1052 i H := by
  obtain ⟨h, w, rfl, hR⟩ := hR
  refine x_aload_n d_L_law_1052 rfl ?_
  refine x_arg (L' := []) 1 (j := 1) d_L_law_1053 d_L_law_1054 d_L_law_1055 d_L_law_1056 d_L_law_1057 (by decide +kernel) rfl rfl (by omega) hn ?_
  refine x_arg (L' := []) 2 (j := 2) d_L_law_1058 d_L_law_1059 d_L_law_1060 d_L_law_1061 d_L_law_1062 (by decide +kernel) rfl rfl (by omega) hn ?_
  refine x_arg (L' := []) 3 (j := 3) d_L_law_1063 d_L_law_1064 d_L_law_1065 d_L_law_1066 d_L_law_1067 (by decide +kernel) rfl rfl (by omega) hn ?_
  refine x_arg (L' := []) 4 (j := 4) d_L_law_1068 d_L_law_1069 d_L_law_1070 d_L_law_1071 d_L_law_1072 (by decide +kernel) rfl rfl (by omega) hn ?_
  refine x_arg (L' := []) 5 (j := 5) d_L_law_1073 d_L_law_1074 d_L_law_1075 d_L_law_1076 d_L_law_1077 (by decide +kernel) rfl rfl (by omega) hn ?_
  refine x_call (As := [.int (xs (i + 1)), .int (xs (i + 2)), .int (xs (i + 3)), .int (xs (i + 4)), .int (xs (i + 5))]) (o := 0) (st := []) d_L_law_1078 cl_L_130 (op_who hR) sp_c0 (by decide) rfl rfl rfl (by decide) (by decide) (Nat.le_refl _) (Nat.le_refl _) (fun v h' hv => ?_)
  obtain ⟨r, rfl, hY⟩ := hv
  refine x_aload_n d_L_law_1081 rfl ?_
  refine x_arg (L' := []) 1 (j := 1) d_L_law_1082 d_L_law_1083 d_L_law_1084 d_L_law_1085 d_L_law_1086 (by decide +kernel) rfl rfl (by omega) hn ?_
  refine x_arg (L' := []) 2 (j := 2) d_L_law_1087 d_L_law_1088 d_L_law_1089 d_L_law_1090 d_L_law_1091 (by decide +kernel) rfl rfl (by omega) hn ?_
  refine x_arg (L' := []) 3 (j := 3) d_L_law_1092 d_L_law_1093 d_L_law_1094 d_L_law_1095 d_L_law_1096 (by decide +kernel) rfl rfl (by omega) hn ?_
  refine x_arg (L' := []) 4 (j := 4) d_L_law_1097 d_L_law_1098 d_L_law_1099 d_L_law_1100 d_L_law_1101 (by decide +kernel) rfl rfl (by omega) hn ?_
  refine x_arg (L' := []) 5 (j := 5) d_L_law_1102 d_L_law_1103 d_L_law_1104 d_L_law_1105 d_L_law_1106 (by decide +kernel) rfl rfl (by omega) hn ?_
  refine x_call (As := [.int (xs (i + 1)), .int (xs (i + 2)), .int (xs (i + 3)), .int (xs (i + 4)), .int (xs (i + 5))]) (o := 360) (st := [.int r]) d_L_law_1107 cl_L_133 hY sp_c360 (by decide) rfl rfl rfl (Nat.le_of_ble_eq_true rfl) (by decide) (Nat.le_refl _) (Nat.le_refl _) (fun v h'' hv => ?_)
  obtain ⟨rfl, hR2⟩ := hv
  refine x_icmp_eq d_L_law_1110 (fun _ => ?_) (fun hne => absurd rfl hne)
  exact k h'' hR2
theorem k_sizes {sn i : Nat} {xs : Nat → Int32} {H : Hv} (hn : sn < 2 ^ 31) (hi : i + 6 ≤ sn) (hR : Rel H) (k : ∀ H', Rel H' → GL sn xs 1459 i H') : GL sn xs 1115 i H := by
  obtain ⟨h, w, rfl, hR⟩ := hR
  refine x_aload_n d_L_law_1115 rfl ?_
  refine x_arg (L' := []) 1 (j := 1) d_L_law_1116 d_L_law_1117 d_L_law_1118 d_L_law_1119 d_L_law_1120 (by decide +kernel) rfl rfl (by omega) hn ?_
  refine x_arg (L' := []) 2 (j := 2) d_L_law_1121 d_L_law_1122 d_L_law_1123 d_L_law_1124 d_L_law_1125 (by decide +kernel) rfl rfl (by omega) hn ?_
  refine x_arg (L' := []) 3 (j := 3) d_L_law_1126 d_L_law_1127 d_L_law_1128 d_L_law_1129 d_L_law_1130 (by decide +kernel) rfl rfl (by omega) hn ?_
  refine x_arg (L' := []) 4 (j := 4) d_L_law_1131 d_L_law_1132 d_L_law_1133 d_L_law_1134 d_L_law_1135 (by decide +kernel) rfl rfl (by omega) hn ?_
  refine x_call (As := [.int (xs (i + 1)), .int (xs (i + 2)), .int (xs (i + 3)), .int (xs (i + 4))]) (o := 0) (st := []) d_L_law_1136 cl_L_134 (op_sizes hR) sp_c0 (by decide) rfl rfl rfl (by decide) (by decide) (Nat.le_refl _) (Nat.le_refl _) (fun v h' hv => ?_)
  obtain ⟨r, rfl, hY⟩ := hv
  refine x_aload_n d_L_law_1139 rfl ?_
  refine x_arg (L' := []) 1 (j := 1) d_L_law_1140 d_L_law_1141 d_L_law_1142 d_L_law_1143 d_L_law_1144 (by decide +kernel) rfl rfl (by omega) hn ?_
  refine x_arg (L' := []) 2 (j := 2) d_L_law_1145 d_L_law_1146 d_L_law_1147 d_L_law_1148 d_L_law_1149 (by decide +kernel) rfl rfl (by omega) hn ?_
  refine x_arg (L' := []) 3 (j := 3) d_L_law_1150 d_L_law_1151 d_L_law_1152 d_L_law_1153 d_L_law_1154 (by decide +kernel) rfl rfl (by omega) hn ?_
  refine x_arg (L' := []) 4 (j := 4) d_L_law_1155 d_L_law_1156 d_L_law_1157 d_L_law_1158 d_L_law_1159 (by decide +kernel) rfl rfl (by omega) hn ?_
  refine x_call (As := [.int (xs (i + 1)), .int (xs (i + 2)), .int (xs (i + 3)), .int (xs (i + 4))]) (o := 360) (st := [.int r]) d_L_law_1160 cl_L_138 hY sp_c360 (by decide) rfl rfl rfl (Nat.le_of_ble_eq_true rfl) (by decide) (Nat.le_refl _) (Nat.le_refl _) (fun v h'' hv => ?_)
  obtain ⟨rfl, hR2⟩ := hv
  refine x_icmp_eq d_L_law_1163 (fun _ => ?_) (fun hne => absurd rfl hne)
  exact k h'' hR2
theorem k_breaks {sn i : Nat} {xs : Nat → Int32} {H : Hv} (hn : sn < 2 ^ 31) (hi : i + 6 ≤ sn) (hR : Rel H) (k : ∀ H', Rel H' → GL sn xs 1459 i H') : GL sn xs 1168 i H := by
  obtain ⟨h, w, rfl, hR⟩ := hR
  refine x_aload_n d_L_law_1168 rfl ?_
  refine x_arg (L' := []) 1 (j := 1) d_L_law_1169 d_L_law_1170 d_L_law_1171 d_L_law_1172 d_L_law_1173 (by decide +kernel) rfl rfl (by omega) hn ?_
  refine x_arg (L' := []) 2 (j := 2) d_L_law_1174 d_L_law_1175 d_L_law_1176 d_L_law_1177 d_L_law_1178 (by decide +kernel) rfl rfl (by omega) hn ?_
  refine x_arg (L' := []) 3 (j := 3) d_L_law_1179 d_L_law_1180 d_L_law_1181 d_L_law_1182 d_L_law_1183 (by decide +kernel) rfl rfl (by omega) hn ?_
  refine x_arg (L' := []) 4 (j := 4) d_L_law_1184 d_L_law_1185 d_L_law_1186 d_L_law_1187 d_L_law_1188 (by decide +kernel) rfl rfl (by omega) hn ?_
  refine x_call (As := [.int (xs (i + 1)), .int (xs (i + 2)), .int (xs (i + 3)), .int (xs (i + 4))]) (o := 0) (st := []) d_L_law_1189 cl_L_139 (op_breaks hR) sp_c0 (by decide) rfl rfl rfl (by decide) (by decide) (Nat.le_refl _) (Nat.le_refl _) (fun v h' hv => ?_)
  obtain ⟨r, rfl, hY⟩ := hv
  refine x_aload_n d_L_law_1192 rfl ?_
  refine x_arg (L' := []) 1 (j := 1) d_L_law_1193 d_L_law_1194 d_L_law_1195 d_L_law_1196 d_L_law_1197 (by decide +kernel) rfl rfl (by omega) hn ?_
  refine x_arg (L' := []) 2 (j := 2) d_L_law_1198 d_L_law_1199 d_L_law_1200 d_L_law_1201 d_L_law_1202 (by decide +kernel) rfl rfl (by omega) hn ?_
  refine x_arg (L' := []) 3 (j := 3) d_L_law_1203 d_L_law_1204 d_L_law_1205 d_L_law_1206 d_L_law_1207 (by decide +kernel) rfl rfl (by omega) hn ?_
  refine x_arg (L' := []) 4 (j := 4) d_L_law_1208 d_L_law_1209 d_L_law_1210 d_L_law_1211 d_L_law_1212 (by decide +kernel) rfl rfl (by omega) hn ?_
  refine x_call (As := [.int (xs (i + 1)), .int (xs (i + 2)), .int (xs (i + 3)), .int (xs (i + 4))]) (o := 360) (st := [.long r]) d_L_law_1213 cl_L_143 hY sp_c360 (by decide) rfl rfl rfl (Nat.le_of_ble_eq_true rfl) (by decide) (Nat.le_refl _) (Nat.le_refl _) (fun v h'' hv => ?_)
  obtain ⟨rfl, hR2⟩ := hv
  refine x_lcmp d_L_law_1216 ?_
  rw [lg_self]
  refine x_if_eq d_L_law_1217 (fun _ => ?_) (fun hne => absurd rfl hne)
  exact k h'' hR2
theorem k_drawn {sn i : Nat} {xs : Nat → Int32} {H : Hv} (hn : sn < 2 ^ 31) (hi : i + 6 ≤ sn) (hR : Rel H) (k : ∀ H', Rel H' → GL sn xs 1459 i H') : GL sn xs 1222 i H := by
  obtain ⟨h, w, rfl, hR⟩ := hR
  refine x_aload_n d_L_law_1222 rfl ?_
  refine x_arg (L' := []) 1 (j := 1) d_L_law_1223 d_L_law_1224 d_L_law_1225 d_L_law_1226 d_L_law_1227 (by decide +kernel) rfl rfl (by omega) hn ?_
  refine x_arg (L' := []) 2 (j := 2) d_L_law_1228 d_L_law_1229 d_L_law_1230 d_L_law_1231 d_L_law_1232 (by decide +kernel) rfl rfl (by omega) hn ?_
  refine x_arg (L' := []) 3 (j := 3) d_L_law_1233 d_L_law_1234 d_L_law_1235 d_L_law_1236 d_L_law_1237 (by decide +kernel) rfl rfl (by omega) hn ?_
  refine x_call (As := [.int (xs (i + 1)), .int (xs (i + 2)), .int (xs (i + 3))]) (o := 0) (st := []) d_L_law_1238 cl_L_144 (op_drawn hR) sp_c0 (by decide) rfl rfl rfl (by decide) (by decide) (Nat.le_refl _) (Nat.le_refl _) (fun v h' hv => ?_)
  obtain ⟨r, rfl, hY⟩ := hv
  refine x_aload_n d_L_law_1241 rfl ?_
  refine x_arg (L' := []) 1 (j := 1) d_L_law_1242 d_L_law_1243 d_L_law_1244 d_L_law_1245 d_L_law_1246 (by decide +kernel) rfl rfl (by omega) hn ?_
  refine x_arg (L' := []) 2 (j := 2) d_L_law_1247 d_L_law_1248 d_L_law_1249 d_L_law_1250 d_L_law_1251 (by decide +kernel) rfl rfl (by omega) hn ?_
  refine x_arg (L' := []) 3 (j := 3) d_L_law_1252 d_L_law_1253 d_L_law_1254 d_L_law_1255 d_L_law_1256 (by decide +kernel) rfl rfl (by omega) hn ?_
  refine x_call (As := [.int (xs (i + 1)), .int (xs (i + 2)), .int (xs (i + 3))]) (o := 360) (st := [.int r]) d_L_law_1257 cl_L_147 hY sp_c360 (by decide) rfl rfl rfl (Nat.le_of_ble_eq_true rfl) (by decide) (Nat.le_refl _) (Nat.le_refl _) (fun v h'' hv => ?_)
  obtain ⟨rfl, hR2⟩ := hv
  refine x_icmp_eq d_L_law_1260 (fun _ => ?_) (fun hne => absurd rfl hne)
  exact k h'' hR2
theorem k_image {sn i : Nat} {xs : Nat → Int32} {H : Hv} (hn : sn < 2 ^ 31) (hi : i + 6 ≤ sn) (hR : Rel H) (k : ∀ H', Rel H' → GL sn xs 1459 i H') : GL sn xs 1265 i H := by
  obtain ⟨h, w, rfl, hR⟩ := hR
  refine x_aload_n d_L_law_1265 rfl ?_
  refine x_arg (L' := []) 1 (j := 1) d_L_law_1266 d_L_law_1267 d_L_law_1268 d_L_law_1269 d_L_law_1270 (by decide +kernel) rfl rfl (by omega) hn ?_
  refine x_call (As := [.int (xs (i + 1))]) (o := 0) (st := []) d_L_law_1271 cl_L_148 (op_image hR) sp_c0 (by decide) rfl rfl rfl (by decide) (by decide) (Nat.le_refl _) (Nat.le_refl _) (fun v h' hv => ?_)
  obtain ⟨r, rfl, hY⟩ := hv
  refine x_aload_n d_L_law_1274 rfl ?_
  refine x_arg (L' := []) 1 (j := 1) d_L_law_1275 d_L_law_1276 d_L_law_1277 d_L_law_1278 d_L_law_1279 (by decide +kernel) rfl rfl (by omega) hn ?_
  refine x_call (As := [.int (xs (i + 1))]) (o := 360) (st := [.int r]) d_L_law_1280 cl_L_151 hY sp_c360 (by decide) rfl rfl rfl (Nat.le_of_ble_eq_true rfl) (by decide) (Nat.le_refl _) (Nat.le_refl _) (fun v h'' hv => ?_)
  obtain ⟨rfl, hR2⟩ := hv
  refine x_icmp_eq d_L_law_1283 (fun _ => ?_) (fun hne => absurd rfl hne)
  exact k h'' hR2
theorem k_restore {sn i : Nat} {xs : Nat → Int32} {H : Hv} (hn : sn < 2 ^ 31) (hi : i + 6 ≤ sn) (hR : Rel H) (k : ∀ H', Rel H' → GL sn xs 1459 i H') : GL sn xs 1288 i H := by
  obtain ⟨h, w, rfl, hR⟩ := hR
  refine x_aload_n d_L_law_1288 rfl ?_
  refine x_arg (L' := []) 1 (j := 1) d_L_law_1289 d_L_law_1290 d_L_law_1291 d_L_law_1292 d_L_law_1293 (by decide +kernel) rfl rfl (by omega) hn ?_
  refine x_call (As := [.int (xs (i + 1))]) (o := 0) (st := []) d_L_law_1294 cl_L_152 (op_restore hR) sp_c0 (by decide) rfl rfl rfl (by decide) (by decide) (Nat.le_refl _) (Nat.le_refl _) (fun v h' hv => ?_)
  obtain ⟨r, rfl, hY⟩ := hv
  refine x_aload_n d_L_law_1297 rfl ?_
  refine x_arg (L' := []) 1 (j := 1) d_L_law_1298 d_L_law_1299 d_L_law_1300 d_L_law_1301 d_L_law_1302 (by decide +kernel) rfl rfl (by omega) hn ?_
  refine x_call (As := [.int (xs (i + 1))]) (o := 360) (st := [.int r]) d_L_law_1303 cl_L_155 hY sp_c360 (by decide) rfl rfl rfl (Nat.le_of_ble_eq_true rfl) (by decide) (Nat.le_refl _) (Nat.le_refl _) (fun v h'' hv => ?_)
  obtain ⟨rfl, hR2⟩ := hv
  refine x_icmp_eq d_L_law_1306 (fun _ => ?_) (fun hne => absurd rfl hne)
  exact k h'' hR2
theorem k_kind {sn i : Nat} {xs : Nat → Int32} {H : Hv} (hn : sn < 2 ^ 31) (hi : i + 6 ≤ sn) (hR : Rel H) (k : ∀ H', Rel H' → GL sn xs 1459 i H') : GL sn xs 1311 i H := by
  obtain ⟨h, w, rfl, hR⟩ := hR
  refine x_aload_n d_L_law_1311 rfl ?_
  refine x_arg (L' := []) 1 (j := 1) d_L_law_1312 d_L_law_1313 d_L_law_1314 d_L_law_1315 d_L_law_1316 (by decide +kernel) rfl rfl (by omega) hn ?_
  refine x_call (As := [.int (xs (i + 1))]) (o := 0) (st := []) d_L_law_1317 cl_L_156 (op_kind hR) sp_c0 (by decide) rfl rfl rfl (by decide) (by decide) (Nat.le_refl _) (Nat.le_refl _) (fun v h' hv => ?_)
  obtain ⟨r, rfl, hY⟩ := hv
  refine x_aload_n d_L_law_1320 rfl ?_
  refine x_arg (L' := []) 1 (j := 1) d_L_law_1321 d_L_law_1322 d_L_law_1323 d_L_law_1324 d_L_law_1325 (by decide +kernel) rfl rfl (by omega) hn ?_
  refine x_call (As := [.int (xs (i + 1))]) (o := 360) (st := [.int r]) d_L_law_1326 cl_L_159 hY sp_c360 (by decide) rfl rfl rfl (Nat.le_of_ble_eq_true rfl) (by decide) (Nat.le_refl _) (Nat.le_refl _) (fun v h'' hv => ?_)
  obtain ⟨rfl, hR2⟩ := hv
  refine x_icmp_eq d_L_law_1329 (fun _ => ?_) (fun hne => absurd rfl hne)
  exact k h'' hR2
theorem k_as {sn i : Nat} {xs : Nat → Int32} {H : Hv} (hn : sn < 2 ^ 31) (hi : i + 6 ≤ sn) (hR : Rel H) (k : ∀ H', Rel H' → GL sn xs 1459 i H') : GL sn xs 1334 i H := by
  obtain ⟨h, w, rfl, hR⟩ := hR
  refine x_aload_n d_L_law_1334 rfl ?_
  refine x_arg (L' := []) 1 (j := 1) d_L_law_1335 d_L_law_1336 d_L_law_1337 d_L_law_1338 d_L_law_1339 (by decide +kernel) rfl rfl (by omega) hn ?_
  refine x_arg (L' := []) 2 (j := 2) d_L_law_1340 d_L_law_1341 d_L_law_1342 d_L_law_1343 d_L_law_1344 (by decide +kernel) rfl rfl (by omega) hn ?_
  refine x_call (As := [.int (xs (i + 1)), .int (xs (i + 2))]) (o := 0) (st := []) d_L_law_1345 cl_L_160 (op_as hR) sp_c0 (by decide) rfl rfl rfl (by decide) (by decide) (Nat.le_refl _) (Nat.le_refl _) (fun v h' hv => ?_)
  obtain ⟨r, rfl, hY⟩ := hv
  refine x_aload_n d_L_law_1348 rfl ?_
  refine x_arg (L' := []) 1 (j := 1) d_L_law_1349 d_L_law_1350 d_L_law_1351 d_L_law_1352 d_L_law_1353 (by decide +kernel) rfl rfl (by omega) hn ?_
  refine x_arg (L' := []) 2 (j := 2) d_L_law_1354 d_L_law_1355 d_L_law_1356 d_L_law_1357 d_L_law_1358 (by decide +kernel) rfl rfl (by omega) hn ?_
  refine x_call (As := [.int (xs (i + 1)), .int (xs (i + 2))]) (o := 360) (st := [.int r]) d_L_law_1359 cl_L_163 hY sp_c360 (by decide) rfl rfl rfl (Nat.le_of_ble_eq_true rfl) (by decide) (Nat.le_refl _) (Nat.le_refl _) (fun v h'' hv => ?_)
  obtain ⟨rfl, hR2⟩ := hv
  refine x_icmp_eq d_L_law_1362 (fun _ => ?_) (fun hne => absurd rfl hne)
  exact k h'' hR2
theorem k_ask {sn i : Nat} {xs : Nat → Int32} {H : Hv} (hn : sn < 2 ^ 31) (hi : i + 6 ≤ sn) (hR : Rel H) (k : ∀ H', Rel H' → GL sn xs 1459 i H') : GL sn xs 1367 i H := by
  obtain ⟨h, w, rfl, hR⟩ := hR
  refine x_aload_n d_L_law_1367 rfl ?_
  refine x_arg (L' := []) 1 (j := 1) d_L_law_1368 d_L_law_1369 d_L_law_1370 d_L_law_1371 d_L_law_1372 (by decide +kernel) rfl rfl (by omega) hn ?_
  refine x_arg (L' := []) 2 (j := 2) d_L_law_1373 d_L_law_1374 d_L_law_1375 d_L_law_1376 d_L_law_1377 (by decide +kernel) rfl rfl (by omega) hn ?_
  refine x_call (As := [.int (xs (i + 1)), .int (xs (i + 2))]) (o := 0) (st := []) d_L_law_1378 cl_L_164 (op_ask hR) sp_c0 (by decide) rfl rfl rfl (by decide) (by decide) (Nat.le_refl _) (Nat.le_refl _) (fun v h' hv => ?_)
  obtain ⟨r, rfl, hY⟩ := hv
  refine x_aload_n d_L_law_1381 rfl ?_
  refine x_arg (L' := []) 1 (j := 1) d_L_law_1382 d_L_law_1383 d_L_law_1384 d_L_law_1385 d_L_law_1386 (by decide +kernel) rfl rfl (by omega) hn ?_
  refine x_arg (L' := []) 2 (j := 2) d_L_law_1387 d_L_law_1388 d_L_law_1389 d_L_law_1390 d_L_law_1391 (by decide +kernel) rfl rfl (by omega) hn ?_
  refine x_call (As := [.int (xs (i + 1)), .int (xs (i + 2))]) (o := 360) (st := [.int r]) d_L_law_1392 cl_L_167 hY sp_c360 (by decide) rfl rfl rfl (Nat.le_of_ble_eq_true rfl) (by decide) (Nat.le_refl _) (Nat.le_refl _) (fun v h'' hv => ?_)
  obtain ⟨rfl, hR2⟩ := hv
  refine x_icmp_eq d_L_law_1395 (fun _ => ?_) (fun hne => absurd rfl hne)
  exact k h'' hR2
theorem k_trace {sn i : Nat} {xs : Nat → Int32} {H : Hv} (hn : sn < 2 ^ 31) (hi : i + 6 ≤ sn) (hR : Rel H) (k : ∀ H', Rel H' → GL sn xs 1459 i H') : GL sn xs 1400 i H := by
  obtain ⟨h, w, rfl, hR⟩ := hR
  refine x_aload_n d_L_law_1400 rfl ?_
  refine x_arg (L' := []) 1 (j := 1) d_L_law_1401 d_L_law_1402 d_L_law_1403 d_L_law_1404 d_L_law_1405 (by decide +kernel) rfl rfl (by omega) hn ?_
  refine x_call (As := [.int (xs (i + 1))]) (o := 0) (st := []) d_L_law_1406 cl_L_168 (op_trace hR) sp_c0 (by decide) rfl rfl rfl (by decide) (by decide) (Nat.le_refl _) (Nat.le_refl _) (fun v h' hv => ?_)
  obtain ⟨r, rfl, hY⟩ := hv
  refine x_aload_n d_L_law_1409 rfl ?_
  refine x_arg (L' := []) 1 (j := 1) d_L_law_1410 d_L_law_1411 d_L_law_1412 d_L_law_1413 d_L_law_1414 (by decide +kernel) rfl rfl (by omega) hn ?_
  refine x_call (As := [.int (xs (i + 1))]) (o := 360) (st := [.int r]) d_L_law_1415 cl_L_171 hY sp_c360 (by decide) rfl rfl rfl (Nat.le_of_ble_eq_true rfl) (by decide) (Nat.le_refl _) (Nat.le_refl _) (fun v h'' hv => ?_)
  obtain ⟨rfl, hR2⟩ := hv
  refine x_icmp_eq d_L_law_1418 (fun _ => ?_) (fun hne => absurd rfl hne)
  exact k h'' hR2
theorem k_count {sn i : Nat} {xs : Nat → Int32} {H : Hv} (hn : sn < 2 ^ 31) (hi : i + 6 ≤ sn) (hR : Rel H) (k : ∀ H', Rel H' → GL sn xs 1459 i H') : GL sn xs 1423 i H := by
  obtain ⟨h, w, rfl, hR⟩ := hR
  refine x_aload_n d_L_law_1423 rfl ?_
  refine x_arg (L' := []) 1 (j := 1) d_L_law_1424 d_L_law_1425 d_L_law_1426 d_L_law_1427 d_L_law_1428 (by decide +kernel) rfl rfl (by omega) hn ?_
  refine x_call (As := [.int (xs (i + 1))]) (o := 0) (st := []) d_L_law_1429 cl_L_172 (op_count hR) sp_c0 (by decide) rfl rfl rfl (by decide) (by decide) (Nat.le_refl _) (Nat.le_refl _) (fun v h' hv => ?_)
  obtain ⟨r, rfl, hY⟩ := hv
  refine x_aload_n d_L_law_1432 rfl ?_
  refine x_arg (L' := []) 1 (j := 1) d_L_law_1433 d_L_law_1434 d_L_law_1435 d_L_law_1436 d_L_law_1437 (by decide +kernel) rfl rfl (by omega) hn ?_
  refine x_call (As := [.int (xs (i + 1))]) (o := 360) (st := [.int r]) d_L_law_1438 cl_L_175 hY sp_c360 (by decide) rfl rfl rfl (Nat.le_of_ble_eq_true rfl) (by decide) (Nat.le_refl _) (Nat.le_refl _) (fun v h'' hv => ?_)
  obtain ⟨rfl, hR2⟩ := hv
  refine x_icmp_eq d_L_law_1441 (fun _ => ?_) (fun hne => absurd rfl hne)
  exact k h'' hR2
theorem k_status {sn i : Nat} {xs : Nat → Int32} {H : Hv} (hn : sn < 2 ^ 31) (hi : i + 6 ≤ sn) (hR : Rel H) (k : ∀ H', Rel H' → GL sn xs 1459 i H') : GL sn xs 1446 i H := by
  obtain ⟨h, w, rfl, hR⟩ := hR
  refine x_aload_n d_L_law_1446 rfl ?_
  refine x_call (As := []) (o := 0) (st := []) d_L_law_1447 cl_L_176 (op_status hR) sp_c0 (by decide) rfl rfl rfl (by decide) (by decide) (Nat.le_refl _) (Nat.le_refl _) (fun v h' hv => ?_)
  obtain ⟨r, rfl, hY⟩ := hv
  refine x_aload_n d_L_law_1450 rfl ?_
  refine x_call (As := []) (o := 360) (st := [.int r]) d_L_law_1451 cl_L_179 hY sp_c360 (by decide) rfl rfl rfl (Nat.le_of_ble_eq_true rfl) (by decide) (Nat.le_refl _) (Nat.le_refl _) (fun v h'' hv => ?_)
  obtain ⟨rfl, hR2⟩ := hv
  refine x_icmp_eq d_L_law_1454 (fun _ => ?_) (fun hne => absurd rfl hne)
  exact k h'' hR2
theorem law_sw {sn i : Nat} {xs : Nat → Int32} {H : Hv} {x : Int32} (hn : sn < 2 ^ 31) (hi : i + 6 ≤ sn) (hR : Rel H) (k : ∀ H', Rel H' → GL sn xs 1459 i H') : Gx sn xs M_L 9 378 5803 33 (LL i) [.int x] (mk H) 378 5803 (fun v _ => v = some (.int 1)) := by
  by_cases h0 : x.toInt < 0 ∨ 39 < x.toInt
  · exact x_tableOut d_L_law_33 h0 (by decide) (k H hR)
  · have h1 : ¬ x.toInt < 0 := fun q => h0 (Or.inl q)
    have h2 : ¬ 39 < x.toInt := fun q => h0 (Or.inr q)
    obtain ⟨j, hj⟩ : ∃ j : Nat, x.toInt = (j : Int) := ⟨x.toInt.toNat, by omega⟩
    have hj40 : j < 40 := by omega
    match j, hj40, hj with
    | 0, _, hj => exact x_tableIn (off := 175) (tgt := 208) d_L_law_33 h1 h2 (by rw [hj]; rfl) (by decide) (k_row hn hi hR k)
    | 1, _, hj => exact x_tableIn (off := 218) (tgt := 251) d_L_law_33 h1 h2 (by rw [hj]; rfl) (by decide) (k_set hn hi hR k)
    | 2, _, hj => exact x_tableIn (off := 261) (tgt := 294) d_L_law_33 h1 h2 (by rw [hj]; rfl) (by decide) (k_copy hn hi hR k)
    | 3, _, hj => exact x_tableIn (off := 324) (tgt := 357) d_L_law_33 h1 h2 (by rw [hj]; rfl) (by decide) (k_drop hn hi hR k)
    | 4, _, hj => exact x_tableIn (off := 347) (tgt := 380) d_L_law_33 h1 h2 (by rw [hj]; rfl) (by decide) (k_feed hn hi hR k)
    | 5, _, hj => exact x_tableIn (off := 370) (tgt := 403) d_L_law_33 h1 h2 (by rw [hj]; rfl) (by decide) (k_launderette hn hi hR k)
    | 6, _, hj => exact x_tableIn (off := 383) (tgt := 416) d_L_law_33 h1 h2 (by rw [hj]; rfl) (by decide) (k_fault hn hi hR k)
    | 7, _, hj => exact x_tableIn (off := 396) (tgt := 429) d_L_law_33 h1 h2 (by rw [hj]; rfl) (by decide) (k_undo hn hi hR k)
    | 8, _, hj => exact x_tableIn (off := 409) (tgt := 442) d_L_law_33 h1 h2 (by rw [hj]; rfl) (by decide) (k_ticks hn hi hR k)
    | 9, _, hj => exact x_tableIn (off := 432) (tgt := 465) d_L_law_33 h1 h2 (by rw [hj]; rfl) (by decide) (k_shut hn hi hR k)
    | 10, _, hj => exact x_tableIn (off := 455) (tgt := 488) d_L_law_33 h1 h2 (by rw [hj]; rfl) (by decide) (k_power hn hi hR k)
    | 11, _, hj => exact x_tableIn (off := 478) (tgt := 511) d_L_law_33 h1 h2 (by rw [hj]; rfl) (by decide) (k_due hn hi hR k)
    | 12, _, hj => exact x_tableIn (off := 511) (tgt := 544) d_L_law_33 h1 h2 (by rw [hj]; rfl) (by decide) (k_again hn hi hR k)
    | 13, _, hj => exact x_tableIn (off := 544) (tgt := 577) d_L_law_33 h1 h2 (by rw [hj]; rfl) (by decide) (k_machine hn hi hR k)
    | 14, _, hj => exact x_tableIn (off := 577) (tgt := 610) d_L_law_33 h1 h2 (by rw [hj]; rfl) (by decide) (k_load hn hi hR k)
    | 15, _, hj => exact x_tableIn (off := 610) (tgt := 643) d_L_law_33 h1 h2 (by rw [hj]; rfl) (by decide) (k_lasts hn hi hR k)
    | 16, _, hj => exact x_tableIn (off := 643) (tgt := 676) d_L_law_33 h1 h2 (by rw [hj]; rfl) (by decide) (k_stand hn hi hR k)
    | 17, _, hj => exact x_tableIn (off := 666) (tgt := 699) d_L_law_33 h1 h2 (by rw [hj]; rfl) (by decide) (k_ahead hn hi hR k)
    | 18, _, hj => exact x_tableIn (off := 709) (tgt := 742) d_L_law_33 h1 h2 (by rw [hj]; rfl) (by decide) (k_inside hn hi hR k)
    | 19, _, hj => exact x_tableIn (off := 752) (tgt := 785) d_L_law_33 h1 h2 (by rw [hj]; rfl) (by decide) (k_all hn hi hR k)
    | 20, _, hj => exact x_tableIn (off := 785) (tgt := 818) d_L_law_33 h1 h2 (by rw [hj]; rfl) (by decide) (k_when hn hi hR k)
    | 21, _, hj => exact x_tableIn (off := 818) (tgt := 851) d_L_law_33 h1 h2 (by rw [hj]; rfl) (by decide) (k_over hn hi hR k)
    | 22, _, hj => exact x_tableIn (off := 831) (tgt := 864) d_L_law_33 h1 h2 (by rw [hj]; rfl) (by decide) (k_order hn hi hR k)
    | 23, _, hj => exact x_tableIn (off := 864) (tgt := 897) d_L_law_33 h1 h2 (by rw [hj]; rfl) (by decide) (k_need hn hi hR k)
    | 24, _, hj => exact x_tableIn (off := 887) (tgt := 920) d_L_law_33 h1 h2 (by rw [hj]; rfl) (by decide) (k_open hn hi hR k)
    | 25, _, hj => exact x_tableIn (off := 920) (tgt := 953) d_L_law_33 h1 h2 (by rw [hj]; rfl) (by decide) (k_fills hn hi hR k)
    | 26, _, hj => exact x_tableIn (off := 953) (tgt := 986) d_L_law_33 h1 h2 (by rw [hj]; rfl) (by decide) (k_share hn hi hR k)
    | 27, _, hj => exact x_tableIn (off := 986) (tgt := 1019) d_L_law_33 h1 h2 (by rw [hj]; rfl) (by decide) (k_byTurns hn hi hR k)
    | 28, _, hj => exact x_tableIn (off := 1019) (tgt := 1052) d_L_law_33 h1 h2 (by rw [hj]; rfl) (by decide) (k_who hn hi hR k)
    | 29, _, hj => exact x_tableIn (off := 1082) (tgt := 1115) d_L_law_33 h1 h2 (by rw [hj]; rfl) (by decide) (k_sizes hn hi hR k)
    | 30, _, hj => exact x_tableIn (off := 1135) (tgt := 1168) d_L_law_33 h1 h2 (by rw [hj]; rfl) (by decide) (k_breaks hn hi hR k)
    | 31, _, hj => exact x_tableIn (off := 1189) (tgt := 1222) d_L_law_33 h1 h2 (by rw [hj]; rfl) (by decide) (k_drawn hn hi hR k)
    | 32, _, hj => exact x_tableIn (off := 1232) (tgt := 1265) d_L_law_33 h1 h2 (by rw [hj]; rfl) (by decide) (k_image hn hi hR k)
    | 33, _, hj => exact x_tableIn (off := 1255) (tgt := 1288) d_L_law_33 h1 h2 (by rw [hj]; rfl) (by decide) (k_restore hn hi hR k)
    | 34, _, hj => exact x_tableIn (off := 1278) (tgt := 1311) d_L_law_33 h1 h2 (by rw [hj]; rfl) (by decide) (k_kind hn hi hR k)
    | 35, _, hj => exact x_tableIn (off := 1301) (tgt := 1334) d_L_law_33 h1 h2 (by rw [hj]; rfl) (by decide) (k_as hn hi hR k)
    | 36, _, hj => exact x_tableIn (off := 1334) (tgt := 1367) d_L_law_33 h1 h2 (by rw [hj]; rfl) (by decide) (k_ask hn hi hR k)
    | 37, _, hj => exact x_tableIn (off := 1367) (tgt := 1400) d_L_law_33 h1 h2 (by rw [hj]; rfl) (by decide) (k_trace hn hi hR k)
    | 38, _, hj => exact x_tableIn (off := 1390) (tgt := 1423) d_L_law_33 h1 h2 (by rw [hj]; rfl) (by decide) (k_count hn hi hR k)
    | 39, _, hj => exact x_tableIn (off := 1413) (tgt := 1446) d_L_law_33 h1 h2 (by rw [hj]; rfl) (by decide) (k_status hn hi hR k)
    | j + 40, h, _ => exact absurd h (by omega)
theorem law_le {sn i : Nat} (hsn : sn ≤ 3072) (hi : i ≤ sn + 6) : (nI sn - 6 < nI i) ↔ sn < i + 6 := by
  have e1 : (nI sn - 6).toInt = (sn : Int) - 6 := by
    rw [Int32.toInt_sub, nI_toInt (by omega)]
    show ((sn : Int) - 6).bmod (2 ^ 32) = _
    exact Int.bmod_eq_of_le (by omega) (by omega)
  rw [Int32.lt_iff_toInt_lt, e1, nI_toInt (by omega)]
  omega
theorem law_loop {sn : Nat} {xs : Nat → Int32} (hsn : sn ≤ 3072) : ∀ (n i : Nat) (H : Hv), sn + 1 ≤ i + n → i ≤ sn + 6 → Rel H → GL sn xs 18 i H
  | n, i, H, hin, hi6, hR => by
    refine x_iload_n d_L_law_18 rfl ?_
    refine x_aload_n d_L_law_19 rfl ?_
    refine x_slen (v := nI sn) d_L_law_20 rfl ?_
    refine x_bipush (v := 6) d_L_law_21 (by decide +kernel) ?_
    refine x_isub d_L_law_23 ?_
    refine x_icmp_gt d_L_law_24 (fun _ => ?_) (fun hle => ?_)
    · refine x_iconst (v := 1) d_L_law_1465 (by decide +kernel) ?_
      exact x_zret d_L_law_1466 rfl rfl (Nat.le_refl _) (Nat.le_refl _) rfl
    · have hi : i + 6 ≤ sn := by
        by_cases q : sn < i + 6
        · exact absurd ((law_le hsn hi6).mpr q) hle
        · omega
      match n, hin with
      | 0, hin => exact absurd hin (by omega)
      | n + 1, hin =>
        refine x_aload_n d_L_law_27 rfl ?_
        refine x_iload_n d_L_law_28 rfl ?_
        refine x_sald d_L_law_29 (by omega) (by omega) ?_
        refine x_bipush (v := 63) d_L_law_30 (by decide +kernel) ?_
        refine x_iand d_L_law_32 ?_
        refine law_sw (by omega) hi hR (fun H' hR' => ?_)
        refine x_iinc (v := nI (i + 6)) d_L_law_1459 rfl rfl rfl (by rw [show Int32.ofInt 6 = nI 6 by decide +kernel, nI_add]) ?_
        refine x_goto d_L_law_1462 ?_
        exact law_loop hsn n (i + 6) H' (by omega) (by omega) hR'
