/-! the law: its loop -/
theorem l_arg {xs : Nat → Int32} {L i k : Nat} {R : gR} {st : List Value} {μ : gM} {pc : Nat} {n : Int} (hn : Int32.ofInt n = nI k) (h9 : ∀ j, μ 109 j = xs j) (h0 : μ 110 0 = nI L) (hL : L ≤ 3072) (hi : i + k < L) (d0 : decode code pc = .ok (.aload_n 0, 1)) (d1 : decode code (pc + 1) = .ok (.iload_n 3, 1)) (d2 : decode code (pc + 2) = .ok (.iconst n, 1)) (d3 : decode code (pc + 3) = .ok (.iadd, 1)) (d4 : decode code (pc + 4) = .ok (.iaload, 1)) (h : gc_W (gc_S 100) code 17 1 R (pc + 5) [.ref 109, .ref 0, .ref 83, .int (nI i)] (.int (xs (i + k)) :: st) μ) : gc_W (gc_S 100) code 17 1 R pc [.ref 109, .ref 0, .ref 83, .int (nI i)] st μ := by
  refine (us_aload_n d0 rfl).mpr ((us_iload_n d1 rfl).mpr ((us_iconst d2 hn).mpr ((us_iadd d3).mpr ((us_iald1 d4 rfl).mpr ⟨?_, ?_⟩))))
  · rw [nI_add, h0, nI_clamp (show L < 2 ^ 31 by omega)]; exact vp_in_nI hi (by omega)
  · rw [nI_add, nI_clamp (show i + k < 2 ^ 31 by omega), h9]; exact h
def l_nx (xs : Nat → Int32) (L i : Nat) (R : gR) : Prop := ∀ μ', q_I μ' → (∀ j, μ' 109 j = xs j) → μ' 110 0 = nI L → gc_W (gc_S 100) code 17 1 R 1606 [.ref 109, .ref 0, .ref 83, .int (nI i)] [] μ'
theorem l_c0 {xs : Nat → Int32} {L i : Nat} {R : gR} {μ : gM} (hi : i + 5 < L) (hL : L ≤ 3072) (I : q_I μ) (h9 : ∀ j, μ 109 j = xs j) (h0 : μ 110 0 = nI L) (next : l_nx xs L i R) : gc_W (gc_S 100) code 17 1 R 224 [.ref 109, .ref 0, .ref 83, .int (nI i)] [] μ := by
  refine (us_aload_n dL_224 rfl).mpr ?_
  refine l_arg (k := 1) (by decide) h9 h0 hL (by omega) dL_225 dL_226 dL_227 dL_228 dL_229 ?_
  refine l_arg (k := 2) (by decide) h9 h0 hL (by omega) dL_230 dL_231 dL_232 dL_233 dL_234 ?_
  refine l_arg (k := 3) (by decide) h9 h0 hL (by omega) dL_235 dL_236 dL_237 dL_238 dL_239 ?_
  refine (us_virt (na := 3) (M := 76) (kd := 11) (rc := 11) (as := [.ref 0, .int (xs (i + 1)), .int (xs (i + 2)), .int (xs (i + 3))]) dL_240 (by decide +kernel) (kind := 1) (by decide +kernel) (by decide +kernel) rfl rfl rfl rfl rfl).mpr ?_
  refine p_cell μ _ I (fun r μ1 q1 hm => ?_)
  have h9' : ∀ j, μ1 109 j = xs j := fun j => by rw [q1 109 (by omega)]; exact h9 j
  have h0' : μ1 110 0 = nI L := by rw [q1 110 (by omega)]; exact h0
  show gc_W (gc_S 100) code 17 1 R 243 [.ref 109, .ref 0, .ref 83, .int (nI i)] [.int r] μ1
  refine (us_aload_n dL_243 rfl).mpr ?_
  refine l_arg (k := 1) (by decide) h9' h0' hL (by omega) dL_244 dL_245 dL_246 dL_247 dL_248 ?_
  refine l_arg (k := 2) (by decide) h9' h0' hL (by omega) dL_249 dL_250 dL_251 dL_252 dL_253 ?_
  refine l_arg (k := 3) (by decide) h9' h0' hL (by omega) dL_254 dL_255 dL_256 dL_257 dL_258 ?_
  refine (us_virt (na := 3) (M := 187) (kd := 12) (rc := 12) (as := [.ref 83, .int (xs (i + 1)), .int (xs (i + 2)), .int (xs (i + 3))]) dL_259 (by decide +kernel) (kind := 1) (by decide +kernel) (by decide +kernel) rfl rfl rfl rfl rfl).mpr ?_
  refine hm _ (fun μ2 I2 q2 => ?_)
  show gc_W (gc_S 100) code 17 1 R 262 [.ref 109, .ref 0, .ref 83, .int (nI i)] [.int r, .int r] μ2
  refine (us_iceq (t := 1606) dL_262 rfl).mpr ?_
  rw [if_pos rfl]
  exact next μ2 I2 (fun j => by rw [q2 109 (by omega)]; exact h9' j) (by rw [q2 110 (by omega)]; exact h0')
theorem l_c1 {xs : Nat → Int32} {L i : Nat} {R : gR} {μ : gM} (hi : i + 5 < L) (hL : L ≤ 3072) (I : q_I μ) (h9 : ∀ j, μ 109 j = xs j) (h0 : μ 110 0 = nI L) (next : l_nx xs L i R) : gc_W (gc_S 100) code 17 1 R 267 [.ref 109, .ref 0, .ref 83, .int (nI i)] [] μ := by
  refine (us_aload_n dL_267 rfl).mpr ?_
  refine l_arg (k := 1) (by decide) h9 h0 hL (by omega) dL_268 dL_269 dL_270 dL_271 dL_272 ?_
  refine l_arg (k := 2) (by decide) h9 h0 hL (by omega) dL_273 dL_274 dL_275 dL_276 dL_277 ?_
  refine (us_virt (na := 2) (M := 77) (kd := 11) (rc := 11) (as := [.ref 0, .int (xs (i + 1)), .int (xs (i + 2))]) dL_278 (by decide +kernel) (kind := 1) (by decide +kernel) (by decide +kernel) rfl rfl rfl rfl rfl).mpr ?_
  refine p_ofCell μ _ I (fun r μ1 q1 hm => ?_)
  have h9' : ∀ j, μ1 109 j = xs j := fun j => by rw [q1 109 (by omega)]; exact h9 j
  have h0' : μ1 110 0 = nI L := by rw [q1 110 (by omega)]; exact h0
  show gc_W (gc_S 100) code 17 1 R 281 [.ref 109, .ref 0, .ref 83, .int (nI i)] [.int r] μ1
  refine (us_aload_n dL_281 rfl).mpr ?_
  refine l_arg (k := 1) (by decide) h9' h0' hL (by omega) dL_282 dL_283 dL_284 dL_285 dL_286 ?_
  refine l_arg (k := 2) (by decide) h9' h0' hL (by omega) dL_287 dL_288 dL_289 dL_290 dL_291 ?_
  refine (us_virt (na := 2) (M := 188) (kd := 12) (rc := 12) (as := [.ref 83, .int (xs (i + 1)), .int (xs (i + 2))]) dL_292 (by decide +kernel) (kind := 1) (by decide +kernel) (by decide +kernel) rfl rfl rfl rfl rfl).mpr ?_
  refine hm _ (fun μ2 I2 q2 => ?_)
  show gc_W (gc_S 100) code 17 1 R 295 [.ref 109, .ref 0, .ref 83, .int (nI i)] [.int r, .int r] μ2
  refine (us_iceq (t := 1606) dL_295 rfl).mpr ?_
  rw [if_pos rfl]
  exact next μ2 I2 (fun j => by rw [q2 109 (by omega)]; exact h9' j) (by rw [q2 110 (by omega)]; exact h0')
theorem l_c2 {xs : Nat → Int32} {L i : Nat} {R : gR} {μ : gM} (hi : i + 5 < L) (hL : L ≤ 3072) (I : q_I μ) (h9 : ∀ j, μ 109 j = xs j) (h0 : μ 110 0 = nI L) (next : l_nx xs L i R) : gc_W (gc_S 100) code 17 1 R 300 [.ref 109, .ref 0, .ref 83, .int (nI i)] [] μ := by
  refine (us_aload_n dL_300 rfl).mpr ?_
  refine l_arg (k := 1) (by decide) h9 h0 hL (by omega) dL_301 dL_302 dL_303 dL_304 dL_305 ?_
  refine l_arg (k := 2) (by decide) h9 h0 hL (by omega) dL_306 dL_307 dL_308 dL_309 dL_310 ?_
  refine (us_virt (na := 2) (M := 78) (kd := 11) (rc := 11) (as := [.ref 0, .int (xs (i + 1)), .int (xs (i + 2))]) dL_311 (by decide +kernel) (kind := 1) (by decide +kernel) (by decide +kernel) rfl rfl rfl rfl rfl).mpr ?_
  refine p_list μ _ I (fun r μ1 q1 hm => ?_)
  have h9' : ∀ j, μ1 109 j = xs j := fun j => by rw [q1 109 (by omega)]; exact h9 j
  have h0' : μ1 110 0 = nI L := by rw [q1 110 (by omega)]; exact h0
  show gc_W (gc_S 100) code 17 1 R 314 [.ref 109, .ref 0, .ref 83, .int (nI i)] [.int r] μ1
  refine (us_aload_n dL_314 rfl).mpr ?_
  refine l_arg (k := 1) (by decide) h9' h0' hL (by omega) dL_315 dL_316 dL_317 dL_318 dL_319 ?_
  refine l_arg (k := 2) (by decide) h9' h0' hL (by omega) dL_320 dL_321 dL_322 dL_323 dL_324 ?_
  refine (us_virt (na := 2) (M := 189) (kd := 12) (rc := 12) (as := [.ref 83, .int (xs (i + 1)), .int (xs (i + 2))]) dL_325 (by decide +kernel) (kind := 1) (by decide +kernel) (by decide +kernel) rfl rfl rfl rfl rfl).mpr ?_
  refine hm _ (fun μ2 I2 q2 => ?_)
  show gc_W (gc_S 100) code 17 1 R 328 [.ref 109, .ref 0, .ref 83, .int (nI i)] [.int r, .int r] μ2
  refine (us_iceq (t := 1606) dL_328 rfl).mpr ?_
  rw [if_pos rfl]
  exact next μ2 I2 (fun j => by rw [q2 109 (by omega)]; exact h9' j) (by rw [q2 110 (by omega)]; exact h0')
theorem l_c3 {xs : Nat → Int32} {L i : Nat} {R : gR} {μ : gM} (hi : i + 5 < L) (hL : L ≤ 3072) (I : q_I μ) (h9 : ∀ j, μ 109 j = xs j) (h0 : μ 110 0 = nI L) (next : l_nx xs L i R) : gc_W (gc_S 100) code 17 1 R 333 [.ref 109, .ref 0, .ref 83, .int (nI i)] [] μ := by
  refine (us_aload_n dL_333 rfl).mpr ?_
  refine l_arg (k := 1) (by decide) h9 h0 hL (by omega) dL_334 dL_335 dL_336 dL_337 dL_338 ?_
  refine (us_virt (na := 1) (M := 79) (kd := 11) (rc := 11) (as := [.ref 0, .int (xs (i + 1))]) dL_339 (by decide +kernel) (kind := 1) (by decide +kernel) (by decide +kernel) rfl rfl rfl rfl rfl).mpr ?_
  refine p_ofList μ _ I (fun r μ1 q1 hm => ?_)
  have h9' : ∀ j, μ1 109 j = xs j := fun j => by rw [q1 109 (by omega)]; exact h9 j
  have h0' : μ1 110 0 = nI L := by rw [q1 110 (by omega)]; exact h0
  show gc_W (gc_S 100) code 17 1 R 342 [.ref 109, .ref 0, .ref 83, .int (nI i)] [.int r] μ1
  refine (us_aload_n dL_342 rfl).mpr ?_
  refine l_arg (k := 1) (by decide) h9' h0' hL (by omega) dL_343 dL_344 dL_345 dL_346 dL_347 ?_
  refine (us_virt (na := 1) (M := 190) (kd := 12) (rc := 12) (as := [.ref 83, .int (xs (i + 1))]) dL_348 (by decide +kernel) (kind := 1) (by decide +kernel) (by decide +kernel) rfl rfl rfl rfl rfl).mpr ?_
  refine hm _ (fun μ2 I2 q2 => ?_)
  show gc_W (gc_S 100) code 17 1 R 351 [.ref 109, .ref 0, .ref 83, .int (nI i)] [.int r, .int r] μ2
  refine (us_iceq (t := 1606) dL_351 rfl).mpr ?_
  rw [if_pos rfl]
  exact next μ2 I2 (fun j => by rw [q2 109 (by omega)]; exact h9' j) (by rw [q2 110 (by omega)]; exact h0')
theorem l_c4 {xs : Nat → Int32} {L i : Nat} {R : gR} {μ : gM} (hi : i + 5 < L) (hL : L ≤ 3072) (I : q_I μ) (h9 : ∀ j, μ 109 j = xs j) (h0 : μ 110 0 = nI L) (next : l_nx xs L i R) : gc_W (gc_S 100) code 17 1 R 356 [.ref 109, .ref 0, .ref 83, .int (nI i)] [] μ := by
  refine (us_aload_n dL_356 rfl).mpr ?_
  refine l_arg (k := 1) (by decide) h9 h0 hL (by omega) dL_357 dL_358 dL_359 dL_360 dL_361 ?_
  refine l_arg (k := 2) (by decide) h9 h0 hL (by omega) dL_362 dL_363 dL_364 dL_365 dL_366 ?_
  refine l_arg (k := 3) (by decide) h9 h0 hL (by omega) dL_367 dL_368 dL_369 dL_370 dL_371 ?_
  refine (us_virt (na := 3) (M := 81) (kd := 11) (rc := 11) (as := [.ref 0, .int (xs (i + 1)), .int (xs (i + 2)), .int (xs (i + 3))]) dL_372 (by decide +kernel) (kind := 1) (by decide +kernel) (by decide +kernel) rfl rfl rfl rfl rfl).mpr ?_
  refine p_mourner μ _ I (fun r μ1 q1 hm => ?_)
  have h9' : ∀ j, μ1 109 j = xs j := fun j => by rw [q1 109 (by omega)]; exact h9 j
  have h0' : μ1 110 0 = nI L := by rw [q1 110 (by omega)]; exact h0
  show gc_W (gc_S 100) code 17 1 R 375 [.ref 109, .ref 0, .ref 83, .int (nI i)] [.int r] μ1
  refine (us_aload_n dL_375 rfl).mpr ?_
  refine l_arg (k := 1) (by decide) h9' h0' hL (by omega) dL_376 dL_377 dL_378 dL_379 dL_380 ?_
  refine l_arg (k := 2) (by decide) h9' h0' hL (by omega) dL_381 dL_382 dL_383 dL_384 dL_385 ?_
  refine l_arg (k := 3) (by decide) h9' h0' hL (by omega) dL_386 dL_387 dL_388 dL_389 dL_390 ?_
  refine (us_virt (na := 3) (M := 192) (kd := 12) (rc := 12) (as := [.ref 83, .int (xs (i + 1)), .int (xs (i + 2)), .int (xs (i + 3))]) dL_391 (by decide +kernel) (kind := 1) (by decide +kernel) (by decide +kernel) rfl rfl rfl rfl rfl).mpr ?_
  refine hm _ (fun μ2 I2 q2 => ?_)
  show gc_W (gc_S 100) code 17 1 R 394 [.ref 109, .ref 0, .ref 83, .int (nI i)] [.int r, .int r] μ2
  refine (us_iceq (t := 1606) dL_394 rfl).mpr ?_
  rw [if_pos rfl]
  exact next μ2 I2 (fun j => by rw [q2 109 (by omega)]; exact h9' j) (by rw [q2 110 (by omega)]; exact h0')
theorem l_c5 {xs : Nat → Int32} {L i : Nat} {R : gR} {μ : gM} (hi : i + 5 < L) (hL : L ≤ 3072) (I : q_I μ) (h9 : ∀ j, μ 109 j = xs j) (h0 : μ 110 0 = nI L) (next : l_nx xs L i R) : gc_W (gc_S 100) code 17 1 R 399 [.ref 109, .ref 0, .ref 83, .int (nI i)] [] μ := by
  refine (us_aload_n dL_399 rfl).mpr ?_
  refine l_arg (k := 1) (by decide) h9 h0 hL (by omega) dL_400 dL_401 dL_402 dL_403 dL_404 ?_
  refine l_arg (k := 2) (by decide) h9 h0 hL (by omega) dL_405 dL_406 dL_407 dL_408 dL_409 ?_
  refine (us_virt (na := 2) (M := 83) (kd := 11) (rc := 11) (as := [.ref 0, .int (xs (i + 1)), .int (xs (i + 2))]) dL_410 (by decide +kernel) (kind := 1) (by decide +kernel) (by decide +kernel) rfl rfl rfl rfl rfl).mpr ?_
  refine p_ofMourner μ _ I (fun r μ1 q1 hm => ?_)
  have h9' : ∀ j, μ1 109 j = xs j := fun j => by rw [q1 109 (by omega)]; exact h9 j
  have h0' : μ1 110 0 = nI L := by rw [q1 110 (by omega)]; exact h0
  show gc_W (gc_S 100) code 17 1 R 413 [.ref 109, .ref 0, .ref 83, .int (nI i)] [.int r] μ1
  refine (us_aload_n dL_413 rfl).mpr ?_
  refine l_arg (k := 1) (by decide) h9' h0' hL (by omega) dL_414 dL_415 dL_416 dL_417 dL_418 ?_
  refine l_arg (k := 2) (by decide) h9' h0' hL (by omega) dL_419 dL_420 dL_421 dL_422 dL_423 ?_
  refine (us_virt (na := 2) (M := 193) (kd := 12) (rc := 12) (as := [.ref 83, .int (xs (i + 1)), .int (xs (i + 2))]) dL_424 (by decide +kernel) (kind := 1) (by decide +kernel) (by decide +kernel) rfl rfl rfl rfl rfl).mpr ?_
  refine hm _ (fun μ2 I2 q2 => ?_)
  show gc_W (gc_S 100) code 17 1 R 427 [.ref 109, .ref 0, .ref 83, .int (nI i)] [.int r, .int r] μ2
  refine (us_iceq (t := 1606) dL_427 rfl).mpr ?_
  rw [if_pos rfl]
  exact next μ2 I2 (fun j => by rw [q2 109 (by omega)]; exact h9' j) (by rw [q2 110 (by omega)]; exact h0')
theorem l_c6 {xs : Nat → Int32} {L i : Nat} {R : gR} {μ : gM} (hi : i + 5 < L) (hL : L ≤ 3072) (I : q_I μ) (h9 : ∀ j, μ 109 j = xs j) (h0 : μ 110 0 = nI L) (next : l_nx xs L i R) : gc_W (gc_S 100) code 17 1 R 432 [.ref 109, .ref 0, .ref 83, .int (nI i)] [] μ := by
  refine (us_aload_n dL_432 rfl).mpr ?_
  refine l_arg (k := 1) (by decide) h9 h0 hL (by omega) dL_433 dL_434 dL_435 dL_436 dL_437 ?_
  refine l_arg (k := 2) (by decide) h9 h0 hL (by omega) dL_438 dL_439 dL_440 dL_441 dL_442 ?_
  refine l_arg (k := 3) (by decide) h9 h0 hL (by omega) dL_443 dL_444 dL_445 dL_446 dL_447 ?_
  refine (us_virt (na := 3) (M := 84) (kd := 11) (rc := 11) (as := [.ref 0, .int (xs (i + 1)), .int (xs (i + 2)), .int (xs (i + 3))]) dL_448 (by decide +kernel) (kind := 1) (by decide +kernel) (by decide +kernel) rfl rfl rfl rfl rfl).mpr ?_
  refine p_change μ _ I (fun r μ1 q1 hm => ?_)
  have h9' : ∀ j, μ1 109 j = xs j := fun j => by rw [q1 109 (by omega)]; exact h9 j
  have h0' : μ1 110 0 = nI L := by rw [q1 110 (by omega)]; exact h0
  show gc_W (gc_S 100) code 17 1 R 451 [.ref 109, .ref 0, .ref 83, .int (nI i)] [.int r] μ1
  refine (us_aload_n dL_451 rfl).mpr ?_
  refine l_arg (k := 1) (by decide) h9' h0' hL (by omega) dL_452 dL_453 dL_454 dL_455 dL_456 ?_
  refine l_arg (k := 2) (by decide) h9' h0' hL (by omega) dL_457 dL_458 dL_459 dL_460 dL_461 ?_
  refine l_arg (k := 3) (by decide) h9' h0' hL (by omega) dL_462 dL_463 dL_464 dL_465 dL_466 ?_
  refine (us_virt (na := 3) (M := 194) (kd := 12) (rc := 12) (as := [.ref 83, .int (xs (i + 1)), .int (xs (i + 2)), .int (xs (i + 3))]) dL_467 (by decide +kernel) (kind := 1) (by decide +kernel) (by decide +kernel) rfl rfl rfl rfl rfl).mpr ?_
  refine hm _ (fun μ2 I2 q2 => ?_)
  show gc_W (gc_S 100) code 17 1 R 470 [.ref 109, .ref 0, .ref 83, .int (nI i)] [.int r, .int r] μ2
  refine (us_iceq (t := 1606) dL_470 rfl).mpr ?_
  rw [if_pos rfl]
  exact next μ2 I2 (fun j => by rw [q2 109 (by omega)]; exact h9' j) (by rw [q2 110 (by omega)]; exact h0')
theorem l_c7 {xs : Nat → Int32} {L i : Nat} {R : gR} {μ : gM} (hi : i + 5 < L) (hL : L ≤ 3072) (I : q_I μ) (h9 : ∀ j, μ 109 j = xs j) (h0 : μ 110 0 = nI L) (next : l_nx xs L i R) : gc_W (gc_S 100) code 17 1 R 475 [.ref 109, .ref 0, .ref 83, .int (nI i)] [] μ := by
  refine (us_aload_n dL_475 rfl).mpr ?_
  refine l_arg (k := 1) (by decide) h9 h0 hL (by omega) dL_476 dL_477 dL_478 dL_479 dL_480 ?_
  refine l_arg (k := 2) (by decide) h9 h0 hL (by omega) dL_481 dL_482 dL_483 dL_484 dL_485 ?_
  refine (us_virt (na := 2) (M := 85) (kd := 11) (rc := 11) (as := [.ref 0, .int (xs (i + 1)), .int (xs (i + 2))]) dL_486 (by decide +kernel) (kind := 1) (by decide +kernel) (by decide +kernel) rfl rfl rfl rfl rfl).mpr ?_
  refine p_become μ _ I (fun r μ1 q1 hm => ?_)
  have h9' : ∀ j, μ1 109 j = xs j := fun j => by rw [q1 109 (by omega)]; exact h9 j
  have h0' : μ1 110 0 = nI L := by rw [q1 110 (by omega)]; exact h0
  show gc_W (gc_S 100) code 17 1 R 489 [.ref 109, .ref 0, .ref 83, .int (nI i)] [.int r] μ1
  refine (us_aload_n dL_489 rfl).mpr ?_
  refine l_arg (k := 1) (by decide) h9' h0' hL (by omega) dL_490 dL_491 dL_492 dL_493 dL_494 ?_
  refine l_arg (k := 2) (by decide) h9' h0' hL (by omega) dL_495 dL_496 dL_497 dL_498 dL_499 ?_
  refine (us_virt (na := 2) (M := 195) (kd := 12) (rc := 12) (as := [.ref 83, .int (xs (i + 1)), .int (xs (i + 2))]) dL_500 (by decide +kernel) (kind := 1) (by decide +kernel) (by decide +kernel) rfl rfl rfl rfl rfl).mpr ?_
  refine hm _ (fun μ2 I2 q2 => ?_)
  show gc_W (gc_S 100) code 17 1 R 503 [.ref 109, .ref 0, .ref 83, .int (nI i)] [.int r, .int r] μ2
  refine (us_iceq (t := 1606) dL_503 rfl).mpr ?_
  rw [if_pos rfl]
  exact next μ2 I2 (fun j => by rw [q2 109 (by omega)]; exact h9' j) (by rw [q2 110 (by omega)]; exact h0')
theorem l_c8 {xs : Nat → Int32} {L i : Nat} {R : gR} {μ : gM} (hi : i + 5 < L) (hL : L ≤ 3072) (I : q_I μ) (h9 : ∀ j, μ 109 j = xs j) (h0 : μ 110 0 = nI L) (next : l_nx xs L i R) : gc_W (gc_S 100) code 17 1 R 508 [.ref 109, .ref 0, .ref 83, .int (nI i)] [] μ := by
  refine (us_aload_n dL_508 rfl).mpr ?_
  refine l_arg (k := 1) (by decide) h9 h0 hL (by omega) dL_509 dL_510 dL_511 dL_512 dL_513 ?_
  refine l_arg (k := 2) (by decide) h9 h0 hL (by omega) dL_514 dL_515 dL_516 dL_517 dL_518 ?_
  refine (us_virt (na := 2) (M := 87) (kd := 11) (rc := 11) (as := [.ref 0, .int (xs (i + 1)), .int (xs (i + 2))]) dL_519 (by decide +kernel) (kind := 1) (by decide +kernel) (by decide +kernel) rfl rfl rfl rfl rfl).mpr ?_
  refine p_as μ _ I (fun r μ1 q1 hm => ?_)
  have h9' : ∀ j, μ1 109 j = xs j := fun j => by rw [q1 109 (by omega)]; exact h9 j
  have h0' : μ1 110 0 = nI L := by rw [q1 110 (by omega)]; exact h0
  show gc_W (gc_S 100) code 17 1 R 522 [.ref 109, .ref 0, .ref 83, .int (nI i)] [.int r] μ1
  refine (us_aload_n dL_522 rfl).mpr ?_
  refine l_arg (k := 1) (by decide) h9' h0' hL (by omega) dL_523 dL_524 dL_525 dL_526 dL_527 ?_
  refine l_arg (k := 2) (by decide) h9' h0' hL (by omega) dL_528 dL_529 dL_530 dL_531 dL_532 ?_
  refine (us_virt (na := 2) (M := 196) (kd := 12) (rc := 12) (as := [.ref 83, .int (xs (i + 1)), .int (xs (i + 2))]) dL_533 (by decide +kernel) (kind := 1) (by decide +kernel) (by decide +kernel) rfl rfl rfl rfl rfl).mpr ?_
  refine hm _ (fun μ2 I2 q2 => ?_)
  show gc_W (gc_S 100) code 17 1 R 536 [.ref 109, .ref 0, .ref 83, .int (nI i)] [.int r, .int r] μ2
  refine (us_iceq (t := 1606) dL_536 rfl).mpr ?_
  rw [if_pos rfl]
  exact next μ2 I2 (fun j => by rw [q2 109 (by omega)]; exact h9' j) (by rw [q2 110 (by omega)]; exact h0')
theorem l_c9 {xs : Nat → Int32} {L i : Nat} {R : gR} {μ : gM} (hi : i + 5 < L) (hL : L ≤ 3072) (I : q_I μ) (h9 : ∀ j, μ 109 j = xs j) (h0 : μ 110 0 = nI L) (next : l_nx xs L i R) : gc_W (gc_S 100) code 17 1 R 541 [.ref 109, .ref 0, .ref 83, .int (nI i)] [] μ := by
  refine (us_aload_n dL_541 rfl).mpr ?_
  refine l_arg (k := 1) (by decide) h9 h0 hL (by omega) dL_542 dL_543 dL_544 dL_545 dL_546 ?_
  refine (us_i2l dL_547).mpr ?_
  refine (us_bipush (v := 32) dL_548 (by decide)).mpr ?_
  refine (us_lshl dL_550).mpr ?_
  refine l_arg (k := 2) (by decide) h9 h0 hL (by omega) dL_551 dL_552 dL_553 dL_554 dL_555 ?_
  refine (us_i2l dL_556).mpr ?_
  refine (us_ldc2 (v := 4294967295) dL_557 (by decide +kernel)).mpr ?_
  refine (us_land dL_560).mpr ?_
  refine (us_lor dL_561).mpr ?_
  refine l_arg (k := 3) (by decide) h9 h0 hL (by omega) dL_562 dL_563 dL_564 dL_565 dL_566 ?_
  refine (us_virt (na := 2) (M := 88) (kd := 11) (rc := 11) (as := [.ref 0, .long ((xs (i + 1)).toInt64 <<< ((32 : Int32).toInt64 &&& 63) ||| (xs (i + 2)).toInt64 &&& 4294967295), .int (xs (i + 3))]) dL_567 (by decide +kernel) (kind := 1) (by decide +kernel) (by decide +kernel) rfl rfl rfl rfl rfl).mpr ?_
  refine p_feed μ _ I (fun r μ1 q1 hm => ?_)
  have h9' : ∀ j, μ1 109 j = xs j := fun j => by rw [q1 109 (by omega)]; exact h9 j
  have h0' : μ1 110 0 = nI L := by rw [q1 110 (by omega)]; exact h0
  show gc_W (gc_S 100) code 17 1 R 570 [.ref 109, .ref 0, .ref 83, .int (nI i)] [.int r] μ1
  refine (us_aload_n dL_570 rfl).mpr ?_
  refine l_arg (k := 1) (by decide) h9' h0' hL (by omega) dL_571 dL_572 dL_573 dL_574 dL_575 ?_
  refine (us_i2l dL_576).mpr ?_
  refine (us_bipush (v := 32) dL_577 (by decide)).mpr ?_
  refine (us_lshl dL_579).mpr ?_
  refine l_arg (k := 2) (by decide) h9' h0' hL (by omega) dL_580 dL_581 dL_582 dL_583 dL_584 ?_
  refine (us_i2l dL_585).mpr ?_
  refine (us_ldc2 (v := 4294967295) dL_586 (by decide +kernel)).mpr ?_
  refine (us_land dL_589).mpr ?_
  refine (us_lor dL_590).mpr ?_
  refine l_arg (k := 3) (by decide) h9' h0' hL (by omega) dL_591 dL_592 dL_593 dL_594 dL_595 ?_
  refine (us_virt (na := 2) (M := 168) (kd := 12) (rc := 12) (as := [.ref 83, .long ((xs (i + 1)).toInt64 <<< ((32 : Int32).toInt64 &&& 63) ||| (xs (i + 2)).toInt64 &&& 4294967295), .int (xs (i + 3))]) dL_596 (by decide +kernel) (kind := 1) (by decide +kernel) (by decide +kernel) rfl rfl rfl rfl rfl).mpr ?_
  refine hm _ (fun μ2 I2 q2 => ?_)
  show gc_W (gc_S 100) code 17 1 R 599 [.ref 109, .ref 0, .ref 83, .int (nI i)] [.int r, .int r] μ2
  refine (us_iceq (t := 1606) dL_599 rfl).mpr ?_
  rw [if_pos rfl]
  exact next μ2 I2 (fun j => by rw [q2 109 (by omega)]; exact h9' j) (by rw [q2 110 (by omega)]; exact h0')
theorem l_c10 {xs : Nat → Int32} {L i : Nat} {R : gR} {μ : gM} (hi : i + 5 < L) (hL : L ≤ 3072) (I : q_I μ) (h9 : ∀ j, μ 109 j = xs j) (h0 : μ 110 0 = nI L) (next : l_nx xs L i R) : gc_W (gc_S 100) code 17 1 R 604 [.ref 109, .ref 0, .ref 83, .int (nI i)] [] μ := by
  refine (us_aload_n dL_604 rfl).mpr ?_
  refine l_arg (k := 1) (by decide) h9 h0 hL (by omega) dL_605 dL_606 dL_607 dL_608 dL_609 ?_
  refine (us_virt (na := 1) (M := 90) (kd := 11) (rc := 11) (as := [.ref 0, .int (xs (i + 1))]) dL_610 (by decide +kernel) (kind := 1) (by decide +kernel) (by decide +kernel) rfl rfl rfl rfl rfl).mpr ?_
  refine p_text μ _ I (fun r μ1 q1 hm => ?_)
  have h9' : ∀ j, μ1 109 j = xs j := fun j => by rw [q1 109 (by omega)]; exact h9 j
  have h0' : μ1 110 0 = nI L := by rw [q1 110 (by omega)]; exact h0
  show gc_W (gc_S 100) code 17 1 R 613 [.ref 109, .ref 0, .ref 83, .int (nI i)] [.int r] μ1
  refine (us_aload_n dL_613 rfl).mpr ?_
  refine l_arg (k := 1) (by decide) h9' h0' hL (by omega) dL_614 dL_615 dL_616 dL_617 dL_618 ?_
  refine (us_virt (na := 1) (M := 169) (kd := 12) (rc := 12) (as := [.ref 83, .int (xs (i + 1))]) dL_619 (by decide +kernel) (kind := 1) (by decide +kernel) (by decide +kernel) rfl rfl rfl rfl rfl).mpr ?_
  refine hm _ (fun μ2 I2 q2 => ?_)
  show gc_W (gc_S 100) code 17 1 R 622 [.ref 109, .ref 0, .ref 83, .int (nI i)] [.int r, .int r] μ2
  refine (us_iceq (t := 1606) dL_622 rfl).mpr ?_
  rw [if_pos rfl]
  exact next μ2 I2 (fun j => by rw [q2 109 (by omega)]; exact h9' j) (by rw [q2 110 (by omega)]; exact h0')
theorem l_c11 {xs : Nat → Int32} {L i : Nat} {R : gR} {μ : gM} (hi : i + 5 < L) (hL : L ≤ 3072) (I : q_I μ) (h9 : ∀ j, μ 109 j = xs j) (h0 : μ 110 0 = nI L) (next : l_nx xs L i R) : gc_W (gc_S 100) code 17 1 R 627 [.ref 109, .ref 0, .ref 83, .int (nI i)] [] μ := by
  refine (us_aload_n dL_627 rfl).mpr ?_
  refine l_arg (k := 1) (by decide) h9 h0 hL (by omega) dL_628 dL_629 dL_630 dL_631 dL_632 ?_
  refine l_arg (k := 2) (by decide) h9 h0 hL (by omega) dL_633 dL_634 dL_635 dL_636 dL_637 ?_
  refine l_arg (k := 3) (by decide) h9 h0 hL (by omega) dL_638 dL_639 dL_640 dL_641 dL_642 ?_
  refine l_arg (k := 4) (by decide) h9 h0 hL (by omega) dL_643 dL_644 dL_645 dL_646 dL_647 ?_
  refine (us_virt (na := 4) (M := 91) (kd := 11) (rc := 11) (as := [.ref 0, .int (xs (i + 1)), .int (xs (i + 2)), .int (xs (i + 3)), .int (xs (i + 4))]) dL_648 (by decide +kernel) (kind := 1) (by decide +kernel) (by decide +kernel) rfl rfl rfl rfl rfl).mpr ?_
  refine p_law μ _ I (fun r μ1 q1 hm => ?_)
  have h9' : ∀ j, μ1 109 j = xs j := fun j => by rw [q1 109 (by omega)]; exact h9 j
  have h0' : μ1 110 0 = nI L := by rw [q1 110 (by omega)]; exact h0
  show gc_W (gc_S 100) code 17 1 R 651 [.ref 109, .ref 0, .ref 83, .int (nI i)] [.int r] μ1
  refine (us_aload_n dL_651 rfl).mpr ?_
  refine l_arg (k := 1) (by decide) h9' h0' hL (by omega) dL_652 dL_653 dL_654 dL_655 dL_656 ?_
  refine l_arg (k := 2) (by decide) h9' h0' hL (by omega) dL_657 dL_658 dL_659 dL_660 dL_661 ?_
  refine l_arg (k := 3) (by decide) h9' h0' hL (by omega) dL_662 dL_663 dL_664 dL_665 dL_666 ?_
  refine l_arg (k := 4) (by decide) h9' h0' hL (by omega) dL_667 dL_668 dL_669 dL_670 dL_671 ?_
  refine (us_virt (na := 4) (M := 171) (kd := 12) (rc := 12) (as := [.ref 83, .int (xs (i + 1)), .int (xs (i + 2)), .int (xs (i + 3)), .int (xs (i + 4))]) dL_672 (by decide +kernel) (kind := 1) (by decide +kernel) (by decide +kernel) rfl rfl rfl rfl rfl).mpr ?_
  refine hm _ (fun μ2 I2 q2 => ?_)
  show gc_W (gc_S 100) code 17 1 R 675 [.ref 109, .ref 0, .ref 83, .int (nI i)] [.int r, .int r] μ2
  refine (us_iceq (t := 1606) dL_675 rfl).mpr ?_
  rw [if_pos rfl]
  exact next μ2 I2 (fun j => by rw [q2 109 (by omega)]; exact h9' j) (by rw [q2 110 (by omega)]; exact h0')
theorem l_c12 {xs : Nat → Int32} {L i : Nat} {R : gR} {μ : gM} (hi : i + 5 < L) (hL : L ≤ 3072) (I : q_I μ) (h9 : ∀ j, μ 109 j = xs j) (h0 : μ 110 0 = nI L) (next : l_nx xs L i R) : gc_W (gc_S 100) code 17 1 R 680 [.ref 109, .ref 0, .ref 83, .int (nI i)] [] μ := by
  refine (us_aload_n dL_680 rfl).mpr ?_
  refine l_arg (k := 1) (by decide) h9 h0 hL (by omega) dL_681 dL_682 dL_683 dL_684 dL_685 ?_
  refine (us_virt (na := 1) (M := 92) (kd := 11) (rc := 11) (as := [.ref 0, .int (xs (i + 1))]) dL_686 (by decide +kernel) (kind := 1) (by decide +kernel) (by decide +kernel) rfl rfl rfl rfl rfl).mpr ?_
  refine p_years μ _ I (fun r μ1 q1 hm => ?_)
  have h9' : ∀ j, μ1 109 j = xs j := fun j => by rw [q1 109 (by omega)]; exact h9 j
  have h0' : μ1 110 0 = nI L := by rw [q1 110 (by omega)]; exact h0
  show gc_W (gc_S 100) code 17 1 R 689 [.ref 109, .ref 0, .ref 83, .int (nI i)] [.int r] μ1
  refine (us_aload_n dL_689 rfl).mpr ?_
  refine l_arg (k := 1) (by decide) h9' h0' hL (by omega) dL_690 dL_691 dL_692 dL_693 dL_694 ?_
  refine (us_virt (na := 1) (M := 198) (kd := 12) (rc := 12) (as := [.ref 83, .int (xs (i + 1))]) dL_695 (by decide +kernel) (kind := 1) (by decide +kernel) (by decide +kernel) rfl rfl rfl rfl rfl).mpr ?_
  refine hm _ (fun μ2 I2 q2 => ?_)
  show gc_W (gc_S 100) code 17 1 R 698 [.ref 109, .ref 0, .ref 83, .int (nI i)] [.int r, .int r] μ2
  refine (us_iceq (t := 1606) dL_698 rfl).mpr ?_
  rw [if_pos rfl]
  exact next μ2 I2 (fun j => by rw [q2 109 (by omega)]; exact h9' j) (by rw [q2 110 (by omega)]; exact h0')
theorem l_c13 {xs : Nat → Int32} {L i : Nat} {R : gR} {μ : gM} (hi : i + 5 < L) (hL : L ≤ 3072) (I : q_I μ) (h9 : ∀ j, μ 109 j = xs j) (h0 : μ 110 0 = nI L) (next : l_nx xs L i R) : gc_W (gc_S 100) code 17 1 R 703 [.ref 109, .ref 0, .ref 83, .int (nI i)] [] μ := by
  refine (us_aload_n dL_703 rfl).mpr ?_
  refine l_arg (k := 1) (by decide) h9 h0 hL (by omega) dL_704 dL_705 dL_706 dL_707 dL_708 ?_
  refine (us_virt (na := 1) (M := 93) (kd := 11) (rc := 11) (as := [.ref 0, .int (xs (i + 1))]) dL_709 (by decide +kernel) (kind := 1) (by decide +kernel) (by decide +kernel) rfl rfl rfl rfl rfl).mpr ?_
  refine p_loose μ _ I (fun r μ1 q1 hm => ?_)
  have h9' : ∀ j, μ1 109 j = xs j := fun j => by rw [q1 109 (by omega)]; exact h9 j
  have h0' : μ1 110 0 = nI L := by rw [q1 110 (by omega)]; exact h0
  show gc_W (gc_S 100) code 17 1 R 712 [.ref 109, .ref 0, .ref 83, .int (nI i)] [.int r] μ1
  refine (us_aload_n dL_712 rfl).mpr ?_
  refine l_arg (k := 1) (by decide) h9' h0' hL (by omega) dL_713 dL_714 dL_715 dL_716 dL_717 ?_
  refine (us_virt (na := 1) (M := 200) (kd := 12) (rc := 12) (as := [.ref 83, .int (xs (i + 1))]) dL_718 (by decide +kernel) (kind := 1) (by decide +kernel) (by decide +kernel) rfl rfl rfl rfl rfl).mpr ?_
  refine hm _ (fun μ2 I2 q2 => ?_)
  show gc_W (gc_S 100) code 17 1 R 721 [.ref 109, .ref 0, .ref 83, .int (nI i)] [.int r, .int r] μ2
  refine (us_iceq (t := 1606) dL_721 rfl).mpr ?_
  rw [if_pos rfl]
  exact next μ2 I2 (fun j => by rw [q2 109 (by omega)]; exact h9' j) (by rw [q2 110 (by omega)]; exact h0')
theorem l_c14 {xs : Nat → Int32} {L i : Nat} {R : gR} {μ : gM} (hi : i + 5 < L) (hL : L ≤ 3072) (I : q_I μ) (h9 : ∀ j, μ 109 j = xs j) (h0 : μ 110 0 = nI L) (next : l_nx xs L i R) : gc_W (gc_S 100) code 17 1 R 726 [.ref 109, .ref 0, .ref 83, .int (nI i)] [] μ := by
  refine (us_aload_n dL_726 rfl).mpr ?_
  refine l_arg (k := 1) (by decide) h9 h0 hL (by omega) dL_727 dL_728 dL_729 dL_730 dL_731 ?_
  refine l_arg (k := 2) (by decide) h9 h0 hL (by omega) dL_732 dL_733 dL_734 dL_735 dL_736 ?_
  refine (us_virt (na := 2) (M := 95) (kd := 11) (rc := 11) (as := [.ref 0, .int (xs (i + 1)), .int (xs (i + 2))]) dL_737 (by decide +kernel) (kind := 1) (by decide +kernel) (by decide +kernel) rfl rfl rfl rfl rfl).mpr ?_
  refine p_then μ _ I (fun r μ1 q1 hm => ?_)
  have h9' : ∀ j, μ1 109 j = xs j := fun j => by rw [q1 109 (by omega)]; exact h9 j
  have h0' : μ1 110 0 = nI L := by rw [q1 110 (by omega)]; exact h0
  show gc_W (gc_S 100) code 17 1 R 740 [.ref 109, .ref 0, .ref 83, .int (nI i)] [.int r] μ1
  refine (us_aload_n dL_740 rfl).mpr ?_
  refine l_arg (k := 1) (by decide) h9' h0' hL (by omega) dL_741 dL_742 dL_743 dL_744 dL_745 ?_
  refine l_arg (k := 2) (by decide) h9' h0' hL (by omega) dL_746 dL_747 dL_748 dL_749 dL_750 ?_
  refine (us_virt (na := 2) (M := 203) (kd := 12) (rc := 12) (as := [.ref 83, .int (xs (i + 1)), .int (xs (i + 2))]) dL_751 (by decide +kernel) (kind := 1) (by decide +kernel) (by decide +kernel) rfl rfl rfl rfl rfl).mpr ?_
  refine hm _ (fun μ2 I2 q2 => ?_)
  show gc_W (gc_S 100) code 17 1 R 754 [.ref 109, .ref 0, .ref 83, .int (nI i)] [.int r, .int r] μ2
  refine (us_iceq (t := 1606) dL_754 rfl).mpr ?_
  rw [if_pos rfl]
  exact next μ2 I2 (fun j => by rw [q2 109 (by omega)]; exact h9' j) (by rw [q2 110 (by omega)]; exact h0')
theorem l_c15 {xs : Nat → Int32} {L i : Nat} {R : gR} {μ : gM} (hi : i + 5 < L) (hL : L ≤ 3072) (I : q_I μ) (h9 : ∀ j, μ 109 j = xs j) (h0 : μ 110 0 = nI L) (next : l_nx xs L i R) : gc_W (gc_S 100) code 17 1 R 759 [.ref 109, .ref 0, .ref 83, .int (nI i)] [] μ := by
  refine (us_aload_n dL_759 rfl).mpr ?_
  refine l_arg (k := 1) (by decide) h9 h0 hL (by omega) dL_760 dL_761 dL_762 dL_763 dL_764 ?_
  refine l_arg (k := 2) (by decide) h9 h0 hL (by omega) dL_765 dL_766 dL_767 dL_768 dL_769 ?_
  refine (us_virt (na := 2) (M := 96) (kd := 11) (rc := 11) (as := [.ref 0, .int (xs (i + 1)), .int (xs (i + 2))]) dL_770 (by decide +kernel) (kind := 1) (by decide +kernel) (by decide +kernel) rfl rfl rfl rfl rfl).mpr ?_
  refine p_all μ _ I (fun r μ1 q1 hm => ?_)
  have h9' : ∀ j, μ1 109 j = xs j := fun j => by rw [q1 109 (by omega)]; exact h9 j
  have h0' : μ1 110 0 = nI L := by rw [q1 110 (by omega)]; exact h0
  show gc_W (gc_S 100) code 17 1 R 773 [.ref 109, .ref 0, .ref 83, .int (nI i)] [.int r] μ1
  refine (us_aload_n dL_773 rfl).mpr ?_
  refine l_arg (k := 1) (by decide) h9' h0' hL (by omega) dL_774 dL_775 dL_776 dL_777 dL_778 ?_
  refine l_arg (k := 2) (by decide) h9' h0' hL (by omega) dL_779 dL_780 dL_781 dL_782 dL_783 ?_
  refine (us_virt (na := 2) (M := 204) (kd := 12) (rc := 12) (as := [.ref 83, .int (xs (i + 1)), .int (xs (i + 2))]) dL_784 (by decide +kernel) (kind := 1) (by decide +kernel) (by decide +kernel) rfl rfl rfl rfl rfl).mpr ?_
  refine hm _ (fun μ2 I2 q2 => ?_)
  show gc_W (gc_S 100) code 17 1 R 787 [.ref 109, .ref 0, .ref 83, .int (nI i)] [.int r, .int r] μ2
  refine (us_iceq (t := 1606) dL_787 rfl).mpr ?_
  rw [if_pos rfl]
  exact next μ2 I2 (fun j => by rw [q2 109 (by omega)]; exact h9' j) (by rw [q2 110 (by omega)]; exact h0')
theorem l_c16 {xs : Nat → Int32} {L i : Nat} {R : gR} {μ : gM} (hi : i + 5 < L) (hL : L ≤ 3072) (I : q_I μ) (h9 : ∀ j, μ 109 j = xs j) (h0 : μ 110 0 = nI L) (next : l_nx xs L i R) : gc_W (gc_S 100) code 17 1 R 792 [.ref 109, .ref 0, .ref 83, .int (nI i)] [] μ := by
  refine (us_aload_n dL_792 rfl).mpr ?_
  refine l_arg (k := 1) (by decide) h9 h0 hL (by omega) dL_793 dL_794 dL_795 dL_796 dL_797 ?_
  refine (us_virt (na := 1) (M := 98) (kd := 11) (rc := 11) (as := [.ref 0, .int (xs (i + 1))]) dL_798 (by decide +kernel) (kind := 1) (by decide +kernel) (by decide +kernel) rfl rfl rfl rfl rfl).mpr ?_
  refine p_dry μ _ I (fun r μ1 q1 hm => ?_)
  have h9' : ∀ j, μ1 109 j = xs j := fun j => by rw [q1 109 (by omega)]; exact h9 j
  have h0' : μ1 110 0 = nI L := by rw [q1 110 (by omega)]; exact h0
  show gc_W (gc_S 100) code 17 1 R 801 [.ref 109, .ref 0, .ref 83, .int (nI i)] [.int r] μ1
  refine (us_aload_n dL_801 rfl).mpr ?_
  refine l_arg (k := 1) (by decide) h9' h0' hL (by omega) dL_802 dL_803 dL_804 dL_805 dL_806 ?_
  refine (us_virt (na := 1) (M := 206) (kd := 12) (rc := 12) (as := [.ref 83, .int (xs (i + 1))]) dL_807 (by decide +kernel) (kind := 1) (by decide +kernel) (by decide +kernel) rfl rfl rfl rfl rfl).mpr ?_
  refine hm _ (fun μ2 I2 q2 => ?_)
  show gc_W (gc_S 100) code 17 1 R 810 [.ref 109, .ref 0, .ref 83, .int (nI i)] [.int r, .int r] μ2
  refine (us_iceq (t := 1606) dL_810 rfl).mpr ?_
  rw [if_pos rfl]
  exact next μ2 I2 (fun j => by rw [q2 109 (by omega)]; exact h9' j) (by rw [q2 110 (by omega)]; exact h0')
theorem l_c17 {xs : Nat → Int32} {L i : Nat} {R : gR} {μ : gM} (hi : i + 5 < L) (hL : L ≤ 3072) (I : q_I μ) (h9 : ∀ j, μ 109 j = xs j) (h0 : μ 110 0 = nI L) (next : l_nx xs L i R) : gc_W (gc_S 100) code 17 1 R 815 [.ref 109, .ref 0, .ref 83, .int (nI i)] [] μ := by
  refine (us_aload_n dL_815 rfl).mpr ?_
  refine l_arg (k := 1) (by decide) h9 h0 hL (by omega) dL_816 dL_817 dL_818 dL_819 dL_820 ?_
  refine l_arg (k := 2) (by decide) h9 h0 hL (by omega) dL_821 dL_822 dL_823 dL_824 dL_825 ?_
  refine (us_virt (na := 2) (M := 99) (kd := 11) (rc := 11) (as := [.ref 0, .int (xs (i + 1)), .int (xs (i + 2))]) dL_826 (by decide +kernel) (kind := 1) (by decide +kernel) (by decide +kernel) rfl rfl rfl rfl rfl).mpr ?_
  refine p_eased μ _ I (fun r μ1 q1 hm => ?_)
  have h9' : ∀ j, μ1 109 j = xs j := fun j => by rw [q1 109 (by omega)]; exact h9 j
  have h0' : μ1 110 0 = nI L := by rw [q1 110 (by omega)]; exact h0
  show gc_W (gc_S 100) code 17 1 R 829 [.ref 109, .ref 0, .ref 83, .int (nI i)] [.int r] μ1
  refine (us_aload_n dL_829 rfl).mpr ?_
  refine l_arg (k := 1) (by decide) h9' h0' hL (by omega) dL_830 dL_831 dL_832 dL_833 dL_834 ?_
  refine l_arg (k := 2) (by decide) h9' h0' hL (by omega) dL_835 dL_836 dL_837 dL_838 dL_839 ?_
  refine (us_virt (na := 2) (M := 207) (kd := 12) (rc := 12) (as := [.ref 83, .int (xs (i + 1)), .int (xs (i + 2))]) dL_840 (by decide +kernel) (kind := 1) (by decide +kernel) (by decide +kernel) rfl rfl rfl rfl rfl).mpr ?_
  refine hm _ (fun μ2 I2 q2 => ?_)
  show gc_W (gc_S 100) code 17 1 R 843 [.ref 109, .ref 0, .ref 83, .int (nI i)] [.int r, .int r] μ2
  refine (us_iceq (t := 1606) dL_843 rfl).mpr ?_
  rw [if_pos rfl]
  exact next μ2 I2 (fun j => by rw [q2 109 (by omega)]; exact h9' j) (by rw [q2 110 (by omega)]; exact h0')
theorem l_c18 {xs : Nat → Int32} {L i : Nat} {R : gR} {μ : gM} (hi : i + 5 < L) (hL : L ≤ 3072) (I : q_I μ) (h9 : ∀ j, μ 109 j = xs j) (h0 : μ 110 0 = nI L) (next : l_nx xs L i R) : gc_W (gc_S 100) code 17 1 R 848 [.ref 109, .ref 0, .ref 83, .int (nI i)] [] μ := by
  refine (us_aload_n dL_848 rfl).mpr ?_
  refine l_arg (k := 1) (by decide) h9 h0 hL (by omega) dL_849 dL_850 dL_851 dL_852 dL_853 ?_
  refine l_arg (k := 2) (by decide) h9 h0 hL (by omega) dL_854 dL_855 dL_856 dL_857 dL_858 ?_
  refine (us_virt (na := 2) (M := 102) (kd := 11) (rc := 11) (as := [.ref 0, .int (xs (i + 1)), .int (xs (i + 2))]) dL_859 (by decide +kernel) (kind := 1) (by decide +kernel) (by decide +kernel) rfl rfl rfl rfl rfl).mpr ?_
  refine p_cellFor μ _ I (fun r μ1 q1 hm => ?_)
  have h9' : ∀ j, μ1 109 j = xs j := fun j => by rw [q1 109 (by omega)]; exact h9 j
  have h0' : μ1 110 0 = nI L := by rw [q1 110 (by omega)]; exact h0
  show gc_W (gc_S 100) code 17 1 R 862 [.ref 109, .ref 0, .ref 83, .int (nI i)] [.int r] μ1
  refine (us_aload_n dL_862 rfl).mpr ?_
  refine l_arg (k := 1) (by decide) h9' h0' hL (by omega) dL_863 dL_864 dL_865 dL_866 dL_867 ?_
  refine l_arg (k := 2) (by decide) h9' h0' hL (by omega) dL_868 dL_869 dL_870 dL_871 dL_872 ?_
  refine (us_virt (na := 2) (M := 210) (kd := 12) (rc := 12) (as := [.ref 83, .int (xs (i + 1)), .int (xs (i + 2))]) dL_873 (by decide +kernel) (kind := 1) (by decide +kernel) (by decide +kernel) rfl rfl rfl rfl rfl).mpr ?_
  refine hm _ (fun μ2 I2 q2 => ?_)
  show gc_W (gc_S 100) code 17 1 R 876 [.ref 109, .ref 0, .ref 83, .int (nI i)] [.int r, .int r] μ2
  refine (us_iceq (t := 1606) dL_876 rfl).mpr ?_
  rw [if_pos rfl]
  exact next μ2 I2 (fun j => by rw [q2 109 (by omega)]; exact h9' j) (by rw [q2 110 (by omega)]; exact h0')
theorem l_c19 {xs : Nat → Int32} {L i : Nat} {R : gR} {μ : gM} (hi : i + 5 < L) (hL : L ≤ 3072) (I : q_I μ) (h9 : ∀ j, μ 109 j = xs j) (h0 : μ 110 0 = nI L) (next : l_nx xs L i R) : gc_W (gc_S 100) code 17 1 R 881 [.ref 109, .ref 0, .ref 83, .int (nI i)] [] μ := by
  refine (us_aload_n dL_881 rfl).mpr ?_
  refine l_arg (k := 1) (by decide) h9 h0 hL (by omega) dL_882 dL_883 dL_884 dL_885 dL_886 ?_
  refine l_arg (k := 2) (by decide) h9 h0 hL (by omega) dL_887 dL_888 dL_889 dL_890 dL_891 ?_
  refine (us_virt (na := 2) (M := 103) (kd := 11) (rc := 11) (as := [.ref 0, .int (xs (i + 1)), .int (xs (i + 2))]) dL_892 (by decide +kernel) (kind := 1) (by decide +kernel) (by decide +kernel) rfl rfl rfl rfl rfl).mpr ?_
  refine p_comesFor μ _ I (fun r μ1 q1 hm => ?_)
  have h9' : ∀ j, μ1 109 j = xs j := fun j => by rw [q1 109 (by omega)]; exact h9 j
  have h0' : μ1 110 0 = nI L := by rw [q1 110 (by omega)]; exact h0
  show gc_W (gc_S 100) code 17 1 R 895 [.ref 109, .ref 0, .ref 83, .int (nI i)] [.int r] μ1
  refine (us_aload_n dL_895 rfl).mpr ?_
  refine l_arg (k := 1) (by decide) h9' h0' hL (by omega) dL_896 dL_897 dL_898 dL_899 dL_900 ?_
  refine l_arg (k := 2) (by decide) h9' h0' hL (by omega) dL_901 dL_902 dL_903 dL_904 dL_905 ?_
  refine (us_virt (na := 2) (M := 211) (kd := 12) (rc := 12) (as := [.ref 83, .int (xs (i + 1)), .int (xs (i + 2))]) dL_906 (by decide +kernel) (kind := 1) (by decide +kernel) (by decide +kernel) rfl rfl rfl rfl rfl).mpr ?_
  refine hm _ (fun μ2 I2 q2 => ?_)
  show gc_W (gc_S 100) code 17 1 R 909 [.ref 109, .ref 0, .ref 83, .int (nI i)] [.int r, .int r] μ2
  refine (us_iceq (t := 1606) dL_909 rfl).mpr ?_
  rw [if_pos rfl]
  exact next μ2 I2 (fun j => by rw [q2 109 (by omega)]; exact h9' j) (by rw [q2 110 (by omega)]; exact h0')
theorem l_c20 {xs : Nat → Int32} {L i : Nat} {R : gR} {μ : gM} (hi : i + 5 < L) (hL : L ≤ 3072) (I : q_I μ) (h9 : ∀ j, μ 109 j = xs j) (h0 : μ 110 0 = nI L) (next : l_nx xs L i R) : gc_W (gc_S 100) code 17 1 R 914 [.ref 109, .ref 0, .ref 83, .int (nI i)] [] μ := by
  refine (us_aload_n dL_914 rfl).mpr ?_
  refine l_arg (k := 1) (by decide) h9 h0 hL (by omega) dL_915 dL_916 dL_917 dL_918 dL_919 ?_
  refine l_arg (k := 2) (by decide) h9 h0 hL (by omega) dL_920 dL_921 dL_922 dL_923 dL_924 ?_
  refine (us_virt (na := 2) (M := 104) (kd := 11) (rc := 11) (as := [.ref 0, .int (xs (i + 1)), .int (xs (i + 2))]) dL_925 (by decide +kernel) (kind := 1) (by decide +kernel) (by decide +kernel) rfl rfl rfl rfl rfl).mpr ?_
  refine p_kindFor μ _ I (fun r μ1 q1 hm => ?_)
  have h9' : ∀ j, μ1 109 j = xs j := fun j => by rw [q1 109 (by omega)]; exact h9 j
  have h0' : μ1 110 0 = nI L := by rw [q1 110 (by omega)]; exact h0
  show gc_W (gc_S 100) code 17 1 R 928 [.ref 109, .ref 0, .ref 83, .int (nI i)] [.int r] μ1
  refine (us_aload_n dL_928 rfl).mpr ?_
  refine l_arg (k := 1) (by decide) h9' h0' hL (by omega) dL_929 dL_930 dL_931 dL_932 dL_933 ?_
  refine l_arg (k := 2) (by decide) h9' h0' hL (by omega) dL_934 dL_935 dL_936 dL_937 dL_938 ?_
  refine (us_virt (na := 2) (M := 212) (kd := 12) (rc := 12) (as := [.ref 83, .int (xs (i + 1)), .int (xs (i + 2))]) dL_939 (by decide +kernel) (kind := 1) (by decide +kernel) (by decide +kernel) rfl rfl rfl rfl rfl).mpr ?_
  refine hm _ (fun μ2 I2 q2 => ?_)
  show gc_W (gc_S 100) code 17 1 R 942 [.ref 109, .ref 0, .ref 83, .int (nI i)] [.int r, .int r] μ2
  refine (us_iceq (t := 1606) dL_942 rfl).mpr ?_
  rw [if_pos rfl]
  exact next μ2 I2 (fun j => by rw [q2 109 (by omega)]; exact h9' j) (by rw [q2 110 (by omega)]; exact h0')
theorem l_c21 {xs : Nat → Int32} {L i : Nat} {R : gR} {μ : gM} (hi : i + 5 < L) (hL : L ≤ 3072) (I : q_I μ) (h9 : ∀ j, μ 109 j = xs j) (h0 : μ 110 0 = nI L) (next : l_nx xs L i R) : gc_W (gc_S 100) code 17 1 R 947 [.ref 109, .ref 0, .ref 83, .int (nI i)] [] μ := by
  refine (us_aload_n dL_947 rfl).mpr ?_
  refine l_arg (k := 1) (by decide) h9 h0 hL (by omega) dL_948 dL_949 dL_950 dL_951 dL_952 ?_
  refine l_arg (k := 2) (by decide) h9 h0 hL (by omega) dL_953 dL_954 dL_955 dL_956 dL_957 ?_
  refine l_arg (k := 3) (by decide) h9 h0 hL (by omega) dL_958 dL_959 dL_960 dL_961 dL_962 ?_
  refine (us_virt (na := 3) (M := 107) (kd := 11) (rc := 11) (as := [.ref 0, .int (xs (i + 1)), .int (xs (i + 2)), .int (xs (i + 3))]) dL_963 (by decide +kernel) (kind := 1) (by decide +kernel) (by decide +kernel) rfl rfl rfl rfl rfl).mpr ?_
  refine p_folded μ _ I (fun r μ1 q1 hm => ?_)
  have h9' : ∀ j, μ1 109 j = xs j := fun j => by rw [q1 109 (by omega)]; exact h9 j
  have h0' : μ1 110 0 = nI L := by rw [q1 110 (by omega)]; exact h0
  show gc_W (gc_S 100) code 17 1 R 966 [.ref 109, .ref 0, .ref 83, .int (nI i)] [.int r] μ1
  refine (us_aload_n dL_966 rfl).mpr ?_
  refine l_arg (k := 1) (by decide) h9' h0' hL (by omega) dL_967 dL_968 dL_969 dL_970 dL_971 ?_
  refine l_arg (k := 2) (by decide) h9' h0' hL (by omega) dL_972 dL_973 dL_974 dL_975 dL_976 ?_
  refine l_arg (k := 3) (by decide) h9' h0' hL (by omega) dL_977 dL_978 dL_979 dL_980 dL_981 ?_
  refine (us_virt (na := 3) (M := 217) (kd := 12) (rc := 12) (as := [.ref 83, .int (xs (i + 1)), .int (xs (i + 2)), .int (xs (i + 3))]) dL_982 (by decide +kernel) (kind := 1) (by decide +kernel) (by decide +kernel) rfl rfl rfl rfl rfl).mpr ?_
  refine hm _ (fun μ2 I2 q2 => ?_)
  show gc_W (gc_S 100) code 17 1 R 985 [.ref 109, .ref 0, .ref 83, .int (nI i)] [.int r, .int r] μ2
  refine (us_iceq (t := 1606) dL_985 rfl).mpr ?_
  rw [if_pos rfl]
  exact next μ2 I2 (fun j => by rw [q2 109 (by omega)]; exact h9' j) (by rw [q2 110 (by omega)]; exact h0')
theorem l_c22 {xs : Nat → Int32} {L i : Nat} {R : gR} {μ : gM} (hi : i + 5 < L) (hL : L ≤ 3072) (I : q_I μ) (h9 : ∀ j, μ 109 j = xs j) (h0 : μ 110 0 = nI L) (next : l_nx xs L i R) : gc_W (gc_S 100) code 17 1 R 990 [.ref 109, .ref 0, .ref 83, .int (nI i)] [] μ := by
  refine (us_aload_n dL_990 rfl).mpr ?_
  refine l_arg (k := 1) (by decide) h9 h0 hL (by omega) dL_991 dL_992 dL_993 dL_994 dL_995 ?_
  refine (us_virt (na := 1) (M := 108) (kd := 11) (rc := 11) (as := [.ref 0, .int (xs (i + 1))]) dL_996 (by decide +kernel) (kind := 1) (by decide +kernel) (by decide +kernel) rfl rfl rfl rfl rfl).mpr ?_
  refine p_topFor μ _ I (fun r μ1 q1 hm => ?_)
  have h9' : ∀ j, μ1 109 j = xs j := fun j => by rw [q1 109 (by omega)]; exact h9 j
  have h0' : μ1 110 0 = nI L := by rw [q1 110 (by omega)]; exact h0
  show gc_W (gc_S 100) code 17 1 R 999 [.ref 109, .ref 0, .ref 83, .int (nI i)] [.int r] μ1
  refine (us_aload_n dL_999 rfl).mpr ?_
  refine l_arg (k := 1) (by decide) h9' h0' hL (by omega) dL_1000 dL_1001 dL_1002 dL_1003 dL_1004 ?_
  refine (us_virt (na := 1) (M := 218) (kd := 12) (rc := 12) (as := [.ref 83, .int (xs (i + 1))]) dL_1005 (by decide +kernel) (kind := 1) (by decide +kernel) (by decide +kernel) rfl rfl rfl rfl rfl).mpr ?_
  refine hm _ (fun μ2 I2 q2 => ?_)
  show gc_W (gc_S 100) code 17 1 R 1008 [.ref 109, .ref 0, .ref 83, .int (nI i)] [.int r, .int r] μ2
  refine (us_iceq (t := 1606) dL_1008 rfl).mpr ?_
  rw [if_pos rfl]
  exact next μ2 I2 (fun j => by rw [q2 109 (by omega)]; exact h9' j) (by rw [q2 110 (by omega)]; exact h0')
theorem l_c23 {xs : Nat → Int32} {L i : Nat} {R : gR} {μ : gM} (hi : i + 5 < L) (hL : L ≤ 3072) (I : q_I μ) (h9 : ∀ j, μ 109 j = xs j) (h0 : μ 110 0 = nI L) (next : l_nx xs L i R) : gc_W (gc_S 100) code 17 1 R 1013 [.ref 109, .ref 0, .ref 83, .int (nI i)] [] μ := by
  refine (us_aload_n dL_1013 rfl).mpr ?_
  refine l_arg (k := 1) (by decide) h9 h0 hL (by omega) dL_1014 dL_1015 dL_1016 dL_1017 dL_1018 ?_
  refine l_arg (k := 2) (by decide) h9 h0 hL (by omega) dL_1019 dL_1020 dL_1021 dL_1022 dL_1023 ?_
  refine (us_virt (na := 2) (M := 109) (kd := 11) (rc := 11) (as := [.ref 0, .int (xs (i + 1)), .int (xs (i + 2))]) dL_1024 (by decide +kernel) (kind := 1) (by decide +kernel) (by decide +kernel) rfl rfl rfl rfl rfl).mpr ?_
  refine p_route μ _ I (fun r μ1 q1 hm => ?_)
  have h9' : ∀ j, μ1 109 j = xs j := fun j => by rw [q1 109 (by omega)]; exact h9 j
  have h0' : μ1 110 0 = nI L := by rw [q1 110 (by omega)]; exact h0
  show gc_W (gc_S 100) code 17 1 R 1027 [.ref 109, .ref 0, .ref 83, .int (nI i)] [.int r] μ1
  refine (us_aload_n dL_1027 rfl).mpr ?_
  refine l_arg (k := 1) (by decide) h9' h0' hL (by omega) dL_1028 dL_1029 dL_1030 dL_1031 dL_1032 ?_
  refine l_arg (k := 2) (by decide) h9' h0' hL (by omega) dL_1033 dL_1034 dL_1035 dL_1036 dL_1037 ?_
  refine (us_virt (na := 2) (M := 222) (kd := 12) (rc := 12) (as := [.ref 83, .int (xs (i + 1)), .int (xs (i + 2))]) dL_1038 (by decide +kernel) (kind := 1) (by decide +kernel) (by decide +kernel) rfl rfl rfl rfl rfl).mpr ?_
  refine hm _ (fun μ2 I2 q2 => ?_)
  show gc_W (gc_S 100) code 17 1 R 1041 [.ref 109, .ref 0, .ref 83, .int (nI i)] [.int r, .int r] μ2
  refine (us_iceq (t := 1606) dL_1041 rfl).mpr ?_
  rw [if_pos rfl]
  exact next μ2 I2 (fun j => by rw [q2 109 (by omega)]; exact h9' j) (by rw [q2 110 (by omega)]; exact h0')
theorem l_c24 {xs : Nat → Int32} {L i : Nat} {R : gR} {μ : gM} (hi : i + 5 < L) (hL : L ≤ 3072) (I : q_I μ) (h9 : ∀ j, μ 109 j = xs j) (h0 : μ 110 0 = nI L) (next : l_nx xs L i R) : gc_W (gc_S 100) code 17 1 R 1046 [.ref 109, .ref 0, .ref 83, .int (nI i)] [] μ := by
  refine (us_aload_n dL_1046 rfl).mpr ?_
  refine (us_virt (na := 0) (M := 112) (kd := 11) (rc := 11) (as := [.ref 0]) dL_1047 (by decide +kernel) (kind := 1) (by decide +kernel) (by decide +kernel) rfl rfl rfl rfl rfl).mpr ?_
  refine p_parts μ _ I (fun r μ1 q1 hm => ?_)
  have h9' : ∀ j, μ1 109 j = xs j := fun j => by rw [q1 109 (by omega)]; exact h9 j
  have h0' : μ1 110 0 = nI L := by rw [q1 110 (by omega)]; exact h0
  show gc_W (gc_S 100) code 17 1 R 1050 [.ref 109, .ref 0, .ref 83, .int (nI i)] [.int r] μ1
  refine (us_aload_n dL_1050 rfl).mpr ?_
  refine (us_virt (na := 0) (M := 223) (kd := 12) (rc := 12) (as := [.ref 83]) dL_1051 (by decide +kernel) (kind := 1) (by decide +kernel) (by decide +kernel) rfl rfl rfl rfl rfl).mpr ?_
  refine hm _ (fun μ2 I2 q2 => ?_)
  show gc_W (gc_S 100) code 17 1 R 1054 [.ref 109, .ref 0, .ref 83, .int (nI i)] [.int r, .int r] μ2
  refine (us_iceq (t := 1606) dL_1054 rfl).mpr ?_
  rw [if_pos rfl]
  exact next μ2 I2 (fun j => by rw [q2 109 (by omega)]; exact h9' j) (by rw [q2 110 (by omega)]; exact h0')
theorem l_c25 {xs : Nat → Int32} {L i : Nat} {R : gR} {μ : gM} (hi : i + 5 < L) (hL : L ≤ 3072) (I : q_I μ) (h9 : ∀ j, μ 109 j = xs j) (h0 : μ 110 0 = nI L) (next : l_nx xs L i R) : gc_W (gc_S 100) code 17 1 R 1059 [.ref 109, .ref 0, .ref 83, .int (nI i)] [] μ := by
  refine (us_aload_n dL_1059 rfl).mpr ?_
  refine (us_virt (na := 0) (M := 114) (kd := 11) (rc := 11) (as := [.ref 0]) dL_1060 (by decide +kernel) (kind := 1) (by decide +kernel) (by decide +kernel) rfl rfl rfl rfl rfl).mpr ?_
  refine p_mends μ _ I (fun r μ1 q1 hm => ?_)
  have h9' : ∀ j, μ1 109 j = xs j := fun j => by rw [q1 109 (by omega)]; exact h9 j
  have h0' : μ1 110 0 = nI L := by rw [q1 110 (by omega)]; exact h0
  show gc_W (gc_S 100) code 17 1 R 1063 [.ref 109, .ref 0, .ref 83, .int (nI i)] [.int r] μ1
  refine (us_aload_n dL_1063 rfl).mpr ?_
  refine (us_virt (na := 0) (M := 224) (kd := 12) (rc := 12) (as := [.ref 83]) dL_1064 (by decide +kernel) (kind := 1) (by decide +kernel) (by decide +kernel) rfl rfl rfl rfl rfl).mpr ?_
  refine hm _ (fun μ2 I2 q2 => ?_)
  show gc_W (gc_S 100) code 17 1 R 1067 [.ref 109, .ref 0, .ref 83, .int (nI i)] [.int r, .int r] μ2
  refine (us_iceq (t := 1606) dL_1067 rfl).mpr ?_
  rw [if_pos rfl]
  exact next μ2 I2 (fun j => by rw [q2 109 (by omega)]; exact h9' j) (by rw [q2 110 (by omega)]; exact h0')
theorem l_c26 {xs : Nat → Int32} {L i : Nat} {R : gR} {μ : gM} (hi : i + 5 < L) (hL : L ≤ 3072) (I : q_I μ) (h9 : ∀ j, μ 109 j = xs j) (h0 : μ 110 0 = nI L) (next : l_nx xs L i R) : gc_W (gc_S 100) code 17 1 R 1072 [.ref 109, .ref 0, .ref 83, .int (nI i)] [] μ := by
  refine (us_aload_n dL_1072 rfl).mpr ?_
  refine l_arg (k := 1) (by decide) h9 h0 hL (by omega) dL_1073 dL_1074 dL_1075 dL_1076 dL_1077 ?_
  refine (us_virt (na := 1) (M := 120) (kd := 11) (rc := 11) (as := [.ref 0, .int (xs (i + 1))]) dL_1078 (by decide +kernel) (kind := 1) (by decide +kernel) (by decide +kernel) rfl rfl rfl rfl rfl).mpr ?_
  refine p_game μ _ I (fun r μ1 q1 hm => ?_)
  have h9' : ∀ j, μ1 109 j = xs j := fun j => by rw [q1 109 (by omega)]; exact h9 j
  have h0' : μ1 110 0 = nI L := by rw [q1 110 (by omega)]; exact h0
  show gc_W (gc_S 100) code 17 1 R 1081 [.ref 109, .ref 0, .ref 83, .int (nI i)] [.int r] μ1
  refine (us_aload_n dL_1081 rfl).mpr ?_
  refine l_arg (k := 1) (by decide) h9' h0' hL (by omega) dL_1082 dL_1083 dL_1084 dL_1085 dL_1086 ?_
  refine (us_virt (na := 1) (M := 226) (kd := 12) (rc := 12) (as := [.ref 83, .int (xs (i + 1))]) dL_1087 (by decide +kernel) (kind := 1) (by decide +kernel) (by decide +kernel) rfl rfl rfl rfl rfl).mpr ?_
  refine hm _ (fun μ2 I2 q2 => ?_)
  show gc_W (gc_S 100) code 17 1 R 1090 [.ref 109, .ref 0, .ref 83, .int (nI i)] [.int r, .int r] μ2
  refine (us_iceq (t := 1606) dL_1090 rfl).mpr ?_
  rw [if_pos rfl]
  exact next μ2 I2 (fun j => by rw [q2 109 (by omega)]; exact h9' j) (by rw [q2 110 (by omega)]; exact h0')
theorem l_c27 {xs : Nat → Int32} {L i : Nat} {R : gR} {μ : gM} (hi : i + 5 < L) (hL : L ≤ 3072) (I : q_I μ) (h9 : ∀ j, μ 109 j = xs j) (h0 : μ 110 0 = nI L) (next : l_nx xs L i R) : gc_W (gc_S 100) code 17 1 R 1095 [.ref 109, .ref 0, .ref 83, .int (nI i)] [] μ := by
  refine (us_aload_n dL_1095 rfl).mpr ?_
  refine l_arg (k := 1) (by decide) h9 h0 hL (by omega) dL_1096 dL_1097 dL_1098 dL_1099 dL_1100 ?_
  refine l_arg (k := 2) (by decide) h9 h0 hL (by omega) dL_1101 dL_1102 dL_1103 dL_1104 dL_1105 ?_
  refine (us_virt (na := 2) (M := 123) (kd := 11) (rc := 11) (as := [.ref 0, .int (xs (i + 1)), .int (xs (i + 2))]) dL_1106 (by decide +kernel) (kind := 1) (by decide +kernel) (by decide +kernel) rfl rfl rfl rfl rfl).mpr ?_
  refine p_which μ _ I (fun r μ1 q1 hm => ?_)
  have h9' : ∀ j, μ1 109 j = xs j := fun j => by rw [q1 109 (by omega)]; exact h9 j
  have h0' : μ1 110 0 = nI L := by rw [q1 110 (by omega)]; exact h0
  show gc_W (gc_S 100) code 17 1 R 1109 [.ref 109, .ref 0, .ref 83, .int (nI i)] [.int r] μ1
  refine (us_aload_n dL_1109 rfl).mpr ?_
  refine l_arg (k := 1) (by decide) h9' h0' hL (by omega) dL_1110 dL_1111 dL_1112 dL_1113 dL_1114 ?_
  refine l_arg (k := 2) (by decide) h9' h0' hL (by omega) dL_1115 dL_1116 dL_1117 dL_1118 dL_1119 ?_
  refine (us_virt (na := 2) (M := 229) (kd := 12) (rc := 12) (as := [.ref 83, .int (xs (i + 1)), .int (xs (i + 2))]) dL_1120 (by decide +kernel) (kind := 1) (by decide +kernel) (by decide +kernel) rfl rfl rfl rfl rfl).mpr ?_
  refine hm _ (fun μ2 I2 q2 => ?_)
  show gc_W (gc_S 100) code 17 1 R 1123 [.ref 109, .ref 0, .ref 83, .int (nI i)] [.int r, .int r] μ2
  refine (us_iceq (t := 1606) dL_1123 rfl).mpr ?_
  rw [if_pos rfl]
  exact next μ2 I2 (fun j => by rw [q2 109 (by omega)]; exact h9' j) (by rw [q2 110 (by omega)]; exact h0')
theorem l_c28 {xs : Nat → Int32} {L i : Nat} {R : gR} {μ : gM} (hi : i + 5 < L) (hL : L ≤ 3072) (I : q_I μ) (h9 : ∀ j, μ 109 j = xs j) (h0 : μ 110 0 = nI L) (next : l_nx xs L i R) : gc_W (gc_S 100) code 17 1 R 1128 [.ref 109, .ref 0, .ref 83, .int (nI i)] [] μ := by
  refine (us_aload_n dL_1128 rfl).mpr ?_
  refine l_arg (k := 1) (by decide) h9 h0 hL (by omega) dL_1129 dL_1130 dL_1131 dL_1132 dL_1133 ?_
  refine l_arg (k := 2) (by decide) h9 h0 hL (by omega) dL_1134 dL_1135 dL_1136 dL_1137 dL_1138 ?_
  refine l_arg (k := 3) (by decide) h9 h0 hL (by omega) dL_1139 dL_1140 dL_1141 dL_1142 dL_1143 ?_
  refine (us_virt (na := 3) (M := 124) (kd := 11) (rc := 11) (as := [.ref 0, .int (xs (i + 1)), .int (xs (i + 2)), .int (xs (i + 3))]) dL_1144 (by decide +kernel) (kind := 1) (by decide +kernel) (by decide +kernel) rfl rfl rfl rfl rfl).mpr ?_
  refine p_sorry μ _ I (fun r μ1 q1 hm => ?_)
  have h9' : ∀ j, μ1 109 j = xs j := fun j => by rw [q1 109 (by omega)]; exact h9 j
  have h0' : μ1 110 0 = nI L := by rw [q1 110 (by omega)]; exact h0
  show gc_W (gc_S 100) code 17 1 R 1147 [.ref 109, .ref 0, .ref 83, .int (nI i)] [.int r] μ1
  refine (us_aload_n dL_1147 rfl).mpr ?_
  refine l_arg (k := 1) (by decide) h9' h0' hL (by omega) dL_1148 dL_1149 dL_1150 dL_1151 dL_1152 ?_
  refine l_arg (k := 2) (by decide) h9' h0' hL (by omega) dL_1153 dL_1154 dL_1155 dL_1156 dL_1157 ?_
  refine l_arg (k := 3) (by decide) h9' h0' hL (by omega) dL_1158 dL_1159 dL_1160 dL_1161 dL_1162 ?_
  refine (us_virt (na := 3) (M := 230) (kd := 12) (rc := 12) (as := [.ref 83, .int (xs (i + 1)), .int (xs (i + 2)), .int (xs (i + 3))]) dL_1163 (by decide +kernel) (kind := 1) (by decide +kernel) (by decide +kernel) rfl rfl rfl rfl rfl).mpr ?_
  refine hm _ (fun μ2 I2 q2 => ?_)
  show gc_W (gc_S 100) code 17 1 R 1166 [.ref 109, .ref 0, .ref 83, .int (nI i)] [.int r, .int r] μ2
  refine (us_iceq (t := 1606) dL_1166 rfl).mpr ?_
  rw [if_pos rfl]
  exact next μ2 I2 (fun j => by rw [q2 109 (by omega)]; exact h9' j) (by rw [q2 110 (by omega)]; exact h0')
theorem l_c29 {xs : Nat → Int32} {L i : Nat} {R : gR} {μ : gM} (hi : i + 5 < L) (hL : L ≤ 3072) (I : q_I μ) (h9 : ∀ j, μ 109 j = xs j) (h0 : μ 110 0 = nI L) (next : l_nx xs L i R) : gc_W (gc_S 100) code 17 1 R 1171 [.ref 109, .ref 0, .ref 83, .int (nI i)] [] μ := by
  refine (us_aload_n dL_1171 rfl).mpr ?_
  refine l_arg (k := 1) (by decide) h9 h0 hL (by omega) dL_1172 dL_1173 dL_1174 dL_1175 dL_1176 ?_
  refine l_arg (k := 2) (by decide) h9 h0 hL (by omega) dL_1177 dL_1178 dL_1179 dL_1180 dL_1181 ?_
  refine l_arg (k := 3) (by decide) h9 h0 hL (by omega) dL_1182 dL_1183 dL_1184 dL_1185 dL_1186 ?_
  refine (us_virt (na := 3) (M := 125) (kd := 11) (rc := 11) (as := [.ref 0, .int (xs (i + 1)), .int (xs (i + 2)), .int (xs (i + 3))]) dL_1187 (by decide +kernel) (kind := 1) (by decide +kernel) (by decide +kernel) rfl rfl rfl rfl rfl).mpr ?_
  refine p_odds μ _ I (fun r μ1 q1 hm => ?_)
  have h9' : ∀ j, μ1 109 j = xs j := fun j => by rw [q1 109 (by omega)]; exact h9 j
  have h0' : μ1 110 0 = nI L := by rw [q1 110 (by omega)]; exact h0
  show gc_W (gc_S 100) code 17 1 R 1190 [.ref 109, .ref 0, .ref 83, .int (nI i)] [.int r] μ1
  refine (us_aload_n dL_1190 rfl).mpr ?_
  refine l_arg (k := 1) (by decide) h9' h0' hL (by omega) dL_1191 dL_1192 dL_1193 dL_1194 dL_1195 ?_
  refine l_arg (k := 2) (by decide) h9' h0' hL (by omega) dL_1196 dL_1197 dL_1198 dL_1199 dL_1200 ?_
  refine l_arg (k := 3) (by decide) h9' h0' hL (by omega) dL_1201 dL_1202 dL_1203 dL_1204 dL_1205 ?_
  refine (us_virt (na := 3) (M := 232) (kd := 12) (rc := 12) (as := [.ref 83, .int (xs (i + 1)), .int (xs (i + 2)), .int (xs (i + 3))]) dL_1206 (by decide +kernel) (kind := 1) (by decide +kernel) (by decide +kernel) rfl rfl rfl rfl rfl).mpr ?_
  refine hm _ (fun μ2 I2 q2 => ?_)
  show gc_W (gc_S 100) code 17 1 R 1209 [.ref 109, .ref 0, .ref 83, .int (nI i)] [.int r, .int r] μ2
  refine (us_iceq (t := 1606) dL_1209 rfl).mpr ?_
  rw [if_pos rfl]
  exact next μ2 I2 (fun j => by rw [q2 109 (by omega)]; exact h9' j) (by rw [q2 110 (by omega)]; exact h0')
theorem l_c30 {xs : Nat → Int32} {L i : Nat} {R : gR} {μ : gM} (hi : i + 5 < L) (hL : L ≤ 3072) (I : q_I μ) (h9 : ∀ j, μ 109 j = xs j) (h0 : μ 110 0 = nI L) (next : l_nx xs L i R) : gc_W (gc_S 100) code 17 1 R 1214 [.ref 109, .ref 0, .ref 83, .int (nI i)] [] μ := by
  refine (us_aload_n dL_1214 rfl).mpr ?_
  refine l_arg (k := 1) (by decide) h9 h0 hL (by omega) dL_1215 dL_1216 dL_1217 dL_1218 dL_1219 ?_
  refine (us_virt (na := 1) (M := 126) (kd := 11) (rc := 11) (as := [.ref 0, .int (xs (i + 1))]) dL_1220 (by decide +kernel) (kind := 1) (by decide +kernel) (by decide +kernel) rfl rfl rfl rfl rfl).mpr ?_
  refine p_seed μ _ I (fun r μ1 q1 hm => ?_)
  have h9' : ∀ j, μ1 109 j = xs j := fun j => by rw [q1 109 (by omega)]; exact h9 j
  have h0' : μ1 110 0 = nI L := by rw [q1 110 (by omega)]; exact h0
  show gc_W (gc_S 100) code 17 1 R 1223 [.ref 109, .ref 0, .ref 83, .int (nI i)] [.int r] μ1
  refine (us_aload_n dL_1223 rfl).mpr ?_
  refine l_arg (k := 1) (by decide) h9' h0' hL (by omega) dL_1224 dL_1225 dL_1226 dL_1227 dL_1228 ?_
  refine (us_virt (na := 1) (M := 201) (kd := 12) (rc := 12) (as := [.ref 83, .int (xs (i + 1))]) dL_1229 (by decide +kernel) (kind := 1) (by decide +kernel) (by decide +kernel) rfl rfl rfl rfl rfl).mpr ?_
  refine hm _ (fun μ2 I2 q2 => ?_)
  show gc_W (gc_S 100) code 17 1 R 1232 [.ref 109, .ref 0, .ref 83, .int (nI i)] [.int r, .int r] μ2
  refine (us_iceq (t := 1606) dL_1232 rfl).mpr ?_
  rw [if_pos rfl]
  exact next μ2 I2 (fun j => by rw [q2 109 (by omega)]; exact h9' j) (by rw [q2 110 (by omega)]; exact h0')
theorem l_c31 {xs : Nat → Int32} {L i : Nat} {R : gR} {μ : gM} (hi : i + 5 < L) (hL : L ≤ 3072) (I : q_I μ) (h9 : ∀ j, μ 109 j = xs j) (h0 : μ 110 0 = nI L) (next : l_nx xs L i R) : gc_W (gc_S 100) code 17 1 R 1237 [.ref 109, .ref 0, .ref 83, .int (nI i)] [] μ := by
  refine (us_aload_n dL_1237 rfl).mpr ?_
  refine l_arg (k := 1) (by decide) h9 h0 hL (by omega) dL_1238 dL_1239 dL_1240 dL_1241 dL_1242 ?_
  refine l_arg (k := 2) (by decide) h9 h0 hL (by omega) dL_1243 dL_1244 dL_1245 dL_1246 dL_1247 ?_
  refine l_arg (k := 3) (by decide) h9 h0 hL (by omega) dL_1248 dL_1249 dL_1250 dL_1251 dL_1252 ?_
  refine (us_virt (na := 3) (M := 127) (kd := 11) (rc := 11) (as := [.ref 0, .int (xs (i + 1)), .int (xs (i + 2)), .int (xs (i + 3))]) dL_1253 (by decide +kernel) (kind := 1) (by decide +kernel) (by decide +kernel) rfl rfl rfl rfl rfl).mpr ?_
  refine p_voice μ _ I (fun r μ1 q1 hm => ?_)
  have h9' : ∀ j, μ1 109 j = xs j := fun j => by rw [q1 109 (by omega)]; exact h9 j
  have h0' : μ1 110 0 = nI L := by rw [q1 110 (by omega)]; exact h0
  show gc_W (gc_S 100) code 17 1 R 1256 [.ref 109, .ref 0, .ref 83, .int (nI i)] [.int r] μ1
  refine (us_aload_n dL_1256 rfl).mpr ?_
  refine l_arg (k := 1) (by decide) h9' h0' hL (by omega) dL_1257 dL_1258 dL_1259 dL_1260 dL_1261 ?_
  refine l_arg (k := 2) (by decide) h9' h0' hL (by omega) dL_1262 dL_1263 dL_1264 dL_1265 dL_1266 ?_
  refine l_arg (k := 3) (by decide) h9' h0' hL (by omega) dL_1267 dL_1268 dL_1269 dL_1270 dL_1271 ?_
  refine (us_virt (na := 3) (M := 238) (kd := 12) (rc := 12) (as := [.ref 83, .int (xs (i + 1)), .int (xs (i + 2)), .int (xs (i + 3))]) dL_1272 (by decide +kernel) (kind := 1) (by decide +kernel) (by decide +kernel) rfl rfl rfl rfl rfl).mpr ?_
  refine hm _ (fun μ2 I2 q2 => ?_)
  show gc_W (gc_S 100) code 17 1 R 1275 [.ref 109, .ref 0, .ref 83, .int (nI i)] [.int r, .int r] μ2
  refine (us_iceq (t := 1606) dL_1275 rfl).mpr ?_
  rw [if_pos rfl]
  exact next μ2 I2 (fun j => by rw [q2 109 (by omega)]; exact h9' j) (by rw [q2 110 (by omega)]; exact h0')
theorem l_c32 {xs : Nat → Int32} {L i : Nat} {R : gR} {μ : gM} (hi : i + 5 < L) (hL : L ≤ 3072) (I : q_I μ) (h9 : ∀ j, μ 109 j = xs j) (h0 : μ 110 0 = nI L) (next : l_nx xs L i R) : gc_W (gc_S 100) code 17 1 R 1280 [.ref 109, .ref 0, .ref 83, .int (nI i)] [] μ := by
  refine (us_aload_n dL_1280 rfl).mpr ?_
  refine l_arg (k := 1) (by decide) h9 h0 hL (by omega) dL_1281 dL_1282 dL_1283 dL_1284 dL_1285 ?_
  refine (us_virt (na := 1) (M := 128) (kd := 11) (rc := 11) (as := [.ref 0, .int (xs (i + 1))]) dL_1286 (by decide +kernel) (kind := 1) (by decide +kernel) (by decide +kernel) rfl rfl rfl rfl rfl).mpr ?_
  refine p_trace μ _ I (fun r μ1 q1 hm => ?_)
  have h9' : ∀ j, μ1 109 j = xs j := fun j => by rw [q1 109 (by omega)]; exact h9 j
  have h0' : μ1 110 0 = nI L := by rw [q1 110 (by omega)]; exact h0
  show gc_W (gc_S 100) code 17 1 R 1289 [.ref 109, .ref 0, .ref 83, .int (nI i)] [.int r] μ1
  refine (us_aload_n dL_1289 rfl).mpr ?_
  refine l_arg (k := 1) (by decide) h9' h0' hL (by omega) dL_1290 dL_1291 dL_1292 dL_1293 dL_1294 ?_
  refine (us_virt (na := 1) (M := 239) (kd := 12) (rc := 12) (as := [.ref 83, .int (xs (i + 1))]) dL_1295 (by decide +kernel) (kind := 1) (by decide +kernel) (by decide +kernel) rfl rfl rfl rfl rfl).mpr ?_
  refine hm _ (fun μ2 I2 q2 => ?_)
  show gc_W (gc_S 100) code 17 1 R 1298 [.ref 109, .ref 0, .ref 83, .int (nI i)] [.int r, .int r] μ2
  refine (us_iceq (t := 1606) dL_1298 rfl).mpr ?_
  rw [if_pos rfl]
  exact next μ2 I2 (fun j => by rw [q2 109 (by omega)]; exact h9' j) (by rw [q2 110 (by omega)]; exact h0')
theorem l_c33 {xs : Nat → Int32} {L i : Nat} {R : gR} {μ : gM} (hi : i + 5 < L) (hL : L ≤ 3072) (I : q_I μ) (h9 : ∀ j, μ 109 j = xs j) (h0 : μ 110 0 = nI L) (next : l_nx xs L i R) : gc_W (gc_S 100) code 17 1 R 1303 [.ref 109, .ref 0, .ref 83, .int (nI i)] [] μ := by
  refine (us_aload_n dL_1303 rfl).mpr ?_
  refine l_arg (k := 1) (by decide) h9 h0 hL (by omega) dL_1304 dL_1305 dL_1306 dL_1307 dL_1308 ?_
  refine l_arg (k := 2) (by decide) h9 h0 hL (by omega) dL_1309 dL_1310 dL_1311 dL_1312 dL_1313 ?_
  refine l_arg (k := 3) (by decide) h9 h0 hL (by omega) dL_1314 dL_1315 dL_1316 dL_1317 dL_1318 ?_
  refine (us_virt (na := 3) (M := 129) (kd := 11) (rc := 11) (as := [.ref 0, .int (xs (i + 1)), .int (xs (i + 2)), .int (xs (i + 3))]) dL_1319 (by decide +kernel) (kind := 1) (by decide +kernel) (by decide +kernel) rfl rfl rfl rfl rfl).mpr ?_
  refine p_sheet μ _ I (fun r μ1 q1 hm => ?_)
  have h9' : ∀ j, μ1 109 j = xs j := fun j => by rw [q1 109 (by omega)]; exact h9 j
  have h0' : μ1 110 0 = nI L := by rw [q1 110 (by omega)]; exact h0
  show gc_W (gc_S 100) code 17 1 R 1322 [.ref 109, .ref 0, .ref 83, .int (nI i)] [.int r] μ1
  refine (us_aload_n dL_1322 rfl).mpr ?_
  refine l_arg (k := 1) (by decide) h9' h0' hL (by omega) dL_1323 dL_1324 dL_1325 dL_1326 dL_1327 ?_
  refine l_arg (k := 2) (by decide) h9' h0' hL (by omega) dL_1328 dL_1329 dL_1330 dL_1331 dL_1332 ?_
  refine l_arg (k := 3) (by decide) h9' h0' hL (by omega) dL_1333 dL_1334 dL_1335 dL_1336 dL_1337 ?_
  refine (us_virt (na := 3) (M := 240) (kd := 12) (rc := 12) (as := [.ref 83, .int (xs (i + 1)), .int (xs (i + 2)), .int (xs (i + 3))]) dL_1338 (by decide +kernel) (kind := 1) (by decide +kernel) (by decide +kernel) rfl rfl rfl rfl rfl).mpr ?_
  refine hm _ (fun μ2 I2 q2 => ?_)
  show gc_W (gc_S 100) code 17 1 R 1341 [.ref 109, .ref 0, .ref 83, .int (nI i)] [.int r, .int r] μ2
  refine (us_iceq (t := 1606) dL_1341 rfl).mpr ?_
  rw [if_pos rfl]
  exact next μ2 I2 (fun j => by rw [q2 109 (by omega)]; exact h9' j) (by rw [q2 110 (by omega)]; exact h0')
theorem l_c34 {xs : Nat → Int32} {L i : Nat} {R : gR} {μ : gM} (hi : i + 5 < L) (hL : L ≤ 3072) (I : q_I μ) (h9 : ∀ j, μ 109 j = xs j) (h0 : μ 110 0 = nI L) (next : l_nx xs L i R) : gc_W (gc_S 100) code 17 1 R 1346 [.ref 109, .ref 0, .ref 83, .int (nI i)] [] μ := by
  refine (us_aload_n dL_1346 rfl).mpr ?_
  refine l_arg (k := 1) (by decide) h9 h0 hL (by omega) dL_1347 dL_1348 dL_1349 dL_1350 dL_1351 ?_
  refine l_arg (k := 2) (by decide) h9 h0 hL (by omega) dL_1352 dL_1353 dL_1354 dL_1355 dL_1356 ?_
  refine l_arg (k := 3) (by decide) h9 h0 hL (by omega) dL_1357 dL_1358 dL_1359 dL_1360 dL_1361 ?_
  refine (us_virt (na := 3) (M := 131) (kd := 11) (rc := 11) (as := [.ref 0, .int (xs (i + 1)), .int (xs (i + 2)), .int (xs (i + 3))]) dL_1362 (by decide +kernel) (kind := 1) (by decide +kernel) (by decide +kernel) rfl rfl rfl rfl rfl).mpr ?_
  refine p_put μ _ I (fun r μ1 q1 hm => ?_)
  have h9' : ∀ j, μ1 109 j = xs j := fun j => by rw [q1 109 (by omega)]; exact h9 j
  have h0' : μ1 110 0 = nI L := by rw [q1 110 (by omega)]; exact h0
  show gc_W (gc_S 100) code 17 1 R 1365 [.ref 109, .ref 0, .ref 83, .int (nI i)] [.int r] μ1
  refine (us_aload_n dL_1365 rfl).mpr ?_
  refine l_arg (k := 1) (by decide) h9' h0' hL (by omega) dL_1366 dL_1367 dL_1368 dL_1369 dL_1370 ?_
  refine l_arg (k := 2) (by decide) h9' h0' hL (by omega) dL_1371 dL_1372 dL_1373 dL_1374 dL_1375 ?_
  refine l_arg (k := 3) (by decide) h9' h0' hL (by omega) dL_1376 dL_1377 dL_1378 dL_1379 dL_1380 ?_
  refine (us_virt (na := 3) (M := 241) (kd := 12) (rc := 12) (as := [.ref 83, .int (xs (i + 1)), .int (xs (i + 2)), .int (xs (i + 3))]) dL_1381 (by decide +kernel) (kind := 1) (by decide +kernel) (by decide +kernel) rfl rfl rfl rfl rfl).mpr ?_
  refine hm _ (fun μ2 I2 q2 => ?_)
  show gc_W (gc_S 100) code 17 1 R 1384 [.ref 109, .ref 0, .ref 83, .int (nI i)] [.int r, .int r] μ2
  refine (us_iceq (t := 1606) dL_1384 rfl).mpr ?_
  rw [if_pos rfl]
  exact next μ2 I2 (fun j => by rw [q2 109 (by omega)]; exact h9' j) (by rw [q2 110 (by omega)]; exact h0')
theorem l_c35 {xs : Nat → Int32} {L i : Nat} {R : gR} {μ : gM} (hi : i + 5 < L) (hL : L ≤ 3072) (I : q_I μ) (h9 : ∀ j, μ 109 j = xs j) (h0 : μ 110 0 = nI L) (next : l_nx xs L i R) : gc_W (gc_S 100) code 17 1 R 1389 [.ref 109, .ref 0, .ref 83, .int (nI i)] [] μ := by
  refine (us_aload_n dL_1389 rfl).mpr ?_
  refine l_arg (k := 1) (by decide) h9 h0 hL (by omega) dL_1390 dL_1391 dL_1392 dL_1393 dL_1394 ?_
  refine l_arg (k := 2) (by decide) h9 h0 hL (by omega) dL_1395 dL_1396 dL_1397 dL_1398 dL_1399 ?_
  refine l_arg (k := 3) (by decide) h9 h0 hL (by omega) dL_1400 dL_1401 dL_1402 dL_1403 dL_1404 ?_
  refine l_arg (k := 4) (by decide) h9 h0 hL (by omega) dL_1405 dL_1406 dL_1407 dL_1408 dL_1409 ?_
  refine l_arg (k := 5) (by decide) h9 h0 hL (by omega) dL_1410 dL_1411 dL_1412 dL_1413 dL_1414 ?_
  refine (us_virt (na := 5) (M := 132) (kd := 11) (rc := 11) (as := [.ref 0, .int (xs (i + 1)), .int (xs (i + 2)), .int (xs (i + 3)), .int (xs (i + 4)), .int (xs (i + 5))]) dL_1415 (by decide +kernel) (kind := 1) (by decide +kernel) (by decide +kernel) rfl rfl rfl rfl rfl).mpr ?_
  refine p_move μ _ I (fun r μ1 q1 hm => ?_)
  have h9' : ∀ j, μ1 109 j = xs j := fun j => by rw [q1 109 (by omega)]; exact h9 j
  have h0' : μ1 110 0 = nI L := by rw [q1 110 (by omega)]; exact h0
  show gc_W (gc_S 100) code 17 1 R 1418 [.ref 109, .ref 0, .ref 83, .int (nI i)] [.int r] μ1
  refine (us_aload_n dL_1418 rfl).mpr ?_
  refine l_arg (k := 1) (by decide) h9' h0' hL (by omega) dL_1419 dL_1420 dL_1421 dL_1422 dL_1423 ?_
  refine l_arg (k := 2) (by decide) h9' h0' hL (by omega) dL_1424 dL_1425 dL_1426 dL_1427 dL_1428 ?_
  refine l_arg (k := 3) (by decide) h9' h0' hL (by omega) dL_1429 dL_1430 dL_1431 dL_1432 dL_1433 ?_
  refine l_arg (k := 4) (by decide) h9' h0' hL (by omega) dL_1434 dL_1435 dL_1436 dL_1437 dL_1438 ?_
  refine l_arg (k := 5) (by decide) h9' h0' hL (by omega) dL_1439 dL_1440 dL_1441 dL_1442 dL_1443 ?_
  refine (us_virt (na := 5) (M := 242) (kd := 12) (rc := 12) (as := [.ref 83, .int (xs (i + 1)), .int (xs (i + 2)), .int (xs (i + 3)), .int (xs (i + 4)), .int (xs (i + 5))]) dL_1444 (by decide +kernel) (kind := 1) (by decide +kernel) (by decide +kernel) rfl rfl rfl rfl rfl).mpr ?_
  refine hm _ (fun μ2 I2 q2 => ?_)
  show gc_W (gc_S 100) code 17 1 R 1447 [.ref 109, .ref 0, .ref 83, .int (nI i)] [.int r, .int r] μ2
  refine (us_iceq (t := 1606) dL_1447 rfl).mpr ?_
  rw [if_pos rfl]
  exact next μ2 I2 (fun j => by rw [q2 109 (by omega)]; exact h9' j) (by rw [q2 110 (by omega)]; exact h0')
theorem l_c36 {xs : Nat → Int32} {L i : Nat} {R : gR} {μ : gM} (hi : i + 5 < L) (hL : L ≤ 3072) (I : q_I μ) (h9 : ∀ j, μ 109 j = xs j) (h0 : μ 110 0 = nI L) (next : l_nx xs L i R) : gc_W (gc_S 100) code 17 1 R 1452 [.ref 109, .ref 0, .ref 83, .int (nI i)] [] μ := by
  refine (us_aload_n dL_1452 rfl).mpr ?_
  refine l_arg (k := 1) (by decide) h9 h0 hL (by omega) dL_1453 dL_1454 dL_1455 dL_1456 dL_1457 ?_
  refine (us_virt (na := 1) (M := 133) (kd := 11) (rc := 11) (as := [.ref 0, .int (xs (i + 1))]) dL_1458 (by decide +kernel) (kind := 1) (by decide +kernel) (by decide +kernel) rfl rfl rfl rfl rfl).mpr ?_
  refine p_wets μ _ I (fun r μ1 q1 hm => ?_)
  have h9' : ∀ j, μ1 109 j = xs j := fun j => by rw [q1 109 (by omega)]; exact h9 j
  have h0' : μ1 110 0 = nI L := by rw [q1 110 (by omega)]; exact h0
  show gc_W (gc_S 100) code 17 1 R 1461 [.ref 109, .ref 0, .ref 83, .int (nI i)] [.int r] μ1
  refine (us_aload_n dL_1461 rfl).mpr ?_
  refine l_arg (k := 1) (by decide) h9' h0' hL (by omega) dL_1462 dL_1463 dL_1464 dL_1465 dL_1466 ?_
  refine (us_virt (na := 1) (M := 243) (kd := 12) (rc := 12) (as := [.ref 83, .int (xs (i + 1))]) dL_1467 (by decide +kernel) (kind := 1) (by decide +kernel) (by decide +kernel) rfl rfl rfl rfl rfl).mpr ?_
  refine hm _ (fun μ2 I2 q2 => ?_)
  show gc_W (gc_S 100) code 17 1 R 1470 [.ref 109, .ref 0, .ref 83, .int (nI i)] [.int r, .int r] μ2
  refine (us_iceq (t := 1606) dL_1470 rfl).mpr ?_
  rw [if_pos rfl]
  exact next μ2 I2 (fun j => by rw [q2 109 (by omega)]; exact h9' j) (by rw [q2 110 (by omega)]; exact h0')
theorem l_c37 {xs : Nat → Int32} {L i : Nat} {R : gR} {μ : gM} (hi : i + 5 < L) (hL : L ≤ 3072) (I : q_I μ) (h9 : ∀ j, μ 109 j = xs j) (h0 : μ 110 0 = nI L) (next : l_nx xs L i R) : gc_W (gc_S 100) code 17 1 R 1475 [.ref 109, .ref 0, .ref 83, .int (nI i)] [] μ := by
  refine (us_aload_n dL_1475 rfl).mpr ?_
  refine l_arg (k := 1) (by decide) h9 h0 hL (by omega) dL_1476 dL_1477 dL_1478 dL_1479 dL_1480 ?_
  refine (us_virt (na := 1) (M := 134) (kd := 11) (rc := 11) (as := [.ref 0, .int (xs (i + 1))]) dL_1481 (by decide +kernel) (kind := 1) (by decide +kernel) (by decide +kernel) rfl rfl rfl rfl rfl).mpr ?_
  refine p_judge μ _ I (fun r μ1 q1 hm => ?_)
  have h9' : ∀ j, μ1 109 j = xs j := fun j => by rw [q1 109 (by omega)]; exact h9 j
  have h0' : μ1 110 0 = nI L := by rw [q1 110 (by omega)]; exact h0
  show gc_W (gc_S 100) code 17 1 R 1484 [.ref 109, .ref 0, .ref 83, .int (nI i)] [.int r] μ1
  refine (us_aload_n dL_1484 rfl).mpr ?_
  refine l_arg (k := 1) (by decide) h9' h0' hL (by omega) dL_1485 dL_1486 dL_1487 dL_1488 dL_1489 ?_
  refine (us_virt (na := 1) (M := 244) (kd := 12) (rc := 12) (as := [.ref 83, .int (xs (i + 1))]) dL_1490 (by decide +kernel) (kind := 1) (by decide +kernel) (by decide +kernel) rfl rfl rfl rfl rfl).mpr ?_
  refine hm _ (fun μ2 I2 q2 => ?_)
  show gc_W (gc_S 100) code 17 1 R 1493 [.ref 109, .ref 0, .ref 83, .int (nI i)] [.int r, .int r] μ2
  refine (us_iceq (t := 1606) dL_1493 rfl).mpr ?_
  rw [if_pos rfl]
  exact next μ2 I2 (fun j => by rw [q2 109 (by omega)]; exact h9' j) (by rw [q2 110 (by omega)]; exact h0')
theorem l_c38 {xs : Nat → Int32} {L i : Nat} {R : gR} {μ : gM} (hi : i + 5 < L) (hL : L ≤ 3072) (I : q_I μ) (h9 : ∀ j, μ 109 j = xs j) (h0 : μ 110 0 = nI L) (next : l_nx xs L i R) : gc_W (gc_S 100) code 17 1 R 1498 [.ref 109, .ref 0, .ref 83, .int (nI i)] [] μ := by
  refine (us_aload_n dL_1498 rfl).mpr ?_
  refine (us_virt (na := 0) (M := 135) (kd := 11) (rc := 11) (as := [.ref 0]) dL_1499 (by decide +kernel) (kind := 1) (by decide +kernel) (by decide +kernel) rfl rfl rfl rfl rfl).mpr ?_
  refine p_image μ _ I (fun r μ1 q1 hm => ?_)
  have h9' : ∀ j, μ1 109 j = xs j := fun j => by rw [q1 109 (by omega)]; exact h9 j
  have h0' : μ1 110 0 = nI L := by rw [q1 110 (by omega)]; exact h0
  show gc_W (gc_S 100) code 17 1 R 1502 [.ref 109, .ref 0, .ref 83, .int (nI i)] [.int r] μ1
  refine (us_aload_n dL_1502 rfl).mpr ?_
  refine (us_virt (na := 0) (M := 245) (kd := 12) (rc := 12) (as := [.ref 83]) dL_1503 (by decide +kernel) (kind := 1) (by decide +kernel) (by decide +kernel) rfl rfl rfl rfl rfl).mpr ?_
  refine hm _ (fun μ2 I2 q2 => ?_)
  show gc_W (gc_S 100) code 17 1 R 1506 [.ref 109, .ref 0, .ref 83, .int (nI i)] [.int r, .int r] μ2
  refine (us_iceq (t := 1606) dL_1506 rfl).mpr ?_
  rw [if_pos rfl]
  exact next μ2 I2 (fun j => by rw [q2 109 (by omega)]; exact h9' j) (by rw [q2 110 (by omega)]; exact h0')
theorem l_c39 {xs : Nat → Int32} {L i : Nat} {R : gR} {μ : gM} (hi : i + 5 < L) (hL : L ≤ 3072) (I : q_I μ) (h9 : ∀ j, μ 109 j = xs j) (h0 : μ 110 0 = nI L) (next : l_nx xs L i R) : gc_W (gc_S 100) code 17 1 R 1511 [.ref 109, .ref 0, .ref 83, .int (nI i)] [] μ := by
  refine (us_aload_n dL_1511 rfl).mpr ?_
  refine (us_virt (na := 0) (M := 136) (kd := 11) (rc := 11) (as := [.ref 0]) dL_1512 (by decide +kernel) (kind := 1) (by decide +kernel) (by decide +kernel) rfl rfl rfl rfl rfl).mpr ?_
  refine p_restore μ _ I (fun r μ1 q1 hm => ?_)
  have h9' : ∀ j, μ1 109 j = xs j := fun j => by rw [q1 109 (by omega)]; exact h9 j
  have h0' : μ1 110 0 = nI L := by rw [q1 110 (by omega)]; exact h0
  show gc_W (gc_S 100) code 17 1 R 1515 [.ref 109, .ref 0, .ref 83, .int (nI i)] [.int r] μ1
  refine (us_aload_n dL_1515 rfl).mpr ?_
  refine (us_virt (na := 0) (M := 246) (kd := 12) (rc := 12) (as := [.ref 83]) dL_1516 (by decide +kernel) (kind := 1) (by decide +kernel) (by decide +kernel) rfl rfl rfl rfl rfl).mpr ?_
  refine hm _ (fun μ2 I2 q2 => ?_)
  show gc_W (gc_S 100) code 17 1 R 1519 [.ref 109, .ref 0, .ref 83, .int (nI i)] [.int r, .int r] μ2
  refine (us_iceq (t := 1606) dL_1519 rfl).mpr ?_
  rw [if_pos rfl]
  exact next μ2 I2 (fun j => by rw [q2 109 (by omega)]; exact h9' j) (by rw [q2 110 (by omega)]; exact h0')
theorem l_c40 {xs : Nat → Int32} {L i : Nat} {R : gR} {μ : gM} (hi : i + 5 < L) (hL : L ≤ 3072) (I : q_I μ) (h9 : ∀ j, μ 109 j = xs j) (h0 : μ 110 0 = nI L) (next : l_nx xs L i R) : gc_W (gc_S 100) code 17 1 R 1524 [.ref 109, .ref 0, .ref 83, .int (nI i)] [] μ := by
  refine (us_aload_n dL_1524 rfl).mpr ?_
  refine l_arg (k := 1) (by decide) h9 h0 hL (by omega) dL_1525 dL_1526 dL_1527 dL_1528 dL_1529 ?_
  refine (us_virt (na := 1) (M := 137) (kd := 11) (rc := 11) (as := [.ref 0, .int (xs (i + 1))]) dL_1530 (by decide +kernel) (kind := 1) (by decide +kernel) (by decide +kernel) rfl rfl rfl rfl rfl).mpr ?_
  refine p_tell μ _ I (fun r μ1 q1 hm => ?_)
  have h9' : ∀ j, μ1 109 j = xs j := fun j => by rw [q1 109 (by omega)]; exact h9 j
  have h0' : μ1 110 0 = nI L := by rw [q1 110 (by omega)]; exact h0
  show gc_W (gc_S 100) code 17 1 R 1533 [.ref 109, .ref 0, .ref 83, .int (nI i)] [.int r] μ1
  refine (us_aload_n dL_1533 rfl).mpr ?_
  refine l_arg (k := 1) (by decide) h9' h0' hL (by omega) dL_1534 dL_1535 dL_1536 dL_1537 dL_1538 ?_
  refine (us_virt (na := 1) (M := 247) (kd := 12) (rc := 12) (as := [.ref 83, .int (xs (i + 1))]) dL_1539 (by decide +kernel) (kind := 1) (by decide +kernel) (by decide +kernel) rfl rfl rfl rfl rfl).mpr ?_
  refine hm _ (fun μ2 I2 q2 => ?_)
  show gc_W (gc_S 100) code 17 1 R 1542 [.ref 109, .ref 0, .ref 83, .int (nI i)] [.int r, .int r] μ2
  refine (us_iceq (t := 1606) dL_1542 rfl).mpr ?_
  rw [if_pos rfl]
  exact next μ2 I2 (fun j => by rw [q2 109 (by omega)]; exact h9' j) (by rw [q2 110 (by omega)]; exact h0')
theorem l_c41 {xs : Nat → Int32} {L i : Nat} {R : gR} {μ : gM} (hi : i + 5 < L) (hL : L ≤ 3072) (I : q_I μ) (h9 : ∀ j, μ 109 j = xs j) (h0 : μ 110 0 = nI L) (next : l_nx xs L i R) : gc_W (gc_S 100) code 17 1 R 1547 [.ref 109, .ref 0, .ref 83, .int (nI i)] [] μ := by
  refine (us_aload_n dL_1547 rfl).mpr ?_
  refine (us_virt (na := 0) (M := 138) (kd := 11) (rc := 11) (as := [.ref 0]) dL_1548 (by decide +kernel) (kind := 1) (by decide +kernel) (by decide +kernel) rfl rfl rfl rfl rfl).mpr ?_
  refine p_check μ _ I (fun r μ1 q1 hm => ?_)
  have h9' : ∀ j, μ1 109 j = xs j := fun j => by rw [q1 109 (by omega)]; exact h9 j
  have h0' : μ1 110 0 = nI L := by rw [q1 110 (by omega)]; exact h0
  show gc_W (gc_S 100) code 17 1 R 1551 [.ref 109, .ref 0, .ref 83, .int (nI i)] [.int r] μ1
  refine (us_aload_n dL_1551 rfl).mpr ?_
  refine (us_virt (na := 0) (M := 248) (kd := 12) (rc := 12) (as := [.ref 83]) dL_1552 (by decide +kernel) (kind := 1) (by decide +kernel) (by decide +kernel) rfl rfl rfl rfl rfl).mpr ?_
  refine hm _ (fun μ2 I2 q2 => ?_)
  show gc_W (gc_S 100) code 17 1 R 1555 [.ref 109, .ref 0, .ref 83, .int (nI i)] [.int r, .int r] μ2
  refine (us_iceq (t := 1606) dL_1555 rfl).mpr ?_
  rw [if_pos rfl]
  exact next μ2 I2 (fun j => by rw [q2 109 (by omega)]; exact h9' j) (by rw [q2 110 (by omega)]; exact h0')
theorem l_c42 {xs : Nat → Int32} {L i : Nat} {R : gR} {μ : gM} (hi : i + 5 < L) (hL : L ≤ 3072) (I : q_I μ) (h9 : ∀ j, μ 109 j = xs j) (h0 : μ 110 0 = nI L) (next : l_nx xs L i R) : gc_W (gc_S 100) code 17 1 R 1560 [.ref 109, .ref 0, .ref 83, .int (nI i)] [] μ := by
  refine (us_aload_n dL_1560 rfl).mpr ?_
  refine l_arg (k := 1) (by decide) h9 h0 hL (by omega) dL_1561 dL_1562 dL_1563 dL_1564 dL_1565 ?_
  refine (us_virt (na := 1) (M := 139) (kd := 11) (rc := 11) (as := [.ref 0, .int (xs (i + 1))]) dL_1566 (by decide +kernel) (kind := 1) (by decide +kernel) (by decide +kernel) rfl rfl rfl rfl rfl).mpr ?_
  refine p_count μ _ I (fun r μ1 q1 hm => ?_)
  have h9' : ∀ j, μ1 109 j = xs j := fun j => by rw [q1 109 (by omega)]; exact h9 j
  have h0' : μ1 110 0 = nI L := by rw [q1 110 (by omega)]; exact h0
  show gc_W (gc_S 100) code 17 1 R 1569 [.ref 109, .ref 0, .ref 83, .int (nI i)] [.int r] μ1
  refine (us_aload_n dL_1569 rfl).mpr ?_
  refine l_arg (k := 1) (by decide) h9' h0' hL (by omega) dL_1570 dL_1571 dL_1572 dL_1573 dL_1574 ?_
  refine (us_virt (na := 1) (M := 249) (kd := 12) (rc := 12) (as := [.ref 83, .int (xs (i + 1))]) dL_1575 (by decide +kernel) (kind := 1) (by decide +kernel) (by decide +kernel) rfl rfl rfl rfl rfl).mpr ?_
  refine hm _ (fun μ2 I2 q2 => ?_)
  show gc_W (gc_S 100) code 17 1 R 1578 [.ref 109, .ref 0, .ref 83, .int (nI i)] [.int r, .int r] μ2
  refine (us_iceq (t := 1606) dL_1578 rfl).mpr ?_
  rw [if_pos rfl]
  exact next μ2 I2 (fun j => by rw [q2 109 (by omega)]; exact h9' j) (by rw [q2 110 (by omega)]; exact h0')
theorem l_c43 {xs : Nat → Int32} {L i : Nat} {R : gR} {μ : gM} (hi : i + 5 < L) (hL : L ≤ 3072) (I : q_I μ) (h9 : ∀ j, μ 109 j = xs j) (h0 : μ 110 0 = nI L) (next : l_nx xs L i R) : gc_W (gc_S 100) code 17 1 R 1583 [.ref 109, .ref 0, .ref 83, .int (nI i)] [] μ := by
  refine (us_aload_n dL_1583 rfl).mpr ?_
  refine l_arg (k := 1) (by decide) h9 h0 hL (by omega) dL_1584 dL_1585 dL_1586 dL_1587 dL_1588 ?_
  refine (us_virt (na := 1) (M := 140) (kd := 11) (rc := 11) (as := [.ref 0, .int (xs (i + 1))]) dL_1589 (by decide +kernel) (kind := 1) (by decide +kernel) (by decide +kernel) rfl rfl rfl rfl rfl).mpr ?_
  refine p_told μ _ I (fun r μ1 q1 hm => ?_)
  have h9' : ∀ j, μ1 109 j = xs j := fun j => by rw [q1 109 (by omega)]; exact h9 j
  have h0' : μ1 110 0 = nI L := by rw [q1 110 (by omega)]; exact h0
  show gc_W (gc_S 100) code 17 1 R 1592 [.ref 109, .ref 0, .ref 83, .int (nI i)] [.int r] μ1
  refine (us_aload_n dL_1592 rfl).mpr ?_
  refine l_arg (k := 1) (by decide) h9' h0' hL (by omega) dL_1593 dL_1594 dL_1595 dL_1596 dL_1597 ?_
  refine (us_virt (na := 1) (M := 250) (kd := 12) (rc := 12) (as := [.ref 83, .int (xs (i + 1))]) dL_1598 (by decide +kernel) (kind := 1) (by decide +kernel) (by decide +kernel) rfl rfl rfl rfl rfl).mpr ?_
  refine hm _ (fun μ2 I2 q2 => ?_)
  show gc_W (gc_S 100) code 17 1 R 1601 [.ref 109, .ref 0, .ref 83, .int (nI i)] [.int r, .int r] μ2
  refine (us_iceq (t := 1606) dL_1601 rfl).mpr ?_
  rw [if_pos rfl]
  exact next μ2 I2 (fun j => by rw [q2 109 (by omega)]; exact h9' j) (by rw [q2 110 (by omega)]; exact h0')
theorem l_sw1 {K : Nat → Prop} {d t : Nat} {v x : Int32} {r : List (Int32 × Nat)} (h : K t) (h2 : gc_sw K d r x) : gc_sw K d ((v, t) :: r) x := by
  show (if x = v then K t else gc_sw K d r x)
  split
  · exact h
  · exact h2
theorem l_sws {xs : Nat → Int32} {L i : Nat} {R : gR} {μ : gM} (hi : i + 5 < L) (hL : L ≤ 3072) (I : q_I μ) (h9 : ∀ j, μ 109 j = xs j) (h0 : μ 110 0 = nI L) (next : l_nx xs L i R) (x : Int32) : gc_sw (fun q => gc_W (gc_S 100) code 17 1 R q [.ref 109, .ref 0, .ref 83, .int (nI i)] [] μ) 1606 [(0, 224), (1, 267), (2, 300), (3, 333), (4, 356), (5, 399), (6, 432), (7, 475), (8, 508), (9, 541), (10, 604), (11, 627), (12, 680), (13, 703), (14, 726), (15, 759), (16, 792), (17, 815), (18, 848), (19, 881), (20, 914), (21, 947), (22, 990), (23, 1013), (24, 1046), (25, 1059), (26, 1072), (27, 1095), (28, 1128), (29, 1171), (30, 1214), (31, 1237), (32, 1280), (33, 1303), (34, 1346), (35, 1389), (36, 1452), (37, 1475), (38, 1498), (39, 1511), (40, 1524), (41, 1547), (42, 1560), (43, 1583)] x :=
  l_sw1 (l_c0 hi hL I h9 h0 next) (l_sw1 (l_c1 hi hL I h9 h0 next) (l_sw1 (l_c2 hi hL I h9 h0 next) (l_sw1 (l_c3 hi hL I h9 h0 next) (l_sw1 (l_c4 hi hL I h9 h0 next) (l_sw1 (l_c5 hi hL I h9 h0 next) (l_sw1 (l_c6 hi hL I h9 h0 next) (l_sw1 (l_c7 hi hL I h9 h0 next) (l_sw1 (l_c8 hi hL I h9 h0 next) (l_sw1 (l_c9 hi hL I h9 h0 next) (l_sw1 (l_c10 hi hL I h9 h0 next) (l_sw1 (l_c11 hi hL I h9 h0 next) (l_sw1 (l_c12 hi hL I h9 h0 next) (l_sw1 (l_c13 hi hL I h9 h0 next) (l_sw1 (l_c14 hi hL I h9 h0 next) (l_sw1 (l_c15 hi hL I h9 h0 next) (l_sw1 (l_c16 hi hL I h9 h0 next) (l_sw1 (l_c17 hi hL I h9 h0 next) (l_sw1 (l_c18 hi hL I h9 h0 next) (l_sw1 (l_c19 hi hL I h9 h0 next) (l_sw1 (l_c20 hi hL I h9 h0 next) (l_sw1 (l_c21 hi hL I h9 h0 next) (l_sw1 (l_c22 hi hL I h9 h0 next) (l_sw1 (l_c23 hi hL I h9 h0 next) (l_sw1 (l_c24 hi hL I h9 h0 next) (l_sw1 (l_c25 hi hL I h9 h0 next) (l_sw1 (l_c26 hi hL I h9 h0 next) (l_sw1 (l_c27 hi hL I h9 h0 next) (l_sw1 (l_c28 hi hL I h9 h0 next) (l_sw1 (l_c29 hi hL I h9 h0 next) (l_sw1 (l_c30 hi hL I h9 h0 next) (l_sw1 (l_c31 hi hL I h9 h0 next) (l_sw1 (l_c32 hi hL I h9 h0 next) (l_sw1 (l_c33 hi hL I h9 h0 next) (l_sw1 (l_c34 hi hL I h9 h0 next) (l_sw1 (l_c35 hi hL I h9 h0 next) (l_sw1 (l_c36 hi hL I h9 h0 next) (l_sw1 (l_c37 hi hL I h9 h0 next) (l_sw1 (l_c38 hi hL I h9 h0 next) (l_sw1 (l_c39 hi hL I h9 h0 next) (l_sw1 (l_c40 hi hL I h9 h0 next) (l_sw1 (l_c41 hi hL I h9 h0 next) (l_sw1 (l_c42 hi hL I h9 h0 next) (l_sw1 (l_c43 hi hL I h9 h0 next) (next μ I h9 h0))))))))))))))))))))))))))))))))))))))))))))
theorem l_gt {L i : Nat} (h : L < i + 6) (hL : L < 4000) (hi : i < 8000) : nI L - 6 < nI i := by
  by_cases z : 6 ≤ L
  · rw [show (6 : Int32) = nI 6 from rfl, pk_sub z]
    exact nI_lt (by omega) (by omega)
  · have e : nI L - 6 < 0 := by
      rcases (show L = 0 ∨ L = 1 ∨ L = 2 ∨ L = 3 ∨ L = 4 ∨ L = 5 by omega) with rfl | rfl | rfl | rfl | rfl | rfl <;> decide
    exact Int32.lt_of_lt_of_le e (nI_pos' (by omega))
theorem l_ngt {L i : Nat} (h : i + 6 ≤ L) (hL : L < 4000) : ¬ nI L - 6 < nI i := by
  rw [show (6 : Int32) = nI 6 from rfl, pk_sub (by omega)]
  exact nI_nlt (by omega) (by omega)
theorem l_loop {xs : Nat → Int32} {L : Nat} {R : gR} (hL : L ≤ 3072) (hR : ∀ μ : gM, R (some (.int 1)) μ) : ∀ f i μ, L + 6 ≤ f + i → i ≤ L + 6 → q_I μ → (∀ j, μ 109 j = xs j) → μ 110 0 = nI L → gc_W (gc_S 100) code 17 1 R 18 [.ref 109, .ref 0, .ref 83, .int (nI i)] [] μ := by
  intro f
  induction f with
  | zero =>
    intro i μ hf hi I h9 h0
    refine (us_iload_n dL_18 rfl).mpr ((us_aload_n dL_19 rfl).mpr ((us_alen1 dL_20 rfl).mpr ((us_bipush (v := 6) dL_21 (by decide)).mpr ((us_isub dL_23).mpr ((us_icgt (t := 1612) dL_24 rfl).mpr ?_)))))
    rw [h0, if_pos (l_gt (by omega) (by omega) (by omega))]
    exact (us_iconst (v := 1) dL_1612 (by decide)).mpr ((us_zret dL_1613 rfl).mpr ⟨.inr rfl, hR μ⟩)
  | succ f ih =>
    intro i μ hf hi I h9 h0
    refine (us_iload_n dL_18 rfl).mpr ((us_aload_n dL_19 rfl).mpr ((us_alen1 dL_20 rfl).mpr ((us_bipush (v := 6) dL_21 (by decide)).mpr ((us_isub dL_23).mpr ((us_icgt (t := 1612) dL_24 rfl).mpr ?_)))))
    rw [h0]
    by_cases g : L < i + 6
    · rw [if_pos (l_gt g (by omega) (by omega))]
      exact (us_iconst (v := 1) dL_1612 (by decide)).mpr ((us_zret dL_1613 rfl).mpr ⟨.inr rfl, hR μ⟩)
    · rw [if_neg (l_ngt (by omega) (by omega))]
      refine (us_aload_n dL_27 rfl).mpr ((us_iload_n dL_28 rfl).mpr ((us_iald1 dL_29 rfl).mpr ⟨?_, ?_⟩))
      · rw [h0, nI_clamp (show L < 2 ^ 31 by omega)]; exact vp_in_nI (by omega) (by omega)
      · refine (us_bipush (v := 63) dL_30 (by decide)).mpr ((us_iand dL_32).mpr ?_)
        refine (us_tsw (dt := 1606) [(0, 224), (1, 267), (2, 300), (3, 333), (4, 356), (5, 399), (6, 432), (7, 475), (8, 508), (9, 541), (10, 604), (11, 627), (12, 680), (13, 703), (14, 726), (15, 759), (16, 792), (17, 815), (18, 848), (19, 881), (20, 914), (21, 947), (22, 990), (23, 1013), (24, 1046), (25, 1059), (26, 1072), (27, 1095), (28, 1128), (29, 1171), (30, 1214), (31, 1237), (32, 1280), (33, 1303), (34, 1346), (35, 1389), (36, 1452), (37, 1475), (38, 1498), (39, 1511), (40, 1524), (41, 1547), (42, 1560), (43, 1583)] dL_33 (by decide) (by decide) (by decide +kernel) rfl).mpr ?_
        refine l_sws (by omega) hL I h9 h0 (fun μ' I' h9' h0' => ?_) _
        refine (us_iinc (v := 6) dL_1606 rfl (by decide)).mpr ((us_goto (t := 18) dL_1609 rfl).mpr ?_)
        show gc_W (gc_S 100) code 17 1 R 18 [.ref 109, .ref 0, .ref 83, .int (nI i + 6)] [] μ'
        rw [show nI i + 6 = nI (i + 6) from nI_add i 6]
        exact ih (i + 6) μ' (by omega) (by omega) I' h9' h0'
