theorem dL_289 : decode code 289 = .ok (.aload_n 1, 1) := by decide +kernel
theorem dL_290 : decode code 290 = .ok (.aload_n 0, 1) := by decide +kernel
theorem dL_291 : decode code 291 = .ok (.iload_n 3, 1) := by decide +kernel
theorem dL_292 : decode code 292 = .ok (.iconst 1, 1) := by decide +kernel
theorem dL_293 : decode code 293 = .ok (.iadd, 1) := by decide +kernel
theorem dL_294 : decode code 294 = .ok (.iaload, 1) := by decide +kernel
theorem dL_295 : decode code 295 = .ok (.aload_n 0, 1) := by decide +kernel
theorem dL_296 : decode code 296 = .ok (.iload_n 3, 1) := by decide +kernel
theorem dL_297 : decode code 297 = .ok (.iconst 2, 1) := by decide +kernel
theorem dL_298 : decode code 298 = .ok (.iadd, 1) := by decide +kernel
theorem dL_299 : decode code 299 = .ok (.iaload, 1) := by decide +kernel
theorem dL_300 : decode code 300 = .ok (.invokevirtual 36, 3) := by decide +kernel
theorem dL_303 : decode code 303 = .ok (.aload_n 2, 1) := by decide +kernel
theorem dL_304 : decode code 304 = .ok (.aload_n 0, 1) := by decide +kernel
theorem dL_305 : decode code 305 = .ok (.iload_n 3, 1) := by decide +kernel
theorem dL_306 : decode code 306 = .ok (.iconst 1, 1) := by decide +kernel
theorem dL_307 : decode code 307 = .ok (.iadd, 1) := by decide +kernel
theorem dL_308 : decode code 308 = .ok (.iaload, 1) := by decide +kernel
theorem dL_309 : decode code 309 = .ok (.aload_n 0, 1) := by decide +kernel
theorem dL_310 : decode code 310 = .ok (.iload_n 3, 1) := by decide +kernel
theorem dL_311 : decode code 311 = .ok (.iconst 2, 1) := by decide +kernel
theorem dL_312 : decode code 312 = .ok (.iadd, 1) := by decide +kernel
theorem dL_313 : decode code 313 = .ok (.iaload, 1) := by decide +kernel
theorem dL_314 : decode code 314 = .ok (.invokevirtual 39, 3) := by decide +kernel
theorem dL_317 : decode code 317 = .ok (.if_icmp .eq 839, 3) := by decide +kernel
set_option maxRecDepth 8000 in
set_option maxHeartbeats 4000000 in
theorem lw_c5 {l : Launch} {g : qGm} {X : qCt} {M : qMem} {b L : Nat} {xs : Nat → Int32} {i : Int} {sd : sSD} (C : qCx l g X code RL 9) (D : lCx X b L xs) (hi : 0 ≤ i ∧ i + 5 ≤ (L : Int)) (hL : L ≤ 320) (h : qInv M sd) (k : ∀ M' sd', qInv M' sd' → qV l g X M' 1156 (lwL g b i) []) : qV l g X M 289 (lwL g b i) [] := by
  have hI := h
  obtain ⟨hT, hSt, hSn, hBk⟩ := h
  have hs := hSt.1
  have hxS := hSt.2.1
  have hmS := hSt.2.2.1
  have hZ := hSt.2.2.2.1
  have hI0 := hSt.2.2.2.2.1
  have hI1 := hSt.2.2.2.2.2
  have hv := hSt.v
  have hH := hSt.h
  have hk := hSt.k
  refine q_aloadn C dL_289 rfl ?_
  refine q_aloadn C dL_290 rfl ?_
  refine q_iloadn C dL_291 rfl ?_
  refine q_iconst C dL_292 ?_
  refine q_iadd C dL_293 ?_
  refine q_sld C D (by omega) (by omega) hL dL_294 ?_
  refine q_aloadn C dL_295 rfl ?_
  refine q_iloadn C dL_296 rfl ?_
  refine q_iconst C dL_297 ?_
  refine q_iadd C dL_298 ?_
  refine q_sld C D (by omega) (by omega) hL dL_299 ?_
  refine cw_RL_36 C (by decide) (m_X11_house l g M hs hxS hv hH (lSc_in _ _) (lSc_in _ _)) dL_300 (Nat.le_of_ble_eq_true rfl) (fun r1 N hz1 hp1 => ?_)
  obtain ⟨e1, hx⟩ := hp1
  subst e1
  have nS : mS N sd := mS_off (fun k _ _ => by rw [hx 35 (by omega)]) (fun j _ _ => by rw [hx j (by omega)]) hmS
  have e61 : N 61 = M 61 := hx 61 (by omega)
  show qV l g X _ _ _ (qI _ :: [])
  refine q_aloadn C dL_303 rfl ?_
  refine q_aloadn C dL_304 rfl ?_
  refine q_iloadn C dL_305 rfl ?_
  refine q_iconst C dL_306 ?_
  refine q_iadd C dL_307 ?_
  refine q_sld C D (by omega) (by omega) hL dL_308 ?_
  refine q_aloadn C dL_309 rfl ?_
  refine q_iloadn C dL_310 rfl ?_
  refine q_iconst C dL_311 ?_
  refine q_iadd C dL_312 ?_
  refine q_sld C D (by omega) (by omega) hL dL_313 ?_
  refine cw_RL_39 C (by decide) (m_X12_house l g N hs nS (by rw [e61]; exact hv) (lSc_in _ _) (lSc_in _ _)) dL_314 (Nat.le_of_ble_eq_true rfl) (fun r2 K hz2 hp2 => ?_)
  obtain ⟨e2, hm⟩ := hp2
  rw [e61] at e2
  subst e2
  show qV l g X _ _ _ (qI _ :: qI _ :: [])
  exact q_icmp_eq C 1156 dL_317 (by decide) (hz1 _ rfl) (hz1 _ rfl) (fun _ => k _ _ (qInv_mt hI hx hm)) (fun hne => absurd (rfl) hne)
theorem dL_322 : decode code 322 = .ok (.aload_n 1, 1) := by decide +kernel
theorem dL_323 : decode code 323 = .ok (.aload_n 0, 1) := by decide +kernel
theorem dL_324 : decode code 324 = .ok (.iload_n 3, 1) := by decide +kernel
theorem dL_325 : decode code 325 = .ok (.iconst 1, 1) := by decide +kernel
theorem dL_326 : decode code 326 = .ok (.iadd, 1) := by decide +kernel
theorem dL_327 : decode code 327 = .ok (.iaload, 1) := by decide +kernel
theorem dL_328 : decode code 328 = .ok (.aload_n 0, 1) := by decide +kernel
theorem dL_329 : decode code 329 = .ok (.iload_n 3, 1) := by decide +kernel
theorem dL_330 : decode code 330 = .ok (.iconst 2, 1) := by decide +kernel
theorem dL_331 : decode code 331 = .ok (.iadd, 1) := by decide +kernel
theorem dL_332 : decode code 332 = .ok (.iaload, 1) := by decide +kernel
theorem dL_333 : decode code 333 = .ok (.invokevirtual 40, 3) := by decide +kernel
theorem dL_336 : decode code 336 = .ok (.aload_n 2, 1) := by decide +kernel
theorem dL_337 : decode code 337 = .ok (.aload_n 0, 1) := by decide +kernel
theorem dL_338 : decode code 338 = .ok (.iload_n 3, 1) := by decide +kernel
theorem dL_339 : decode code 339 = .ok (.iconst 1, 1) := by decide +kernel
theorem dL_340 : decode code 340 = .ok (.iadd, 1) := by decide +kernel
theorem dL_341 : decode code 341 = .ok (.iaload, 1) := by decide +kernel
theorem dL_342 : decode code 342 = .ok (.aload_n 0, 1) := by decide +kernel
theorem dL_343 : decode code 343 = .ok (.iload_n 3, 1) := by decide +kernel
theorem dL_344 : decode code 344 = .ok (.iconst 2, 1) := by decide +kernel
theorem dL_345 : decode code 345 = .ok (.iadd, 1) := by decide +kernel
theorem dL_346 : decode code 346 = .ok (.iaload, 1) := by decide +kernel
theorem dL_347 : decode code 347 = .ok (.invokevirtual 43, 3) := by decide +kernel
theorem dL_350 : decode code 350 = .ok (.if_icmp .eq 806, 3) := by decide +kernel
set_option maxRecDepth 8000 in
set_option maxHeartbeats 4000000 in
theorem lw_c6 {l : Launch} {g : qGm} {X : qCt} {M : qMem} {b L : Nat} {xs : Nat → Int32} {i : Int} {sd : sSD} (C : qCx l g X code RL 9) (D : lCx X b L xs) (hi : 0 ≤ i ∧ i + 5 ≤ (L : Int)) (hL : L ≤ 320) (h : qInv M sd) (k : ∀ M' sd', qInv M' sd' → qV l g X M' 1156 (lwL g b i) []) : qV l g X M 322 (lwL g b i) [] := by
  have hI := h
  obtain ⟨hT, hSt, hSn, hBk⟩ := h
  have hs := hSt.1
  have hxS := hSt.2.1
  have hmS := hSt.2.2.1
  have hZ := hSt.2.2.2.1
  have hI0 := hSt.2.2.2.2.1
  have hI1 := hSt.2.2.2.2.2
  have hv := hSt.v
  have hH := hSt.h
  have hk := hSt.k
  refine q_aloadn C dL_322 rfl ?_
  refine q_aloadn C dL_323 rfl ?_
  refine q_iloadn C dL_324 rfl ?_
  refine q_iconst C dL_325 ?_
  refine q_iadd C dL_326 ?_
  refine q_sld C D (by omega) (by omega) hL dL_327 ?_
  refine q_aloadn C dL_328 rfl ?_
  refine q_iloadn C dL_329 rfl ?_
  refine q_iconst C dL_330 ?_
  refine q_iadd C dL_331 ?_
  refine q_sld C D (by omega) (by omega) hL dL_332 ?_
  refine cv_RL_40 C (by decide) (m_X11_prize l g M hs hxS (lSc_in _ _) (lSc_in _ _)) dL_333 (Nat.le_of_ble_eq_true rfl) (fun r1 => ?_)
  refine q_aloadn C dL_336 rfl ?_
  refine q_aloadn C dL_337 rfl ?_
  refine q_iloadn C dL_338 rfl ?_
  refine q_iconst C dL_339 ?_
  refine q_iadd C dL_340 ?_
  refine q_sld C D (by omega) (by omega) hL dL_341 ?_
  refine q_aloadn C dL_342 rfl ?_
  refine q_iloadn C dL_343 rfl ?_
  refine q_iconst C dL_344 ?_
  refine q_iadd C dL_345 ?_
  refine q_sld C D (by omega) (by omega) hL dL_346 ?_
  refine cv_RL_43 C (by decide) (m_X12_prize l g M hs hmS (lSc_in _ _) (lSc_in _ _)) dL_347 (Nat.le_of_ble_eq_true rfl) (fun r2 => ?_)
  exact q_icmp_eq C 1156 dL_350 (by decide) (r1) (r2) (fun _ => k _ _ (hI)) (fun hne => absurd (rfl) hne)
theorem dL_355 : decode code 355 = .ok (.aload_n 1, 1) := by decide +kernel
theorem dL_356 : decode code 356 = .ok (.aload_n 0, 1) := by decide +kernel
theorem dL_357 : decode code 357 = .ok (.iload_n 3, 1) := by decide +kernel
theorem dL_358 : decode code 358 = .ok (.iconst 1, 1) := by decide +kernel
theorem dL_359 : decode code 359 = .ok (.iadd, 1) := by decide +kernel
theorem dL_360 : decode code 360 = .ok (.iaload, 1) := by decide +kernel
theorem dL_361 : decode code 361 = .ok (.aload_n 0, 1) := by decide +kernel
theorem dL_362 : decode code 362 = .ok (.iload_n 3, 1) := by decide +kernel
theorem dL_363 : decode code 363 = .ok (.iconst 2, 1) := by decide +kernel
theorem dL_364 : decode code 364 = .ok (.iadd, 1) := by decide +kernel
theorem dL_365 : decode code 365 = .ok (.iaload, 1) := by decide +kernel
theorem dL_366 : decode code 366 = .ok (.invokevirtual 44, 3) := by decide +kernel
theorem dL_369 : decode code 369 = .ok (.aload_n 2, 1) := by decide +kernel
theorem dL_370 : decode code 370 = .ok (.aload_n 0, 1) := by decide +kernel
theorem dL_371 : decode code 371 = .ok (.iload_n 3, 1) := by decide +kernel
theorem dL_372 : decode code 372 = .ok (.iconst 1, 1) := by decide +kernel
theorem dL_373 : decode code 373 = .ok (.iadd, 1) := by decide +kernel
theorem dL_374 : decode code 374 = .ok (.iaload, 1) := by decide +kernel
theorem dL_375 : decode code 375 = .ok (.aload_n 0, 1) := by decide +kernel
theorem dL_376 : decode code 376 = .ok (.iload_n 3, 1) := by decide +kernel
theorem dL_377 : decode code 377 = .ok (.iconst 2, 1) := by decide +kernel
theorem dL_378 : decode code 378 = .ok (.iadd, 1) := by decide +kernel
theorem dL_379 : decode code 379 = .ok (.iaload, 1) := by decide +kernel
theorem dL_380 : decode code 380 = .ok (.invokevirtual 47, 3) := by decide +kernel
theorem dL_383 : decode code 383 = .ok (.if_icmp .eq 773, 3) := by decide +kernel
set_option maxRecDepth 8000 in
set_option maxHeartbeats 4000000 in
theorem lw_c7 {l : Launch} {g : qGm} {X : qCt} {M : qMem} {b L : Nat} {xs : Nat → Int32} {i : Int} {sd : sSD} (C : qCx l g X code RL 9) (D : lCx X b L xs) (hi : 0 ≤ i ∧ i + 5 ≤ (L : Int)) (hL : L ≤ 320) (h : qInv M sd) (k : ∀ M' sd', qInv M' sd' → qV l g X M' 1156 (lwL g b i) []) : qV l g X M 355 (lwL g b i) [] := by
  have hI := h
  obtain ⟨hT, hSt, hSn, hBk⟩ := h
  have hs := hSt.1
  have hxS := hSt.2.1
  have hmS := hSt.2.2.1
  have hZ := hSt.2.2.2.1
  have hI0 := hSt.2.2.2.2.1
  have hI1 := hSt.2.2.2.2.2
  have hv := hSt.v
  have hH := hSt.h
  have hk := hSt.k
  refine q_aloadn C dL_355 rfl ?_
  refine q_aloadn C dL_356 rfl ?_
  refine q_iloadn C dL_357 rfl ?_
  refine q_iconst C dL_358 ?_
  refine q_iadd C dL_359 ?_
  refine q_sld C D (by omega) (by omega) hL dL_360 ?_
  refine q_aloadn C dL_361 rfl ?_
  refine q_iloadn C dL_362 rfl ?_
  refine q_iconst C dL_363 ?_
  refine q_iadd C dL_364 ?_
  refine q_sld C D (by omega) (by omega) hL dL_365 ?_
  refine cv_RL_44 C (by decide) (m_X11_calls l g M hs hxS hv hH (lSc_in _ _) (lSc_in _ _)) dL_366 (Nat.le_of_ble_eq_true rfl) (fun r1 => ?_)
  refine q_aloadn C dL_369 rfl ?_
  refine q_aloadn C dL_370 rfl ?_
  refine q_iloadn C dL_371 rfl ?_
  refine q_iconst C dL_372 ?_
  refine q_iadd C dL_373 ?_
  refine q_sld C D (by omega) (by omega) hL dL_374 ?_
  refine q_aloadn C dL_375 rfl ?_
  refine q_iloadn C dL_376 rfl ?_
  refine q_iconst C dL_377 ?_
  refine q_iadd C dL_378 ?_
  refine q_sld C D (by omega) (by omega) hL dL_379 ?_
  refine cv_RL_47 C (by decide) (m_X12_calls l g M hs hmS (lSc_in _ _) (lSc_in _ _)) dL_380 (Nat.le_of_ble_eq_true rfl) (fun r2 => ?_)
  exact q_icmp_eq C 1156 dL_383 (by decide) (r1) (r2) (fun _ => k _ _ (hI)) (fun hne => absurd (rfl) hne)
theorem dL_388 : decode code 388 = .ok (.aload_n 1, 1) := by decide +kernel
theorem dL_389 : decode code 389 = .ok (.aload_n 0, 1) := by decide +kernel
theorem dL_390 : decode code 390 = .ok (.iload_n 3, 1) := by decide +kernel
theorem dL_391 : decode code 391 = .ok (.iconst 1, 1) := by decide +kernel
theorem dL_392 : decode code 392 = .ok (.iadd, 1) := by decide +kernel
theorem dL_393 : decode code 393 = .ok (.iaload, 1) := by decide +kernel
theorem dL_394 : decode code 394 = .ok (.aload_n 0, 1) := by decide +kernel
theorem dL_395 : decode code 395 = .ok (.iload_n 3, 1) := by decide +kernel
theorem dL_396 : decode code 396 = .ok (.iconst 2, 1) := by decide +kernel
theorem dL_397 : decode code 397 = .ok (.iadd, 1) := by decide +kernel
theorem dL_398 : decode code 398 = .ok (.iaload, 1) := by decide +kernel
theorem dL_399 : decode code 399 = .ok (.invokevirtual 48, 3) := by decide +kernel
theorem dL_402 : decode code 402 = .ok (.aload_n 2, 1) := by decide +kernel
theorem dL_403 : decode code 403 = .ok (.aload_n 0, 1) := by decide +kernel
theorem dL_404 : decode code 404 = .ok (.iload_n 3, 1) := by decide +kernel
theorem dL_405 : decode code 405 = .ok (.iconst 1, 1) := by decide +kernel
theorem dL_406 : decode code 406 = .ok (.iadd, 1) := by decide +kernel
theorem dL_407 : decode code 407 = .ok (.iaload, 1) := by decide +kernel
theorem dL_408 : decode code 408 = .ok (.aload_n 0, 1) := by decide +kernel
theorem dL_409 : decode code 409 = .ok (.iload_n 3, 1) := by decide +kernel
theorem dL_410 : decode code 410 = .ok (.iconst 2, 1) := by decide +kernel
theorem dL_411 : decode code 411 = .ok (.iadd, 1) := by decide +kernel
theorem dL_412 : decode code 412 = .ok (.iaload, 1) := by decide +kernel
theorem dL_413 : decode code 413 = .ok (.invokevirtual 51, 3) := by decide +kernel
theorem dL_416 : decode code 416 = .ok (.if_icmp .eq 740, 3) := by decide +kernel
set_option maxRecDepth 8000 in
set_option maxHeartbeats 4000000 in
theorem lw_c8 {l : Launch} {g : qGm} {X : qCt} {M : qMem} {b L : Nat} {xs : Nat → Int32} {i : Int} {sd : sSD} (C : qCx l g X code RL 9) (D : lCx X b L xs) (hi : 0 ≤ i ∧ i + 5 ≤ (L : Int)) (hL : L ≤ 320) (h : qInv M sd) (k : ∀ M' sd', qInv M' sd' → qV l g X M' 1156 (lwL g b i) []) : qV l g X M 388 (lwL g b i) [] := by
  have hI := h
  obtain ⟨hT, hSt, hSn, hBk⟩ := h
  have hs := hSt.1
  have hxS := hSt.2.1
  have hmS := hSt.2.2.1
  have hZ := hSt.2.2.2.1
  have hI0 := hSt.2.2.2.2.1
  have hI1 := hSt.2.2.2.2.2
  have hv := hSt.v
  have hH := hSt.h
  have hk := hSt.k
  refine q_aloadn C dL_388 rfl ?_
  refine q_aloadn C dL_389 rfl ?_
  refine q_iloadn C dL_390 rfl ?_
  refine q_iconst C dL_391 ?_
  refine q_iadd C dL_392 ?_
  refine q_sld C D (by omega) (by omega) hL dL_393 ?_
  refine q_aloadn C dL_394 rfl ?_
  refine q_iloadn C dL_395 rfl ?_
  refine q_iconst C dL_396 ?_
  refine q_iadd C dL_397 ?_
  refine q_sld C D (by omega) (by omega) hL dL_398 ?_
  refine cv_RL_48 C (by decide) (m_X11_sign l g M hs hxS (lSc_in _ _) (lSc_in _ _)) dL_399 (Nat.le_of_ble_eq_true rfl) (fun r1 => ?_)
  refine q_aloadn C dL_402 rfl ?_
  refine q_aloadn C dL_403 rfl ?_
  refine q_iloadn C dL_404 rfl ?_
  refine q_iconst C dL_405 ?_
  refine q_iadd C dL_406 ?_
  refine q_sld C D (by omega) (by omega) hL dL_407 ?_
  refine q_aloadn C dL_408 rfl ?_
  refine q_iloadn C dL_409 rfl ?_
  refine q_iconst C dL_410 ?_
  refine q_iadd C dL_411 ?_
  refine q_sld C D (by omega) (by omega) hL dL_412 ?_
  refine cv_RL_51 C (by decide) (m_X12_sign l g M hs hmS (lSc_in _ _) (lSc_in _ _)) dL_413 (Nat.le_of_ble_eq_true rfl) (fun r2 => ?_)
  exact q_icmp_eq C 1156 dL_416 (by decide) (r1) (r2) (fun _ => k _ _ (hI)) (fun hne => absurd (rfl) hne)
theorem dL_421 : decode code 421 = .ok (.aload_n 1, 1) := by decide +kernel
theorem dL_422 : decode code 422 = .ok (.aload_n 0, 1) := by decide +kernel
theorem dL_423 : decode code 423 = .ok (.iload_n 3, 1) := by decide +kernel
theorem dL_424 : decode code 424 = .ok (.iconst 1, 1) := by decide +kernel
theorem dL_425 : decode code 425 = .ok (.iadd, 1) := by decide +kernel
theorem dL_426 : decode code 426 = .ok (.iaload, 1) := by decide +kernel
theorem dL_427 : decode code 427 = .ok (.aload_n 0, 1) := by decide +kernel
theorem dL_428 : decode code 428 = .ok (.iload_n 3, 1) := by decide +kernel
theorem dL_429 : decode code 429 = .ok (.iconst 2, 1) := by decide +kernel
theorem dL_430 : decode code 430 = .ok (.iadd, 1) := by decide +kernel
theorem dL_431 : decode code 431 = .ok (.iaload, 1) := by decide +kernel
theorem dL_432 : decode code 432 = .ok (.invokevirtual 52, 3) := by decide +kernel
theorem dL_435 : decode code 435 = .ok (.aload_n 2, 1) := by decide +kernel
theorem dL_436 : decode code 436 = .ok (.aload_n 0, 1) := by decide +kernel
theorem dL_437 : decode code 437 = .ok (.iload_n 3, 1) := by decide +kernel
theorem dL_438 : decode code 438 = .ok (.iconst 1, 1) := by decide +kernel
theorem dL_439 : decode code 439 = .ok (.iadd, 1) := by decide +kernel
theorem dL_440 : decode code 440 = .ok (.iaload, 1) := by decide +kernel
theorem dL_441 : decode code 441 = .ok (.aload_n 0, 1) := by decide +kernel
theorem dL_442 : decode code 442 = .ok (.iload_n 3, 1) := by decide +kernel
theorem dL_443 : decode code 443 = .ok (.iconst 2, 1) := by decide +kernel
theorem dL_444 : decode code 444 = .ok (.iadd, 1) := by decide +kernel
theorem dL_445 : decode code 445 = .ok (.iaload, 1) := by decide +kernel
theorem dL_446 : decode code 446 = .ok (.invokevirtual 55, 3) := by decide +kernel
theorem dL_449 : decode code 449 = .ok (.if_icmp .eq 707, 3) := by decide +kernel
set_option maxRecDepth 8000 in
set_option maxHeartbeats 4000000 in
theorem lw_c9 {l : Launch} {g : qGm} {X : qCt} {M : qMem} {b L : Nat} {xs : Nat → Int32} {i : Int} {sd : sSD} (C : qCx l g X code RL 9) (D : lCx X b L xs) (hi : 0 ≤ i ∧ i + 5 ≤ (L : Int)) (hL : L ≤ 320) (h : qInv M sd) (k : ∀ M' sd', qInv M' sd' → qV l g X M' 1156 (lwL g b i) []) : qV l g X M 421 (lwL g b i) [] := by
  have hI := h
  obtain ⟨hT, hSt, hSn, hBk⟩ := h
  have hs := hSt.1
  have hxS := hSt.2.1
  have hmS := hSt.2.2.1
  have hZ := hSt.2.2.2.1
  have hI0 := hSt.2.2.2.2.1
  have hI1 := hSt.2.2.2.2.2
  have hv := hSt.v
  have hH := hSt.h
  have hk := hSt.k
  refine q_aloadn C dL_421 rfl ?_
  refine q_aloadn C dL_422 rfl ?_
  refine q_iloadn C dL_423 rfl ?_
  refine q_iconst C dL_424 ?_
  refine q_iadd C dL_425 ?_
  refine q_sld C D (by omega) (by omega) hL dL_426 ?_
  refine q_aloadn C dL_427 rfl ?_
  refine q_iloadn C dL_428 rfl ?_
  refine q_iconst C dL_429 ?_
  refine q_iadd C dL_430 ?_
  refine q_sld C D (by omega) (by omega) hL dL_431 ?_
  refine cv_RL_52 C (by decide) (m_X11_logged l g M hs hxS hv hH (lSc_in _ _) (lSc_in _ _)) dL_432 (Nat.le_of_ble_eq_true rfl) (fun r1 => ?_)
  refine q_aloadn C dL_435 rfl ?_
  refine q_aloadn C dL_436 rfl ?_
  refine q_iloadn C dL_437 rfl ?_
  refine q_iconst C dL_438 ?_
  refine q_iadd C dL_439 ?_
  refine q_sld C D (by omega) (by omega) hL dL_440 ?_
  refine q_aloadn C dL_441 rfl ?_
  refine q_iloadn C dL_442 rfl ?_
  refine q_iconst C dL_443 ?_
  refine q_iadd C dL_444 ?_
  refine q_sld C D (by omega) (by omega) hL dL_445 ?_
  refine cv_RL_55 C (by decide) (m_X12_logged l g M hs hmS hv (lSc_in _ _) (lSc_in _ _)) dL_446 (Nat.le_of_ble_eq_true rfl) (fun r2 => ?_)
  exact q_icmp_eq C 1156 dL_449 (by decide) (r1) (r2) (fun _ => k _ _ (hI)) (fun hne => absurd (rfl) hne)
