theorem dL_454 : decode code 454 = .ok (.aload_n 1, 1) := by decide +kernel
theorem dL_455 : decode code 455 = .ok (.aload_n 0, 1) := by decide +kernel
theorem dL_456 : decode code 456 = .ok (.iload_n 3, 1) := by decide +kernel
theorem dL_457 : decode code 457 = .ok (.iconst 1, 1) := by decide +kernel
theorem dL_458 : decode code 458 = .ok (.iadd, 1) := by decide +kernel
theorem dL_459 : decode code 459 = .ok (.iaload, 1) := by decide +kernel
theorem dL_460 : decode code 460 = .ok (.aload_n 0, 1) := by decide +kernel
theorem dL_461 : decode code 461 = .ok (.iload_n 3, 1) := by decide +kernel
theorem dL_462 : decode code 462 = .ok (.iconst 2, 1) := by decide +kernel
theorem dL_463 : decode code 463 = .ok (.iadd, 1) := by decide +kernel
theorem dL_464 : decode code 464 = .ok (.iaload, 1) := by decide +kernel
theorem dL_465 : decode code 465 = .ok (.aload_n 0, 1) := by decide +kernel
theorem dL_466 : decode code 466 = .ok (.iload_n 3, 1) := by decide +kernel
theorem dL_467 : decode code 467 = .ok (.iconst 3, 1) := by decide +kernel
theorem dL_468 : decode code 468 = .ok (.iadd, 1) := by decide +kernel
theorem dL_469 : decode code 469 = .ok (.iaload, 1) := by decide +kernel
theorem dL_470 : decode code 470 = .ok (.invokevirtual 56, 3) := by decide +kernel
theorem dL_473 : decode code 473 = .ok (.aload_n 2, 1) := by decide +kernel
theorem dL_474 : decode code 474 = .ok (.aload_n 0, 1) := by decide +kernel
theorem dL_475 : decode code 475 = .ok (.iload_n 3, 1) := by decide +kernel
theorem dL_476 : decode code 476 = .ok (.iconst 1, 1) := by decide +kernel
theorem dL_477 : decode code 477 = .ok (.iadd, 1) := by decide +kernel
theorem dL_478 : decode code 478 = .ok (.iaload, 1) := by decide +kernel
theorem dL_479 : decode code 479 = .ok (.aload_n 0, 1) := by decide +kernel
theorem dL_480 : decode code 480 = .ok (.iload_n 3, 1) := by decide +kernel
theorem dL_481 : decode code 481 = .ok (.iconst 2, 1) := by decide +kernel
theorem dL_482 : decode code 482 = .ok (.iadd, 1) := by decide +kernel
theorem dL_483 : decode code 483 = .ok (.iaload, 1) := by decide +kernel
theorem dL_484 : decode code 484 = .ok (.aload_n 0, 1) := by decide +kernel
theorem dL_485 : decode code 485 = .ok (.iload_n 3, 1) := by decide +kernel
theorem dL_486 : decode code 486 = .ok (.iconst 3, 1) := by decide +kernel
theorem dL_487 : decode code 487 = .ok (.iadd, 1) := by decide +kernel
theorem dL_488 : decode code 488 = .ok (.iaload, 1) := by decide +kernel
theorem dL_489 : decode code 489 = .ok (.invokevirtual 60, 3) := by decide +kernel
theorem dL_492 : decode code 492 = .ok (.if_icmp .eq 664, 3) := by decide +kernel
set_option maxRecDepth 8000 in
set_option maxHeartbeats 4000000 in
theorem lw_c10 {l : Launch} {g : qGm} {X : qCt} {M : qMem} {b L : Nat} {xs : Nat → Int32} {i : Int} {sd : sSD} (C : qCx l g X code RL 9) (D : lCx X b L xs) (hi : 0 ≤ i ∧ i + 5 ≤ (L : Int)) (hL : L ≤ 320) (h : qInv M sd) (k : ∀ M' sd', qInv M' sd' → qV l g X M' 1156 (lwL g b i) []) : qV l g X M 454 (lwL g b i) [] := by
  have hI := h
  obtain ⟨hT, hSt, hSn, hBk⟩ := h
  have hs := hSt.1
  have hxS := hSt.2.1
  have hmS := hSt.2.2.1
  have hZ := hSt.2.2.2.1
  have hI0 := hSt.2.2.2.2.1
  have hI1 := hSt.2.2.2.2.2
  have hv := hSt.v
  have hH := hSt.h
  have hk := hSt.k
  refine q_aloadn C dL_454 rfl ?_
  refine q_aloadn C dL_455 rfl ?_
  refine q_iloadn C dL_456 rfl ?_
  refine q_iconst C dL_457 ?_
  refine q_iadd C dL_458 ?_
  refine q_sld C D (by omega) (by omega) hL dL_459 ?_
  refine q_aloadn C dL_460 rfl ?_
  refine q_iloadn C dL_461 rfl ?_
  refine q_iconst C dL_462 ?_
  refine q_iadd C dL_463 ?_
  refine q_sld C D (by omega) (by omega) hL dL_464 ?_
  refine q_aloadn C dL_465 rfl ?_
  refine q_iloadn C dL_466 rfl ?_
  refine q_iconst C dL_467 ?_
  refine q_iadd C dL_468 ?_
  refine q_sld C D (by omega) (by omega) hL dL_469 ?_
  refine cw_RL_56 C (by decide) (m_X11_visit l g M hs hxS hZ (lSc_in _ _) (lSc_in _ _) (lSc_in _ _)) dL_470 (Nat.le_of_ble_eq_true rfl) (fun r1 N hz1 hp1 => ?_)
  have hx := xD.e (Z := zM M) hp1 (zIm_visit sd _ _ _ _) hI0 hI1
  have ez := hx.2.2.z
  obtain ⟨nS, nK, nV⟩ := hx.2.2.st hSt
  obtain ⟨e1, -⟩ := id hx
  subst e1
  show qV l g X _ _ _ (qI _ :: [])
  refine q_aloadn C dL_473 rfl ?_
  refine q_aloadn C dL_474 rfl ?_
  refine q_iloadn C dL_475 rfl ?_
  refine q_iconst C dL_476 ?_
  refine q_iadd C dL_477 ?_
  refine q_sld C D (by omega) (by omega) hL dL_478 ?_
  refine q_aloadn C dL_479 rfl ?_
  refine q_iloadn C dL_480 rfl ?_
  refine q_iconst C dL_481 ?_
  refine q_iadd C dL_482 ?_
  refine q_sld C D (by omega) (by omega) hL dL_483 ?_
  refine q_aloadn C dL_484 rfl ?_
  refine q_iloadn C dL_485 rfl ?_
  refine q_iconst C dL_486 ?_
  refine q_iadd C dL_487 ?_
  refine q_sld C D (by omega) (by omega) hL dL_488 ?_
  refine cw_RL_60 C (by decide) (m_X12_visit l g N hs nS nV nK (lSc_in _ _) (lSc_in _ _) (lSc_in _ _)) dL_489 (Nat.le_of_ble_eq_true rfl) (fun r2 K hz2 hp2 => ?_)
  rw [ez] at hp2
  have hm := mD.e hp2
  obtain ⟨hq, he⟩ := qInv_deed hI hx hm
  subst he
  show qV l g X _ _ _ (qI _ :: qI _ :: [])
  exact q_icmp_eq C 1156 dL_492 (by decide) (hz1 _ rfl) (hz1 _ rfl) (fun _ => k _ _ (hq)) (fun hne => absurd (rfl) hne)
theorem dL_497 : decode code 497 = .ok (.aload_n 1, 1) := by decide +kernel
theorem dL_498 : decode code 498 = .ok (.aload_n 0, 1) := by decide +kernel
theorem dL_499 : decode code 499 = .ok (.iload_n 3, 1) := by decide +kernel
theorem dL_500 : decode code 500 = .ok (.iconst 1, 1) := by decide +kernel
theorem dL_501 : decode code 501 = .ok (.iadd, 1) := by decide +kernel
theorem dL_502 : decode code 502 = .ok (.iaload, 1) := by decide +kernel
theorem dL_503 : decode code 503 = .ok (.invokevirtual 61, 3) := by decide +kernel
theorem dL_506 : decode code 506 = .ok (.aload_n 2, 1) := by decide +kernel
theorem dL_507 : decode code 507 = .ok (.aload_n 0, 1) := by decide +kernel
theorem dL_508 : decode code 508 = .ok (.iload_n 3, 1) := by decide +kernel
theorem dL_509 : decode code 509 = .ok (.iconst 1, 1) := by decide +kernel
theorem dL_510 : decode code 510 = .ok (.iadd, 1) := by decide +kernel
theorem dL_511 : decode code 511 = .ok (.iaload, 1) := by decide +kernel
theorem dL_512 : decode code 512 = .ok (.invokevirtual 64, 3) := by decide +kernel
theorem dL_515 : decode code 515 = .ok (.if_icmp .eq 641, 3) := by decide +kernel
set_option maxRecDepth 8000 in
set_option maxHeartbeats 4000000 in
theorem lw_c11 {l : Launch} {g : qGm} {X : qCt} {M : qMem} {b L : Nat} {xs : Nat → Int32} {i : Int} {sd : sSD} (C : qCx l g X code RL 9) (D : lCx X b L xs) (hi : 0 ≤ i ∧ i + 5 ≤ (L : Int)) (hL : L ≤ 320) (h : qInv M sd) (k : ∀ M' sd', qInv M' sd' → qV l g X M' 1156 (lwL g b i) []) : qV l g X M 497 (lwL g b i) [] := by
  have hI := h
  obtain ⟨hT, hSt, hSn, hBk⟩ := h
  have hs := hSt.1
  have hxS := hSt.2.1
  have hmS := hSt.2.2.1
  have hZ := hSt.2.2.2.1
  have hI0 := hSt.2.2.2.2.1
  have hI1 := hSt.2.2.2.2.2
  have hv := hSt.v
  have hH := hSt.h
  have hk := hSt.k
  refine q_aloadn C dL_497 rfl ?_
  refine q_aloadn C dL_498 rfl ?_
  refine q_iloadn C dL_499 rfl ?_
  refine q_iconst C dL_500 ?_
  refine q_iadd C dL_501 ?_
  refine q_sld C D (by omega) (by omega) hL dL_502 ?_
  refine cw_RL_61 C (by decide) (m_X11_day l g M hs hxS hZ (lSc_in _ _)) dL_503 (Nat.le_of_ble_eq_true rfl) (fun r1 N hz1 hp1 => ?_)
  have hx := xD.e (Z := zM M) hp1 (zIm_day sd _ _) hI0 hI1
  have ez := hx.2.2.z
  obtain ⟨nS, nK, nV⟩ := hx.2.2.st hSt
  obtain ⟨e1, -⟩ := id hx
  subst e1
  show qV l g X _ _ _ (qI _ :: [])
  refine q_aloadn C dL_506 rfl ?_
  refine q_aloadn C dL_507 rfl ?_
  refine q_iloadn C dL_508 rfl ?_
  refine q_iconst C dL_509 ?_
  refine q_iadd C dL_510 ?_
  refine q_sld C D (by omega) (by omega) hL dL_511 ?_
  refine cw_RL_64 C (by decide) (m_X12_day l g N hs nS nV nK (lSc_in _ _)) dL_512 (Nat.le_of_ble_eq_true rfl) (fun r2 K hz2 hp2 => ?_)
  rw [ez] at hp2
  have hm := mD.e hp2
  obtain ⟨hq, he⟩ := qInv_deed hI hx hm
  subst he
  show qV l g X _ _ _ (qI _ :: qI _ :: [])
  exact q_icmp_eq C 1156 dL_515 (by decide) (hz1 _ rfl) (hz1 _ rfl) (fun _ => k _ _ (hq)) (fun hne => absurd (rfl) hne)
theorem dL_520 : decode code 520 = .ok (.aload_n 1, 1) := by decide +kernel
theorem dL_521 : decode code 521 = .ok (.aload_n 0, 1) := by decide +kernel
theorem dL_522 : decode code 522 = .ok (.iload_n 3, 1) := by decide +kernel
theorem dL_523 : decode code 523 = .ok (.iconst 1, 1) := by decide +kernel
theorem dL_524 : decode code 524 = .ok (.iadd, 1) := by decide +kernel
theorem dL_525 : decode code 525 = .ok (.iaload, 1) := by decide +kernel
theorem dL_526 : decode code 526 = .ok (.aload_n 0, 1) := by decide +kernel
theorem dL_527 : decode code 527 = .ok (.iload_n 3, 1) := by decide +kernel
theorem dL_528 : decode code 528 = .ok (.iconst 2, 1) := by decide +kernel
theorem dL_529 : decode code 529 = .ok (.iadd, 1) := by decide +kernel
theorem dL_530 : decode code 530 = .ok (.iaload, 1) := by decide +kernel
theorem dL_531 : decode code 531 = .ok (.invokevirtual 65, 3) := by decide +kernel
theorem dL_534 : decode code 534 = .ok (.aload_n 2, 1) := by decide +kernel
theorem dL_535 : decode code 535 = .ok (.aload_n 0, 1) := by decide +kernel
theorem dL_536 : decode code 536 = .ok (.iload_n 3, 1) := by decide +kernel
theorem dL_537 : decode code 537 = .ok (.iconst 1, 1) := by decide +kernel
theorem dL_538 : decode code 538 = .ok (.iadd, 1) := by decide +kernel
theorem dL_539 : decode code 539 = .ok (.iaload, 1) := by decide +kernel
theorem dL_540 : decode code 540 = .ok (.aload_n 0, 1) := by decide +kernel
theorem dL_541 : decode code 541 = .ok (.iload_n 3, 1) := by decide +kernel
theorem dL_542 : decode code 542 = .ok (.iconst 2, 1) := by decide +kernel
theorem dL_543 : decode code 543 = .ok (.iadd, 1) := by decide +kernel
theorem dL_544 : decode code 544 = .ok (.iaload, 1) := by decide +kernel
theorem dL_545 : decode code 545 = .ok (.invokevirtual 68, 3) := by decide +kernel
theorem dL_548 : decode code 548 = .ok (.if_icmp .eq 608, 3) := by decide +kernel
set_option maxRecDepth 8000 in
set_option maxHeartbeats 4000000 in
theorem lw_c12 {l : Launch} {g : qGm} {X : qCt} {M : qMem} {b L : Nat} {xs : Nat → Int32} {i : Int} {sd : sSD} (C : qCx l g X code RL 9) (D : lCx X b L xs) (hi : 0 ≤ i ∧ i + 5 ≤ (L : Int)) (hL : L ≤ 320) (h : qInv M sd) (k : ∀ M' sd', qInv M' sd' → qV l g X M' 1156 (lwL g b i) []) : qV l g X M 520 (lwL g b i) [] := by
  have hI := h
  obtain ⟨hT, hSt, hSn, hBk⟩ := h
  have hs := hSt.1
  have hxS := hSt.2.1
  have hmS := hSt.2.2.1
  have hZ := hSt.2.2.2.1
  have hI0 := hSt.2.2.2.2.1
  have hI1 := hSt.2.2.2.2.2
  have hv := hSt.v
  have hH := hSt.h
  have hk := hSt.k
  refine q_aloadn C dL_520 rfl ?_
  refine q_aloadn C dL_521 rfl ?_
  refine q_iloadn C dL_522 rfl ?_
  refine q_iconst C dL_523 ?_
  refine q_iadd C dL_524 ?_
  refine q_sld C D (by omega) (by omega) hL dL_525 ?_
  refine q_aloadn C dL_526 rfl ?_
  refine q_iloadn C dL_527 rfl ?_
  refine q_iconst C dL_528 ?_
  refine q_iadd C dL_529 ?_
  refine q_sld C D (by omega) (by omega) hL dL_530 ?_
  refine cw_RL_65 C (by decide) (m_X11_mean l g M hs hxS hZ (lSc_in _ _) (lSc_in _ _)) dL_531 (Nat.le_of_ble_eq_true rfl) (fun r1 N hz1 hp1 => ?_)
  have hx := xD.e (Z := zM M) hp1 (zIm_mean sd _ _ _) hI0 hI1
  have ez := hx.2.2.z
  obtain ⟨nS, nK, nV⟩ := hx.2.2.st hSt
  obtain ⟨e1, -⟩ := id hx
  subst e1
  show qV l g X _ _ _ (qI _ :: [])
  refine q_aloadn C dL_534 rfl ?_
  refine q_aloadn C dL_535 rfl ?_
  refine q_iloadn C dL_536 rfl ?_
  refine q_iconst C dL_537 ?_
  refine q_iadd C dL_538 ?_
  refine q_sld C D (by omega) (by omega) hL dL_539 ?_
  refine q_aloadn C dL_540 rfl ?_
  refine q_iloadn C dL_541 rfl ?_
  refine q_iconst C dL_542 ?_
  refine q_iadd C dL_543 ?_
  refine q_sld C D (by omega) (by omega) hL dL_544 ?_
  refine cw_RL_68 C (by decide) (m_X12_mean l g N hs nS nV nK (lSc_in _ _) (lSc_in _ _)) dL_545 (Nat.le_of_ble_eq_true rfl) (fun r2 K hz2 hp2 => ?_)
  rw [ez] at hp2
  have hm := mD.e hp2
  obtain ⟨hq, he⟩ := qInv_deed hI hx hm
  subst he
  show qV l g X _ _ _ (qI _ :: qI _ :: [])
  exact q_icmp_eq C 1156 dL_548 (by decide) (hz1 _ rfl) (hz1 _ rfl) (fun _ => k _ _ (hq)) (fun hne => absurd (rfl) hne)
theorem dL_553 : decode code 553 = .ok (.aload_n 1, 1) := by decide +kernel
theorem dL_554 : decode code 554 = .ok (.aload_n 0, 1) := by decide +kernel
theorem dL_555 : decode code 555 = .ok (.iload_n 3, 1) := by decide +kernel
theorem dL_556 : decode code 556 = .ok (.iconst 1, 1) := by decide +kernel
theorem dL_557 : decode code 557 = .ok (.iadd, 1) := by decide +kernel
theorem dL_558 : decode code 558 = .ok (.iaload, 1) := by decide +kernel
theorem dL_559 : decode code 559 = .ok (.aload_n 0, 1) := by decide +kernel
theorem dL_560 : decode code 560 = .ok (.iload_n 3, 1) := by decide +kernel
theorem dL_561 : decode code 561 = .ok (.iconst 2, 1) := by decide +kernel
theorem dL_562 : decode code 562 = .ok (.iadd, 1) := by decide +kernel
theorem dL_563 : decode code 563 = .ok (.iaload, 1) := by decide +kernel
theorem dL_564 : decode code 564 = .ok (.invokevirtual 69, 3) := by decide +kernel
theorem dL_567 : decode code 567 = .ok (.aload_n 2, 1) := by decide +kernel
theorem dL_568 : decode code 568 = .ok (.aload_n 0, 1) := by decide +kernel
theorem dL_569 : decode code 569 = .ok (.iload_n 3, 1) := by decide +kernel
theorem dL_570 : decode code 570 = .ok (.iconst 1, 1) := by decide +kernel
theorem dL_571 : decode code 571 = .ok (.iadd, 1) := by decide +kernel
theorem dL_572 : decode code 572 = .ok (.iaload, 1) := by decide +kernel
theorem dL_573 : decode code 573 = .ok (.aload_n 0, 1) := by decide +kernel
theorem dL_574 : decode code 574 = .ok (.iload_n 3, 1) := by decide +kernel
theorem dL_575 : decode code 575 = .ok (.iconst 2, 1) := by decide +kernel
theorem dL_576 : decode code 576 = .ok (.iadd, 1) := by decide +kernel
theorem dL_577 : decode code 577 = .ok (.iaload, 1) := by decide +kernel
theorem dL_578 : decode code 578 = .ok (.invokevirtual 72, 3) := by decide +kernel
theorem dL_581 : decode code 581 = .ok (.if_icmp .eq 575, 3) := by decide +kernel
set_option maxRecDepth 8000 in
set_option maxHeartbeats 4000000 in
theorem lw_c13 {l : Launch} {g : qGm} {X : qCt} {M : qMem} {b L : Nat} {xs : Nat → Int32} {i : Int} {sd : sSD} (C : qCx l g X code RL 9) (D : lCx X b L xs) (hi : 0 ≤ i ∧ i + 5 ≤ (L : Int)) (hL : L ≤ 320) (h : qInv M sd) (k : ∀ M' sd', qInv M' sd' → qV l g X M' 1156 (lwL g b i) []) : qV l g X M 553 (lwL g b i) [] := by
  have hI := h
  obtain ⟨hT, hSt, hSn, hBk⟩ := h
  have hs := hSt.1
  have hxS := hSt.2.1
  have hmS := hSt.2.2.1
  have hZ := hSt.2.2.2.1
  have hI0 := hSt.2.2.2.2.1
  have hI1 := hSt.2.2.2.2.2
  have hv := hSt.v
  have hH := hSt.h
  have hk := hSt.k
  refine q_aloadn C dL_553 rfl ?_
  refine q_aloadn C dL_554 rfl ?_
  refine q_iloadn C dL_555 rfl ?_
  refine q_iconst C dL_556 ?_
  refine q_iadd C dL_557 ?_
  refine q_sld C D (by omega) (by omega) hL dL_558 ?_
  refine q_aloadn C dL_559 rfl ?_
  refine q_iloadn C dL_560 rfl ?_
  refine q_iconst C dL_561 ?_
  refine q_iadd C dL_562 ?_
  refine q_sld C D (by omega) (by omega) hL dL_563 ?_
  refine cw_RL_69 C (by decide) (m_X11_stuff l g M hs hxS hZ (lSc_in _ _) (lSc_in _ _)) dL_564 (Nat.le_of_ble_eq_true rfl) (fun r1 N hz1 hp1 => ?_)
  have hx := xD.e (Z := zM M) hp1 (zIm_stuff sd _ _ _) hI0 hI1
  have ez := hx.2.2.z
  obtain ⟨nS, nK, nV⟩ := hx.2.2.st hSt
  obtain ⟨e1, -⟩ := id hx
  subst e1
  show qV l g X _ _ _ (qI _ :: [])
  refine q_aloadn C dL_567 rfl ?_
  refine q_aloadn C dL_568 rfl ?_
  refine q_iloadn C dL_569 rfl ?_
  refine q_iconst C dL_570 ?_
  refine q_iadd C dL_571 ?_
  refine q_sld C D (by omega) (by omega) hL dL_572 ?_
  refine q_aloadn C dL_573 rfl ?_
  refine q_iloadn C dL_574 rfl ?_
  refine q_iconst C dL_575 ?_
  refine q_iadd C dL_576 ?_
  refine q_sld C D (by omega) (by omega) hL dL_577 ?_
  refine cw_RL_72 C (by decide) (m_X12_stuff l g N hs nS nV nK (lSc_in _ _) (lSc_in _ _)) dL_578 (Nat.le_of_ble_eq_true rfl) (fun r2 K hz2 hp2 => ?_)
  rw [ez] at hp2
  have hm := mD.e hp2
  obtain ⟨hq, he⟩ := qInv_deed hI hx hm
  subst he
  show qV l g X _ _ _ (qI _ :: qI _ :: [])
  exact q_icmp_eq C 1156 dL_581 (by decide) (hz1 _ rfl) (hz1 _ rfl) (fun _ => k _ _ (hq)) (fun hne => absurd (rfl) hne)
theorem dL_586 : decode code 586 = .ok (.aload_n 1, 1) := by decide +kernel
theorem dL_587 : decode code 587 = .ok (.aload_n 0, 1) := by decide +kernel
theorem dL_588 : decode code 588 = .ok (.iload_n 3, 1) := by decide +kernel
theorem dL_589 : decode code 589 = .ok (.iconst 1, 1) := by decide +kernel
theorem dL_590 : decode code 590 = .ok (.iadd, 1) := by decide +kernel
theorem dL_591 : decode code 591 = .ok (.iaload, 1) := by decide +kernel
theorem dL_592 : decode code 592 = .ok (.aload_n 0, 1) := by decide +kernel
theorem dL_593 : decode code 593 = .ok (.iload_n 3, 1) := by decide +kernel
theorem dL_594 : decode code 594 = .ok (.iconst 2, 1) := by decide +kernel
theorem dL_595 : decode code 595 = .ok (.iadd, 1) := by decide +kernel
theorem dL_596 : decode code 596 = .ok (.iaload, 1) := by decide +kernel
theorem dL_597 : decode code 597 = .ok (.invokevirtual 73, 3) := by decide +kernel
theorem dL_600 : decode code 600 = .ok (.aload_n 2, 1) := by decide +kernel
theorem dL_601 : decode code 601 = .ok (.aload_n 0, 1) := by decide +kernel
theorem dL_602 : decode code 602 = .ok (.iload_n 3, 1) := by decide +kernel
theorem dL_603 : decode code 603 = .ok (.iconst 1, 1) := by decide +kernel
theorem dL_604 : decode code 604 = .ok (.iadd, 1) := by decide +kernel
theorem dL_605 : decode code 605 = .ok (.iaload, 1) := by decide +kernel
theorem dL_606 : decode code 606 = .ok (.aload_n 0, 1) := by decide +kernel
theorem dL_607 : decode code 607 = .ok (.iload_n 3, 1) := by decide +kernel
theorem dL_608 : decode code 608 = .ok (.iconst 2, 1) := by decide +kernel
theorem dL_609 : decode code 609 = .ok (.iadd, 1) := by decide +kernel
theorem dL_610 : decode code 610 = .ok (.iaload, 1) := by decide +kernel
theorem dL_611 : decode code 611 = .ok (.invokevirtual 76, 3) := by decide +kernel
theorem dL_614 : decode code 614 = .ok (.if_icmp .eq 542, 3) := by decide +kernel
set_option maxRecDepth 8000 in
set_option maxHeartbeats 4000000 in
theorem lw_c14 {l : Launch} {g : qGm} {X : qCt} {M : qMem} {b L : Nat} {xs : Nat → Int32} {i : Int} {sd : sSD} (C : qCx l g X code RL 9) (D : lCx X b L xs) (hi : 0 ≤ i ∧ i + 5 ≤ (L : Int)) (hL : L ≤ 320) (h : qInv M sd) (k : ∀ M' sd', qInv M' sd' → qV l g X M' 1156 (lwL g b i) []) : qV l g X M 586 (lwL g b i) [] := by
  have hI := h
  obtain ⟨hT, hSt, hSn, hBk⟩ := h
  have hs := hSt.1
  have hxS := hSt.2.1
  have hmS := hSt.2.2.1
  have hZ := hSt.2.2.2.1
  have hI0 := hSt.2.2.2.2.1
  have hI1 := hSt.2.2.2.2.2
  have hv := hSt.v
  have hH := hSt.h
  have hk := hSt.k
  refine q_aloadn C dL_586 rfl ?_
  refine q_aloadn C dL_587 rfl ?_
  refine q_iloadn C dL_588 rfl ?_
  refine q_iconst C dL_589 ?_
  refine q_iadd C dL_590 ?_
  refine q_sld C D (by omega) (by omega) hL dL_591 ?_
  refine q_aloadn C dL_592 rfl ?_
  refine q_iloadn C dL_593 rfl ?_
  refine q_iconst C dL_594 ?_
  refine q_iadd C dL_595 ?_
  refine q_sld C D (by omega) (by omega) hL dL_596 ?_
  refine cw_RL_73 C (by decide) (m_X11_pardon l g M hs hxS hZ (lSc_in _ _) (lSc_in _ _)) dL_597 (Nat.le_of_ble_eq_true rfl) (fun r1 N hz1 hp1 => ?_)
  have hx := xD.e (Z := zM M) hp1 (zIm_pard sd _ _ _) hI0 hI1
  have ez := hx.2.2.z
  obtain ⟨nS, nK, nV⟩ := hx.2.2.st hSt
  obtain ⟨e1, -⟩ := id hx
  subst e1
  show qV l g X _ _ _ (qI _ :: [])
  refine q_aloadn C dL_600 rfl ?_
  refine q_aloadn C dL_601 rfl ?_
  refine q_iloadn C dL_602 rfl ?_
  refine q_iconst C dL_603 ?_
  refine q_iadd C dL_604 ?_
  refine q_sld C D (by omega) (by omega) hL dL_605 ?_
  refine q_aloadn C dL_606 rfl ?_
  refine q_iloadn C dL_607 rfl ?_
  refine q_iconst C dL_608 ?_
  refine q_iadd C dL_609 ?_
  refine q_sld C D (by omega) (by omega) hL dL_610 ?_
  refine cw_RL_76 C (by decide) (m_X12_pardon l g N hs nS nV nK (lSc_in _ _) (lSc_in _ _)) dL_611 (Nat.le_of_ble_eq_true rfl) (fun r2 K hz2 hp2 => ?_)
  rw [ez] at hp2
  have hm := mD.e hp2
  obtain ⟨hq, he⟩ := qInv_deed hI hx hm
  subst he
  show qV l g X _ _ _ (qI _ :: qI _ :: [])
  exact q_icmp_eq C 1156 dL_614 (by decide) (hz1 _ rfl) (hz1 _ rfl) (fun _ => k _ _ (hq)) (fun hne => absurd (rfl) hne)
