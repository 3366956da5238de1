/-! the law's calls -/
section Law2
variable {G : GG} {y m : Nat} {A : Nat → Nat} {b L : Nat} {xs : Nat → Int32} {σ : MS} {h : Hp} {i f B : Nat}
theorem l_checkWrite (hA : mOk y A) (hi : i + 6 ≤ L) (hL : L ≤ 3072) (hB : B + 60 < 1000000) (I : LI G y m A B σ h) (h16 : σ 16 0 = 0) (nx : Nx G y m A b L xs i f B) : lB G b L xs (34 * (10 - zN (σ 0 0)) + 60 * (f + 1)) (339 * (10 - zN (σ 0 0)) + 120 * (f + 1)) h 408 (lV b m y i) [] := by
  obtain ⟨hs, ψ, -, C⟩ := I
  have hI := C.inv
  obtain ⟨fs, hm⟩ := C.M
  have k : Kp σ (s_ckW σ (xs (i + 1)) (xs (i + 2))).2 := kp_ckW h16
  have k2 := k.2
  refine bs_aload_n (pc' := 409) dL_law_408 rfl rfl rfl ?_
  refine bs_aload_n (pc' := 410) dL_law_409 rfl rfl rfl ?_
  refine bs_iload_n (pc' := 411) dL_law_410 rfl rfl ?_
  refine bs_iconst (v := 1) (pc' := 412) dL_law_411 (by decide) rfl ?_
  refine bs_iadd (pc' := 413) dL_law_412 rfl ?_
  refine bl_sld (pc' := 414) dL_law_413 (i + 1) (nI_add i 1) ⟨by omega, by omega⟩ rfl ?_
  refine bs_aload_n (pc' := 415) dL_law_414 rfl rfl rfl ?_
  refine bs_iload_n (pc' := 416) dL_law_415 rfl rfl ?_
  refine bs_iconst (v := 2) (pc' := 417) dL_law_416 (by decide) rfl ?_
  refine bs_iadd (pc' := 418) dL_law_417 rfl ?_
  refine bl_sld (pc' := 419) dL_law_418 (i + 2) (nI_add i 2) ⟨by omega, by omega⟩ rfl ?_
  refine bs_callV (N := mX5_checkWrite) (pc' := 422) dL_law_419 km_L_50 ko_X5_checkWrite (p_checkWrite C h16) hm rfl rfl rfl (by omega) (show (34 * (10 - zN ((s_ckW σ (xs (i + 1)) (xs (i + 2))).2 0 0)) + 60 * f) + _ ≤ _ by omega) (show (339 * (10 - zN ((s_ckW σ (xs (i + 1)) (xs (i + 2))).2 0 0)) + 120 * f) + _ ≤ _ by omega) rfl ?_
  rintro _ h1 ⟨rfl, C1⟩
  rw [← C1.self]
  refine bs_aload_n (pc' := 423) dL_law_422 rfl rfl rfl ?_
  refine bs_aload_n (pc' := 424) dL_law_423 rfl rfl rfl ?_
  refine bs_iload_n (pc' := 425) dL_law_424 rfl rfl ?_
  refine bs_iconst (v := 1) (pc' := 426) dL_law_425 (by decide) rfl ?_
  refine bs_iadd (pc' := 427) dL_law_426 rfl ?_
  refine bl_sld (pc' := 428) dL_law_427 (i + 1) (nI_add i 1) ⟨by omega, by omega⟩ rfl ?_
  refine bs_aload_n (pc' := 429) dL_law_428 rfl rfl rfl ?_
  refine bs_iload_n (pc' := 430) dL_law_429 rfl rfl ?_
  refine bs_iconst (v := 2) (pc' := 431) dL_law_430 (by decide) rfl ?_
  refine bs_iadd (pc' := 432) dL_law_431 rfl ?_
  refine bl_sld (pc' := 433) dL_law_432 (i + 2) (nI_add i 2) ⟨by omega, by omega⟩ rfl ?_
  refine bs_callV (N := mX6_checkWrite) (pc' := 436) dL_law_433 km_L_53 ko_X6_checkWrite (sm_checkWrite hA hI) mh_y rfl rfl rfl (by omega) (Nat.le_refl _) (Nat.le_refl _) rfl ?_
  rintro _ _ ⟨rfl, rfl⟩
  refine bs_icmp_eq (tgt := 902) (pc' := 439) dL_law_436 rfl rfl (fun _ => ?_) (fun c436 => absurd rfl c436)
  exact nx _ _ ⟨_, _, mh_mh.symm, C1.swap.up (by omega)⟩ k.1
theorem l_checkFree (hA : mOk y A) (hi : i + 6 ≤ L) (hL : L ≤ 3072) (hB : B + 60 < 1000000) (I : LI G y m A B σ h) (h16 : σ 16 0 = 0) (nx : Nx G y m A b L xs i f B) : lB G b L xs (34 * (10 - zN (σ 0 0)) + 60 * (f + 1)) (339 * (10 - zN (σ 0 0)) + 120 * (f + 1)) h 441 (lV b m y i) [] := by
  obtain ⟨hs, ψ, -, C⟩ := I
  have hI := C.inv
  obtain ⟨fs, hm⟩ := C.M
  have k : Kp σ (s_ckF σ (xs (i + 1))).2 := kp_ckF h16
  have k2 := k.2
  refine bs_aload_n (pc' := 442) dL_law_441 rfl rfl rfl ?_
  refine bs_aload_n (pc' := 443) dL_law_442 rfl rfl rfl ?_
  refine bs_iload_n (pc' := 444) dL_law_443 rfl rfl ?_
  refine bs_iconst (v := 1) (pc' := 445) dL_law_444 (by decide) rfl ?_
  refine bs_iadd (pc' := 446) dL_law_445 rfl ?_
  refine bl_sld (pc' := 447) dL_law_446 (i + 1) (nI_add i 1) ⟨by omega, by omega⟩ rfl ?_
  refine bs_callV (N := mX5_checkFree) (pc' := 450) dL_law_447 km_L_54 ko_X5_checkFree (p_checkFree C h16) hm rfl rfl rfl (by omega) (show (34 * (10 - zN ((s_ckF σ (xs (i + 1))).2 0 0)) + 60 * f) + _ ≤ _ by omega) (show (339 * (10 - zN ((s_ckF σ (xs (i + 1))).2 0 0)) + 120 * f) + _ ≤ _ by omega) rfl ?_
  rintro _ h1 ⟨rfl, C1⟩
  rw [← C1.self]
  refine bs_aload_n (pc' := 451) dL_law_450 rfl rfl rfl ?_
  refine bs_aload_n (pc' := 452) dL_law_451 rfl rfl rfl ?_
  refine bs_iload_n (pc' := 453) dL_law_452 rfl rfl ?_
  refine bs_iconst (v := 1) (pc' := 454) dL_law_453 (by decide) rfl ?_
  refine bs_iadd (pc' := 455) dL_law_454 rfl ?_
  refine bl_sld (pc' := 456) dL_law_455 (i + 1) (nI_add i 1) ⟨by omega, by omega⟩ rfl ?_
  refine bs_callV (N := mX6_checkFree) (pc' := 459) dL_law_456 km_L_57 ko_X6_checkFree (sm_checkFree hA hI) mh_y rfl rfl rfl (by omega) (Nat.le_refl _) (Nat.le_refl _) rfl ?_
  rintro _ _ ⟨rfl, rfl⟩
  refine bs_icmp_eq (tgt := 902) (pc' := 462) dL_law_459 rfl rfl (fun _ => ?_) (fun c459 => absurd rfl c459)
  exact nx _ _ ⟨_, _, mh_mh.symm, C1.swap.up (by omega)⟩ k.1
theorem l_removedByWrite (hA : mOk y A) (hi : i + 6 ≤ L) (hL : L ≤ 3072) (hB : B + 60 < 1000000) (I : LI G y m A B σ h) (h16 : σ 16 0 = 0) (nx : Nx G y m A b L xs i f B) : lB G b L xs (34 * (10 - zN (σ 0 0)) + 60 * (f + 1)) (339 * (10 - zN (σ 0 0)) + 120 * (f + 1)) h 464 (lV b m y i) [] := by
  obtain ⟨hs, ψ, -, C⟩ := I
  have hI := C.inv
  obtain ⟨fs, hm⟩ := C.M
  have k : Kp σ (s_rmv σ (xs (i + 1)) (xs (i + 2))).2 := kp_rmv h16
  have k2 := k.2
  refine bs_aload_n (pc' := 465) dL_law_464 rfl rfl rfl ?_
  refine bs_aload_n (pc' := 466) dL_law_465 rfl rfl rfl ?_
  refine bs_iload_n (pc' := 467) dL_law_466 rfl rfl ?_
  refine bs_iconst (v := 1) (pc' := 468) dL_law_467 (by decide) rfl ?_
  refine bs_iadd (pc' := 469) dL_law_468 rfl ?_
  refine bl_sld (pc' := 470) dL_law_469 (i + 1) (nI_add i 1) ⟨by omega, by omega⟩ rfl ?_
  refine bs_aload_n (pc' := 471) dL_law_470 rfl rfl rfl ?_
  refine bs_iload_n (pc' := 472) dL_law_471 rfl rfl ?_
  refine bs_iconst (v := 2) (pc' := 473) dL_law_472 (by decide) rfl ?_
  refine bs_iadd (pc' := 474) dL_law_473 rfl ?_
  refine bl_sld (pc' := 475) dL_law_474 (i + 2) (nI_add i 2) ⟨by omega, by omega⟩ rfl ?_
  refine bs_callV (N := mX5_removedByWrite) (pc' := 478) dL_law_475 km_L_58 ko_X5_removedByWrite (p_removedByWrite C h16) hm rfl rfl rfl (by omega) (show (34 * (10 - zN ((s_rmv σ (xs (i + 1)) (xs (i + 2))).2 0 0)) + 60 * f) + _ ≤ _ by omega) (show (339 * (10 - zN ((s_rmv σ (xs (i + 1)) (xs (i + 2))).2 0 0)) + 120 * f) + _ ≤ _ by omega) rfl ?_
  rintro _ h1 ⟨rfl, C1⟩
  rw [← C1.self]
  refine bs_aload_n (pc' := 479) dL_law_478 rfl rfl rfl ?_
  refine bs_aload_n (pc' := 480) dL_law_479 rfl rfl rfl ?_
  refine bs_iload_n (pc' := 481) dL_law_480 rfl rfl ?_
  refine bs_iconst (v := 1) (pc' := 482) dL_law_481 (by decide) rfl ?_
  refine bs_iadd (pc' := 483) dL_law_482 rfl ?_
  refine bl_sld (pc' := 484) dL_law_483 (i + 1) (nI_add i 1) ⟨by omega, by omega⟩ rfl ?_
  refine bs_aload_n (pc' := 485) dL_law_484 rfl rfl rfl ?_
  refine bs_iload_n (pc' := 486) dL_law_485 rfl rfl ?_
  refine bs_iconst (v := 2) (pc' := 487) dL_law_486 (by decide) rfl ?_
  refine bs_iadd (pc' := 488) dL_law_487 rfl ?_
  refine bl_sld (pc' := 489) dL_law_488 (i + 2) (nI_add i 2) ⟨by omega, by omega⟩ rfl ?_
  refine bs_callV (N := mX6_removedByWrite) (pc' := 492) dL_law_489 km_L_61 ko_X6_removedByWrite (sm_removedByWrite hA hI) mh_y rfl rfl rfl (by omega) (Nat.le_refl _) (Nat.le_refl _) rfl ?_
  rintro _ _ ⟨rfl, rfl⟩
  refine bs_icmp_eq (tgt := 902) (pc' := 495) dL_law_492 rfl rfl (fun _ => ?_) (fun c492 => absurd rfl c492)
  exact nx _ _ ⟨_, _, mh_mh.symm, C1.swap.up (by omega)⟩ k.1
theorem l_stackSize (hA : mOk y A) (hi : i + 6 ≤ L) (hL : L ≤ 3072) (hB : B + 60 < 1000000) (I : LI G y m A B σ h) (h16 : σ 16 0 = 0) (nx : Nx G y m A b L xs i f B) : lB G b L xs (34 * (10 - zN (σ 0 0)) + 60 * (f + 1)) (339 * (10 - zN (σ 0 0)) + 120 * (f + 1)) h 497 (lV b m y i) [] := by
  obtain ⟨hs, ψ, -, C⟩ := I
  have hI := C.inv
  obtain ⟨fs, hm⟩ := C.M
  have k : Kp σ (s_siz σ (xs (i + 1)) (xs (i + 2))).2 := kp_siz h16
  have k2 := k.2
  refine bs_aload_n (pc' := 498) dL_law_497 rfl rfl rfl ?_
  refine bs_aload_n (pc' := 499) dL_law_498 rfl rfl rfl ?_
  refine bs_iload_n (pc' := 500) dL_law_499 rfl rfl ?_
  refine bs_iconst (v := 1) (pc' := 501) dL_law_500 (by decide) rfl ?_
  refine bs_iadd (pc' := 502) dL_law_501 rfl ?_
  refine bl_sld (pc' := 503) dL_law_502 (i + 1) (nI_add i 1) ⟨by omega, by omega⟩ rfl ?_
  refine bs_aload_n (pc' := 504) dL_law_503 rfl rfl rfl ?_
  refine bs_iload_n (pc' := 505) dL_law_504 rfl rfl ?_
  refine bs_iconst (v := 2) (pc' := 506) dL_law_505 (by decide) rfl ?_
  refine bs_iadd (pc' := 507) dL_law_506 rfl ?_
  refine bl_sld (pc' := 508) dL_law_507 (i + 2) (nI_add i 2) ⟨by omega, by omega⟩ rfl ?_
  refine bs_callV (N := mX5_stackSize) (pc' := 511) dL_law_508 km_L_62 ko_X5_stackSize (p_stackSize C h16) hm rfl rfl rfl (by omega) (show (34 * (10 - zN ((s_siz σ (xs (i + 1)) (xs (i + 2))).2 0 0)) + 60 * f) + _ ≤ _ by omega) (show (339 * (10 - zN ((s_siz σ (xs (i + 1)) (xs (i + 2))).2 0 0)) + 120 * f) + _ ≤ _ by omega) rfl ?_
  rintro _ h1 ⟨rfl, C1⟩
  rw [← C1.self]
  refine bs_aload_n (pc' := 512) dL_law_511 rfl rfl rfl ?_
  refine bs_aload_n (pc' := 513) dL_law_512 rfl rfl rfl ?_
  refine bs_iload_n (pc' := 514) dL_law_513 rfl rfl ?_
  refine bs_iconst (v := 1) (pc' := 515) dL_law_514 (by decide) rfl ?_
  refine bs_iadd (pc' := 516) dL_law_515 rfl ?_
  refine bl_sld (pc' := 517) dL_law_516 (i + 1) (nI_add i 1) ⟨by omega, by omega⟩ rfl ?_
  refine bs_aload_n (pc' := 518) dL_law_517 rfl rfl rfl ?_
  refine bs_iload_n (pc' := 519) dL_law_518 rfl rfl ?_
  refine bs_iconst (v := 2) (pc' := 520) dL_law_519 (by decide) rfl ?_
  refine bs_iadd (pc' := 521) dL_law_520 rfl ?_
  refine bl_sld (pc' := 522) dL_law_521 (i + 2) (nI_add i 2) ⟨by omega, by omega⟩ rfl ?_
  refine bs_callV (N := mX6_stackSize) (pc' := 525) dL_law_522 km_L_65 ko_X6_stackSize (sm_stackSize hA hI) mh_y rfl rfl rfl (by omega) (Nat.le_refl _) (Nat.le_refl _) rfl ?_
  rintro _ _ ⟨rfl, rfl⟩
  refine bs_icmp_eq (tgt := 902) (pc' := 528) dL_law_525 rfl rfl (fun _ => ?_) (fun c525 => absurd rfl c525)
  exact nx _ _ ⟨_, _, mh_mh.symm, C1.swap.up (by omega)⟩ k.1
theorem l_itemTag (hA : mOk y A) (hi : i + 6 ≤ L) (hL : L ≤ 3072) (hB : B + 60 < 1000000) (I : LI G y m A B σ h) (h16 : σ 16 0 = 0) (nx : Nx G y m A b L xs i f B) : lB G b L xs (34 * (10 - zN (σ 0 0)) + 60 * (f + 1)) (339 * (10 - zN (σ 0 0)) + 120 * (f + 1)) h 530 (lV b m y i) [] := by
  obtain ⟨hs, ψ, -, C⟩ := I
  have hI := C.inv
  obtain ⟨fs, hm⟩ := C.M
  have k : Kp σ (s_itm σ 5 (xs (i + 1)) (xs (i + 2)) (xs (i + 3))).2 := kp_itm h16
  have k2 := k.2
  refine bs_aload_n (pc' := 531) dL_law_530 rfl rfl rfl ?_
  refine bs_aload_n (pc' := 532) dL_law_531 rfl rfl rfl ?_
  refine bs_iload_n (pc' := 533) dL_law_532 rfl rfl ?_
  refine bs_iconst (v := 1) (pc' := 534) dL_law_533 (by decide) rfl ?_
  refine bs_iadd (pc' := 535) dL_law_534 rfl ?_
  refine bl_sld (pc' := 536) dL_law_535 (i + 1) (nI_add i 1) ⟨by omega, by omega⟩ rfl ?_
  refine bs_aload_n (pc' := 537) dL_law_536 rfl rfl rfl ?_
  refine bs_iload_n (pc' := 538) dL_law_537 rfl rfl ?_
  refine bs_iconst (v := 2) (pc' := 539) dL_law_538 (by decide) rfl ?_
  refine bs_iadd (pc' := 540) dL_law_539 rfl ?_
  refine bl_sld (pc' := 541) dL_law_540 (i + 2) (nI_add i 2) ⟨by omega, by omega⟩ rfl ?_
  refine bs_aload_n (pc' := 542) dL_law_541 rfl rfl rfl ?_
  refine bs_iload_n (pc' := 543) dL_law_542 rfl rfl ?_
  refine bs_iconst (v := 3) (pc' := 544) dL_law_543 (by decide) rfl ?_
  refine bs_iadd (pc' := 545) dL_law_544 rfl ?_
  refine bl_sld (pc' := 546) dL_law_545 (i + 3) (nI_add i 3) ⟨by omega, by omega⟩ rfl ?_
  refine bs_callV (N := mX5_itemTag) (pc' := 549) dL_law_546 km_L_66 ko_X5_itemTag (p_itemTag C h16) hm rfl rfl rfl (by omega) (show (34 * (10 - zN ((s_itm σ 5 (xs (i + 1)) (xs (i + 2)) (xs (i + 3))).2 0 0)) + 60 * f) + _ ≤ _ by omega) (show (339 * (10 - zN ((s_itm σ 5 (xs (i + 1)) (xs (i + 2)) (xs (i + 3))).2 0 0)) + 120 * f) + _ ≤ _ by omega) rfl ?_
  rintro _ h1 ⟨rfl, C1⟩
  rw [← C1.self]
  refine bs_aload_n (pc' := 550) dL_law_549 rfl rfl rfl ?_
  refine bs_aload_n (pc' := 551) dL_law_550 rfl rfl rfl ?_
  refine bs_iload_n (pc' := 552) dL_law_551 rfl rfl ?_
  refine bs_iconst (v := 1) (pc' := 553) dL_law_552 (by decide) rfl ?_
  refine bs_iadd (pc' := 554) dL_law_553 rfl ?_
  refine bl_sld (pc' := 555) dL_law_554 (i + 1) (nI_add i 1) ⟨by omega, by omega⟩ rfl ?_
  refine bs_aload_n (pc' := 556) dL_law_555 rfl rfl rfl ?_
  refine bs_iload_n (pc' := 557) dL_law_556 rfl rfl ?_
  refine bs_iconst (v := 2) (pc' := 558) dL_law_557 (by decide) rfl ?_
  refine bs_iadd (pc' := 559) dL_law_558 rfl ?_
  refine bl_sld (pc' := 560) dL_law_559 (i + 2) (nI_add i 2) ⟨by omega, by omega⟩ rfl ?_
  refine bs_aload_n (pc' := 561) dL_law_560 rfl rfl rfl ?_
  refine bs_iload_n (pc' := 562) dL_law_561 rfl rfl ?_
  refine bs_iconst (v := 3) (pc' := 563) dL_law_562 (by decide) rfl ?_
  refine bs_iadd (pc' := 564) dL_law_563 rfl ?_
  refine bl_sld (pc' := 565) dL_law_564 (i + 3) (nI_add i 3) ⟨by omega, by omega⟩ rfl ?_
  refine bs_callV (N := mX6_itemTag) (pc' := 568) dL_law_565 km_L_69 ko_X6_itemTag (sm_itemTag hA hI) mh_y rfl rfl rfl (by omega) (Nat.le_refl _) (Nat.le_refl _) rfl ?_
  rintro _ _ ⟨rfl, rfl⟩
  refine bs_icmp_eq (tgt := 902) (pc' := 571) dL_law_568 rfl rfl (fun _ => ?_) (fun c568 => absurd rfl c568)
  exact nx _ _ ⟨_, _, mh_mh.symm, C1.swap.up (by omega)⟩ k.1
theorem l_itemPermission (hA : mOk y A) (hi : i + 6 ≤ L) (hL : L ≤ 3072) (hB : B + 60 < 1000000) (I : LI G y m A B σ h) (h16 : σ 16 0 = 0) (nx : Nx G y m A b L xs i f B) : lB G b L xs (34 * (10 - zN (σ 0 0)) + 60 * (f + 1)) (339 * (10 - zN (σ 0 0)) + 120 * (f + 1)) h 573 (lV b m y i) [] := by
  obtain ⟨hs, ψ, -, C⟩ := I
  have hI := C.inv
  obtain ⟨fs, hm⟩ := C.M
  have k : Kp σ (s_itm σ 6 (xs (i + 1)) (xs (i + 2)) (xs (i + 3))).2 := kp_itm h16
  have k2 := k.2
  refine bs_aload_n (pc' := 574) dL_law_573 rfl rfl rfl ?_
  refine bs_aload_n (pc' := 575) dL_law_574 rfl rfl rfl ?_
  refine bs_iload_n (pc' := 576) dL_law_575 rfl rfl ?_
  refine bs_iconst (v := 1) (pc' := 577) dL_law_576 (by decide) rfl ?_
  refine bs_iadd (pc' := 578) dL_law_577 rfl ?_
  refine bl_sld (pc' := 579) dL_law_578 (i + 1) (nI_add i 1) ⟨by omega, by omega⟩ rfl ?_
  refine bs_aload_n (pc' := 580) dL_law_579 rfl rfl rfl ?_
  refine bs_iload_n (pc' := 581) dL_law_580 rfl rfl ?_
  refine bs_iconst (v := 2) (pc' := 582) dL_law_581 (by decide) rfl ?_
  refine bs_iadd (pc' := 583) dL_law_582 rfl ?_
  refine bl_sld (pc' := 584) dL_law_583 (i + 2) (nI_add i 2) ⟨by omega, by omega⟩ rfl ?_
  refine bs_aload_n (pc' := 585) dL_law_584 rfl rfl rfl ?_
  refine bs_iload_n (pc' := 586) dL_law_585 rfl rfl ?_
  refine bs_iconst (v := 3) (pc' := 587) dL_law_586 (by decide) rfl ?_
  refine bs_iadd (pc' := 588) dL_law_587 rfl ?_
  refine bl_sld (pc' := 589) dL_law_588 (i + 3) (nI_add i 3) ⟨by omega, by omega⟩ rfl ?_
  refine bs_callV (N := mX5_itemPermission) (pc' := 592) dL_law_589 km_L_70 ko_X5_itemPermission (p_itemPermission C h16) hm rfl rfl rfl (by omega) (show (34 * (10 - zN ((s_itm σ 6 (xs (i + 1)) (xs (i + 2)) (xs (i + 3))).2 0 0)) + 60 * f) + _ ≤ _ by omega) (show (339 * (10 - zN ((s_itm σ 6 (xs (i + 1)) (xs (i + 2)) (xs (i + 3))).2 0 0)) + 120 * f) + _ ≤ _ by omega) rfl ?_
  rintro _ h1 ⟨rfl, C1⟩
  rw [← C1.self]
  refine bs_aload_n (pc' := 593) dL_law_592 rfl rfl rfl ?_
  refine bs_aload_n (pc' := 594) dL_law_593 rfl rfl rfl ?_
  refine bs_iload_n (pc' := 595) dL_law_594 rfl rfl ?_
  refine bs_iconst (v := 1) (pc' := 596) dL_law_595 (by decide) rfl ?_
  refine bs_iadd (pc' := 597) dL_law_596 rfl ?_
  refine bl_sld (pc' := 598) dL_law_597 (i + 1) (nI_add i 1) ⟨by omega, by omega⟩ rfl ?_
  refine bs_aload_n (pc' := 599) dL_law_598 rfl rfl rfl ?_
  refine bs_iload_n (pc' := 600) dL_law_599 rfl rfl ?_
  refine bs_iconst (v := 2) (pc' := 601) dL_law_600 (by decide) rfl ?_
  refine bs_iadd (pc' := 602) dL_law_601 rfl ?_
  refine bl_sld (pc' := 603) dL_law_602 (i + 2) (nI_add i 2) ⟨by omega, by omega⟩ rfl ?_
  refine bs_aload_n (pc' := 604) dL_law_603 rfl rfl rfl ?_
  refine bs_iload_n (pc' := 605) dL_law_604 rfl rfl ?_
  refine bs_iconst (v := 3) (pc' := 606) dL_law_605 (by decide) rfl ?_
  refine bs_iadd (pc' := 607) dL_law_606 rfl ?_
  refine bl_sld (pc' := 608) dL_law_607 (i + 3) (nI_add i 3) ⟨by omega, by omega⟩ rfl ?_
  refine bs_callV (N := mX6_itemPermission) (pc' := 611) dL_law_608 km_L_73 ko_X6_itemPermission (sm_itemPermission hA hI) mh_y rfl rfl rfl (by omega) (Nat.le_refl _) (Nat.le_refl _) rfl ?_
  rintro _ _ ⟨rfl, rfl⟩
  refine bs_icmp_eq (tgt := 902) (pc' := 614) dL_law_611 rfl rfl (fun _ => ?_) (fun c611 => absurd rfl c611)
  exact nx _ _ ⟨_, _, mh_mh.symm, C1.swap.up (by omega)⟩ k.1
theorem l_itemProtected (hA : mOk y A) (hi : i + 6 ≤ L) (hL : L ≤ 3072) (hB : B + 60 < 1000000) (I : LI G y m A B σ h) (h16 : σ 16 0 = 0) (nx : Nx G y m A b L xs i f B) : lB G b L xs (34 * (10 - zN (σ 0 0)) + 60 * (f + 1)) (339 * (10 - zN (σ 0 0)) + 120 * (f + 1)) h 616 (lV b m y i) [] := by
  obtain ⟨hs, ψ, -, C⟩ := I
  have hI := C.inv
  obtain ⟨fs, hm⟩ := C.M
  have k : Kp σ (s_itp σ (xs (i + 1)) (xs (i + 2)) (xs (i + 3))).2 := kp_itp h16
  have k2 := k.2
  refine bs_aload_n (pc' := 617) dL_law_616 rfl rfl rfl ?_
  refine bs_aload_n (pc' := 618) dL_law_617 rfl rfl rfl ?_
  refine bs_iload_n (pc' := 619) dL_law_618 rfl rfl ?_
  refine bs_iconst (v := 1) (pc' := 620) dL_law_619 (by decide) rfl ?_
  refine bs_iadd (pc' := 621) dL_law_620 rfl ?_
  refine bl_sld (pc' := 622) dL_law_621 (i + 1) (nI_add i 1) ⟨by omega, by omega⟩ rfl ?_
  refine bs_aload_n (pc' := 623) dL_law_622 rfl rfl rfl ?_
  refine bs_iload_n (pc' := 624) dL_law_623 rfl rfl ?_
  refine bs_iconst (v := 2) (pc' := 625) dL_law_624 (by decide) rfl ?_
  refine bs_iadd (pc' := 626) dL_law_625 rfl ?_
  refine bl_sld (pc' := 627) dL_law_626 (i + 2) (nI_add i 2) ⟨by omega, by omega⟩ rfl ?_
  refine bs_aload_n (pc' := 628) dL_law_627 rfl rfl rfl ?_
  refine bs_iload_n (pc' := 629) dL_law_628 rfl rfl ?_
  refine bs_iconst (v := 3) (pc' := 630) dL_law_629 (by decide) rfl ?_
  refine bs_iadd (pc' := 631) dL_law_630 rfl ?_
  refine bl_sld (pc' := 632) dL_law_631 (i + 3) (nI_add i 3) ⟨by omega, by omega⟩ rfl ?_
  refine bs_callV (N := mX5_itemProtected) (pc' := 635) dL_law_632 km_L_74 ko_X5_itemProtected (p_itemProtected C h16) hm rfl rfl rfl (by omega) (show (34 * (10 - zN ((s_itp σ (xs (i + 1)) (xs (i + 2)) (xs (i + 3))).2 0 0)) + 60 * f) + _ ≤ _ by omega) (show (339 * (10 - zN ((s_itp σ (xs (i + 1)) (xs (i + 2)) (xs (i + 3))).2 0 0)) + 120 * f) + _ ≤ _ by omega) rfl ?_
  rintro _ h1 ⟨rfl, C1⟩
  rw [← C1.self]
  refine bs_aload_n (pc' := 636) dL_law_635 rfl rfl rfl ?_
  refine bs_aload_n (pc' := 637) dL_law_636 rfl rfl rfl ?_
  refine bs_iload_n (pc' := 638) dL_law_637 rfl rfl ?_
  refine bs_iconst (v := 1) (pc' := 639) dL_law_638 (by decide) rfl ?_
  refine bs_iadd (pc' := 640) dL_law_639 rfl ?_
  refine bl_sld (pc' := 641) dL_law_640 (i + 1) (nI_add i 1) ⟨by omega, by omega⟩ rfl ?_
  refine bs_aload_n (pc' := 642) dL_law_641 rfl rfl rfl ?_
  refine bs_iload_n (pc' := 643) dL_law_642 rfl rfl ?_
  refine bs_iconst (v := 2) (pc' := 644) dL_law_643 (by decide) rfl ?_
  refine bs_iadd (pc' := 645) dL_law_644 rfl ?_
  refine bl_sld (pc' := 646) dL_law_645 (i + 2) (nI_add i 2) ⟨by omega, by omega⟩ rfl ?_
  refine bs_aload_n (pc' := 647) dL_law_646 rfl rfl rfl ?_
  refine bs_iload_n (pc' := 648) dL_law_647 rfl rfl ?_
  refine bs_iconst (v := 3) (pc' := 649) dL_law_648 (by decide) rfl ?_
  refine bs_iadd (pc' := 650) dL_law_649 rfl ?_
  refine bl_sld (pc' := 651) dL_law_650 (i + 3) (nI_add i 3) ⟨by omega, by omega⟩ rfl ?_
  refine bs_callV (N := mX6_itemProtected) (pc' := 654) dL_law_651 km_L_77 ko_X6_itemProtected (sm_itemProtected hA hI) mh_y rfl rfl rfl (by omega) (Nat.le_refl _) (Nat.le_refl _) rfl ?_
  rintro _ _ ⟨rfl, rfl⟩
  refine bs_icmp_eq (tgt := 902) (pc' := 657) dL_law_654 rfl rfl (fun _ => ?_) (fun c654 => absurd rfl c654)
  exact nx _ _ ⟨_, _, mh_mh.symm, C1.swap.up (by omega)⟩ k.1
theorem l_allocationOf (hA : mOk y A) (hi : i + 6 ≤ L) (hL : L ≤ 3072) (hB : B + 60 < 1000000) (I : LI G y m A B σ h) (h16 : σ 16 0 = 0) (nx : Nx G y m A b L xs i f B) : lB G b L xs (34 * (10 - zN (σ 0 0)) + 60 * (f + 1)) (339 * (10 - zN (σ 0 0)) + 120 * (f + 1)) h 659 (lV b m y i) [] := by
  obtain ⟨hs, ψ, -, C⟩ := I
  have hI := C.inv
  obtain ⟨fs, hm⟩ := C.M
  have k : Kp σ (s_ptr σ 9 (xs (i + 1))).2 := kp_ptr h16
  have k2 := k.2
  refine bs_aload_n (pc' := 660) dL_law_659 rfl rfl rfl ?_
  refine bs_aload_n (pc' := 661) dL_law_660 rfl rfl rfl ?_
  refine bs_iload_n (pc' := 662) dL_law_661 rfl rfl ?_
  refine bs_iconst (v := 1) (pc' := 663) dL_law_662 (by decide) rfl ?_
  refine bs_iadd (pc' := 664) dL_law_663 rfl ?_
  refine bl_sld (pc' := 665) dL_law_664 (i + 1) (nI_add i 1) ⟨by omega, by omega⟩ rfl ?_
  refine bs_callV (N := mX5_allocationOf) (pc' := 668) dL_law_665 km_L_78 ko_X5_allocationOf (p_allocationOf C h16) hm rfl rfl rfl (by omega) (show (34 * (10 - zN ((s_ptr σ 9 (xs (i + 1))).2 0 0)) + 60 * f) + _ ≤ _ by omega) (show (339 * (10 - zN ((s_ptr σ 9 (xs (i + 1))).2 0 0)) + 120 * f) + _ ≤ _ by omega) rfl ?_
  rintro _ h1 ⟨rfl, C1⟩
  rw [← C1.self]
  refine bs_aload_n (pc' := 669) dL_law_668 rfl rfl rfl ?_
  refine bs_aload_n (pc' := 670) dL_law_669 rfl rfl rfl ?_
  refine bs_iload_n (pc' := 671) dL_law_670 rfl rfl ?_
  refine bs_iconst (v := 1) (pc' := 672) dL_law_671 (by decide) rfl ?_
  refine bs_iadd (pc' := 673) dL_law_672 rfl ?_
  refine bl_sld (pc' := 674) dL_law_673 (i + 1) (nI_add i 1) ⟨by omega, by omega⟩ rfl ?_
  refine bs_callV (N := mX6_allocationOf) (pc' := 677) dL_law_674 km_L_81 ko_X6_allocationOf (sm_allocationOf hA hI) mh_y rfl rfl rfl (by omega) (Nat.le_refl _) (Nat.le_refl _) rfl ?_
  rintro _ _ ⟨rfl, rfl⟩
  refine bs_icmp_eq (tgt := 902) (pc' := 680) dL_law_677 rfl rfl (fun _ => ?_) (fun c677 => absurd rfl c677)
  exact nx _ _ ⟨_, _, mh_mh.symm, C1.swap.up (by omega)⟩ k.1
theorem l_parent (hA : mOk y A) (hi : i + 6 ≤ L) (hL : L ≤ 3072) (hB : B + 60 < 1000000) (I : LI G y m A B σ h) (h16 : σ 16 0 = 0) (nx : Nx G y m A b L xs i f B) : lB G b L xs (34 * (10 - zN (σ 0 0)) + 60 * (f + 1)) (339 * (10 - zN (σ 0 0)) + 120 * (f + 1)) h 682 (lV b m y i) [] := by
  obtain ⟨hs, ψ, -, C⟩ := I
  have hI := C.inv
  obtain ⟨fs, hm⟩ := C.M
  have k : Kp σ (s_ptr σ 10 (xs (i + 1))).2 := kp_ptr h16
  have k2 := k.2
  refine bs_aload_n (pc' := 683) dL_law_682 rfl rfl rfl ?_
  refine bs_aload_n (pc' := 684) dL_law_683 rfl rfl rfl ?_
  refine bs_iload_n (pc' := 685) dL_law_684 rfl rfl ?_
  refine bs_iconst (v := 1) (pc' := 686) dL_law_685 (by decide) rfl ?_
  refine bs_iadd (pc' := 687) dL_law_686 rfl ?_
  refine bl_sld (pc' := 688) dL_law_687 (i + 1) (nI_add i 1) ⟨by omega, by omega⟩ rfl ?_
  refine bs_callV (N := mX5_parent) (pc' := 691) dL_law_688 km_L_82 ko_X5_parent (p_parent C h16) hm rfl rfl rfl (by omega) (show (34 * (10 - zN ((s_ptr σ 10 (xs (i + 1))).2 0 0)) + 60 * f) + _ ≤ _ by omega) (show (339 * (10 - zN ((s_ptr σ 10 (xs (i + 1))).2 0 0)) + 120 * f) + _ ≤ _ by omega) rfl ?_
  rintro _ h1 ⟨rfl, C1⟩
  rw [← C1.self]
  refine bs_aload_n (pc' := 692) dL_law_691 rfl rfl rfl ?_
  refine bs_aload_n (pc' := 693) dL_law_692 rfl rfl rfl ?_
  refine bs_iload_n (pc' := 694) dL_law_693 rfl rfl ?_
  refine bs_iconst (v := 1) (pc' := 695) dL_law_694 (by decide) rfl ?_
  refine bs_iadd (pc' := 696) dL_law_695 rfl ?_
  refine bl_sld (pc' := 697) dL_law_696 (i + 1) (nI_add i 1) ⟨by omega, by omega⟩ rfl ?_
  refine bs_callV (N := mX6_parent) (pc' := 700) dL_law_697 km_L_85 ko_X6_parent (sm_parent hA hI) mh_y rfl rfl rfl (by omega) (Nat.le_refl _) (Nat.le_refl _) rfl ?_
  rintro _ _ ⟨rfl, rfl⟩
  refine bs_icmp_eq (tgt := 902) (pc' := 703) dL_law_700 rfl rfl (fun _ => ?_) (fun c700 => absurd rfl c700)
  exact nx _ _ ⟨_, _, mh_mh.symm, C1.swap.up (by omega)⟩ k.1
theorem l_liveCells (hA : mOk y A) (hi : i + 6 ≤ L) (hL : L ≤ 3072) (hB : B + 60 < 1000000) (I : LI G y m A B σ h) (h16 : σ 16 0 = 0) (nx : Nx G y m A b L xs i f B) : lB G b L xs (34 * (10 - zN (σ 0 0)) + 60 * (f + 1)) (339 * (10 - zN (σ 0 0)) + 120 * (f + 1)) h 705 (lV b m y i) [] := by
  obtain ⟨hs, ψ, -, C⟩ := I
  have hI := C.inv
  obtain ⟨fs, hm⟩ := C.M
  have k : Kp σ (s_liv σ (xs (i + 1))).2 := kp_liv h16
  have k2 := k.2
  refine bs_aload_n (pc' := 706) dL_law_705 rfl rfl rfl ?_
  refine bs_aload_n (pc' := 707) dL_law_706 rfl rfl rfl ?_
  refine bs_iload_n (pc' := 708) dL_law_707 rfl rfl ?_
  refine bs_iconst (v := 1) (pc' := 709) dL_law_708 (by decide) rfl ?_
  refine bs_iadd (pc' := 710) dL_law_709 rfl ?_
  refine bl_sld (pc' := 711) dL_law_710 (i + 1) (nI_add i 1) ⟨by omega, by omega⟩ rfl ?_
  refine bs_callV (N := mX5_liveCells) (pc' := 714) dL_law_711 km_L_86 ko_X5_liveCells (p_liveCells C h16) hm rfl rfl rfl (by omega) (show (34 * (10 - zN ((s_liv σ (xs (i + 1))).2 0 0)) + 60 * f) + _ ≤ _ by omega) (show (339 * (10 - zN ((s_liv σ (xs (i + 1))).2 0 0)) + 120 * f) + _ ≤ _ by omega) rfl ?_
  rintro _ h1 ⟨rfl, C1⟩
  rw [← C1.self]
  refine bs_aload_n (pc' := 715) dL_law_714 rfl rfl rfl ?_
  refine bs_aload_n (pc' := 716) dL_law_715 rfl rfl rfl ?_
  refine bs_iload_n (pc' := 717) dL_law_716 rfl rfl ?_
  refine bs_iconst (v := 1) (pc' := 718) dL_law_717 (by decide) rfl ?_
  refine bs_iadd (pc' := 719) dL_law_718 rfl ?_
  refine bl_sld (pc' := 720) dL_law_719 (i + 1) (nI_add i 1) ⟨by omega, by omega⟩ rfl ?_
  refine bs_callV (N := mX6_liveCells) (pc' := 723) dL_law_720 km_L_89 ko_X6_liveCells (sm_liveCells hA hI) mh_y rfl rfl rfl (by omega) (Nat.le_refl _) (Nat.le_refl _) rfl ?_
  rintro _ _ ⟨rfl, rfl⟩
  refine bs_icmp_eq (tgt := 902) (pc' := 726) dL_law_723 rfl rfl (fun _ => ?_) (fun c723 => absurd rfl c723)
  exact nx _ _ ⟨_, _, mh_mh.symm, C1.swap.up (by omega)⟩ k.1
end Law2
