/-! The law: its cases -/
set_option maxRecDepth 100000 in
set_option maxHeartbeats 4000000 in
theorem lc_undo {l : Launch} {E : Ev} {x : Cx} {z b L : Nat} {xs : Nat → Int32} {i : Int32} {σ σ' : AS} {r : Int32} (hF : fx E x RL cL_law (some .boolean) 4) (hX : va_X b L xs x.2.2.1 x.2.2.1.heap) (hbl : b < x.2.2.1.heap.size) (hbA : ¬ arx x b) (hA : ∀ q, z ≤ q → arx x q) (hv : ∀ k, k < 7 → vp_in (i + nI k) L) (hC1 : Ct l E yX9_undo cX9_undo 2 (some .int) (rm 6) [.ref z, .int (xs (i + nI 1).toNatClampNeg)] (CS E z σ) (rV (some (.int r)) (CS E z σ')) (rg z 524)) (hC2 : Ct l E yX10_undo cX10_undo 3 (some .int) (rm 6) [.ref (z + 524), .int (xs (i + nI 1).toNatClampNeg)] (MS E (z + 524) σ) (rV (some (.int r)) (MS E (z + 524) σ')) (rg (z + 524) 11)) (nxt : go l room_1 E x 535 7107 (fun H => CS E z σ' H ∧ MS E (z + 524) σ' H) [some (.ref b), some (.ref z), some (.ref (z + 524)), some (.int i)] 782 []) : go l room_1 E x 535 7107 (fun H => CS E z σ H ∧ MS E (z + 524) σ H) [some (.ref b), some (.ref z), some (.ref (z + 524)), some (.int i)] 470 [] := by
  refine g_aload_n hF dL_law_470 471 rfl rfl ?_
  refine g_aload_n hF dL_law_471 472 rfl rfl ?_
  refine g_iload_n hF dL_law_472 473 rfl rfl ?_
  refine g_iconst hF (1) dL_law_473 474 rfl rfl ?_
  refine g_iadd hF dL_law_474 475 rfl ?_
  refine g_sld hF hX hbl hbA (hv 1 (by omega)) dL_law_475 476 rfl ?_
  refine g_callX hF cv_L_57 hC1 dL_law_476 479 rfl (st := []) rfl rfl ⟨Nat.le_of_ble_eq_true rfl, Nat.le_of_ble_eq_true rfl⟩ ⟨Nat.le_of_ble_eq_true rfl, Nat.le_of_ble_eq_true rfl⟩ rfl (Nat.le_of_ble_eq_true rfl) 9 rfl (fun H h => ⟨_, h.1.ob⟩) (Pr' := fun H => CS E z σ' H ∧ MS E (z + 524) σ H) (fun H h => h.1) (fun q y => hA q y.1) (fun H H' h h1 h2 => by exact ⟨h1, h.2.out h2 (fun q y => Or.inl y.2)⟩) (st1 := [_]) rfl (k1 := 535) (n1 := 7107) rfl rfl ?_
  refine g_aload_n hF dL_law_479 480 rfl rfl ?_
  refine g_aload_n hF dL_law_480 481 rfl rfl ?_
  refine g_iload_n hF dL_law_481 482 rfl rfl ?_
  refine g_iconst hF (1) dL_law_482 483 rfl rfl ?_
  refine g_iadd hF dL_law_483 484 rfl ?_
  refine g_sld hF hX hbl hbA (hv 1 (by omega)) dL_law_484 485 rfl ?_
  refine g_callX hF cv_L_60 hC2 dL_law_485 488 rfl (st := [_]) rfl rfl ⟨Nat.le_of_ble_eq_true rfl, Nat.le_of_ble_eq_true rfl⟩ ⟨Nat.le_of_ble_eq_true rfl, Nat.le_of_ble_eq_true rfl⟩ rfl (Nat.le_of_ble_eq_true rfl) 10 rfl (fun H h => h.2.ob) (Pr' := fun H => CS E z σ' H ∧ MS E (z + 524) σ' H) (fun H h => h.2) (fun q y => hA q (Nat.le_trans (Nat.le_add_right _ _) y.1)) (fun H H' h h1 h2 => by exact ⟨h.1.out h2 (fun q y => Or.inr y.1), h1⟩) (st1 := [_, _]) rfl (k1 := 535) (n1 := 7107) rfl rfl ?_
  refine g_icmp_eq hF dL_law_488 491 rfl 782 (by decide) (fun _ => ?_) (fun c => absurd (rfl) c)
  exact nxt
set_option maxRecDepth 100000 in
set_option maxHeartbeats 4000000 in
theorem lc_run {l : Launch} {E : Ev} {x : Cx} {z b L : Nat} {xs : Nat → Int32} {i : Int32} {σ σ' : AS} {r : Int64} (hF : fx E x RL cL_law (some .boolean) 4) (hX : va_X b L xs x.2.2.1 x.2.2.1.heap) (hbl : b < x.2.2.1.heap.size) (hbA : ¬ arx x b) (hA : ∀ q, z ≤ q → arx x q) (hv : ∀ k, k < 7 → vp_in (i + nI k) L) (hC1 : Ct l E yX9_run cX9_run 5 (some .long) (rm 6) [.ref z, .int (xs (i + nI 1).toNatClampNeg), .int (xs (i + nI 2).toNatClampNeg), .int (xs (i + nI 3).toNatClampNeg)] (CS E z σ) (rV (some (.long r)) (CS E z σ')) (rg z 524)) (hC2 : Ct l E yX10_run cX10_run 10 (some .long) (rm 6) [.ref (z + 524), .int (xs (i + nI 1).toNatClampNeg), .int (xs (i + nI 2).toNatClampNeg), .int (xs (i + nI 3).toNatClampNeg)] (MS E (z + 524) σ) (rV (some (.long r)) (MS E (z + 524) σ')) (rg (z + 524) 11)) (nxt : go l room_1 E x 535 7107 (fun H => CS E z σ' H ∧ MS E (z + 524) σ' H) [some (.ref b), some (.ref z), some (.ref (z + 524)), some (.int i)] 782 []) : go l room_1 E x 535 7107 (fun H => CS E z σ H ∧ MS E (z + 524) σ H) [some (.ref b), some (.ref z), some (.ref (z + 524)), some (.int i)] 493 [] := by
  refine g_aload_n hF dL_law_493 494 rfl rfl ?_
  refine g_aload_n hF dL_law_494 495 rfl rfl ?_
  refine g_iload_n hF dL_law_495 496 rfl rfl ?_
  refine g_iconst hF (1) dL_law_496 497 rfl rfl ?_
  refine g_iadd hF dL_law_497 498 rfl ?_
  refine g_sld hF hX hbl hbA (hv 1 (by omega)) dL_law_498 499 rfl ?_
  refine g_aload_n hF dL_law_499 500 rfl rfl ?_
  refine g_iload_n hF dL_law_500 501 rfl rfl ?_
  refine g_iconst hF (2) dL_law_501 502 rfl rfl ?_
  refine g_iadd hF dL_law_502 503 rfl ?_
  refine g_sld hF hX hbl hbA (hv 2 (by omega)) dL_law_503 504 rfl ?_
  refine g_aload_n hF dL_law_504 505 rfl rfl ?_
  refine g_iload_n hF dL_law_505 506 rfl rfl ?_
  refine g_iconst hF (3) dL_law_506 507 rfl rfl ?_
  refine g_iadd hF dL_law_507 508 rfl ?_
  refine g_sld hF hX hbl hbA (hv 3 (by omega)) dL_law_508 509 rfl ?_
  refine g_callX hF cv_L_61 hC1 dL_law_509 512 rfl (st := []) rfl rfl ⟨Nat.le_of_ble_eq_true rfl, Nat.le_of_ble_eq_true rfl⟩ ⟨Nat.le_of_ble_eq_true rfl, Nat.le_of_ble_eq_true rfl⟩ rfl (Nat.le_of_ble_eq_true rfl) 9 rfl (fun H h => ⟨_, h.1.ob⟩) (Pr' := fun H => CS E z σ' H ∧ MS E (z + 524) σ H) (fun H h => h.1) (fun q y => hA q y.1) (fun H H' h h1 h2 => by exact ⟨h1, h.2.out h2 (fun q y => Or.inl y.2)⟩) (st1 := [_]) rfl (k1 := 535) (n1 := 7107) rfl rfl ?_
  refine g_aload_n hF dL_law_512 513 rfl rfl ?_
  refine g_aload_n hF dL_law_513 514 rfl rfl ?_
  refine g_iload_n hF dL_law_514 515 rfl rfl ?_
  refine g_iconst hF (1) dL_law_515 516 rfl rfl ?_
  refine g_iadd hF dL_law_516 517 rfl ?_
  refine g_sld hF hX hbl hbA (hv 1 (by omega)) dL_law_517 518 rfl ?_
  refine g_aload_n hF dL_law_518 519 rfl rfl ?_
  refine g_iload_n hF dL_law_519 520 rfl rfl ?_
  refine g_iconst hF (2) dL_law_520 521 rfl rfl ?_
  refine g_iadd hF dL_law_521 522 rfl ?_
  refine g_sld hF hX hbl hbA (hv 2 (by omega)) dL_law_522 523 rfl ?_
  refine g_aload_n hF dL_law_523 524 rfl rfl ?_
  refine g_iload_n hF dL_law_524 525 rfl rfl ?_
  refine g_iconst hF (3) dL_law_525 526 rfl rfl ?_
  refine g_iadd hF dL_law_526 527 rfl ?_
  refine g_sld hF hX hbl hbA (hv 3 (by omega)) dL_law_527 528 rfl ?_
  refine g_callX hF cv_L_65 hC2 dL_law_528 531 rfl (st := [_]) rfl rfl ⟨Nat.le_of_ble_eq_true rfl, Nat.le_of_ble_eq_true rfl⟩ ⟨Nat.le_of_ble_eq_true rfl, Nat.le_of_ble_eq_true rfl⟩ rfl (Nat.le_of_ble_eq_true rfl) 10 rfl (fun H h => h.2.ob) (Pr' := fun H => CS E z σ' H ∧ MS E (z + 524) σ' H) (fun H h => h.2) (fun q y => hA q (Nat.le_trans (Nat.le_add_right _ _) y.1)) (fun H H' h h1 h2 => by exact ⟨h.1.out h2 (fun q y => Or.inr y.1), h1⟩) (st1 := [_, _]) rfl (k1 := 535) (n1 := 7107) rfl rfl ?_
  refine g_lcmp hF dL_law_531 532 rfl ?_
  refine g_if_eq hF dL_law_532 535 rfl 782 (by decide) (fun _ => ?_) (fun c => absurd (lc_self r) c)
  exact nxt
set_option maxRecDepth 100000 in
set_option maxHeartbeats 4000000 in
theorem lc_over {l : Launch} {E : Ev} {x : Cx} {z b L : Nat} {xs : Nat → Int32} {i : Int32} {σ σ' : AS} {r : Int64} (hF : fx E x RL cL_law (some .boolean) 4) (hX : va_X b L xs x.2.2.1 x.2.2.1.heap) (hbl : b < x.2.2.1.heap.size) (hbA : ¬ arx x b) (hA : ∀ q, z ≤ q → arx x q) (hv : ∀ k, k < 7 → vp_in (i + nI k) L) (hC1 : Ct l E yX9_over cX9_over 4 (some .long) (rm 6) [.ref z, .int (xs (i + nI 1).toNatClampNeg), .int (xs (i + nI 2).toNatClampNeg)] (CS E z σ) (rV (some (.long r)) (CS E z σ')) (rg z 524)) (hC2 : Ct l E yX10_over cX10_over 17 (some .long) (rm 6) [.ref (z + 524), .int (xs (i + nI 1).toNatClampNeg), .int (xs (i + nI 2).toNatClampNeg)] (MS E (z + 524) σ) (rV (some (.long r)) (MS E (z + 524) σ')) (rg (z + 524) 11)) (nxt : go l room_1 E x 535 7107 (fun H => CS E z σ' H ∧ MS E (z + 524) σ' H) [some (.ref b), some (.ref z), some (.ref (z + 524)), some (.int i)] 782 []) : go l room_1 E x 535 7107 (fun H => CS E z σ H ∧ MS E (z + 524) σ H) [some (.ref b), some (.ref z), some (.ref (z + 524)), some (.int i)] 537 [] := by
  refine g_aload_n hF dL_law_537 538 rfl rfl ?_
  refine g_aload_n hF dL_law_538 539 rfl rfl ?_
  refine g_iload_n hF dL_law_539 540 rfl rfl ?_
  refine g_iconst hF (1) dL_law_540 541 rfl rfl ?_
  refine g_iadd hF dL_law_541 542 rfl ?_
  refine g_sld hF hX hbl hbA (hv 1 (by omega)) dL_law_542 543 rfl ?_
  refine g_aload_n hF dL_law_543 544 rfl rfl ?_
  refine g_iload_n hF dL_law_544 545 rfl rfl ?_
  refine g_iconst hF (2) dL_law_545 546 rfl rfl ?_
  refine g_iadd hF dL_law_546 547 rfl ?_
  refine g_sld hF hX hbl hbA (hv 2 (by omega)) dL_law_547 548 rfl ?_
  refine g_callX hF cv_L_66 hC1 dL_law_548 551 rfl (st := []) rfl rfl ⟨Nat.le_of_ble_eq_true rfl, Nat.le_of_ble_eq_true rfl⟩ ⟨Nat.le_of_ble_eq_true rfl, Nat.le_of_ble_eq_true rfl⟩ rfl (Nat.le_of_ble_eq_true rfl) 9 rfl (fun H h => ⟨_, h.1.ob⟩) (Pr' := fun H => CS E z σ' H ∧ MS E (z + 524) σ H) (fun H h => h.1) (fun q y => hA q y.1) (fun H H' h h1 h2 => by exact ⟨h1, h.2.out h2 (fun q y => Or.inl y.2)⟩) (st1 := [_]) rfl (k1 := 535) (n1 := 7107) rfl rfl ?_
  refine g_aload_n hF dL_law_551 552 rfl rfl ?_
  refine g_aload_n hF dL_law_552 553 rfl rfl ?_
  refine g_iload_n hF dL_law_553 554 rfl rfl ?_
  refine g_iconst hF (1) dL_law_554 555 rfl rfl ?_
  refine g_iadd hF dL_law_555 556 rfl ?_
  refine g_sld hF hX hbl hbA (hv 1 (by omega)) dL_law_556 557 rfl ?_
  refine g_aload_n hF dL_law_557 558 rfl rfl ?_
  refine g_iload_n hF dL_law_558 559 rfl rfl ?_
  refine g_iconst hF (2) dL_law_559 560 rfl rfl ?_
  refine g_iadd hF dL_law_560 561 rfl ?_
  refine g_sld hF hX hbl hbA (hv 2 (by omega)) dL_law_561 562 rfl ?_
  refine g_callX hF cv_L_70 hC2 dL_law_562 565 rfl (st := [_]) rfl rfl ⟨Nat.le_of_ble_eq_true rfl, Nat.le_of_ble_eq_true rfl⟩ ⟨Nat.le_of_ble_eq_true rfl, Nat.le_of_ble_eq_true rfl⟩ rfl (Nat.le_of_ble_eq_true rfl) 10 rfl (fun H h => h.2.ob) (Pr' := fun H => CS E z σ' H ∧ MS E (z + 524) σ' H) (fun H h => h.2) (fun q y => hA q (Nat.le_trans (Nat.le_add_right _ _) y.1)) (fun H H' h h1 h2 => by exact ⟨h.1.out h2 (fun q y => Or.inr y.1), h1⟩) (st1 := [_, _]) rfl (k1 := 535) (n1 := 7107) rfl rfl ?_
  refine g_lcmp hF dL_law_565 566 rfl ?_
  refine g_if_eq hF dL_law_566 569 rfl 782 (by decide) (fun _ => ?_) (fun c => absurd (lc_self r) c)
  exact nxt
set_option maxRecDepth 100000 in
set_option maxHeartbeats 4000000 in
theorem lc_linesFor {l : Launch} {E : Ev} {x : Cx} {z b L : Nat} {xs : Nat → Int32} {i : Int32} {σ σ' : AS} {r : Int32} (hF : fx E x RL cL_law (some .boolean) 4) (hX : va_X b L xs x.2.2.1 x.2.2.1.heap) (hbl : b < x.2.2.1.heap.size) (hbA : ¬ arx x b) (hA : ∀ q, z ≤ q → arx x q) (hv : ∀ k, k < 7 → vp_in (i + nI k) L) (hC1 : Ct l E yX9_linesFor cX9_linesFor 6 (some .int) (rm 6) [.ref z, .int (xs (i + nI 1).toNatClampNeg), .int (xs (i + nI 2).toNatClampNeg), .int (xs (i + nI 3).toNatClampNeg)] (CS E z σ) (rV (some (.int r)) (CS E z σ')) (rg z 524)) (hC2 : Ct l E yX10_linesFor cX10_linesFor 5 (some .int) (rm 6) [.ref (z + 524), .int (xs (i + nI 1).toNatClampNeg), .int (xs (i + nI 2).toNatClampNeg), .int (xs (i + nI 3).toNatClampNeg)] (MS E (z + 524) σ) (rV (some (.int r)) (MS E (z + 524) σ')) (rg (z + 524) 11)) (nxt : go l room_1 E x 535 7107 (fun H => CS E z σ' H ∧ MS E (z + 524) σ' H) [some (.ref b), some (.ref z), some (.ref (z + 524)), some (.int i)] 782 []) : go l room_1 E x 535 7107 (fun H => CS E z σ H ∧ MS E (z + 524) σ H) [some (.ref b), some (.ref z), some (.ref (z + 524)), some (.int i)] 571 [] := by
  refine g_aload_n hF dL_law_571 572 rfl rfl ?_
  refine g_aload_n hF dL_law_572 573 rfl rfl ?_
  refine g_iload_n hF dL_law_573 574 rfl rfl ?_
  refine g_iconst hF (1) dL_law_574 575 rfl rfl ?_
  refine g_iadd hF dL_law_575 576 rfl ?_
  refine g_sld hF hX hbl hbA (hv 1 (by omega)) dL_law_576 577 rfl ?_
  refine g_aload_n hF dL_law_577 578 rfl rfl ?_
  refine g_iload_n hF dL_law_578 579 rfl rfl ?_
  refine g_iconst hF (2) dL_law_579 580 rfl rfl ?_
  refine g_iadd hF dL_law_580 581 rfl ?_
  refine g_sld hF hX hbl hbA (hv 2 (by omega)) dL_law_581 582 rfl ?_
  refine g_aload_n hF dL_law_582 583 rfl rfl ?_
  refine g_iload_n hF dL_law_583 584 rfl rfl ?_
  refine g_iconst hF (3) dL_law_584 585 rfl rfl ?_
  refine g_iadd hF dL_law_585 586 rfl ?_
  refine g_sld hF hX hbl hbA (hv 3 (by omega)) dL_law_586 587 rfl ?_
  refine g_callX hF cv_L_71 hC1 dL_law_587 590 rfl (st := []) rfl rfl ⟨Nat.le_of_ble_eq_true rfl, Nat.le_of_ble_eq_true rfl⟩ ⟨Nat.le_of_ble_eq_true rfl, Nat.le_of_ble_eq_true rfl⟩ rfl (Nat.le_of_ble_eq_true rfl) 9 rfl (fun H h => ⟨_, h.1.ob⟩) (Pr' := fun H => CS E z σ' H ∧ MS E (z + 524) σ H) (fun H h => h.1) (fun q y => hA q y.1) (fun H H' h h1 h2 => by exact ⟨h1, h.2.out h2 (fun q y => Or.inl y.2)⟩) (st1 := [_]) rfl (k1 := 535) (n1 := 7107) rfl rfl ?_
  refine g_aload_n hF dL_law_590 591 rfl rfl ?_
  refine g_aload_n hF dL_law_591 592 rfl rfl ?_
  refine g_iload_n hF dL_law_592 593 rfl rfl ?_
  refine g_iconst hF (1) dL_law_593 594 rfl rfl ?_
  refine g_iadd hF dL_law_594 595 rfl ?_
  refine g_sld hF hX hbl hbA (hv 1 (by omega)) dL_law_595 596 rfl ?_
  refine g_aload_n hF dL_law_596 597 rfl rfl ?_
  refine g_iload_n hF dL_law_597 598 rfl rfl ?_
  refine g_iconst hF (2) dL_law_598 599 rfl rfl ?_
  refine g_iadd hF dL_law_599 600 rfl ?_
  refine g_sld hF hX hbl hbA (hv 2 (by omega)) dL_law_600 601 rfl ?_
  refine g_aload_n hF dL_law_601 602 rfl rfl ?_
  refine g_iload_n hF dL_law_602 603 rfl rfl ?_
  refine g_iconst hF (3) dL_law_603 604 rfl rfl ?_
  refine g_iadd hF dL_law_604 605 rfl ?_
  refine g_sld hF hX hbl hbA (hv 3 (by omega)) dL_law_605 606 rfl ?_
  refine g_callX hF cv_L_74 hC2 dL_law_606 609 rfl (st := [_]) rfl rfl ⟨Nat.le_of_ble_eq_true rfl, Nat.le_of_ble_eq_true rfl⟩ ⟨Nat.le_of_ble_eq_true rfl, Nat.le_of_ble_eq_true rfl⟩ rfl (Nat.le_of_ble_eq_true rfl) 10 rfl (fun H h => h.2.ob) (Pr' := fun H => CS E z σ' H ∧ MS E (z + 524) σ' H) (fun H h => h.2) (fun q y => hA q (Nat.le_trans (Nat.le_add_right _ _) y.1)) (fun H H' h h1 h2 => by exact ⟨h.1.out h2 (fun q y => Or.inr y.1), h1⟩) (st1 := [_, _]) rfl (k1 := 535) (n1 := 7107) rfl rfl ?_
  refine g_icmp_eq hF dL_law_609 612 rfl 782 (by decide) (fun _ => ?_) (fun c => absurd (rfl) c)
  exact nxt
set_option maxRecDepth 100000 in
set_option maxHeartbeats 4000000 in
theorem lc_bestReserve {l : Launch} {E : Ev} {x : Cx} {z b L : Nat} {xs : Nat → Int32} {i : Int32} {σ σ' : AS} {r : Int32} (hF : fx E x RL cL_law (some .boolean) 4) (hX : va_X b L xs x.2.2.1 x.2.2.1.heap) (hbl : b < x.2.2.1.heap.size) (hbA : ¬ arx x b) (hA : ∀ q, z ≤ q → arx x q) (hv : ∀ k, k < 7 → vp_in (i + nI k) L) (hC1 : Ct l E yX9_bestReserve cX9_bestReserve 6 (some .int) (rm 6) [.ref z, .int (xs (i + nI 1).toNatClampNeg), .int (xs (i + nI 2).toNatClampNeg), .int (xs (i + nI 3).toNatClampNeg)] (CS E z σ) (rV (some (.int r)) (CS E z σ')) (rg z 524)) (hC2 : Ct l E yX10_bestReserve cX10_bestReserve 5 (some .int) (rm 6) [.ref (z + 524), .int (xs (i + nI 1).toNatClampNeg), .int (xs (i + nI 2).toNatClampNeg), .int (xs (i + nI 3).toNatClampNeg)] (MS E (z + 524) σ) (rV (some (.int r)) (MS E (z + 524) σ')) (rg (z + 524) 11)) (nxt : go l room_1 E x 535 7107 (fun H => CS E z σ' H ∧ MS E (z + 524) σ' H) [some (.ref b), some (.ref z), some (.ref (z + 524)), some (.int i)] 782 []) : go l room_1 E x 535 7107 (fun H => CS E z σ H ∧ MS E (z + 524) σ H) [some (.ref b), some (.ref z), some (.ref (z + 524)), some (.int i)] 614 [] := by
  refine g_aload_n hF dL_law_614 615 rfl rfl ?_
  refine g_aload_n hF dL_law_615 616 rfl rfl ?_
  refine g_iload_n hF dL_law_616 617 rfl rfl ?_
  refine g_iconst hF (1) dL_law_617 618 rfl rfl ?_
  refine g_iadd hF dL_law_618 619 rfl ?_
  refine g_sld hF hX hbl hbA (hv 1 (by omega)) dL_law_619 620 rfl ?_
  refine g_aload_n hF dL_law_620 621 rfl rfl ?_
  refine g_iload_n hF dL_law_621 622 rfl rfl ?_
  refine g_iconst hF (2) dL_law_622 623 rfl rfl ?_
  refine g_iadd hF dL_law_623 624 rfl ?_
  refine g_sld hF hX hbl hbA (hv 2 (by omega)) dL_law_624 625 rfl ?_
  refine g_aload_n hF dL_law_625 626 rfl rfl ?_
  refine g_iload_n hF dL_law_626 627 rfl rfl ?_
  refine g_iconst hF (3) dL_law_627 628 rfl rfl ?_
  refine g_iadd hF dL_law_628 629 rfl ?_
  refine g_sld hF hX hbl hbA (hv 3 (by omega)) dL_law_629 630 rfl ?_
  refine g_callX hF cv_L_75 hC1 dL_law_630 633 rfl (st := []) rfl rfl ⟨Nat.le_of_ble_eq_true rfl, Nat.le_of_ble_eq_true rfl⟩ ⟨Nat.le_of_ble_eq_true rfl, Nat.le_of_ble_eq_true rfl⟩ rfl (Nat.le_of_ble_eq_true rfl) 9 rfl (fun H h => ⟨_, h.1.ob⟩) (Pr' := fun H => CS E z σ' H ∧ MS E (z + 524) σ H) (fun H h => h.1) (fun q y => hA q y.1) (fun H H' h h1 h2 => by exact ⟨h1, h.2.out h2 (fun q y => Or.inl y.2)⟩) (st1 := [_]) rfl (k1 := 535) (n1 := 7107) rfl rfl ?_
  refine g_aload_n hF dL_law_633 634 rfl rfl ?_
  refine g_aload_n hF dL_law_634 635 rfl rfl ?_
  refine g_iload_n hF dL_law_635 636 rfl rfl ?_
  refine g_iconst hF (1) dL_law_636 637 rfl rfl ?_
  refine g_iadd hF dL_law_637 638 rfl ?_
  refine g_sld hF hX hbl hbA (hv 1 (by omega)) dL_law_638 639 rfl ?_
  refine g_aload_n hF dL_law_639 640 rfl rfl ?_
  refine g_iload_n hF dL_law_640 641 rfl rfl ?_
  refine g_iconst hF (2) dL_law_641 642 rfl rfl ?_
  refine g_iadd hF dL_law_642 643 rfl ?_
  refine g_sld hF hX hbl hbA (hv 2 (by omega)) dL_law_643 644 rfl ?_
  refine g_aload_n hF dL_law_644 645 rfl rfl ?_
  refine g_iload_n hF dL_law_645 646 rfl rfl ?_
  refine g_iconst hF (3) dL_law_646 647 rfl rfl ?_
  refine g_iadd hF dL_law_647 648 rfl ?_
  refine g_sld hF hX hbl hbA (hv 3 (by omega)) dL_law_648 649 rfl ?_
  refine g_callX hF cv_L_78 hC2 dL_law_649 652 rfl (st := [_]) rfl rfl ⟨Nat.le_of_ble_eq_true rfl, Nat.le_of_ble_eq_true rfl⟩ ⟨Nat.le_of_ble_eq_true rfl, Nat.le_of_ble_eq_true rfl⟩ rfl (Nat.le_of_ble_eq_true rfl) 10 rfl (fun H h => h.2.ob) (Pr' := fun H => CS E z σ' H ∧ MS E (z + 524) σ' H) (fun H h => h.2) (fun q y => hA q (Nat.le_trans (Nat.le_add_right _ _) y.1)) (fun H H' h h1 h2 => by exact ⟨h.1.out h2 (fun q y => Or.inr y.1), h1⟩) (st1 := [_, _]) rfl (k1 := 535) (n1 := 7107) rfl rfl ?_
  refine g_icmp_eq hF dL_law_652 655 rfl 782 (by decide) (fun _ => ?_) (fun c => absurd (rfl) c)
  exact nxt
set_option maxRecDepth 100000 in
set_option maxHeartbeats 4000000 in
theorem lc_write {l : Launch} {E : Ev} {x : Cx} {z b L : Nat} {xs : Nat → Int32} {i : Int32} {σ σ' : AS} {r : Int32} (hF : fx E x RL cL_law (some .boolean) 4) (hX : va_X b L xs x.2.2.1 x.2.2.1.heap) (hbl : b < x.2.2.1.heap.size) (hbA : ¬ arx x b) (hA : ∀ q, z ≤ q → arx x q) (hv : ∀ k, k < 7 → vp_in (i + nI k) L) (hC1 : Ct l E yX9_write cX9_write 5 (some .int) (rm 6) [.ref z, .int (xs (i + nI 1).toNatClampNeg), .int (xs (i + nI 2).toNatClampNeg), .int (xs (i + nI 3).toNatClampNeg)] (CS E z σ) (rV (some (.int r)) (CS E z σ')) (rg z 524)) (hC2 : Ct l E yX10_write cX10_write 4 (some .int) (rm 6) [.ref (z + 524), .int (xs (i + nI 1).toNatClampNeg), .int (xs (i + nI 2).toNatClampNeg), .int (xs (i + nI 3).toNatClampNeg)] (MS E (z + 524) σ) (rV (some (.int r)) (MS E (z + 524) σ')) (rg (z + 524) 11)) (nxt : go l room_1 E x 535 7107 (fun H => CS E z σ' H ∧ MS E (z + 524) σ' H) [some (.ref b), some (.ref z), some (.ref (z + 524)), some (.int i)] 782 []) : go l room_1 E x 535 7107 (fun H => CS E z σ H ∧ MS E (z + 524) σ H) [some (.ref b), some (.ref z), some (.ref (z + 524)), some (.int i)] 657 [] := by
  refine g_aload_n hF dL_law_657 658 rfl rfl ?_
  refine g_aload_n hF dL_law_658 659 rfl rfl ?_
  refine g_iload_n hF dL_law_659 660 rfl rfl ?_
  refine g_iconst hF (1) dL_law_660 661 rfl rfl ?_
  refine g_iadd hF dL_law_661 662 rfl ?_
  refine g_sld hF hX hbl hbA (hv 1 (by omega)) dL_law_662 663 rfl ?_
  refine g_aload_n hF dL_law_663 664 rfl rfl ?_
  refine g_iload_n hF dL_law_664 665 rfl rfl ?_
  refine g_iconst hF (2) dL_law_665 666 rfl rfl ?_
  refine g_iadd hF dL_law_666 667 rfl ?_
  refine g_sld hF hX hbl hbA (hv 2 (by omega)) dL_law_667 668 rfl ?_
  refine g_aload_n hF dL_law_668 669 rfl rfl ?_
  refine g_iload_n hF dL_law_669 670 rfl rfl ?_
  refine g_iconst hF (3) dL_law_670 671 rfl rfl ?_
  refine g_iadd hF dL_law_671 672 rfl ?_
  refine g_sld hF hX hbl hbA (hv 3 (by omega)) dL_law_672 673 rfl ?_
  refine g_callX hF cv_L_79 hC1 dL_law_673 676 rfl (st := []) rfl rfl ⟨Nat.le_of_ble_eq_true rfl, Nat.le_of_ble_eq_true rfl⟩ ⟨Nat.le_of_ble_eq_true rfl, Nat.le_of_ble_eq_true rfl⟩ rfl (Nat.le_of_ble_eq_true rfl) 9 rfl (fun H h => ⟨_, h.1.ob⟩) (Pr' := fun H => CS E z σ' H ∧ MS E (z + 524) σ H) (fun H h => h.1) (fun q y => hA q y.1) (fun H H' h h1 h2 => by exact ⟨h1, h.2.out h2 (fun q y => Or.inl y.2)⟩) (st1 := [_]) rfl (k1 := 535) (n1 := 7107) rfl rfl ?_
  refine g_aload_n hF dL_law_676 677 rfl rfl ?_
  refine g_aload_n hF dL_law_677 678 rfl rfl ?_
  refine g_iload_n hF dL_law_678 679 rfl rfl ?_
  refine g_iconst hF (1) dL_law_679 680 rfl rfl ?_
  refine g_iadd hF dL_law_680 681 rfl ?_
  refine g_sld hF hX hbl hbA (hv 1 (by omega)) dL_law_681 682 rfl ?_
  refine g_aload_n hF dL_law_682 683 rfl rfl ?_
  refine g_iload_n hF dL_law_683 684 rfl rfl ?_
  refine g_iconst hF (2) dL_law_684 685 rfl rfl ?_
  refine g_iadd hF dL_law_685 686 rfl ?_
  refine g_sld hF hX hbl hbA (hv 2 (by omega)) dL_law_686 687 rfl ?_
  refine g_aload_n hF dL_law_687 688 rfl rfl ?_
  refine g_iload_n hF dL_law_688 689 rfl rfl ?_
  refine g_iconst hF (3) dL_law_689 690 rfl rfl ?_
  refine g_iadd hF dL_law_690 691 rfl ?_
  refine g_sld hF hX hbl hbA (hv 3 (by omega)) dL_law_691 692 rfl ?_
  refine g_callX hF cv_L_82 hC2 dL_law_692 695 rfl (st := [_]) rfl rfl ⟨Nat.le_of_ble_eq_true rfl, Nat.le_of_ble_eq_true rfl⟩ ⟨Nat.le_of_ble_eq_true rfl, Nat.le_of_ble_eq_true rfl⟩ rfl (Nat.le_of_ble_eq_true rfl) 10 rfl (fun H h => h.2.ob) (Pr' := fun H => CS E z σ' H ∧ MS E (z + 524) σ' H) (fun H h => h.2) (fun q y => hA q (Nat.le_trans (Nat.le_add_right _ _) y.1)) (fun H H' h h1 h2 => by exact ⟨h.1.out h2 (fun q y => Or.inr y.1), h1⟩) (st1 := [_, _]) rfl (k1 := 535) (n1 := 7107) rfl rfl ?_
  refine g_icmp_eq hF dL_law_695 698 rfl 782 (by decide) (fun _ => ?_) (fun c => absurd (rfl) c)
  exact nxt
set_option maxRecDepth 100000 in
set_option maxHeartbeats 4000000 in
theorem lc_tear {l : Launch} {E : Ev} {x : Cx} {z b L : Nat} {xs : Nat → Int32} {i : Int32} {σ σ' : AS} {r : Int32} (hF : fx E x RL cL_law (some .boolean) 4) (hX : va_X b L xs x.2.2.1 x.2.2.1.heap) (hbl : b < x.2.2.1.heap.size) (hbA : ¬ arx x b) (hA : ∀ q, z ≤ q → arx x q) (hv : ∀ k, k < 7 → vp_in (i + nI k) L) (hC1 : Ct l E yX9_tear cX9_tear 2 (some .int) (rm 6) [.ref z] (CS E z σ) (rV (some (.int r)) (CS E z σ')) (rg z 524)) (hC2 : Ct l E yX10_tear cX10_tear 2 (some .int) (rm 6) [.ref (z + 524)] (MS E (z + 524) σ) (rV (some (.int r)) (MS E (z + 524) σ')) (rg (z + 524) 11)) (nxt : go l room_1 E x 535 7107 (fun H => CS E z σ' H ∧ MS E (z + 524) σ' H) [some (.ref b), some (.ref z), some (.ref (z + 524)), some (.int i)] 782 []) : go l room_1 E x 535 7107 (fun H => CS E z σ H ∧ MS E (z + 524) σ H) [some (.ref b), some (.ref z), some (.ref (z + 524)), some (.int i)] 700 [] := by
  refine g_aload_n hF dL_law_700 701 rfl rfl ?_
  refine g_callX hF cv_L_83 hC1 dL_law_701 704 rfl (st := []) rfl rfl ⟨Nat.le_of_ble_eq_true rfl, Nat.le_of_ble_eq_true rfl⟩ ⟨Nat.le_of_ble_eq_true rfl, Nat.le_of_ble_eq_true rfl⟩ rfl (Nat.le_of_ble_eq_true rfl) 9 rfl (fun H h => ⟨_, h.1.ob⟩) (Pr' := fun H => CS E z σ' H ∧ MS E (z + 524) σ H) (fun H h => h.1) (fun q y => hA q y.1) (fun H H' h h1 h2 => by exact ⟨h1, h.2.out h2 (fun q y => Or.inl y.2)⟩) (st1 := [_]) rfl (k1 := 535) (n1 := 7107) rfl rfl ?_
  refine g_aload_n hF dL_law_704 705 rfl rfl ?_
  refine g_callX hF cv_L_87 hC2 dL_law_705 708 rfl (st := [_]) rfl rfl ⟨Nat.le_of_ble_eq_true rfl, Nat.le_of_ble_eq_true rfl⟩ ⟨Nat.le_of_ble_eq_true rfl, Nat.le_of_ble_eq_true rfl⟩ rfl (Nat.le_of_ble_eq_true rfl) 10 rfl (fun H h => h.2.ob) (Pr' := fun H => CS E z σ' H ∧ MS E (z + 524) σ' H) (fun H h => h.2) (fun q y => hA q (Nat.le_trans (Nat.le_add_right _ _) y.1)) (fun H H' h h1 h2 => by exact ⟨h.1.out h2 (fun q y => Or.inr y.1), h1⟩) (st1 := [_, _]) rfl (k1 := 535) (n1 := 7107) rfl rfl ?_
  refine g_icmp_eq hF dL_law_708 711 rfl 782 (by decide) (fun _ => ?_) (fun c => absurd (rfl) c)
  exact nxt
set_option maxRecDepth 100000 in
set_option maxHeartbeats 4000000 in
theorem lc_seed {l : Launch} {E : Ev} {x : Cx} {z b L : Nat} {xs : Nat → Int32} {i : Int32} {σ σ' : AS} {r : Int32} (hF : fx E x RL cL_law (some .boolean) 4) (hX : va_X b L xs x.2.2.1 x.2.2.1.heap) (hbl : b < x.2.2.1.heap.size) (hbA : ¬ arx x b) (hA : ∀ q, z ≤ q → arx x q) (hv : ∀ k, k < 7 → vp_in (i + nI k) L) (hC1 : Ct l E yX9_seed cX9_seed 3 (some .int) (rm 6) [.ref z, .int (xs (i + nI 1).toNatClampNeg)] (CS E z σ) (rV (some (.int r)) (CS E z σ')) (rg z 524)) (hC2 : Ct l E yX10_seed cX10_seed 3 (some .int) (rm 6) [.ref (z + 524), .int (xs (i + nI 1).toNatClampNeg)] (MS E (z + 524) σ) (rV (some (.int r)) (MS E (z + 524) σ')) (rg (z + 524) 11)) (nxt : go l room_1 E x 535 7107 (fun H => CS E z σ' H ∧ MS E (z + 524) σ' H) [some (.ref b), some (.ref z), some (.ref (z + 524)), some (.int i)] 782 []) : go l room_1 E x 535 7107 (fun H => CS E z σ H ∧ MS E (z + 524) σ H) [some (.ref b), some (.ref z), some (.ref (z + 524)), some (.int i)] 713 [] := by
  refine g_aload_n hF dL_law_713 714 rfl rfl ?_
  refine g_aload_n hF dL_law_714 715 rfl rfl ?_
  refine g_iload_n hF dL_law_715 716 rfl rfl ?_
  refine g_iconst hF (1) dL_law_716 717 rfl rfl ?_
  refine g_iadd hF dL_law_717 718 rfl ?_
  refine g_sld hF hX hbl hbA (hv 1 (by omega)) dL_law_718 719 rfl ?_
  refine g_callX hF cv_L_88 hC1 dL_law_719 722 rfl (st := []) rfl rfl ⟨Nat.le_of_ble_eq_true rfl, Nat.le_of_ble_eq_true rfl⟩ ⟨Nat.le_of_ble_eq_true rfl, Nat.le_of_ble_eq_true rfl⟩ rfl (Nat.le_of_ble_eq_true rfl) 9 rfl (fun H h => ⟨_, h.1.ob⟩) (Pr' := fun H => CS E z σ' H ∧ MS E (z + 524) σ H) (fun H h => h.1) (fun q y => hA q y.1) (fun H H' h h1 h2 => by exact ⟨h1, h.2.out h2 (fun q y => Or.inl y.2)⟩) (st1 := [_]) rfl (k1 := 535) (n1 := 7107) rfl rfl ?_
  refine g_aload_n hF dL_law_722 723 rfl rfl ?_
  refine g_aload_n hF dL_law_723 724 rfl rfl ?_
  refine g_iload_n hF dL_law_724 725 rfl rfl ?_
  refine g_iconst hF (1) dL_law_725 726 rfl rfl ?_
  refine g_iadd hF dL_law_726 727 rfl ?_
  refine g_sld hF hX hbl hbA (hv 1 (by omega)) dL_law_727 728 rfl ?_
  refine g_callX hF cv_L_91 hC2 dL_law_728 731 rfl (st := [_]) rfl rfl ⟨Nat.le_of_ble_eq_true rfl, Nat.le_of_ble_eq_true rfl⟩ ⟨Nat.le_of_ble_eq_true rfl, Nat.le_of_ble_eq_true rfl⟩ rfl (Nat.le_of_ble_eq_true rfl) 10 rfl (fun H h => h.2.ob) (Pr' := fun H => CS E z σ' H ∧ MS E (z + 524) σ' H) (fun H h => h.2) (fun q y => hA q (Nat.le_trans (Nat.le_add_right _ _) y.1)) (fun H H' h h1 h2 => by exact ⟨h.1.out h2 (fun q y => Or.inr y.1), h1⟩) (st1 := [_, _]) rfl (k1 := 535) (n1 := 7107) rfl rfl ?_
  refine g_icmp_eq hF dL_law_731 734 rfl 782 (by decide) (fun _ => ?_) (fun c => absurd (rfl) c)
  exact nxt
set_option maxRecDepth 100000 in
set_option maxHeartbeats 4000000 in
theorem lc_keep {l : Launch} {E : Ev} {x : Cx} {z b L : Nat} {xs : Nat → Int32} {i : Int32} {σ σ' : AS} {r : Int32} (hF : fx E x RL cL_law (some .boolean) 4) (hX : va_X b L xs x.2.2.1 x.2.2.1.heap) (hbl : b < x.2.2.1.heap.size) (hbA : ¬ arx x b) (hA : ∀ q, z ≤ q → arx x q) (hv : ∀ k, k < 7 → vp_in (i + nI k) L) (hC1 : Ct l E yX9_keep cX9_keep 2 (some .int) (rm 6) [.ref z, .int (xs (i + nI 1).toNatClampNeg)] (CS E z σ) (rV (some (.int r)) (CS E z σ')) (rg z 524)) (hC2 : Ct l E yX10_keep cX10_keep 3 (some .int) (rm 6) [.ref (z + 524), .int (xs (i + nI 1).toNatClampNeg)] (MS E (z + 524) σ) (rV (some (.int r)) (MS E (z + 524) σ')) (rg (z + 524) 11)) (nxt : go l room_1 E x 535 7107 (fun H => CS E z σ' H ∧ MS E (z + 524) σ' H) [some (.ref b), some (.ref z), some (.ref (z + 524)), some (.int i)] 782 []) : go l room_1 E x 535 7107 (fun H => CS E z σ H ∧ MS E (z + 524) σ H) [some (.ref b), some (.ref z), some (.ref (z + 524)), some (.int i)] 736 [] := by
  refine g_aload_n hF dL_law_736 737 rfl rfl ?_
  refine g_aload_n hF dL_law_737 738 rfl rfl ?_
  refine g_iload_n hF dL_law_738 739 rfl rfl ?_
  refine g_iconst hF (1) dL_law_739 740 rfl rfl ?_
  refine g_iadd hF dL_law_740 741 rfl ?_
  refine g_sld hF hX hbl hbA (hv 1 (by omega)) dL_law_741 742 rfl ?_
  refine g_callX hF cv_L_92 hC1 dL_law_742 745 rfl (st := []) rfl rfl ⟨Nat.le_of_ble_eq_true rfl, Nat.le_of_ble_eq_true rfl⟩ ⟨Nat.le_of_ble_eq_true rfl, Nat.le_of_ble_eq_true rfl⟩ rfl (Nat.le_of_ble_eq_true rfl) 9 rfl (fun H h => ⟨_, h.1.ob⟩) (Pr' := fun H => CS E z σ' H ∧ MS E (z + 524) σ H) (fun H h => h.1) (fun q y => hA q y.1) (fun H H' h h1 h2 => by exact ⟨h1, h.2.out h2 (fun q y => Or.inl y.2)⟩) (st1 := [_]) rfl (k1 := 535) (n1 := 7107) rfl rfl ?_
  refine g_aload_n hF dL_law_745 746 rfl rfl ?_
  refine g_aload_n hF dL_law_746 747 rfl rfl ?_
  refine g_iload_n hF dL_law_747 748 rfl rfl ?_
  refine g_iconst hF (1) dL_law_748 749 rfl rfl ?_
  refine g_iadd hF dL_law_749 750 rfl ?_
  refine g_sld hF hX hbl hbA (hv 1 (by omega)) dL_law_750 751 rfl ?_
  refine g_callX hF cv_L_95 hC2 dL_law_751 754 rfl (st := [_]) rfl rfl ⟨Nat.le_of_ble_eq_true rfl, Nat.le_of_ble_eq_true rfl⟩ ⟨Nat.le_of_ble_eq_true rfl, Nat.le_of_ble_eq_true rfl⟩ rfl (Nat.le_of_ble_eq_true rfl) 10 rfl (fun H h => h.2.ob) (Pr' := fun H => CS E z σ' H ∧ MS E (z + 524) σ' H) (fun H h => h.2) (fun q y => hA q (Nat.le_trans (Nat.le_add_right _ _) y.1)) (fun H H' h h1 h2 => by exact ⟨h.1.out h2 (fun q y => Or.inr y.1), h1⟩) (st1 := [_, _]) rfl (k1 := 535) (n1 := 7107) rfl rfl ?_
  refine g_icmp_eq hF dL_law_754 757 rfl 782 (by decide) (fun _ => ?_) (fun c => absurd (rfl) c)
  exact nxt
set_option maxRecDepth 100000 in
set_option maxHeartbeats 4000000 in
theorem lc_goBack {l : Launch} {E : Ev} {x : Cx} {z b L : Nat} {xs : Nat → Int32} {i : Int32} {σ σ' : AS} {r : Int32} (hF : fx E x RL cL_law (some .boolean) 4) (hX : va_X b L xs x.2.2.1 x.2.2.1.heap) (hbl : b < x.2.2.1.heap.size) (hbA : ¬ arx x b) (hA : ∀ q, z ≤ q → arx x q) (hv : ∀ k, k < 7 → vp_in (i + nI k) L) (hC1 : Ct l E yX9_goBack cX9_goBack 2 (some .int) (rm 6) [.ref z, .int (xs (i + nI 1).toNatClampNeg)] (CS E z σ) (rV (some (.int r)) (CS E z σ')) (rg z 524)) (hC2 : Ct l E yX10_goBack cX10_goBack 3 (some .int) (rm 6) [.ref (z + 524), .int (xs (i + nI 1).toNatClampNeg)] (MS E (z + 524) σ) (rV (some (.int r)) (MS E (z + 524) σ')) (rg (z + 524) 11)) (nxt : go l room_1 E x 535 7107 (fun H => CS E z σ' H ∧ MS E (z + 524) σ' H) [some (.ref b), some (.ref z), some (.ref (z + 524)), some (.int i)] 782 []) : go l room_1 E x 535 7107 (fun H => CS E z σ H ∧ MS E (z + 524) σ H) [some (.ref b), some (.ref z), some (.ref (z + 524)), some (.int i)] 759 [] := by
  refine g_aload_n hF dL_law_759 760 rfl rfl ?_
  refine g_aload_n hF dL_law_760 761 rfl rfl ?_
  refine g_iload_n hF dL_law_761 762 rfl rfl ?_
  refine g_iconst hF (1) dL_law_762 763 rfl rfl ?_
  refine g_iadd hF dL_law_763 764 rfl ?_
  refine g_sld hF hX hbl hbA (hv 1 (by omega)) dL_law_764 765 rfl ?_
  refine g_callX hF cv_L_96 hC1 dL_law_765 768 rfl (st := []) rfl rfl ⟨Nat.le_of_ble_eq_true rfl, Nat.le_of_ble_eq_true rfl⟩ ⟨Nat.le_of_ble_eq_true rfl, Nat.le_of_ble_eq_true rfl⟩ rfl (Nat.le_of_ble_eq_true rfl) 9 rfl (fun H h => ⟨_, h.1.ob⟩) (Pr' := fun H => CS E z σ' H ∧ MS E (z + 524) σ H) (fun H h => h.1) (fun q y => hA q y.1) (fun H H' h h1 h2 => by exact ⟨h1, h.2.out h2 (fun q y => Or.inl y.2)⟩) (st1 := [_]) rfl (k1 := 535) (n1 := 7107) rfl rfl ?_
  refine g_aload_n hF dL_law_768 769 rfl rfl ?_
  refine g_aload_n hF dL_law_769 770 rfl rfl ?_
  refine g_iload_n hF dL_law_770 771 rfl rfl ?_
  refine g_iconst hF (1) dL_law_771 772 rfl rfl ?_
  refine g_iadd hF dL_law_772 773 rfl ?_
  refine g_sld hF hX hbl hbA (hv 1 (by omega)) dL_law_773 774 rfl ?_
  refine g_callX hF cv_L_99 hC2 dL_law_774 777 rfl (st := [_]) rfl rfl ⟨Nat.le_of_ble_eq_true rfl, Nat.le_of_ble_eq_true rfl⟩ ⟨Nat.le_of_ble_eq_true rfl, Nat.le_of_ble_eq_true rfl⟩ rfl (Nat.le_of_ble_eq_true rfl) 10 rfl (fun H h => h.2.ob) (Pr' := fun H => CS E z σ' H ∧ MS E (z + 524) σ' H) (fun H h => h.2) (fun q y => hA q (Nat.le_trans (Nat.le_add_right _ _) y.1)) (fun H H' h h1 h2 => by exact ⟨h.1.out h2 (fun q y => Or.inr y.1), h1⟩) (st1 := [_, _]) rfl (k1 := 535) (n1 := 7107) rfl rfl ?_
  refine g_icmp_eq hF dL_law_777 780 rfl 782 (by decide) (fun _ => ?_) (fun c => absurd (rfl) c)
  exact nxt
