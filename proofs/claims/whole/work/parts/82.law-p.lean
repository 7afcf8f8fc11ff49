/-! THE LAW: the calls, one by one -/
set_option maxHeartbeats 4000000 in
set_option maxRecDepth 100000 in
theorem lc_7 {l : Launch} {X : Cx} {V : Vx} {Q : State → Prop} {I : Nat → Nat → Int32} {L : Nat → Nat → Int64} {g : Sg} {b Ln i : Nat} {xs : Nat → Int32} (C : CX l X V RL cL_law 4 wsL_law 20 106 7121 ret) (hz : V.2.2.2.2.2 = false) (hX : va_X b Ln xs X.2.2.2.2.1 X.2.2.2.2.1.heap) (hbl : b < X.2.2.2.2.1.heap.size) (hB : V.2.2.1 = X.2.2.2.2.1.heap.size) (hL : Ln ≤ 3072) (hi : i + 6 ≤ Ln) (hC : AbC I L g) (hM : AbM I L g) (ok : okG g)
    (NX : ∀ I' L' g', AbC I' L' g' → AbM I' L' g' → okG g' → J X V Q 4 106 106 7121 1136 [(0, .ref b), (1, .ref (ad V 0)), (2, .ref (ad V 85)), (3, .int (nI i))] [] (mm V I' L')) : J X V Q 4 106 106 7121 425 [(0, .ref b), (1, .ref (ad V 0)), (2, .ref (ad V 85)), (3, .int (nI i))] [] (mm V I L) := by
  refine J.aload_n C dL_law_425 rfl ?_
  refine J.cVGi (q := (RX5, TX5, 11)) (ci := 5) C (ok_X5_rounds l V  _ _  hz hC ok) gL_law_X5_rounds rfl mfX5_rounds rfl (by decide) (by decide) (by first | decide | omega) rfl rfl rfl rfl (Nat.le_of_ble_eq_true rfl) dL_law_426 (Nat.le_refl _) (Nat.le_refl _) (fun r426 I426 L426 h426 => ?_)
  obtain ⟨rfl, hC1, hfr, hfl⟩ := h426
  have hM1 := AbM_cg hM hfr hfl
  refine J.aload_n C dL_law_429 rfl ?_
  refine J.cVGi (q := (RX6, TX6, 25)) (ci := 6) C (ok_X6_rounds l V  _ _  hM1 ok) gL_law_X6_rounds rfl mfX6_rounds rfl (by decide) (by decide) (by first | decide | omega) rfl rfl rfl rfl (Nat.le_of_ble_eq_true rfl) dL_law_430 (Nat.le_refl _) (Nat.le_refl _) (fun r430 I430 L430 h430 => ?_)
  obtain ⟨rfl, hM2, hfr2, hfl2⟩ := h430
  have hC2 := AbC_cg hC1 hfr2 hfl2
  refine J.icmp_eq C dL_law_433 (tgt := 1136) (by decide) (fun _ => ?_) (fun c433 => absurd c433 (fun q => q rfl))
  exact NX _ _ _ hC2 hM2 (kG_rounds ok)
set_option maxHeartbeats 4000000 in
set_option maxRecDepth 100000 in
theorem lc_8 {l : Launch} {X : Cx} {V : Vx} {Q : State → Prop} {I : Nat → Nat → Int32} {L : Nat → Nat → Int64} {g : Sg} {b Ln i : Nat} {xs : Nat → Int32} (C : CX l X V RL cL_law 4 wsL_law 20 106 7121 ret) (hz : V.2.2.2.2.2 = false) (hX : va_X b Ln xs X.2.2.2.2.1 X.2.2.2.2.1.heap) (hbl : b < X.2.2.2.2.1.heap.size) (hB : V.2.2.1 = X.2.2.2.2.1.heap.size) (hL : Ln ≤ 3072) (hi : i + 6 ≤ Ln) (hC : AbC I L g) (hM : AbM I L g) (ok : okG g)
    (NX : ∀ I' L' g', AbC I' L' g' → AbM I' L' g' → okG g' → J X V Q 4 106 106 7121 1136 [(0, .ref b), (1, .ref (ad V 0)), (2, .ref (ad V 85)), (3, .int (nI i))] [] (mm V I' L')) : J X V Q 4 106 106 7121 438 [(0, .ref b), (1, .ref (ad V 0)), (2, .ref (ad V 85)), (3, .int (nI i))] [] (mm V I L) := by
  obtain ⟨o1, hx1⟩ := AG_ex (xs (i + 1))
  obtain ⟨o2, hx2⟩ := AG_ex (xs (i + 2))
  obtain ⟨o3, hx3⟩ := AG_ex (xs (i + 3))
  refine J.aload_n C dL_law_438 rfl ?_
  refine J.aload_n C dL_law_439 rfl ?_
  refine J.iload_n C dL_law_440 rfl ?_
  refine J.iconst C dL_law_441 (v := (nI 1)) (by decide) ?_
  first | refine J.iadd_n C dL_law_442 ?_ | refine J.iadd C dL_law_442 ?_
  refine J.sld C hX hbl hB rfl (by omega) hL dL_law_443 ?_
  refine J.aload_n C dL_law_444 rfl ?_
  refine J.iload_n C dL_law_445 rfl ?_
  refine J.iconst C dL_law_446 (v := (nI 2)) (by decide) ?_
  first | refine J.iadd_n C dL_law_447 ?_ | refine J.iadd C dL_law_447 ?_
  refine J.sld C hX hbl hB rfl (by omega) hL dL_law_448 ?_
  refine J.aload_n C dL_law_449 rfl ?_
  refine J.iload_n C dL_law_450 rfl ?_
  refine J.iconst C dL_law_451 (v := (nI 3)) (by decide) ?_
  first | refine J.iadd_n C dL_law_452 ?_ | refine J.iadd C dL_law_452 ?_
  refine J.sld C hX hbl hB rfl (by omega) hL dL_law_453 ?_
  refine J.cVGi (q := (RX5, TX5, 11)) (ci := 5) C (ok_X5_crate l V  _ _ hx1 hx2 hx3 hz hC ok) gL_law_X5_crate rfl mfX5_crate rfl (by decide) (by decide) (by first | decide | omega) rfl rfl rfl rfl (Nat.le_of_ble_eq_true rfl) dL_law_454 (Nat.le_refl _) (Nat.le_refl _) (fun r454 I454 L454 h454 => ?_)
  obtain ⟨rfl, hC1, hfr, hfl⟩ := h454
  have hM1 := AbM_cg hM hfr hfl
  refine J.aload_n C dL_law_457 rfl ?_
  refine J.aload_n C dL_law_458 rfl ?_
  refine J.iload_n C dL_law_459 rfl ?_
  refine J.iconst C dL_law_460 (v := (nI 1)) (by decide) ?_
  first | refine J.iadd_n C dL_law_461 ?_ | refine J.iadd C dL_law_461 ?_
  refine J.sld C hX hbl hB rfl (by omega) hL dL_law_462 ?_
  refine J.aload_n C dL_law_463 rfl ?_
  refine J.iload_n C dL_law_464 rfl ?_
  refine J.iconst C dL_law_465 (v := (nI 2)) (by decide) ?_
  first | refine J.iadd_n C dL_law_466 ?_ | refine J.iadd C dL_law_466 ?_
  refine J.sld C hX hbl hB rfl (by omega) hL dL_law_467 ?_
  refine J.aload_n C dL_law_468 rfl ?_
  refine J.iload_n C dL_law_469 rfl ?_
  refine J.iconst C dL_law_470 (v := (nI 3)) (by decide) ?_
  first | refine J.iadd_n C dL_law_471 ?_ | refine J.iadd C dL_law_471 ?_
  refine J.sld C hX hbl hB rfl (by omega) hL dL_law_472 ?_
  refine J.cVGi (q := (RX6, TX6, 25)) (ci := 6) C (ok_X6_crate l V  _ _ hx1 hx2 hx3 hM1 ok) gL_law_X6_crate rfl mfX6_crate rfl (by decide) (by decide) (by first | decide | omega) rfl rfl rfl rfl (Nat.le_of_ble_eq_true rfl) dL_law_473 (Nat.le_refl _) (Nat.le_refl _) (fun r473 I473 L473 h473 => ?_)
  obtain ⟨rfl, hM2, hfr2, hfl2⟩ := h473
  have hC2 := AbC_cg hC1 hfr2 hfl2
  refine J.icmp_eq C dL_law_476 (tgt := 1136) (by decide) (fun _ => ?_) (fun c476 => absurd c476 (fun q => q rfl))
  exact NX _ _ _ hC2 hM2 (kG_crate ok)
set_option maxHeartbeats 4000000 in
set_option maxRecDepth 100000 in
theorem lc_9 {l : Launch} {X : Cx} {V : Vx} {Q : State → Prop} {I : Nat → Nat → Int32} {L : Nat → Nat → Int64} {g : Sg} {b Ln i : Nat} {xs : Nat → Int32} (C : CX l X V RL cL_law 4 wsL_law 20 106 7121 ret) (hz : V.2.2.2.2.2 = false) (hX : va_X b Ln xs X.2.2.2.2.1 X.2.2.2.2.1.heap) (hbl : b < X.2.2.2.2.1.heap.size) (hB : V.2.2.1 = X.2.2.2.2.1.heap.size) (hL : Ln ≤ 3072) (hi : i + 6 ≤ Ln) (hC : AbC I L g) (hM : AbM I L g) (ok : okG g)
    (NX : ∀ I' L' g', AbC I' L' g' → AbM I' L' g' → okG g' → J X V Q 4 106 106 7121 1136 [(0, .ref b), (1, .ref (ad V 0)), (2, .ref (ad V 85)), (3, .int (nI i))] [] (mm V I' L')) : J X V Q 4 106 106 7121 481 [(0, .ref b), (1, .ref (ad V 0)), (2, .ref (ad V 85)), (3, .int (nI i))] [] (mm V I L) := by
  obtain ⟨o1, hx1⟩ := AG_ex (xs (i + 1))
  obtain ⟨o2, hx2⟩ := AG_ex (xs (i + 2))
  refine J.aload_n C dL_law_481 rfl ?_
  refine J.aload_n C dL_law_482 rfl ?_
  refine J.iload_n C dL_law_483 rfl ?_
  refine J.iconst C dL_law_484 (v := (nI 1)) (by decide) ?_
  first | refine J.iadd_n C dL_law_485 ?_ | refine J.iadd C dL_law_485 ?_
  refine J.sld C hX hbl hB rfl (by omega) hL dL_law_486 ?_
  refine J.aload_n C dL_law_487 rfl ?_
  refine J.iload_n C dL_law_488 rfl ?_
  refine J.iconst C dL_law_489 (v := (nI 2)) (by decide) ?_
  first | refine J.iadd_n C dL_law_490 ?_ | refine J.iadd C dL_law_490 ?_
  refine J.sld C hX hbl hB rfl (by omega) hL dL_law_491 ?_
  refine J.aload_n C dL_law_492 rfl ?_
  refine J.iload_n C dL_law_493 rfl ?_
  refine J.iconst C dL_law_494 (v := (nI 3)) (by decide) ?_
  first | refine J.iadd_n C dL_law_495 ?_ | refine J.iadd C dL_law_495 ?_
  refine J.sld C hX hbl hB rfl (by omega) hL dL_law_496 ?_
  refine J.i2l C dL_law_497 ?_
  refine J.bipush C dL_law_498 (v := (nI 32)) (by decide) ?_
  refine J.lshl C dL_law_500 ?_
  refine J.aload_n C dL_law_501 rfl ?_
  refine J.iload_n C dL_law_502 rfl ?_
  refine J.iconst C dL_law_503 (v := (nI 4)) (by decide) ?_
  first | refine J.iadd_n C dL_law_504 ?_ | refine J.iadd C dL_law_504 ?_
  refine J.sld C hX hbl hB rfl (by omega) hL dL_law_505 ?_
  refine J.i2l C dL_law_506 ?_
  refine J.ldc2 C (v := 4294967295) (by decide +kernel) dL_law_507 ?_
  refine J.land C dL_law_510 ?_
  refine J.lor C dL_law_511 ?_
  refine J.cVGi (q := (RX5, TX5, 11)) (ci := 5) C (ok_X5_put l V _ _ _ hx1 hx2 hz hC ok) gL_law_X5_put rfl mfX5_put rfl (by decide) (by decide) (by first | decide | omega) rfl rfl rfl rfl (Nat.le_of_ble_eq_true rfl) dL_law_512 (Nat.le_refl _) (Nat.le_refl _) (fun r512 I512 L512 h512 => ?_)
  obtain ⟨rfl, hC1, hfr, hfl⟩ := h512
  have hM1 := AbM_cg hM hfr hfl
  refine J.aload_n C dL_law_515 rfl ?_
  refine J.aload_n C dL_law_516 rfl ?_
  refine J.iload_n C dL_law_517 rfl ?_
  refine J.iconst C dL_law_518 (v := (nI 1)) (by decide) ?_
  first | refine J.iadd_n C dL_law_519 ?_ | refine J.iadd C dL_law_519 ?_
  refine J.sld C hX hbl hB rfl (by omega) hL dL_law_520 ?_
  refine J.aload_n C dL_law_521 rfl ?_
  refine J.iload_n C dL_law_522 rfl ?_
  refine J.iconst C dL_law_523 (v := (nI 2)) (by decide) ?_
  first | refine J.iadd_n C dL_law_524 ?_ | refine J.iadd C dL_law_524 ?_
  refine J.sld C hX hbl hB rfl (by omega) hL dL_law_525 ?_
  refine J.aload_n C dL_law_526 rfl ?_
  refine J.iload_n C dL_law_527 rfl ?_
  refine J.iconst C dL_law_528 (v := (nI 3)) (by decide) ?_
  first | refine J.iadd_n C dL_law_529 ?_ | refine J.iadd C dL_law_529 ?_
  refine J.sld C hX hbl hB rfl (by omega) hL dL_law_530 ?_
  refine J.i2l C dL_law_531 ?_
  refine J.bipush C dL_law_532 (v := (nI 32)) (by decide) ?_
  refine J.lshl C dL_law_534 ?_
  refine J.aload_n C dL_law_535 rfl ?_
  refine J.iload_n C dL_law_536 rfl ?_
  refine J.iconst C dL_law_537 (v := (nI 4)) (by decide) ?_
  first | refine J.iadd_n C dL_law_538 ?_ | refine J.iadd C dL_law_538 ?_
  refine J.sld C hX hbl hB rfl (by omega) hL dL_law_539 ?_
  refine J.i2l C dL_law_540 ?_
  refine J.ldc2 C (v := 4294967295) (by decide +kernel) dL_law_541 ?_
  refine J.land C dL_law_544 ?_
  refine J.lor C dL_law_545 ?_
  refine J.cVGi (q := (RX6, TX6, 25)) (ci := 6) C (ok_X6_put l V _ _ _ hx1 hx2 hM1 ok) gL_law_X6_put rfl mfX6_put rfl (by decide) (by decide) (by first | decide | omega) rfl rfl rfl rfl (Nat.le_of_ble_eq_true rfl) dL_law_546 (Nat.le_refl _) (Nat.le_refl _) (fun r546 I546 L546 h546 => ?_)
  obtain ⟨rfl, hM2, hfr2, hfl2⟩ := h546
  have hC2 := AbC_cg hC1 hfr2 hfl2
  refine J.icmp_eq C dL_law_549 (tgt := 1136) (by decide) (fun _ => ?_) (fun c549 => absurd c549 (fun q => q rfl))
  exact NX _ _ _ hC2 hM2 (kG_put ok)
set_option maxHeartbeats 4000000 in
set_option maxRecDepth 100000 in
theorem lc_10 {l : Launch} {X : Cx} {V : Vx} {Q : State → Prop} {I : Nat → Nat → Int32} {L : Nat → Nat → Int64} {g : Sg} {b Ln i : Nat} {xs : Nat → Int32} (C : CX l X V RL cL_law 4 wsL_law 20 106 7121 ret) (hz : V.2.2.2.2.2 = false) (hX : va_X b Ln xs X.2.2.2.2.1 X.2.2.2.2.1.heap) (hbl : b < X.2.2.2.2.1.heap.size) (hB : V.2.2.1 = X.2.2.2.2.1.heap.size) (hL : Ln ≤ 3072) (hi : i + 6 ≤ Ln) (hC : AbC I L g) (hM : AbM I L g) (ok : okG g)
    (NX : ∀ I' L' g', AbC I' L' g' → AbM I' L' g' → okG g' → J X V Q 4 106 106 7121 1136 [(0, .ref b), (1, .ref (ad V 0)), (2, .ref (ad V 85)), (3, .int (nI i))] [] (mm V I' L')) : J X V Q 4 106 106 7121 554 [(0, .ref b), (1, .ref (ad V 0)), (2, .ref (ad V 85)), (3, .int (nI i))] [] (mm V I L) := by
  obtain ⟨o1, hx1⟩ := AG_ex (xs (i + 1))
  obtain ⟨o2, hx2⟩ := AG_ex (xs (i + 2))
  refine J.aload_n C dL_law_554 rfl ?_
  refine J.aload_n C dL_law_555 rfl ?_
  refine J.iload_n C dL_law_556 rfl ?_
  refine J.iconst C dL_law_557 (v := (nI 1)) (by decide) ?_
  first | refine J.iadd_n C dL_law_558 ?_ | refine J.iadd C dL_law_558 ?_
  refine J.sld C hX hbl hB rfl (by omega) hL dL_law_559 ?_
  refine J.aload_n C dL_law_560 rfl ?_
  refine J.iload_n C dL_law_561 rfl ?_
  refine J.iconst C dL_law_562 (v := (nI 2)) (by decide) ?_
  first | refine J.iadd_n C dL_law_563 ?_ | refine J.iadd C dL_law_563 ?_
  refine J.sld C hX hbl hB rfl (by omega) hL dL_law_564 ?_
  refine J.cVGl (q := (RX5, TX5, 11)) (ci := 5) C (ok_X5_load l V  _ _ hx1 hx2 hz hC ok) gL_law_X5_load rfl mfX5_load rfl (by decide) (by decide) (by first | decide | omega) rfl rfl rfl rfl (Nat.le_of_ble_eq_true rfl) dL_law_565 (Nat.le_refl _) (Nat.le_refl _) (fun r565 I565 L565 h565 => ?_)
  obtain ⟨rfl, hC1, hfr, hfl⟩ := h565
  have hM1 := AbM_cg hM hfr hfl
  refine J.aload_n C dL_law_568 rfl ?_
  refine J.aload_n C dL_law_569 rfl ?_
  refine J.iload_n C dL_law_570 rfl ?_
  refine J.iconst C dL_law_571 (v := (nI 1)) (by decide) ?_
  first | refine J.iadd_n C dL_law_572 ?_ | refine J.iadd C dL_law_572 ?_
  refine J.sld C hX hbl hB rfl (by omega) hL dL_law_573 ?_
  refine J.aload_n C dL_law_574 rfl ?_
  refine J.iload_n C dL_law_575 rfl ?_
  refine J.iconst C dL_law_576 (v := (nI 2)) (by decide) ?_
  first | refine J.iadd_n C dL_law_577 ?_ | refine J.iadd C dL_law_577 ?_
  refine J.sld C hX hbl hB rfl (by omega) hL dL_law_578 ?_
  refine J.cVGl (q := (RX6, TX6, 25)) (ci := 6) C (ok_X6_load l V  _ _ hx1 hx2 hM1 ok) gL_law_X6_load rfl mfX6_load rfl (by decide) (by decide) (by first | decide | omega) rfl rfl rfl rfl (Nat.le_of_ble_eq_true rfl) dL_law_579 (Nat.le_refl _) (Nat.le_refl _) (fun r579 I579 L579 h579 => ?_)
  obtain ⟨rfl, hM2, hfr2, hfl2⟩ := h579
  have hC2 := AbC_cg hC1 hfr2 hfl2
  refine J.lcmp C dL_law_582 ?_
  refine J.if_eq_c C dL_law_583 (tgt := 1136) (by decide) (fun _ => ?_) (fun c583 => absurd c583 (fun q => q rfl))
  exact NX _ _ _ hC2 hM2 (kG_load ok)
set_option maxHeartbeats 4000000 in
set_option maxRecDepth 100000 in
theorem lc_11 {l : Launch} {X : Cx} {V : Vx} {Q : State → Prop} {I : Nat → Nat → Int32} {L : Nat → Nat → Int64} {g : Sg} {b Ln i : Nat} {xs : Nat → Int32} (C : CX l X V RL cL_law 4 wsL_law 20 106 7121 ret) (hz : V.2.2.2.2.2 = false) (hX : va_X b Ln xs X.2.2.2.2.1 X.2.2.2.2.1.heap) (hbl : b < X.2.2.2.2.1.heap.size) (hB : V.2.2.1 = X.2.2.2.2.1.heap.size) (hL : Ln ≤ 3072) (hi : i + 6 ≤ Ln) (hC : AbC I L g) (hM : AbM I L g) (ok : okG g)
    (NX : ∀ I' L' g', AbC I' L' g' → AbM I' L' g' → okG g' → J X V Q 4 106 106 7121 1136 [(0, .ref b), (1, .ref (ad V 0)), (2, .ref (ad V 85)), (3, .int (nI i))] [] (mm V I' L')) : J X V Q 4 106 106 7121 588 [(0, .ref b), (1, .ref (ad V 0)), (2, .ref (ad V 85)), (3, .int (nI i))] [] (mm V I L) := by
  obtain ⟨o1, hx1⟩ := AG_ex (xs (i + 1))
  obtain ⟨o2, hx2⟩ := AG_ex (xs (i + 2))
  obtain ⟨o3, hx3⟩ := AG_ex (xs (i + 3))
  obtain ⟨o4, hx4⟩ := AG_ex (xs (i + 4))
  obtain ⟨o5, hx5⟩ := AG_ex (xs (i + 5))
  refine J.aload_n C dL_law_588 rfl ?_
  refine J.aload_n C dL_law_589 rfl ?_
  refine J.iload_n C dL_law_590 rfl ?_
  refine J.iconst C dL_law_591 (v := (nI 1)) (by decide) ?_
  first | refine J.iadd_n C dL_law_592 ?_ | refine J.iadd C dL_law_592 ?_
  refine J.sld C hX hbl hB rfl (by omega) hL dL_law_593 ?_
  refine J.aload_n C dL_law_594 rfl ?_
  refine J.iload_n C dL_law_595 rfl ?_
  refine J.iconst C dL_law_596 (v := (nI 2)) (by decide) ?_
  first | refine J.iadd_n C dL_law_597 ?_ | refine J.iadd C dL_law_597 ?_
  refine J.sld C hX hbl hB rfl (by omega) hL dL_law_598 ?_
  refine J.aload_n C dL_law_599 rfl ?_
  refine J.iload_n C dL_law_600 rfl ?_
  refine J.iconst C dL_law_601 (v := (nI 3)) (by decide) ?_
  first | refine J.iadd_n C dL_law_602 ?_ | refine J.iadd C dL_law_602 ?_
  refine J.sld C hX hbl hB rfl (by omega) hL dL_law_603 ?_
  refine J.aload_n C dL_law_604 rfl ?_
  refine J.iload_n C dL_law_605 rfl ?_
  refine J.iconst C dL_law_606 (v := (nI 4)) (by decide) ?_
  first | refine J.iadd_n C dL_law_607 ?_ | refine J.iadd C dL_law_607 ?_
  refine J.sld C hX hbl hB rfl (by omega) hL dL_law_608 ?_
  refine J.aload_n C dL_law_609 rfl ?_
  refine J.iload_n C dL_law_610 rfl ?_
  refine J.iconst C dL_law_611 (v := (nI 5)) (by decide) ?_
  first | refine J.iadd_n C dL_law_612 ?_ | refine J.iadd C dL_law_612 ?_
  refine J.sld C hX hbl hB rfl (by omega) hL dL_law_613 ?_
  refine J.cVGi (q := (RX5, TX5, 11)) (ci := 5) C (ok_X5_copy l V  _ _ hx1 hx2 hx3 hx4 hx5 hz hC ok) gL_law_X5_copy rfl mfX5_copy rfl (by decide) (by decide) (by first | decide | omega) rfl rfl rfl rfl (Nat.le_of_ble_eq_true rfl) dL_law_614 (Nat.le_refl _) (Nat.le_refl _) (fun r614 I614 L614 h614 => ?_)
  obtain ⟨rfl, hC1, hfr, hfl⟩ := h614
  have hM1 := AbM_cg hM hfr hfl
  refine J.aload_n C dL_law_617 rfl ?_
  refine J.aload_n C dL_law_618 rfl ?_
  refine J.iload_n C dL_law_619 rfl ?_
  refine J.iconst C dL_law_620 (v := (nI 1)) (by decide) ?_
  first | refine J.iadd_n C dL_law_621 ?_ | refine J.iadd C dL_law_621 ?_
  refine J.sld C hX hbl hB rfl (by omega) hL dL_law_622 ?_
  refine J.aload_n C dL_law_623 rfl ?_
  refine J.iload_n C dL_law_624 rfl ?_
  refine J.iconst C dL_law_625 (v := (nI 2)) (by decide) ?_
  first | refine J.iadd_n C dL_law_626 ?_ | refine J.iadd C dL_law_626 ?_
  refine J.sld C hX hbl hB rfl (by omega) hL dL_law_627 ?_
  refine J.aload_n C dL_law_628 rfl ?_
  refine J.iload_n C dL_law_629 rfl ?_
  refine J.iconst C dL_law_630 (v := (nI 3)) (by decide) ?_
  first | refine J.iadd_n C dL_law_631 ?_ | refine J.iadd C dL_law_631 ?_
  refine J.sld C hX hbl hB rfl (by omega) hL dL_law_632 ?_
  refine J.aload_n C dL_law_633 rfl ?_
  refine J.iload_n C dL_law_634 rfl ?_
  refine J.iconst C dL_law_635 (v := (nI 4)) (by decide) ?_
  first | refine J.iadd_n C dL_law_636 ?_ | refine J.iadd C dL_law_636 ?_
  refine J.sld C hX hbl hB rfl (by omega) hL dL_law_637 ?_
  refine J.aload_n C dL_law_638 rfl ?_
  refine J.iload_n C dL_law_639 rfl ?_
  refine J.iconst C dL_law_640 (v := (nI 5)) (by decide) ?_
  first | refine J.iadd_n C dL_law_641 ?_ | refine J.iadd C dL_law_641 ?_
  refine J.sld C hX hbl hB rfl (by omega) hL dL_law_642 ?_
  refine J.cVGi (q := (RX6, TX6, 25)) (ci := 6) C (ok_X6_copy l V  _ _ hx1 hx2 hx3 hx4 hx5 hM1 ok) gL_law_X6_copy rfl mfX6_copy rfl (by decide) (by decide) (by first | decide | omega) rfl rfl rfl rfl (Nat.le_of_ble_eq_true rfl) dL_law_643 (Nat.le_refl _) (Nat.le_refl _) (fun r643 I643 L643 h643 => ?_)
  obtain ⟨rfl, hM2, hfr2, hfl2⟩ := h643
  have hC2 := AbC_cg hC1 hfr2 hfl2
  refine J.icmp_eq C dL_law_646 (tgt := 1136) (by decide) (fun _ => ?_) (fun c646 => absurd c646 (fun q => q rfl))
  exact NX _ _ _ hC2 hM2 (kG_copy ok)
set_option maxHeartbeats 4000000 in
set_option maxRecDepth 100000 in
theorem lc_12 {l : Launch} {X : Cx} {V : Vx} {Q : State → Prop} {I : Nat → Nat → Int32} {L : Nat → Nat → Int64} {g : Sg} {b Ln i : Nat} {xs : Nat → Int32} (C : CX l X V RL cL_law 4 wsL_law 20 106 7121 ret) (hz : V.2.2.2.2.2 = false) (hX : va_X b Ln xs X.2.2.2.2.1 X.2.2.2.2.1.heap) (hbl : b < X.2.2.2.2.1.heap.size) (hB : V.2.2.1 = X.2.2.2.2.1.heap.size) (hL : Ln ≤ 3072) (hi : i + 6 ≤ Ln) (hC : AbC I L g) (hM : AbM I L g) (ok : okG g)
    (NX : ∀ I' L' g', AbC I' L' g' → AbM I' L' g' → okG g' → J X V Q 4 106 106 7121 1136 [(0, .ref b), (1, .ref (ad V 0)), (2, .ref (ad V 85)), (3, .int (nI i))] [] (mm V I' L')) : J X V Q 4 106 106 7121 651 [(0, .ref b), (1, .ref (ad V 0)), (2, .ref (ad V 85)), (3, .int (nI i))] [] (mm V I L) := by
  obtain ⟨o1, hx1⟩ := AG_ex (xs (i + 1))
  refine J.aload_n C dL_law_651 rfl ?_
  refine J.aload_n C dL_law_652 rfl ?_
  refine J.iload_n C dL_law_653 rfl ?_
  refine J.iconst C dL_law_654 (v := (nI 1)) (by decide) ?_
  first | refine J.iadd_n C dL_law_655 ?_ | refine J.iadd C dL_law_655 ?_
  refine J.sld C hX hbl hB rfl (by omega) hL dL_law_656 ?_
  refine J.cVGi (q := (RX5, TX5, 11)) (ci := 5) C (ok_X5_run l V  _ _ hx1 hz hC ok) gL_law_X5_run rfl mfX5_run rfl (by decide) (by decide) (by first | decide | omega) rfl rfl rfl rfl (Nat.le_of_ble_eq_true rfl) dL_law_657 (Nat.le_refl _) (Nat.le_refl _) (fun r657 I657 L657 h657 => ?_)
  obtain ⟨rfl, hC1, hfr, hfl⟩ := h657
  have hM1 := AbM_cg hM hfr hfl
  refine J.aload_n C dL_law_660 rfl ?_
  refine J.aload_n C dL_law_661 rfl ?_
  refine J.iload_n C dL_law_662 rfl ?_
  refine J.iconst C dL_law_663 (v := (nI 1)) (by decide) ?_
  first | refine J.iadd_n C dL_law_664 ?_ | refine J.iadd C dL_law_664 ?_
  refine J.sld C hX hbl hB rfl (by omega) hL dL_law_665 ?_
  refine J.cVGi (q := (RX6, TX6, 25)) (ci := 6) C (ok_X6_run l V  _ _ hx1 hM1 ok) gL_law_X6_run rfl mfX6_run rfl (by decide) (by decide) (by first | decide | omega) rfl rfl rfl rfl (Nat.le_of_ble_eq_true rfl) dL_law_666 (Nat.le_refl _) (Nat.le_refl _) (fun r666 I666 L666 h666 => ?_)
  obtain ⟨rfl, hM2, hfr2, hfl2⟩ := h666
  have hC2 := AbC_cg hC1 hfr2 hfl2
  refine J.icmp_eq C dL_law_669 (tgt := 1136) (by decide) (fun _ => ?_) (fun c669 => absurd c669 (fun q => q rfl))
  exact NX _ _ _ hC2 hM2 (kG_run ok)
set_option maxHeartbeats 4000000 in
set_option maxRecDepth 100000 in
theorem lc_13 {l : Launch} {X : Cx} {V : Vx} {Q : State → Prop} {I : Nat → Nat → Int32} {L : Nat → Nat → Int64} {g : Sg} {b Ln i : Nat} {xs : Nat → Int32} (C : CX l X V RL cL_law 4 wsL_law 20 106 7121 ret) (hz : V.2.2.2.2.2 = false) (hX : va_X b Ln xs X.2.2.2.2.1 X.2.2.2.2.1.heap) (hbl : b < X.2.2.2.2.1.heap.size) (hB : V.2.2.1 = X.2.2.2.2.1.heap.size) (hL : Ln ≤ 3072) (hi : i + 6 ≤ Ln) (hC : AbC I L g) (hM : AbM I L g) (ok : okG g)
    (NX : ∀ I' L' g', AbC I' L' g' → AbM I' L' g' → okG g' → J X V Q 4 106 106 7121 1136 [(0, .ref b), (1, .ref (ad V 0)), (2, .ref (ad V 85)), (3, .int (nI i))] [] (mm V I' L')) : J X V Q 4 106 106 7121 674 [(0, .ref b), (1, .ref (ad V 0)), (2, .ref (ad V 85)), (3, .int (nI i))] [] (mm V I L) := by
  obtain ⟨o1, hx1⟩ := AG_ex (xs (i + 1))
  refine J.aload_n C dL_law_674 rfl ?_
  refine J.aload_n C dL_law_675 rfl ?_
  refine J.iload_n C dL_law_676 rfl ?_
  refine J.iconst C dL_law_677 (v := (nI 1)) (by decide) ?_
  first | refine J.iadd_n C dL_law_678 ?_ | refine J.iadd C dL_law_678 ?_
  refine J.sld C hX hbl hB rfl (by omega) hL dL_law_679 ?_
  refine J.cVGi (q := (RX5, TX5, 11)) (ci := 5) C (ok_X5_rises l V  _ _ hx1 hz hC ok) gL_law_X5_rises rfl mfX5_rises rfl (by decide) (by decide) (by first | decide | omega) rfl rfl rfl rfl (Nat.le_of_ble_eq_true rfl) dL_law_680 (Nat.le_refl _) (Nat.le_refl _) (fun r680 I680 L680 h680 => ?_)
  obtain ⟨rfl, hC1, hfr, hfl⟩ := h680
  have hM1 := AbM_cg hM hfr hfl
  refine J.aload_n C dL_law_683 rfl ?_
  refine J.aload_n C dL_law_684 rfl ?_
  refine J.iload_n C dL_law_685 rfl ?_
  refine J.iconst C dL_law_686 (v := (nI 1)) (by decide) ?_
  first | refine J.iadd_n C dL_law_687 ?_ | refine J.iadd C dL_law_687 ?_
  refine J.sld C hX hbl hB rfl (by omega) hL dL_law_688 ?_
  refine J.cVGi (q := (RX6, TX6, 25)) (ci := 6) C (ok_X6_rises l V  _ _ hx1 hM1 ok) gL_law_X6_rises rfl mfX6_rises rfl (by decide) (by decide) (by first | decide | omega) rfl rfl rfl rfl (Nat.le_of_ble_eq_true rfl) dL_law_689 (Nat.le_refl _) (Nat.le_refl _) (fun r689 I689 L689 h689 => ?_)
  obtain ⟨rfl, hM2, hfr2, hfl2⟩ := h689
  have hC2 := AbC_cg hC1 hfr2 hfl2
  refine J.icmp_eq C dL_law_692 (tgt := 1136) (by decide) (fun _ => ?_) (fun c692 => absurd c692 (fun q => q rfl))
  exact NX _ _ _ hC2 hM2 (kG_rises ok)
