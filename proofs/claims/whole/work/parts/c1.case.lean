/-! the law's cases 9 to 17 -/
set_option maxRecDepth 100000 in
theorem cs_undo {g : hc_G} {Ln : Nat} {xs : Nat → Int32} {k : Nat} {ac : Nat × Nat} {Λ : hc_L} {I : hc_I} {L : hc_J} {R : hc_R} {S : HS} (a : AtK g Ln xs k ac Λ I L R S) (K : Kt g k) : GW g ac 400 (lS (6 * k)) [] Λ I L R := by
  obtain ⟨G, hL, hk, hb0, hH, hM, hP⟩ := id a
  refine GW_aloadn G 1 dL_law_400 rfl rfl ?_
  refine GW_x a (As := []) (h_undo hH) YX10_undo rfl dL_law_401 mlL_54 rfl (Nat.le_of_ble_eq_true rfl) ⟨Nat.le_of_ble_eq_true rfl, Nat.le_of_ble_eq_true rfl⟩ rfl (fun ac2 Λ2 I2 L2 R2 hb hH2 hM2 => ?_)
  refine GW_aloadn G 2 dL_law_404 rfl rfl ?_
  refine GW_m G hk hb hH2 (As := []) (m_undo hM2 a.kp a.2.2.2.2.2.2.2.2.1) YX11_undo rfl dL_law_405 mlL_58 rfl (Nat.le_of_ble_eq_true rfl) ⟨rfl, rfl⟩ (Nat.le_of_ble_eq_true rfl) rfl (fun I3 L3 hH3 hM3 => ?_)
  exact GW_tI G dL_law_408 rfl (K _ _ _ _ _ _ hb hH3 hM3 (hP.undo.mono (Nat.le_succ k)))
set_option maxRecDepth 100000 in
theorem cs_member {g : hc_G} {Ln : Nat} {xs : Nat → Int32} {k : Nat} {ac : Nat × Nat} {Λ : hc_L} {I : hc_I} {L : hc_J} {R : hc_R} {S : HS} (a : AtK g Ln xs k ac Λ I L R S) (K : Kt g k) : GW g ac 413 (lS (6 * k)) [] Λ I L R := by
  obtain ⟨G, hL, hk, hb0, hH, hM, hP⟩ := id a
  refine GW_aloadn G 1 dL_law_413 rfl rfl ?_
  refine GW_arg G (i := 6 * k) (n := 1) dL_law_414 dL_law_415 dL_law_416 dL_law_417 dL_law_418 rfl (by decide) rfl (by omega) ?_
  refine GW_arg G (i := 6 * k) (n := 2) dL_law_419 dL_law_420 dL_law_421 dL_law_422 dL_law_423 rfl (by decide) rfl (by omega) ?_
  refine GW_x a (As := [.int (xs (6 * k + 1)), .int (xs (6 * k + 2))]) (h_member hH (xs (6 * k + 1)) (xs (6 * k + 2))) YX10_member rfl dL_law_424 mlL_59 rfl (Nat.le_of_ble_eq_true rfl) ⟨Nat.le_of_ble_eq_true rfl, Nat.le_of_ble_eq_true rfl⟩ rfl (fun ac2 Λ2 I2 L2 R2 hb hH2 hM2 => ?_)
  refine GW_aloadn G 2 dL_law_427 rfl rfl ?_
  refine GW_arg G (i := 6 * k) (n := 1) dL_law_428 dL_law_429 dL_law_430 dL_law_431 dL_law_432 rfl (by decide) rfl (by omega) ?_
  refine GW_arg G (i := 6 * k) (n := 2) dL_law_433 dL_law_434 dL_law_435 dL_law_436 dL_law_437 rfl (by decide) rfl (by omega) ?_
  refine GW_m G hk hb hH2 (As := [.int (xs (6 * k + 1)), .int (xs (6 * k + 2))]) (m_member hM2 (xs (6 * k + 1)) (xs (6 * k + 2))) YX11_member rfl dL_law_438 mlL_63 rfl (Nat.le_of_ble_eq_true rfl) ⟨rfl, rfl⟩ (Nat.le_of_ble_eq_true rfl) rfl (fun I3 L3 hH3 hM3 => ?_)
  exact GW_tL G dL_law_441 dL_law_442 rfl (K _ _ _ _ _ _ hb hH3 hM3 (hP.mono (Nat.le_succ k)))
set_option maxRecDepth 100000 in
theorem cs_field {g : hc_G} {Ln : Nat} {xs : Nat → Int32} {k : Nat} {ac : Nat × Nat} {Λ : hc_L} {I : hc_I} {L : hc_J} {R : hc_R} {S : HS} (a : AtK g Ln xs k ac Λ I L R S) (K : Kt g k) : GW g ac 447 (lS (6 * k)) [] Λ I L R := by
  obtain ⟨G, hL, hk, hb0, hH, hM, hP⟩ := id a
  refine GW_aloadn G 1 dL_law_447 rfl rfl ?_
  refine GW_arg G (i := 6 * k) (n := 1) dL_law_448 dL_law_449 dL_law_450 dL_law_451 dL_law_452 rfl (by decide) rfl (by omega) ?_
  refine GW_arg G (i := 6 * k) (n := 2) dL_law_453 dL_law_454 dL_law_455 dL_law_456 dL_law_457 rfl (by decide) rfl (by omega) ?_
  refine GW_x a (As := [.int (xs (6 * k + 1)), .int (xs (6 * k + 2))]) (h_field hH (xs (6 * k + 1)) (xs (6 * k + 2))) YX10_field rfl dL_law_458 mlL_64 rfl (Nat.le_of_ble_eq_true rfl) ⟨Nat.le_of_ble_eq_true rfl, Nat.le_of_ble_eq_true rfl⟩ rfl (fun ac2 Λ2 I2 L2 R2 hb hH2 hM2 => ?_)
  refine GW_aloadn G 2 dL_law_461 rfl rfl ?_
  refine GW_arg G (i := 6 * k) (n := 1) dL_law_462 dL_law_463 dL_law_464 dL_law_465 dL_law_466 rfl (by decide) rfl (by omega) ?_
  refine GW_arg G (i := 6 * k) (n := 2) dL_law_467 dL_law_468 dL_law_469 dL_law_470 dL_law_471 rfl (by decide) rfl (by omega) ?_
  refine GW_m G hk hb hH2 (As := [.int (xs (6 * k + 1)), .int (xs (6 * k + 2))]) (m_field hM2 (xs (6 * k + 1)) (xs (6 * k + 2))) YX11_field rfl dL_law_472 mlL_67 rfl (Nat.le_of_ble_eq_true rfl) ⟨rfl, rfl⟩ (Nat.le_of_ble_eq_true rfl) rfl (fun I3 L3 hH3 hM3 => ?_)
  exact GW_tL G dL_law_475 dL_law_476 rfl (K _ _ _ _ _ _ hb hH3 hM3 (hP.mono (Nat.le_succ k)))
set_option maxRecDepth 100000 in
theorem cs_hazard {g : hc_G} {Ln : Nat} {xs : Nat → Int32} {k : Nat} {ac : Nat × Nat} {Λ : hc_L} {I : hc_I} {L : hc_J} {R : hc_R} {S : HS} (a : AtK g Ln xs k ac Λ I L R S) (K : Kt g k) : GW g ac 481 (lS (6 * k)) [] Λ I L R := by
  obtain ⟨G, hL, hk, hb0, hH, hM, hP⟩ := id a
  refine GW_aloadn G 1 dL_law_481 rfl rfl ?_
  refine GW_arg G (i := 6 * k) (n := 1) dL_law_482 dL_law_483 dL_law_484 dL_law_485 dL_law_486 rfl (by decide) rfl (by omega) ?_
  refine GW_arg G (i := 6 * k) (n := 2) dL_law_487 dL_law_488 dL_law_489 dL_law_490 dL_law_491 rfl (by decide) rfl (by omega) ?_
  refine GW_x a (As := [.int (xs (6 * k + 1)), .int (xs (6 * k + 2))]) (h_hazard hH (xs (6 * k + 1)) (xs (6 * k + 2))) YX10_hazard rfl dL_law_492 mlL_68 rfl (Nat.le_of_ble_eq_true rfl) ⟨Nat.le_of_ble_eq_true rfl, Nat.le_of_ble_eq_true rfl⟩ rfl (fun ac2 Λ2 I2 L2 R2 hb hH2 hM2 => ?_)
  refine GW_aloadn G 2 dL_law_495 rfl rfl ?_
  refine GW_arg G (i := 6 * k) (n := 1) dL_law_496 dL_law_497 dL_law_498 dL_law_499 dL_law_500 rfl (by decide) rfl (by omega) ?_
  refine GW_arg G (i := 6 * k) (n := 2) dL_law_501 dL_law_502 dL_law_503 dL_law_504 dL_law_505 rfl (by decide) rfl (by omega) ?_
  refine GW_m G hk hb hH2 (As := [.int (xs (6 * k + 1)), .int (xs (6 * k + 2))]) (m_hazard hM2 (xs (6 * k + 1)) (xs (6 * k + 2))) YX11_hazard rfl dL_law_506 mlL_72 rfl (Nat.le_of_ble_eq_true rfl) ⟨rfl, rfl⟩ (Nat.le_of_ble_eq_true rfl) rfl (fun I3 L3 hH3 hM3 => ?_)
  exact GW_tI G dL_law_509 rfl (K _ _ _ _ _ _ hb hH3 hM3 (hP.mono (Nat.le_succ k)))
set_option maxRecDepth 100000 in
theorem cs_now {g : hc_G} {Ln : Nat} {xs : Nat → Int32} {k : Nat} {ac : Nat × Nat} {Λ : hc_L} {I : hc_I} {L : hc_J} {R : hc_R} {S : HS} (a : AtK g Ln xs k ac Λ I L R S) (K : Kt g k) : GW g ac 514 (lS (6 * k)) [] Λ I L R := by
  obtain ⟨G, hL, hk, hb0, hH, hM, hP⟩ := id a
  refine GW_aloadn G 1 dL_law_514 rfl rfl ?_
  refine GW_arg G (i := 6 * k) (n := 1) dL_law_515 dL_law_516 dL_law_517 dL_law_518 dL_law_519 rfl (by decide) rfl (by omega) ?_
  refine GW_x a (As := [.int (xs (6 * k + 1))]) (h_now hH (xs (6 * k + 1))) YX10_now rfl dL_law_520 mlL_73 rfl (Nat.le_of_ble_eq_true rfl) ⟨Nat.le_of_ble_eq_true rfl, Nat.le_of_ble_eq_true rfl⟩ rfl (fun ac2 Λ2 I2 L2 R2 hb hH2 hM2 => ?_)
  refine GW_aloadn G 2 dL_law_523 rfl rfl ?_
  refine GW_arg G (i := 6 * k) (n := 1) dL_law_524 dL_law_525 dL_law_526 dL_law_527 dL_law_528 rfl (by decide) rfl (by omega) ?_
  refine GW_m G hk hb hH2 (As := [.int (xs (6 * k + 1))]) (m_now hM2 a.rb (xs (6 * k + 1))) YX11_now rfl dL_law_529 mlL_77 rfl (Nat.le_of_ble_eq_true rfl) ⟨rfl, rfl⟩ (Nat.le_of_ble_eq_true rfl) rfl (fun I3 L3 hH3 hM3 => ?_)
  exact GW_tL G dL_law_532 dL_law_533 rfl (K _ _ _ _ _ _ hb hH3 hM3 (hP.mono (Nat.le_succ k)))
set_option maxRecDepth 100000 in
theorem cs_mine {g : hc_G} {Ln : Nat} {xs : Nat → Int32} {k : Nat} {ac : Nat × Nat} {Λ : hc_L} {I : hc_I} {L : hc_J} {R : hc_R} {S : HS} (a : AtK g Ln xs k ac Λ I L R S) (K : Kt g k) : GW g ac 538 (lS (6 * k)) [] Λ I L R := by
  obtain ⟨G, hL, hk, hb0, hH, hM, hP⟩ := id a
  refine GW_aloadn G 1 dL_law_538 rfl rfl ?_
  refine GW_arg G (i := 6 * k) (n := 1) dL_law_539 dL_law_540 dL_law_541 dL_law_542 dL_law_543 rfl (by decide) rfl (by omega) ?_
  refine GW_arg G (i := 6 * k) (n := 2) dL_law_544 dL_law_545 dL_law_546 dL_law_547 dL_law_548 rfl (by decide) rfl (by omega) ?_
  refine GW_x a (As := [.int (xs (6 * k + 1)), .int (xs (6 * k + 2))]) (h_mine hH (xs (6 * k + 1)) (xs (6 * k + 2))) YX10_mine rfl dL_law_549 mlL_78 rfl (Nat.le_of_ble_eq_true rfl) ⟨Nat.le_of_ble_eq_true rfl, Nat.le_of_ble_eq_true rfl⟩ rfl (fun ac2 Λ2 I2 L2 R2 hb hH2 hM2 => ?_)
  refine GW_aloadn G 2 dL_law_552 rfl rfl ?_
  refine GW_arg G (i := 6 * k) (n := 1) dL_law_553 dL_law_554 dL_law_555 dL_law_556 dL_law_557 rfl (by decide) rfl (by omega) ?_
  refine GW_arg G (i := 6 * k) (n := 2) dL_law_558 dL_law_559 dL_law_560 dL_law_561 dL_law_562 rfl (by decide) rfl (by omega) ?_
  refine GW_m G hk hb hH2 (As := [.int (xs (6 * k + 1)), .int (xs (6 * k + 2))]) (m_mine hM2 a.rb (xs (6 * k + 1)) (xs (6 * k + 2))) YX11_mine rfl dL_law_563 mlL_81 rfl (Nat.le_of_ble_eq_true rfl) ⟨rfl, rfl⟩ (Nat.le_of_ble_eq_true rfl) rfl (fun I3 L3 hH3 hM3 => ?_)
  exact GW_tL G dL_law_566 dL_law_567 rfl (K _ _ _ _ _ _ hb hH3 hM3 (hP.mono (Nat.le_succ k)))
set_option maxRecDepth 100000 in
theorem cs_then {g : hc_G} {Ln : Nat} {xs : Nat → Int32} {k : Nat} {ac : Nat × Nat} {Λ : hc_L} {I : hc_I} {L : hc_J} {R : hc_R} {S : HS} (a : AtK g Ln xs k ac Λ I L R S) (K : Kt g k) : GW g ac 572 (lS (6 * k)) [] Λ I L R := by
  obtain ⟨G, hL, hk, hb0, hH, hM, hP⟩ := id a
  refine GW_aloadn G 1 dL_law_572 rfl rfl ?_
  refine GW_arg G (i := 6 * k) (n := 1) dL_law_573 dL_law_574 dL_law_575 dL_law_576 dL_law_577 rfl (by decide) rfl (by omega) ?_
  refine GW_arg G (i := 6 * k) (n := 2) dL_law_578 dL_law_579 dL_law_580 dL_law_581 dL_law_582 rfl (by decide) rfl (by omega) ?_
  refine GW_x a (As := [.int (xs (6 * k + 1)), .int (xs (6 * k + 2))]) (h_then hH (xs (6 * k + 1)) (xs (6 * k + 2))) YX10_then rfl dL_law_583 mlL_82 rfl (Nat.le_of_ble_eq_true rfl) ⟨Nat.le_of_ble_eq_true rfl, Nat.le_of_ble_eq_true rfl⟩ rfl (fun ac2 Λ2 I2 L2 R2 hb hH2 hM2 => ?_)
  refine GW_aloadn G 2 dL_law_586 rfl rfl ?_
  refine GW_arg G (i := 6 * k) (n := 1) dL_law_587 dL_law_588 dL_law_589 dL_law_590 dL_law_591 rfl (by decide) rfl (by omega) ?_
  refine GW_arg G (i := 6 * k) (n := 2) dL_law_592 dL_law_593 dL_law_594 dL_law_595 dL_law_596 rfl (by decide) rfl (by omega) ?_
  refine GW_m G hk hb hH2 (As := [.int (xs (6 * k + 1)), .int (xs (6 * k + 2))]) (m_then hM2 (xs (6 * k + 1)) (xs (6 * k + 2))) YX11_then rfl dL_law_597 mlL_85 rfl (Nat.le_of_ble_eq_true rfl) ⟨rfl, rfl⟩ (Nat.le_of_ble_eq_true rfl) rfl (fun I3 L3 hH3 hM3 => ?_)
  exact GW_tL G dL_law_600 dL_law_601 rfl (K _ _ _ _ _ _ hb hH3 hM3 (hP.mono (Nat.le_succ k)))
set_option maxRecDepth 100000 in
theorem cs_club {g : hc_G} {Ln : Nat} {xs : Nat → Int32} {k : Nat} {ac : Nat × Nat} {Λ : hc_L} {I : hc_I} {L : hc_J} {R : hc_R} {S : HS} (a : AtK g Ln xs k ac Λ I L R S) (K : Kt g k) : GW g ac 606 (lS (6 * k)) [] Λ I L R := by
  obtain ⟨G, hL, hk, hb0, hH, hM, hP⟩ := id a
  refine GW_aloadn G 1 dL_law_606 rfl rfl ?_
  refine GW_arg G (i := 6 * k) (n := 1) dL_law_607 dL_law_608 dL_law_609 dL_law_610 dL_law_611 rfl (by decide) rfl (by omega) ?_
  refine GW_x a (As := [.int (xs (6 * k + 1))]) (h_club hH (xs (6 * k + 1))) YX10_club rfl dL_law_612 mlL_86 rfl (Nat.le_of_ble_eq_true rfl) ⟨Nat.le_of_ble_eq_true rfl, Nat.le_of_ble_eq_true rfl⟩ rfl (fun ac2 Λ2 I2 L2 R2 hb hH2 hM2 => ?_)
  refine GW_aloadn G 2 dL_law_615 rfl rfl ?_
  refine GW_arg G (i := 6 * k) (n := 1) dL_law_616 dL_law_617 dL_law_618 dL_law_619 dL_law_620 rfl (by decide) rfl (by omega) ?_
  refine GW_m G hk hb hH2 (As := [.int (xs (6 * k + 1))]) (m_club hM2 (xs (6 * k + 1))) YX11_club rfl dL_law_621 mlL_89 rfl (Nat.le_of_ble_eq_true rfl) ⟨rfl, rfl⟩ (Nat.le_of_ble_eq_true rfl) rfl (fun I3 L3 hH3 hM3 => ?_)
  exact GW_tL G dL_law_624 dL_law_625 rfl (K _ _ _ _ _ _ hb hH3 hM3 (hP.mono (Nat.le_succ k)))
set_option maxRecDepth 100000 in
theorem cs_set {g : hc_G} {Ln : Nat} {xs : Nat → Int32} {k : Nat} {ac : Nat × Nat} {Λ : hc_L} {I : hc_I} {L : hc_J} {R : hc_R} {S : HS} (a : AtK g Ln xs k ac Λ I L R S) (K : Kt g k) : GW g ac 630 (lS (6 * k)) [] Λ I L R := by
  obtain ⟨G, hL, hk, hb0, hH, hM, hP⟩ := id a
  refine GW_aloadn G 1 dL_law_630 rfl rfl ?_
  refine GW_arg G (i := 6 * k) (n := 1) dL_law_631 dL_law_632 dL_law_633 dL_law_634 dL_law_635 rfl (by decide) rfl (by omega) ?_
  refine GW_arg G (i := 6 * k) (n := 2) dL_law_636 dL_law_637 dL_law_638 dL_law_639 dL_law_640 rfl (by decide) rfl (by omega) ?_
  refine GW_x a (As := [.int (xs (6 * k + 1)), .int (xs (6 * k + 2))]) (h_set hH (xs (6 * k + 1)) (xs (6 * k + 2))) YX10_set rfl dL_law_641 mlL_90 rfl (Nat.le_of_ble_eq_true rfl) ⟨Nat.le_of_ble_eq_true rfl, Nat.le_of_ble_eq_true rfl⟩ rfl (fun ac2 Λ2 I2 L2 R2 hb hH2 hM2 => ?_)
  refine GW_aloadn G 2 dL_law_644 rfl rfl ?_
  refine GW_arg G (i := 6 * k) (n := 1) dL_law_645 dL_law_646 dL_law_647 dL_law_648 dL_law_649 rfl (by decide) rfl (by omega) ?_
  refine GW_arg G (i := 6 * k) (n := 2) dL_law_650 dL_law_651 dL_law_652 dL_law_653 dL_law_654 rfl (by decide) rfl (by omega) ?_
  refine GW_m G hk hb hH2 (As := [.int (xs (6 * k + 1)), .int (xs (6 * k + 2))]) (m_set hM2 a.kp (xs (6 * k + 1)) (xs (6 * k + 2))) YX11_set rfl dL_law_655 mlL_94 rfl (Nat.le_of_ble_eq_true rfl) ⟨rfl, rfl⟩ (Nat.le_of_ble_eq_true rfl) rfl (fun I3 L3 hH3 hM3 => ?_)
  exact GW_tI G dL_law_658 rfl (K _ _ _ _ _ _ hb hH3 hM3 (hP.set a.w _ _))
