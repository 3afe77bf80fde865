/-! the reference: the END as it stands -/
def rkI (z : Nat) : Prop := z = 233 ∨ z = 237
def rkJ (z : Nat) : Prop := (228 ≤ z ∧ z ≤ 232) ∨ (234 ≤ z ∧ z ≤ 236)
/-- the sums as the last loop makes them -/
def sE (g : Nat → Nat → Int64) (s0 : Nat → Int64) (i k : Nat) : Int64 := if k = 5 then sumJ (g 2) i else if k = 7 then sumJ (g 3) i else if k = 8 then sumJ (g 1) i else if k = 9 then sumJ (g 4) i else s0 k
def gE (g : Nat → Nat → Int64) (ad : Nat → Int64) (w m : Nat) : Int64 := if w = 5 then g 0 m - g 1 m + g 2 m - ad m - g 3 m - g 4 m else g w m
theorem kz {a b : Int64} {c : Prop} [Decidable c] (h : c) : (if c then a else b) = a := if_pos h
set_option maxRecDepth 100000 in
theorem rk_D {Λ : hc_L} {I : hc_I} {L : hc_J} {R : hc_R} {r : Int64} {g : Nat → Nat → Int64} {ad s0 : Nat → Int64} {Q : hc_Q} (hY : LY Λ) (hg : ∀ m, m < 12 → ∀ v, v < 5 → L 234 (6 * m + v) = g v m) (had : ∀ m, m < 12 → L 235 m = ad m) (hend : ∀ L2 : hc_J, (∀ z, z ≠ 234 → z ≠ 236 → L2 z = L z) → (∀ m, m < 12 → ∀ v, v < 6 → L2 234 (6 * m + v) = gE g ad v m) → (∀ k, k < 11 → L2 236 k = sE g s0 12 k) → LW xX11_reckons (0, 0) 494 [(0, .ref 217), (1, .long r), (3, .int (nI 12))] [] Λ I L2 R Q) : ∀ i, i ≤ 12 → ∀ L1 : hc_J, (∀ z, z ≠ 234 → z ≠ 236 → L1 z = L z) → (∀ m, m < 12 → ∀ v, v < 5 → L1 234 (6 * m + v) = L 234 (6 * m + v)) → (∀ m, m < i → L1 234 (6 * m + 5) = gE g ad 5 m) → (∀ k, k < 11 → L1 236 k = sE g s0 i k) → LW xX11_reckons (0, 0) 336 [(0, .ref 217), (1, .long r), (3, .int (nI i))] [] Λ I L1 R Q := by
  refine hc_down ?_ ?_
  · intro L1 p1 p2 p3 p4
    refine LW_iloadn 2 dX11_reckons_336 rfl rfl ?_
    refine LW_bipush (v := 12) dX11_reckons_337 (by decide) ?_
    refine LW_icmp_ge (tgt := 494) dX11_reckons_339 (by decide) (fun c339 => ?_) (fun c339 => absurd (by decide) c339)
    exact hend L1 p1 (fun m hm v hv => by
      by_cases c : v = 5
      · rw [c]; exact p3 m hm
      · rw [p2 m hm v (by omega), hg m hm v (by omega)]; exact (if_neg c).symm) p4
  · intro i hi ih L1 p1 p2 p3 p4
    have m0 : ∀ v, v < 5 → L1 234 (6 * i + v) = g v i := fun v hv => by rw [p2 i hi v hv]; exact hg i hi v hv
    have m5 : L1 235 i = ad i := by rw [p1 235 (by decide) (by decide)]; exact had i hi
    refine LW_iloadn 2 dX11_reckons_336 rfl rfl ?_
    refine LW_bipush (v := 12) dX11_reckons_337 (by decide) ?_
    refine LW_icmp_ge (tgt := 494) dX11_reckons_339 (by decide) (fun c339 => absurd c339 (hc_nle (a := 12) (b := i) (by decide) (by omega) hi)) (fun c339 => ?_)
    refine LW_bipush (v := 6) dX11_reckons_342 (by decide) ?_
    refine LW_iloadn 2 dX11_reckons_344 rfl rfl ?_
    refine LW_imul dX11_reckons_345 ?_
    rw [show (6 * (nI i)) = nI (6 * i) from (nI_mul 6 i)]
    refine LW_istore (ls' := [(0, .ref 217), (1, .long r), (3, .int (nI i)), (4, .int (nI (6 * i)))]) dX11_reckons_346 (by decide) rfl ?_
    refine LW_aloadn 0 dX11_reckons_348 rfl rfl ?_
    refine gX11_40 dX11_reckons_349 flX11_69 (hY.lt (k := 217) (by decide)) (ly217 hY) (lf217_40 hY) ?_
    refine LW_iload 3 dX11_reckons_352 rfl ?_
    refine LW_iconst (v := 5) dX11_reckons_354 (by decide) ?_
    refine LW_iadd dX11_reckons_355 ?_
    rw [show ((nI (6 * i)) + 5) = nI (6 * i + 5) from (nI_add (6 * i) 5)]
    refine LW_aloadn 0 dX11_reckons_356 rfl rfl ?_
    refine gX11_40 dX11_reckons_357 flX11_69 (hY.lt (k := 217) (by decide)) (ly217 hY) (lf217_40 hY) ?_
    refine LW_iload 3 dX11_reckons_360 rfl ?_
    refine LW_iconst (v := 0) dX11_reckons_362 (by decide) ?_
    refine LW_iadd dX11_reckons_363 ?_
    rw [show ((nI (6 * i)) + 0) = nI (6 * i) from (nI_add (6 * i) 0)]
    refine LW_lald dX11_reckons_364 (hY.lt (k := 234) (by decide)) (ly234 hY) rfl (by omega) (Nat.le_of_ble_eq_true rfl) ?_
    rw [show L1 234 (6 * i) = g 0 i from (m0 0 (by decide))]
    refine LW_aloadn 0 dX11_reckons_365 rfl rfl ?_
    refine gX11_40 dX11_reckons_366 flX11_69 (hY.lt (k := 217) (by decide)) (ly217 hY) (lf217_40 hY) ?_
    refine LW_iload 3 dX11_reckons_369 rfl ?_
    refine LW_iconst (v := 1) dX11_reckons_371 (by decide) ?_
    refine LW_iadd dX11_reckons_372 ?_
    rw [show ((nI (6 * i)) + 1) = nI (6 * i + 1) from (nI_add (6 * i) 1)]
    refine LW_lald dX11_reckons_373 (hY.lt (k := 234) (by decide)) (ly234 hY) rfl (by omega) (Nat.le_of_ble_eq_true rfl) ?_
    rw [show L1 234 (6 * i + 1) = g 1 i from (m0 1 (by decide))]
    refine LW_lsub dX11_reckons_374 ?_
    refine LW_aloadn 0 dX11_reckons_375 rfl rfl ?_
    refine gX11_40 dX11_reckons_376 flX11_69 (hY.lt (k := 217) (by decide)) (ly217 hY) (lf217_40 hY) ?_
    refine LW_iload 3 dX11_reckons_379 rfl ?_
    refine LW_iconst (v := 2) dX11_reckons_381 (by decide) ?_
    refine LW_iadd dX11_reckons_382 ?_
    rw [show ((nI (6 * i)) + 2) = nI (6 * i + 2) from (nI_add (6 * i) 2)]
    refine LW_lald dX11_reckons_383 (hY.lt (k := 234) (by decide)) (ly234 hY) rfl (by omega) (Nat.le_of_ble_eq_true rfl) ?_
    rw [show L1 234 (6 * i + 2) = g 2 i from (m0 2 (by decide))]
    refine LW_ladd dX11_reckons_384 ?_
    refine LW_aloadn 0 dX11_reckons_385 rfl rfl ?_
    refine gX11_41 dX11_reckons_386 flX11_72 (hY.lt (k := 217) (by decide)) (ly217 hY) (lf217_41 hY) ?_
    refine LW_iloadn 2 dX11_reckons_389 rfl rfl ?_
    refine LW_lald dX11_reckons_390 (hY.lt (k := 235) (by decide)) (ly235 hY) rfl hi (Nat.le_of_ble_eq_true rfl) ?_
    rw [show L1 235 i = ad i from m5]
    refine LW_lsub dX11_reckons_391 ?_
    refine LW_aloadn 0 dX11_reckons_392 rfl rfl ?_
    refine gX11_40 dX11_reckons_393 flX11_69 (hY.lt (k := 217) (by decide)) (ly217 hY) (lf217_40 hY) ?_
    refine LW_iload 3 dX11_reckons_396 rfl ?_
    refine LW_iconst (v := 3) dX11_reckons_398 (by decide) ?_
    refine LW_iadd dX11_reckons_399 ?_
    rw [show ((nI (6 * i)) + 3) = nI (6 * i + 3) from (nI_add (6 * i) 3)]
    refine LW_lald dX11_reckons_400 (hY.lt (k := 234) (by decide)) (ly234 hY) rfl (by omega) (Nat.le_of_ble_eq_true rfl) ?_
    rw [show L1 234 (6 * i + 3) = g 3 i from (m0 3 (by decide))]
    refine LW_lsub dX11_reckons_401 ?_
    refine LW_aloadn 0 dX11_reckons_402 rfl rfl ?_
    refine gX11_40 dX11_reckons_403 flX11_69 (hY.lt (k := 217) (by decide)) (ly217 hY) (lf217_40 hY) ?_
    refine LW_iload 3 dX11_reckons_406 rfl ?_
    refine LW_iconst (v := 4) dX11_reckons_408 (by decide) ?_
    refine LW_iadd dX11_reckons_409 ?_
    rw [show ((nI (6 * i)) + 4) = nI (6 * i + 4) from (nI_add (6 * i) 4)]
    refine LW_lald dX11_reckons_410 (hY.lt (k := 234) (by decide)) (ly234 hY) rfl (by omega) (Nat.le_of_ble_eq_true rfl) ?_
    rw [show L1 234 (6 * i + 4) = g 4 i from (m0 4 (by decide))]
    refine LW_lsub dX11_reckons_411 ?_
    refine LW_last dX11_reckons_412 (hY.lt (k := 234) (by decide)) (ly234 hY) rfl (by omega) (Nat.le_of_ble_eq_true rfl) ?_
    generalize hL412 : hc_u L1 234 (6 * i + 5) ((((((g 0 i) - (g 1 i)) + (g 2 i)) - (ad i)) - (g 3 i)) - (g 4 i)) = L412
    refine LW_aloadn 0 dX11_reckons_413 rfl rfl ?_
    refine gX11_42 dX11_reckons_414 flX11_75 (hY.lt (k := 217) (by decide)) (ly217 hY) (lf217_42 hY) ?_
    refine LW_iconst (v := 5) dX11_reckons_417 (by decide) ?_
    refine LW_dup2 dX11_reckons_418 rfl rfl ?_
    refine LW_lald dX11_reckons_419 (hY.lt (k := 236) (by decide)) (ly236 hY) rfl (by decide) (Nat.le_of_ble_eq_true rfl) ?_
    rw [show L412 236 5 = sumJ (g 2) i from (by rw [← hL412, hc_u_row _ _ _ _ (by decide)]; exact p4 5 (by decide))]
    refine LW_aloadn 0 dX11_reckons_420 rfl rfl ?_
    refine gX11_40 dX11_reckons_421 flX11_69 (hY.lt (k := 217) (by decide)) (ly217 hY) (lf217_40 hY) ?_
    refine LW_iload 3 dX11_reckons_424 rfl ?_
    refine LW_iconst (v := 2) dX11_reckons_426 (by decide) ?_
    refine LW_iadd dX11_reckons_427 ?_
    rw [show ((nI (6 * i)) + 2) = nI (6 * i + 2) from (nI_add (6 * i) 2)]
    refine LW_lald dX11_reckons_428 (hY.lt (k := 234) (by decide)) (ly234 hY) rfl (by omega) (Nat.le_of_ble_eq_true rfl) ?_
    rw [show L412 234 (6 * i + 2) = g 2 i from (by rw [← hL412, hc_u_at, if_neg (by omega)]; exact m0 2 (by decide))]
    refine LW_ladd dX11_reckons_429 ?_
    refine LW_last dX11_reckons_430 (hY.lt (k := 236) (by decide)) (ly236 hY) rfl (by decide) (Nat.le_of_ble_eq_true rfl) ?_
    generalize hL430 : hc_u L412 236 5 ((sumJ (g 2) i) + (g 2 i)) = L430
    refine LW_aloadn 0 dX11_reckons_431 rfl rfl ?_
    refine gX11_42 dX11_reckons_432 flX11_75 (hY.lt (k := 217) (by decide)) (ly217 hY) (lf217_42 hY) ?_
    refine LW_bipush (v := 7) dX11_reckons_435 (by decide) ?_
    refine LW_dup2 dX11_reckons_437 rfl rfl ?_
    refine LW_lald dX11_reckons_438 (hY.lt (k := 236) (by decide)) (ly236 hY) rfl (by decide) (Nat.le_of_ble_eq_true rfl) ?_
    rw [show L430 236 7 = sumJ (g 3) i from (by rw [← hL430, hc_u_at, if_neg (by decide), ← hL412, hc_u_row _ _ _ _ (by decide)]; exact p4 7 (by decide))]
    refine LW_aloadn 0 dX11_reckons_439 rfl rfl ?_
    refine gX11_40 dX11_reckons_440 flX11_69 (hY.lt (k := 217) (by decide)) (ly217 hY) (lf217_40 hY) ?_
    refine LW_iload 3 dX11_reckons_443 rfl ?_
    refine LW_iconst (v := 3) dX11_reckons_445 (by decide) ?_
    refine LW_iadd dX11_reckons_446 ?_
    rw [show ((nI (6 * i)) + 3) = nI (6 * i + 3) from (nI_add (6 * i) 3)]
    refine LW_lald dX11_reckons_447 (hY.lt (k := 234) (by decide)) (ly234 hY) rfl (by omega) (Nat.le_of_ble_eq_true rfl) ?_
    rw [show L430 234 (6 * i + 3) = g 3 i from (by rw [← hL430, hc_u_row _ _ _ _ (by decide), ← hL412, hc_u_at, if_neg (by omega)]; exact m0 3 (by decide))]
    refine LW_ladd dX11_reckons_448 ?_
    refine LW_last dX11_reckons_449 (hY.lt (k := 236) (by decide)) (ly236 hY) rfl (by decide) (Nat.le_of_ble_eq_true rfl) ?_
    generalize hL449 : hc_u L430 236 7 ((sumJ (g 3) i) + (g 3 i)) = L449
    refine LW_aloadn 0 dX11_reckons_450 rfl rfl ?_
    refine gX11_42 dX11_reckons_451 flX11_75 (hY.lt (k := 217) (by decide)) (ly217 hY) (lf217_42 hY) ?_
    refine LW_bipush (v := 8) dX11_reckons_454 (by decide) ?_
    refine LW_dup2 dX11_reckons_456 rfl rfl ?_
    refine LW_lald dX11_reckons_457 (hY.lt (k := 236) (by decide)) (ly236 hY) rfl (by decide) (Nat.le_of_ble_eq_true rfl) ?_
    rw [show L449 236 8 = sumJ (g 1) i from (by rw [← hL449, hc_u_at, if_neg (by decide), ← hL430, hc_u_at, if_neg (by decide), ← hL412, hc_u_row _ _ _ _ (by decide)]; exact p4 8 (by decide))]
    refine LW_aloadn 0 dX11_reckons_458 rfl rfl ?_
    refine gX11_40 dX11_reckons_459 flX11_69 (hY.lt (k := 217) (by decide)) (ly217 hY) (lf217_40 hY) ?_
    refine LW_iload 3 dX11_reckons_462 rfl ?_
    refine LW_iconst (v := 1) dX11_reckons_464 (by decide) ?_
    refine LW_iadd dX11_reckons_465 ?_
    rw [show ((nI (6 * i)) + 1) = nI (6 * i + 1) from (nI_add (6 * i) 1)]
    refine LW_lald dX11_reckons_466 (hY.lt (k := 234) (by decide)) (ly234 hY) rfl (by omega) (Nat.le_of_ble_eq_true rfl) ?_
    rw [show L449 234 (6 * i + 1) = g 1 i from (by rw [← hL449, hc_u_row _ _ _ _ (by decide), ← hL430, hc_u_row _ _ _ _ (by decide), ← hL412, hc_u_at, if_neg (by omega)]; exact m0 1 (by decide))]
    refine LW_ladd dX11_reckons_467 ?_
    refine LW_last dX11_reckons_468 (hY.lt (k := 236) (by decide)) (ly236 hY) rfl (by decide) (Nat.le_of_ble_eq_true rfl) ?_
    generalize hL468 : hc_u L449 236 8 ((sumJ (g 1) i) + (g 1 i)) = L468
    refine LW_aloadn 0 dX11_reckons_469 rfl rfl ?_
    refine gX11_42 dX11_reckons_470 flX11_75 (hY.lt (k := 217) (by decide)) (ly217 hY) (lf217_42 hY) ?_
    refine LW_bipush (v := 9) dX11_reckons_473 (by decide) ?_
    refine LW_dup2 dX11_reckons_475 rfl rfl ?_
    refine LW_lald dX11_reckons_476 (hY.lt (k := 236) (by decide)) (ly236 hY) rfl (by decide) (Nat.le_of_ble_eq_true rfl) ?_
    rw [show L468 236 9 = sumJ (g 4) i from (by rw [← hL468, hc_u_at, if_neg (by decide), ← hL449, hc_u_at, if_neg (by decide), ← hL430, hc_u_at, if_neg (by decide), ← hL412, hc_u_row _ _ _ _ (by decide)]; exact p4 9 (by decide))]
    refine LW_aloadn 0 dX11_reckons_477 rfl rfl ?_
    refine gX11_40 dX11_reckons_478 flX11_69 (hY.lt (k := 217) (by decide)) (ly217 hY) (lf217_40 hY) ?_
    refine LW_iload 3 dX11_reckons_481 rfl ?_
    refine LW_iconst (v := 4) dX11_reckons_483 (by decide) ?_
    refine LW_iadd dX11_reckons_484 ?_
    rw [show ((nI (6 * i)) + 4) = nI (6 * i + 4) from (nI_add (6 * i) 4)]
    refine LW_lald dX11_reckons_485 (hY.lt (k := 234) (by decide)) (ly234 hY) rfl (by omega) (Nat.le_of_ble_eq_true rfl) ?_
    rw [show L468 234 (6 * i + 4) = g 4 i from (by rw [← hL468, hc_u_row _ _ _ _ (by decide), ← hL449, hc_u_row _ _ _ _ (by decide), ← hL430, hc_u_row _ _ _ _ (by decide), ← hL412, hc_u_at, if_neg (by omega)]; exact m0 4 (by decide))]
    refine LW_ladd dX11_reckons_486 ?_
    refine LW_last dX11_reckons_487 (hY.lt (k := 236) (by decide)) (ly236 hY) rfl (by decide) (Nat.le_of_ble_eq_true rfl) ?_
    generalize hL487 : hc_u L468 236 9 ((sumJ (g 4) i) + (g 4 i)) = L487
    refine LW_iinc (n := 2) (v := nI (i + 1)) (ls' := [(0, .ref 217), (1, .long r), (3, .int (nI (i + 1))), (4, .int (nI (6 * i)))]) dX11_reckons_488 rfl (hc_inc _) (by decide) rfl ?_
    refine LW_goto (tgt := 336) dX11_reckons_491 (by decide) ?_
    refine LW_ls (ls' := [(0, .ref 217), (1, .long r), (3, .int (nI (i + 1)))]) [0, 1, 2] rfl ?_
    exact ih L487 (fun z z1 z2 => by
      rw [← hL487, hc_u_row _ _ _ _ z2, ← hL468, hc_u_row _ _ _ _ z2, ← hL449, hc_u_row _ _ _ _ z2, ← hL430, hc_u_row _ _ _ _ z2, ← hL412, hc_u_row _ _ _ _ z1]
      exact p1 z z1 z2) (fun m hm v hv => by
      rw [← hL487, hc_u_row _ _ _ _ (by decide), ← hL468, hc_u_row _ _ _ _ (by decide), ← hL449, hc_u_row _ _ _ _ (by decide), ← hL430, hc_u_row _ _ _ _ (by decide), ← hL412, hc_u_at, if_neg (by omega)]
      exact p2 m hm v hv) (fun m hm => by
      rw [← hL487, hc_u_row _ _ _ _ (by decide), ← hL468, hc_u_row _ _ _ _ (by decide), ← hL449, hc_u_row _ _ _ _ (by decide), ← hL430, hc_u_row _ _ _ _ (by decide), ← hL412, hc_u_at]
      by_cases c : m = i
      · rw [c, if_pos rfl]; rfl
      · rw [if_neg (by omega)]; exact p3 m (by omega)) (fun k hk => by
      rw [← hL487, hc_u_at, ← hL468, hc_u_at, ← hL449, hc_u_at, ← hL430, hc_u_at, ← hL412, hc_u_row _ _ _ _ (by decide), p4 k hk]
      by_cases c9 : k = 9
      · rw [c9]; rfl
      · by_cases c8 : k = 8
        · rw [c8]; rfl
        · by_cases c7 : k = 7
          · rw [c7]; rfl
          · by_cases c5 : k = 5
            · rw [c5]; rfl
            · unfold sE
              rw [if_neg c9, if_neg c8, if_neg c7, if_neg c5, if_neg c5, if_neg c7, if_neg c8, if_neg c9, if_neg c5, if_neg c7, if_neg c8, if_neg c9])
section SUMS
variable {A : AS} {P : LwP} {pr : Nat → Bool}
theorem kR1_sum : sumJ (fun m => kR A P pr 1 m) 12 = kT A P pr 8 := by
  show sumJ (fun m => if 0 ≤ kBt A P pr then 0 else kCut A P pr m) 12 = if 0 ≤ kBt A P pr then 0 else sumJ (kCut A P pr) 12
  by_cases c : 0 ≤ kBt A P pr
  · rw [if_pos c, sumJ_congr (g := fun _ => 0) (fun j _ => if_pos c)]; exact sumJ_z 12
  · rw [if_neg c]; exact sumJ_congr (fun j _ => if_neg c)
theorem kR2_sum : sumJ (fun m => kR A P pr 2 m) 12 = kT A P pr 5 := by
  show sumJ (fun m => if 0 ≤ kBt A P pr then kGiv A P pr m else 0) 12 = if 0 ≤ kBt A P pr then sumJ (kGiv A P pr) 12 else 0
  by_cases c : 0 ≤ kBt A P pr
  · rw [if_pos c]; exact sumJ_congr (fun j _ => if_pos c)
  · rw [if_neg c, sumJ_congr (g := fun _ => 0) (fun j _ => if_neg c)]; exact sumJ_z 12
theorem kR3_sum : sumJ (fun m => kR A P pr 3 m) 12 = kT A P pr 7 := by
  show sumJ (fun m => if 0 ≤ kBt A P pr then 0 else kCal A P pr m) 12 = if 0 ≤ kBt A P pr then 0 else sumJ (kCal A P pr) 12
  by_cases c : 0 ≤ kBt A P pr
  · rw [if_pos c, sumJ_congr (g := fun _ => 0) (fun j _ => if_pos c)]; exact sumJ_z 12
  · rw [if_neg c]; exact sumJ_congr (fun j _ => if_neg c)
end SUMS
set_option maxRecDepth 100000 in
theorem rk_E {Λ : hc_L} {I I1 : hc_I} {L L1 : hc_J} {R : hc_R} {A : AS} {P : LwP} {w : Int32} (hM1 : MC Λ I1 L1 A w) (f1 : ∀ z, ¬ rkI z → I1 z = I z) (f2 : ∀ z, ¬ rkJ z → L1 z = L z) (hrow : ∀ m, m < 12 → ∀ v, v < 5 → L1 234 (6 * m + v) = if v = 4 then 0 else kR A P (prX A w) v m) (had : ∀ m, m < 12 → L1 235 m = gA A (prX A w) m) (hsum : ∀ k, k < 11 → L1 236 k = if k = 5 ∨ 7 ≤ k then 0 else kT A P (prX A w) k) : LW xX11_reckons (0, 0) 328 [(0, .ref 217), (1, .long (kRes A P (prX A w)))] [] Λ I1 L1 R (Qvi rkI rkJ none (fun _ L' => (∀ m, m < 12 → ∀ v, v < 6 → L' 234 (6 * m + v) = kR A P (prX A w) v m) ∧ (∀ k, k < 11 → L' 236 k = kT A P (prX A w) k) ∧ ∀ j, j < 12 → L' 235 j = gA A (prX A w) j) Λ I L R) := by
  have hY := hM1.y
  refine LW_aloadn 0 dX11_reckons_328 rfl rfl ?_
  refine LW_lloadn 1 dX11_reckons_329 rfl rfl ?_
  refine LW_callV (As := [.long (kRes A P (prX A w))]) (b := 217) (st := []) (ci := 11) (r := (RX11, TX11, 44)) (r_leaves hM1 (du := fun _ => 0) (r := kRes A P (prX A w)) (fun m hm => by rw [hrow m hm 4 (by decide)]; rfl) (fun i hi => td_pos hM1.w hi)) YX11_leaves rfl dX11_reckons_330 mlX11_422 (hY.lt (k := 217) (by decide)) (ly217 hY) ⟨rfl, rfl⟩ (by decide) ⟨Nat.le_of_ble_eq_true rfl, Nat.le_of_ble_eq_true rfl⟩ (Nat.le_of_ble_eq_true rfl) rfl (fun r330 Λc330 Ic330 Lc330 Rc330 hq330 => ?_)
  obtain ⟨rfl, rfl, hI330, hL330, hR330, hG330, hH330⟩ := hq330
  obtain rfl : R = Rc330 := hR330
  refine LW_lstoren (ls' := [(0, .ref 217), (1, .long ((kTd A P (prX A w)).2.2.2.1))]) dX11_reckons_333 rfl (by decide) rfl ?_
  refine LW_iconst (v := 0) dX11_reckons_334 (by decide) ?_
  refine LW_istoren (ls' := [(0, .ref 217), (1, .long ((kTd A P (prX A w)).2.2.2.1)), (3, .int 0)]) dX11_reckons_335 rfl (by decide) rfl ?_
  refine rk_D (g := fun v m => kR A P (prX A w) v m) (ad := gA A (prX A w)) (s0 := fun k => if k = 10 then 0 else kT A P (prX A w) k) hY (fun m hm v hv => ?_) (fun m hm => by rw [hL330 235 (by decide)]; exact had m hm) (fun L2 q1 q2 q3 => ?_) 0 (Nat.zero_le _) Lc330 (fun _ _ _ => rfl) (fun _ _ _ _ => rfl) (fun m hm => absurd hm (Nat.not_lt_zero m)) (fun k hk => ?_)
  · by_cases c : v = 4
    · rw [c]; exact hG330 m hm
    · rw [hH330 (6 * m + v) (by omega) (by omega), hrow m hm v hv, if_neg c]
  · refine LW_aloadn 0 dX11_reckons_494 rfl rfl ?_
    refine gX11_42 dX11_reckons_495 flX11_75 (hY.lt (k := 217) (by decide)) (ly217 hY) (lf217_42 hY) ?_
    refine LW_bipush (v := 10) dX11_reckons_498 (by decide) ?_
    refine LW_lloadn 1 dX11_reckons_500 rfl rfl ?_
    refine LW_last dX11_reckons_501 (hY.lt (k := 236) (by decide)) (ly236 hY) rfl (by decide) (Nat.le_of_ble_eq_true rfl) ?_
    generalize hL501 : hc_u L2 236 10 ((kTd A P (prX A w)).2.2.2.1) = L501
    refine LW_vret dX11_reckons_502 rfl (Nat.le_of_ble_eq_true rfl) (Nat.le_of_ble_eq_true rfl) ?_
    refine ⟨rfl, rfl, fun z hz => ?_, fun z hz => ?_, rfl, fun m hm v hv => ?_, fun k hk => ?_, fun j hj => ?_⟩
    · rw [hI330 z (fun e => hz (Or.inr e))]; exact f1 z hz
    · have n4 : z ≠ 234 := fun e => hz (Or.inr (by omega))
      have n6 : z ≠ 236 := fun e => hz (Or.inr (by omega))
      rw [← hL501, hc_u_row _ _ _ _ n6, q1 z n4 n6, hL330 z n4]
      exact f2 z hz
    · rw [← hL501, hc_u_row _ _ _ _ (by decide), q2 m hm v hv]
      unfold gE
      by_cases c : v = 5
      · rw [if_pos c, c]; rfl
      · rw [if_neg c]
    · rw [← hL501, hc_u_at]
      by_cases c10 : k = 10
      · rw [if_pos c10, c10]; rfl
      · rw [if_neg c10, q3 k hk]
        unfold sE
        by_cases c5 : k = 5
        · rw [if_pos c5, c5]; exact kR2_sum
        · rw [if_neg c5]
          by_cases c7 : k = 7
          · rw [if_pos c7, c7]; exact kR3_sum
          · rw [if_neg c7]
            by_cases c8 : k = 8
            · rw [if_pos c8, c8]; exact kR1_sum
            · rw [if_neg c8]
              by_cases c9 : k = 9
              · rw [if_pos c9, c9]; exact (td_sum 12 (Nat.le_refl _)).1.symm
              · rw [if_neg c9]; exact if_neg c10
    · rw [← hL501, hc_u_row _ _ _ _ (by decide), q1 235 (by decide) (by decide), hL330 235 (by decide)]
      exact had j hj
  · rw [hL330 236 (by decide), hsum k hk]
    unfold sE
    by_cases c5 : k = 5
    · rw [c5]; rfl
    · by_cases c7 : k = 7
      · rw [c7]; rfl
      · by_cases c8 : k = 8
        · rw [c8]; rfl
        · by_cases c9 : k = 9
          · rw [c9]; rfl
          · rw [if_neg c5, if_neg c7, if_neg c8, if_neg c9]
            by_cases c10 : k = 10
            · rw [c10]; rfl
            · rw [if_neg (by omega)]; exact (if_neg c10).symm
