/-! the reference: now, mine, without, reserve -/
set_option maxRecDepth 100000 in
theorem m_now {Λ : hc_L} {I : hc_I} {L : hc_J} {R : hc_R} {S : HS} (hW : MW Λ I L S) (hB : RB (sA S)) (x : Int32) : Run xX11_now [.ref 217, .int x] Λ I L R (MPost (some (.long (qNow (sA S) (sP S) x))) S Λ I L R) := by
  refine Run.of (by decide +kernel) (Nat.le_of_ble_eq_true rfl) ?_
  show LW _ _ _ [(0, .ref 217), (1, .int x)] _ _ _ _ _ _
  have hM := hW.m
  have hP := hW.l
  have hY := hM.y
  refine LW_aloadn 0 dX11_now_0 rfl rfl ?_
  refine LW_callV (As := []) (b := 217) (st := []) (ci := 11) (r := (RX11, TX11, 44)) (r_mMembersThere hM) YX11_membersThere rfl dX11_now_1 mlX11_429 (hY.lt (k := 217) (by decide)) (ly217 hY) ⟨rfl, rfl⟩ (by decide) ⟨Nat.le_of_ble_eq_true rfl, Nat.le_of_ble_eq_true rfl⟩ (Nat.le_of_ble_eq_true rfl) rfl (fun r1 Λc1 Ic1 Lc1 Rc1 hq1 => ?_)
  rw [mMt_eq hM.w] at hq1
  obtain ⟨rfl, rfl, rfl, rfl, rfl⟩ := hq1
  refine LW_if_eq (tgt := 19) dX11_now_4 (by decide) (fun c4 => ?_) (fun c4 => ?_)
  · refine LW_ldc2 dX11_now_19 klX11_402 ?_
    refine LW_lret dX11_now_22 rfl (Nat.le_of_ble_eq_true rfl) (Nat.le_of_ble_eq_true rfl) ?_
    refine MPost.r hW ?_
    unfold qNow
    rw [if_neg]
    rintro ⟨⟨u1, u2⟩, u3⟩
    first | (exact u3 c4) | skip
    all_goals
      obtain ⟨a, ha, rfl⟩ := x_in (N := 11) (by decide) u1 u2
      have e1 : lIn (nI a).toInt64 0 (lN 10) = true := by rw [lIn_i (by decide), decide_eq_true (nI_nn (by omega)), decide_eq_true ((hc_le (by omega) (by decide)).mpr (by omega))]; rfl
      exact absurd (e1.symm.trans c16) (by decide)
  · refine LW_iloadn 1 dX11_now_7 rfl rfl ?_
    refine LW_i2l dX11_now_8 ?_
    refine LW_lconst (v := 0) dX11_now_9 (by decide) ?_
    refine LW_ldc2 dX11_now_10 klX11_437 ?_
    refine LW_callS (As := [.long x.toInt64, .long 0, .long 10]) (st := []) (r_isIn x.toInt64 0 10) YX11_isIn rfl dX11_now_13 mlX11_126 (by decide) ⟨Nat.le_of_ble_eq_true rfl, Nat.le_of_ble_eq_true rfl⟩ (Nat.le_of_ble_eq_true rfl) rfl (fun r13 Λc13 Ic13 Lc13 Rc13 hq13 => ?_)
    obtain ⟨rfl, rfl, rfl, rfl, rfl⟩ := hq13
    refine LW_bif_ne (tgt := 23) dX11_now_16 (by decide) (fun c16 => ?_) (fun c16 => ?_)
    · obtain ⟨k, hk, rfl⟩ := lIn_k (N := 10) (by decide) c16
      refine LW_aloadn 0 dX11_now_23 rfl rfl ?_
      refine LW_callV (As := []) (b := 217) (st := []) (ci := 11) (r := (RX11, TX11, 44)) (r_reckons hM hP hW.2.2.1 hB) YX11_reckons rfl dX11_now_24 mlX11_432 (hY.lt (k := 217) (by decide)) (ly217 hY) ⟨rfl, rfl⟩ (by decide) ⟨Nat.le_of_ble_eq_true rfl, Nat.le_of_ble_eq_true rfl⟩ (Nat.le_of_ble_eq_true rfl) rfl (fun r24 Λc24 Ic24 Lc24 Rc24 hq24 => ?_)
      obtain ⟨rfl, rfl, hI24, hL24, hR24, hG24, hT24, hA24⟩ := hq24
      obtain rfl : R = Rc24 := hR24
      refine LW_aloadn 0 dX11_now_27 rfl rfl ?_
      refine gX11_42 dX11_now_28 flX11_75 (hY.lt (k := 217) (by decide)) (ly217 hY) (lf217_42 hY) ?_
      refine LW_iloadn 1 dX11_now_31 rfl rfl ?_
      refine LW_lald dX11_now_32 (hY.lt (k := 236) (by decide)) (ly236 hY) rfl (by omega) (Nat.le_of_ble_eq_true rfl) ?_
      rw [show Lc24 236 k = kT (sA S) (sP S) (prX (sA S) (-1)) k from hT24 k (by omega)]
      refine LW_lret dX11_now_33 rfl (Nat.le_of_ble_eq_true rfl) (Nat.le_of_ble_eq_true rfl) ?_
      refine MPost.q hW (fun z hz => hI24 z (by unfold rkI; omega)) (fun z hz => hL24 z (by unfold rkJ; omega)) ?_
      unfold qNow
      rw [if_pos ⟨⟨nI_nn (by omega), (hc_lt (b := 11) (by omega) (by decide)).mpr (by omega)⟩, c4⟩, hc_cl (by omega)]
    · refine LW_ldc2 dX11_now_19 klX11_402 ?_
      refine LW_lret dX11_now_22 rfl (Nat.le_of_ble_eq_true rfl) (Nat.le_of_ble_eq_true rfl) ?_
      refine MPost.r hW ?_
      unfold qNow
      rw [if_neg]
      rintro ⟨⟨u1, u2⟩, u3⟩
      first | (exact u3 c4) | skip
      all_goals
        obtain ⟨a, ha, rfl⟩ := x_in (N := 11) (by decide) u1 u2
        have e1 : lIn (nI a).toInt64 0 (lN 10) = true := by rw [lIn_i (by decide), decide_eq_true (nI_nn (by omega)), decide_eq_true ((hc_le (by omega) (by decide)).mpr (by omega))]; rfl
        exact absurd (e1.symm.trans c16) (by decide)
theorem mIs_m1 {A : AS} (hA : wf A) {x : Int32} : mIsX A (-1) x = aIsX A x := by
  unfold mIsX aIsX aKnX
  rw [prX_m1 hA.m]
  unfold aIs
  by_cases c : 0 ≤ x
  · rw [decide_eq_true c, Bool.true_and, Bool.true_and]
    by_cases d : x.toNatClampNeg < aM A
    · rw [decide_eq_true d, Bool.true_and, Bool.true_and]
    · rw [decide_eq_false d, Bool.false_and, Bool.false_and]
  · rw [decide_eq_false c, Bool.false_and, Bool.false_and]
theorem mIs_k {A : AS} {x : Int32} (hA : wf A) (h : aIsX A x = true) : ∃ k, k < aM A ∧ k < 12 ∧ x = nI k ∧ aIs A k = true := by
  unfold aIsX at h
  rw [Bool.and_eq_true, decide_eq_true_eq] at h
  obtain ⟨k, hk, rfl⟩ := hc_nn h.1
  have h2 := h.2
  rw [hc_cl hk] at h2
  have h3 : k < aM A := by
    have := h2
    unfold aIs at this
    rw [Bool.and_eq_true, decide_eq_true_eq] at this
    exact this.1
  exact ⟨k, h3, by have := hA.m; omega, rfl, h2⟩
set_option maxRecDepth 100000 in
theorem m_mine {Λ : hc_L} {I : hc_I} {L : hc_J} {R : hc_R} {S : HS} (hW : MW Λ I L S) (hB : RB (sA S)) (x y : Int32) : Run xX11_mine [.ref 217, .int x, .int y] Λ I L R (MPost (some (.long (qMine (sA S) (sP S) x y))) S Λ I L R) := by
  refine Run.of (by decide +kernel) (Nat.le_of_ble_eq_true rfl) ?_
  show LW _ _ _ [(0, .ref 217), (1, .int x), (2, .int y)] _ _ _ _ _ _
  have hM := hW.m
  have hP := hW.l
  have hY := hM.y
  refine LW_aloadn 0 dX11_mine_0 rfl rfl ?_
  refine LW_iloadn 1 dX11_mine_1 rfl rfl ?_
  refine LW_callV (As := [.int x]) (b := 217) (st := []) (ci := 11) (r := (RX11, TX11, 44)) (r_mIsMember hM x) YX11_isMember rfl dX11_mine_2 mlX11_395 (hY.lt (k := 217) (by decide)) (ly217 hY) ⟨rfl, rfl⟩ (by decide) ⟨Nat.le_of_ble_eq_true rfl, Nat.le_of_ble_eq_true rfl⟩ (Nat.le_of_ble_eq_true rfl) rfl (fun r2 Λc2 Ic2 Lc2 Rc2 hq2 => ?_)
  rw [mIs_m1 hM.w] at hq2
  obtain ⟨rfl, rfl, rfl, rfl, rfl⟩ := hq2
  refine LW_bif_eq (tgt := 20) dX11_mine_5 (by decide) (fun c5 => ?_) (fun c5 => ?_)
  · refine LW_ldc2 dX11_mine_20 klX11_439 ?_
    refine LW_lret dX11_mine_23 rfl (Nat.le_of_ble_eq_true rfl) (Nat.le_of_ble_eq_true rfl) ?_
    refine MPost.r hW ?_
    unfold qMine
    rw [if_neg]
    rintro ⟨⟨u1, u2⟩, u3⟩
    first | (exact absurd (u3.symm.trans c5) (by decide)) | skip
    all_goals
      obtain ⟨a, ha, rfl⟩ := x_in (N := 6) (by decide) u1 u2
      have e1 : lIn (nI a).toInt64 0 (lN 5) = true := by rw [lIn_i (by decide), decide_eq_true (nI_nn (by omega)), decide_eq_true ((hc_le (by omega) (by decide)).mpr (by omega))]; rfl
      exact absurd (e1.symm.trans c17) (by decide)
  · refine LW_iloadn 2 dX11_mine_8 rfl rfl ?_
    refine LW_i2l dX11_mine_9 ?_
    refine LW_lconst (v := 0) dX11_mine_10 (by decide) ?_
    refine LW_ldc2 dX11_mine_11 klX11_427 ?_
    refine LW_callS (As := [.long y.toInt64, .long 0, .long 5]) (st := []) (r_isIn y.toInt64 0 5) YX11_isIn rfl dX11_mine_14 mlX11_126 (by decide) ⟨Nat.le_of_ble_eq_true rfl, Nat.le_of_ble_eq_true rfl⟩ (Nat.le_of_ble_eq_true rfl) rfl (fun r14 Λc14 Ic14 Lc14 Rc14 hq14 => ?_)
    obtain ⟨rfl, rfl, rfl, rfl, rfl⟩ := hq14
    refine LW_bif_ne (tgt := 24) dX11_mine_17 (by decide) (fun c17 => ?_) (fun c17 => ?_)
    · obtain ⟨v, hv, rfl⟩ := lIn_k (N := 5) (by decide) c17
      obtain ⟨k, hkM, hk, rfl, hkk⟩ := mIs_k hM.w c5
      refine LW_aloadn 0 dX11_mine_24 rfl rfl ?_
      refine LW_callV (As := []) (b := 217) (st := []) (ci := 11) (r := (RX11, TX11, 44)) (r_reckons hM hP hW.2.2.1 hB) YX11_reckons rfl dX11_mine_25 mlX11_432 (hY.lt (k := 217) (by decide)) (ly217 hY) ⟨rfl, rfl⟩ (by decide) ⟨Nat.le_of_ble_eq_true rfl, Nat.le_of_ble_eq_true rfl⟩ (Nat.le_of_ble_eq_true rfl) rfl (fun r25 Λc25 Ic25 Lc25 Rc25 hq25 => ?_)
      obtain ⟨rfl, rfl, hI25, hL25, hR25, hG25, hT25, hA25⟩ := hq25
      obtain rfl : R = Rc25 := hR25
      refine LW_aloadn 0 dX11_mine_28 rfl rfl ?_
      refine gX11_40 dX11_mine_29 flX11_69 (hY.lt (k := 217) (by decide)) (ly217 hY) (lf217_40 hY) ?_
      refine LW_bipush (v := 6) dX11_mine_32 (by decide) ?_
      refine LW_iloadn 1 dX11_mine_34 rfl rfl ?_
      refine LW_imul dX11_mine_35 ?_
      rw [show (6 * (nI k)) = nI (6 * k) from (nI_mul 6 k)]
      refine LW_iloadn 2 dX11_mine_36 rfl rfl ?_
      refine LW_iadd dX11_mine_37 ?_
      rw [show ((nI (6 * k)) + (nI v)) = nI (6 * k + v) from (nI_add _ _)]
      refine LW_lald dX11_mine_38 (hY.lt (k := 234) (by decide)) (ly234 hY) rfl (by omega) (Nat.le_of_ble_eq_true rfl) ?_
      rw [show Lc25 234 (6 * k + v) = kR (sA S) (sP S) (prX (sA S) (-1)) v k from hG25 k (by omega) v (by omega)]
      refine LW_lret dX11_mine_39 rfl (Nat.le_of_ble_eq_true rfl) (Nat.le_of_ble_eq_true rfl) ?_
      refine MPost.q hW (fun z hz => hI25 z (by unfold rkI; omega)) (fun z hz => hL25 z (by unfold rkJ; omega)) ?_
      unfold qMine
      rw [if_pos ⟨⟨nI_nn (by omega), (hc_lt (b := 6) (by omega) (by decide)).mpr (by omega)⟩, c5⟩, hc_cl (by omega), hc_cl (by omega)]
    · refine LW_ldc2 dX11_mine_20 klX11_439 ?_
      refine LW_lret dX11_mine_23 rfl (Nat.le_of_ble_eq_true rfl) (Nat.le_of_ble_eq_true rfl) ?_
      refine MPost.r hW ?_
      unfold qMine
      rw [if_neg]
      rintro ⟨⟨u1, u2⟩, u3⟩
      first | (exact absurd (u3.symm.trans c5) (by decide)) | skip
      all_goals
        obtain ⟨a, ha, rfl⟩ := x_in (N := 6) (by decide) u1 u2
        have e1 : lIn (nI a).toInt64 0 (lN 5) = true := by rw [lIn_i (by decide), decide_eq_true (nI_nn (by omega)), decide_eq_true ((hc_le (by omega) (by decide)).mpr (by omega))]; rfl
        exact absurd (e1.symm.trans c17) (by decide)
set_option maxRecDepth 100000 in
theorem m_without {Λ : hc_L} {I : hc_I} {L : hc_J} {R : hc_R} {S : HS} (hW : MW Λ I L S) (hB : RB (sA S)) (x y : Int32) : Run xX11_without [.ref 217, .int x, .int y] Λ I L R (MPost (some (.long (qWithout (sA S) (sP S) x y))) S Λ I L R) := by
  refine Run.of (by decide +kernel) (Nat.le_of_ble_eq_true rfl) ?_
  show LW _ _ _ [(0, .ref 217), (1, .int x), (2, .int y)] _ _ _ _ _ _
  have hM := hW.m
  have hP := hW.l
  have hY := hM.y
  refine LW_aloadn 0 dX11_without_0 rfl rfl ?_
  refine LW_iloadn 1 dX11_without_1 rfl rfl ?_
  refine LW_callV (As := [.int x]) (b := 217) (st := []) (ci := 11) (r := (RX11, TX11, 44)) (r_mIsMember hM x) YX11_isMember rfl dX11_without_2 mlX11_395 (hY.lt (k := 217) (by decide)) (ly217 hY) ⟨rfl, rfl⟩ (by decide) ⟨Nat.le_of_ble_eq_true rfl, Nat.le_of_ble_eq_true rfl⟩ (Nat.le_of_ble_eq_true rfl) rfl (fun r2 Λc2 Ic2 Lc2 Rc2 hq2 => ?_)
  rw [mIs_m1 hM.w] at hq2
  obtain ⟨rfl, rfl, rfl, rfl, rfl⟩ := hq2
  refine LW_bif_eq (tgt := 21) dX11_without_5 (by decide) (fun c5 => ?_) (fun c5 => ?_)
  · refine LW_ldc2 dX11_without_21 klX11_439 ?_
    refine LW_lret dX11_without_24 rfl (Nat.le_of_ble_eq_true rfl) (Nat.le_of_ble_eq_true rfl) ?_
    refine MPost.r hW ?_
    unfold qWithout
    first | (rw [if_neg (fun z => z.1 (Classical.not_not.mp c18))]; done) | (rw [if_neg (fun z => by rw [z.2.2] at c13; cases c13)]; done) | (rw [if_neg (fun z => by rw [z.2.1] at c5; cases c5)]; done)
  · refine LW_aloadn 0 dX11_without_8 rfl rfl ?_
    refine LW_iloadn 2 dX11_without_9 rfl rfl ?_
    refine LW_callV (As := [.int y]) (b := 217) (st := []) (ci := 11) (r := (RX11, TX11, 44)) (r_mIsMember hM y) YX11_isMember rfl dX11_without_10 mlX11_395 (hY.lt (k := 217) (by decide)) (ly217 hY) ⟨rfl, rfl⟩ (by decide) ⟨Nat.le_of_ble_eq_true rfl, Nat.le_of_ble_eq_true rfl⟩ (Nat.le_of_ble_eq_true rfl) rfl (fun r10 Λc10 Ic10 Lc10 Rc10 hq10 => ?_)
    rw [mIs_m1 hM.w] at hq10
    obtain ⟨rfl, rfl, rfl, rfl, rfl⟩ := hq10
    refine LW_bif_eq (tgt := 21) dX11_without_13 (by decide) (fun c13 => ?_) (fun c13 => ?_)
    · refine LW_ldc2 dX11_without_21 klX11_439 ?_
      refine LW_lret dX11_without_24 rfl (Nat.le_of_ble_eq_true rfl) (Nat.le_of_ble_eq_true rfl) ?_
      refine MPost.r hW ?_
      unfold qWithout
      first | (rw [if_neg (fun z => z.1 (Classical.not_not.mp c18))]; done) | (rw [if_neg (fun z => by rw [z.2.2] at c13; cases c13)]; done) | (rw [if_neg (fun z => by rw [z.2.1] at c5; cases c5)]; done)
    · refine LW_iloadn 1 dX11_without_16 rfl rfl ?_
      refine LW_iloadn 2 dX11_without_17 rfl rfl ?_
      refine LW_icmp_ne (tgt := 25) dX11_without_18 (by decide) (fun c18 => ?_) (fun c18 => ?_)
      · obtain ⟨k, hkM, hk, rfl, hkk⟩ := mIs_k hM.w c5
        refine LW_aloadn 0 dX11_without_25 rfl rfl ?_
        refine LW_callV (As := []) (b := 217) (st := []) (ci := 11) (r := (RX11, TX11, 44)) (r_reckons hM hP hW.2.2.1 hB) YX11_reckons rfl dX11_without_26 mlX11_432 (hY.lt (k := 217) (by decide)) (ly217 hY) ⟨rfl, rfl⟩ (by decide) ⟨Nat.le_of_ble_eq_true rfl, Nat.le_of_ble_eq_true rfl⟩ (Nat.le_of_ble_eq_true rfl) rfl (fun r26 Λc26 Ic26 Lc26 Rc26 hq26 => ?_)
        obtain ⟨rfl, rfl, hI26, hL26, hR26, hG26, hT26, hA26⟩ := hq26
        obtain rfl : R = Rc26 := hR26
        refine LW_aloadn 0 dX11_without_29 rfl rfl ?_
        refine gX11_40 dX11_without_30 flX11_69 (hY.lt (k := 217) (by decide)) (ly217 hY) (lf217_40 hY) ?_
        refine LW_bipush (v := 6) dX11_without_33 (by decide) ?_
        refine LW_iloadn 1 dX11_without_35 rfl rfl ?_
        refine LW_imul dX11_without_36 ?_
        rw [show (6 * (nI k)) = nI (6 * k) from (nI_mul 6 k)]
        refine LW_iconst (v := 5) dX11_without_37 (by decide) ?_
        refine LW_iadd dX11_without_38 ?_
        rw [show ((nI (6 * k)) + 5) = nI (6 * k + 5) from (nI_add _ _)]
        refine LW_lald dX11_without_39 (hY.lt (k := 234) (by decide)) (ly234 hY) rfl (by omega) (Nat.le_of_ble_eq_true rfl) ?_
        rw [show Lc26 234 (6 * k + 5) = kR (sA S) (sP S) (prX (sA S) (-1)) 5 k from hG26 k (by omega) 5 (by omega)]
        refine LW_lstoren (ls' := [(0, .ref 217), (1, .int (nI k)), (2, .int y), (3, .long (kR (sA S) (sP S) (prX (sA S) (-1)) 5 k))]) dX11_without_40 rfl (by decide) rfl ?_
        refine LW_aloadn 0 dX11_without_41 rfl rfl ?_
        refine LW_iloadn 2 dX11_without_42 rfl rfl ?_
        refine pX11_35 dX11_without_43 flX11_53 (hY.lt (k := 217) (by decide)) (ly217 hY) ?_
        generalize hI43 : hc_u Ic26 217 35 y = I43
        have hM2 : MC Λ I43 Lc26 (sA S) y := ⟨hM.1, hM.2.1, by rw [hL26 218 (by unfold rkJ; decide)]; exact hM.n, by rw [← hI43, hc_u_row _ _ _ _ (by decide), hI26 221 (by unfold rkI; decide)]; exact hM.2.2.2.1, by rw [← hI43, hc_u_row _ _ _ _ (by decide), hI26 222 (by unfold rkI; decide)]; exact hM.2.2.2.2.1, by rw [← hI43, hc_u_row _ _ _ _ (by decide), hI26 223 (by unfold rkI; decide)]; exact hM.2.2.2.2.2.1, by rw [← hI43, hc_u_at, if_pos rfl]⟩
        have hP2 : ML I43 Lc26 (sP S) := hP.kp (by rw [← hI43, hc_u_at, if_neg (by decide), hI26 217 (by unfold rkI; decide)]) (by rw [← hI43, hc_u_row _ _ _ _ (by decide), hI26 226 (by unfold rkI; decide)]) (hL26 225 (by unfold rkJ; decide))
        have hR2 : MR I43 (sA S) := by
          unfold MR
          rw [← hI43, hc_u_row _ _ _ _ (by decide), hI26 224 (by unfold rkI; decide)]
          exact hW.2.2.1
        refine LW_aloadn 0 dX11_without_46 rfl rfl ?_
        refine LW_callV (As := []) (b := 217) (st := []) (ci := 11) (r := (RX11, TX11, 44)) (r_reckons hM2 hP2 hR2 hB) YX11_reckons rfl dX11_without_47 mlX11_432 (hY.lt (k := 217) (by decide)) (ly217 hY) ⟨rfl, rfl⟩ (by decide) ⟨Nat.le_of_ble_eq_true rfl, Nat.le_of_ble_eq_true rfl⟩ (Nat.le_of_ble_eq_true rfl) rfl (fun r47 Λc47 Ic47 Lc47 Rc47 hq47 => ?_)
        obtain ⟨rfl, rfl, hI47, hL47, hR47, hG47, hT47, hA47⟩ := hq47
        obtain rfl : R = Rc47 := hR47
        refine LW_aloadn 0 dX11_without_50 rfl rfl ?_
        refine LW_iconst (v := -1) dX11_without_51 (by decide) ?_
        refine pX11_35 dX11_without_52 flX11_53 (hY.lt (k := 217) (by decide)) (ly217 hY) ?_
        generalize hI52 : hc_u Ic47 217 35 (-1) = I52
        refine LW_aloadn 0 dX11_without_55 rfl rfl ?_
        refine gX11_40 dX11_without_56 flX11_69 (hY.lt (k := 217) (by decide)) (ly217 hY) (lf217_40 hY) ?_
        refine LW_bipush (v := 6) dX11_without_59 (by decide) ?_
        refine LW_iloadn 1 dX11_without_61 rfl rfl ?_
        refine LW_imul dX11_without_62 ?_
        rw [show (6 * (nI k)) = nI (6 * k) from (nI_mul 6 k)]
        refine LW_iconst (v := 5) dX11_without_63 (by decide) ?_
        refine LW_iadd dX11_without_64 ?_
        rw [show ((nI (6 * k)) + 5) = nI (6 * k + 5) from (nI_add _ _)]
        refine LW_lald dX11_without_65 (hY.lt (k := 234) (by decide)) (ly234 hY) rfl (by omega) (Nat.le_of_ble_eq_true rfl) ?_
        rw [show Lc47 234 (6 * k + 5) = kR (sA S) (sP S) (prX (sA S) y) 5 k from hG47 k (by omega) 5 (by omega)]
        refine LW_lloadn 3 dX11_without_66 rfl rfl ?_
        refine LW_lsub dX11_without_67 ?_
        refine LW_lret dX11_without_68 rfl (Nat.le_of_ble_eq_true rfl) (Nat.le_of_ble_eq_true rfl) ?_
        refine MPost.q hW (fun z hz => ?_) (fun z hz => by rw [hL47 z (by unfold rkJ; omega), hL26 z (by unfold rkJ; omega)]) (by
          unfold qWithout
          rw [if_pos ⟨c18, c5, c13⟩, hc_cl (by omega)])
        rw [← hI52]
        funext j
        by_cases c : z = 217
        · rw [c, hc_u_at]
          by_cases d : j = 35
          · rw [if_pos d, d, hM.aw]
          · rw [if_neg d, hI47 217 (by unfold rkI; decide), ← hI43, hc_u_at, if_neg d, hI26 217 (by unfold rkI; decide)]
        · rw [hc_u_row _ _ _ _ c, hI47 z (by unfold rkI; omega), ← hI43, hc_u_row _ _ _ _ c, hI26 z (by unfold rkI; omega)]
      · refine LW_ldc2 dX11_without_21 klX11_439 ?_
        refine LW_lret dX11_without_24 rfl (Nat.le_of_ble_eq_true rfl) (Nat.le_of_ble_eq_true rfl) ?_
        refine MPost.r hW ?_
        unfold qWithout
        first | (rw [if_neg (fun z => z.1 (Classical.not_not.mp c18))]; done) | (rw [if_neg (fun z => by rw [z.2.2] at c13; cases c13)]; done) | (rw [if_neg (fun z => by rw [z.2.1] at c5; cases c5)]; done)
set_option maxRecDepth 100000 in
theorem m_reserve {Λ : hc_L} {I : hc_I} {L : hc_J} {R : hc_R} {S : HS} (hW : MW Λ I L S)  : Run xX11_reserve [.ref 217] Λ I L R (MPost (some (.long (qReserve (sA S) (sP S)))) S Λ I L R) := by
  refine Run.of (by decide +kernel) (Nat.le_of_ble_eq_true rfl) ?_
  show LW _ _ _ [(0, .ref 217)] _ _ _ _ _ _
  have hM := hW.m
  have hP := hW.l
  have hY := hM.y
  refine LW_aloadn 0 dX11_reserve_0 rfl rfl ?_
  refine LW_callV (As := []) (b := 217) (st := []) (ci := 11) (r := (RX11, TX11, 44)) (r_mMembersThere hM) YX11_membersThere rfl dX11_reserve_1 mlX11_429 (hY.lt (k := 217) (by decide)) (ly217 hY) ⟨rfl, rfl⟩ (by decide) ⟨Nat.le_of_ble_eq_true rfl, Nat.le_of_ble_eq_true rfl⟩ (Nat.le_of_ble_eq_true rfl) rfl (fun r1 Λc1 Ic1 Lc1 Rc1 hq1 => ?_)
  rw [mMt_eq hM.w] at hq1
  obtain ⟨rfl, rfl, rfl, rfl, rfl⟩ := hq1
  refine LW_if_ne (tgt := 11) dX11_reserve_4 (by decide) (fun c4 => ?_) (fun c4 => ?_)
  · refine LW_aloadn 0 dX11_reserve_11 rfl rfl ?_
    refine LW_callV (As := []) (b := 217) (st := []) (ci := 11) (r := (RX11, TX11, 44)) (r_laysMembers hM hP hW.2.2.1) YX11_laysMembers rfl dX11_reserve_12 mlX11_407 (hY.lt (k := 217) (by decide)) (ly217 hY) ⟨rfl, rfl⟩ (by decide) ⟨Nat.le_of_ble_eq_true rfl, Nat.le_of_ble_eq_true rfl⟩ (Nat.le_of_ble_eq_true rfl) rfl (fun r12 Λc12 Ic12 Lc12 Rc12 hq12 => ?_)
    obtain ⟨rfl, rfl, hI12, hL12, hR12, g1, g2, g3, g4⟩ := hq12
    obtain rfl : R = Rc12 := hR12
    refine LW_lconst (v := 0) dX11_reserve_15 (by decide) ?_
    refine LW_aloadn 0 dX11_reserve_16 rfl rfl ?_
    refine gX11_42 dX11_reserve_17 flX11_75 (hY.lt (k := 217) (by decide)) (ly217 hY) (lf217_42 hY) ?_
    refine LW_iconst (v := 2) dX11_reserve_20 (by decide) ?_
    refine LW_lald dX11_reserve_21 (hY.lt (k := 236) (by decide)) (ly236 hY) rfl (by decide) (Nat.le_of_ble_eq_true rfl) ?_
    rw [show Lc12 236 2 = kT (sA S) (sP S) (prX (sA S) (-1)) 2 from (g4 2 (by decide))]
    refine LW_aloadn 0 dX11_reserve_22 rfl rfl ?_
    refine gX11_42 dX11_reserve_23 flX11_75 (hY.lt (k := 217) (by decide)) (ly217 hY) (lf217_42 hY) ?_
    refine LW_iconst (v := 3) dX11_reserve_26 (by decide) ?_
    refine LW_lald dX11_reserve_27 (hY.lt (k := 236) (by decide)) (ly236 hY) rfl (by decide) (Nat.le_of_ble_eq_true rfl) ?_
    rw [show Lc12 236 3 = kT (sA S) (sP S) (prX (sA S) (-1)) 3 from (g4 3 (by decide))]
    refine LW_lsub dX11_reserve_28 ?_
    refine LW_lmax dX11_reserve_29 mlX11_313 (by decide) ⟨Nat.le_refl _, Nat.le_refl _⟩ (Nat.le_of_ble_eq_true rfl) ?_
    rw [show (if ((kT (sA S) (sP S) (prX (sA S) (-1)) 2) - (kT (sA S) (sP S) (prX (sA S) (-1)) 3)) < 0 then 0 else ((kT (sA S) (sP S) (prX (sA S) (-1)) 2) - (kT (sA S) (sP S) (prX (sA S) (-1)) 3))) = (if kT (sA S) (sP S) (prX (sA S) (-1)) 2 - kT (sA S) (sP S) (prX (sA S) (-1)) 3 < 0 then 0 else kT (sA S) (sP S) (prX (sA S) (-1)) 2 - kT (sA S) (sP S) (prX (sA S) (-1)) 3) from rfl]
    refine LW_lstoren (ls' := [(0, .ref 217), (1, .long (if kT (sA S) (sP S) (prX (sA S) (-1)) 2 - kT (sA S) (sP S) (prX (sA S) (-1)) 3 < 0 then 0 else kT (sA S) (sP S) (prX (sA S) (-1)) 2 - kT (sA S) (sP S) (prX (sA S) (-1)) 3))]) dX11_reserve_32 rfl (by decide) rfl ?_
    refine LW_ldc2 dX11_reserve_33 klX11_417 ?_
    refine LW_lloadn 1 dX11_reserve_36 rfl rfl ?_
    refine LW_lmul dX11_reserve_37 ?_
    rw [show (2 * (if kT (sA S) (sP S) (prX (sA S) (-1)) 2 - kT (sA S) (sP S) (prX (sA S) (-1)) 3 < 0 then 0 else kT (sA S) (sP S) (prX (sA S) (-1)) 2 - kT (sA S) (sP S) (prX (sA S) (-1)) 3)) = rsV (sA S) (sP S) from rfl]
    refine LW_ldc2 dX11_reserve_38 klX11_446 ?_
    refine LW_lcmp dX11_reserve_41 ?_
    refine LW_lif_le (tgt := 51) dX11_reserve_42 (by decide) (fun c42 => ?_) (fun c42 => ?_)
    · refine LW_ldc2 dX11_reserve_51 klX11_417 ?_
      refine LW_lloadn 1 dX11_reserve_54 rfl rfl ?_
      refine LW_lmul dX11_reserve_55 ?_
      rw [show (2 * (if kT (sA S) (sP S) (prX (sA S) (-1)) 2 - kT (sA S) (sP S) (prX (sA S) (-1)) 3 < 0 then 0 else kT (sA S) (sP S) (prX (sA S) (-1)) 2 - kT (sA S) (sP S) (prX (sA S) (-1)) 3)) = rsV (sA S) (sP S) from rfl]
      refine LW_lret dX11_reserve_56 rfl (Nat.le_of_ble_eq_true rfl) (Nat.le_of_ble_eq_true rfl) ?_
      exact MPost.q hW (fun z hz => hI12 z (by omega)) (fun z hz => hL12 z (by unfold yJ mJ; omega)) (by unfold qReserve; rw [if_neg c4, if_pos c42])
    · refine LW_ldc2 dX11_reserve_45 klX11_402 ?_
      refine LW_goto (tgt := 56) dX11_reserve_48 (by decide) ?_
      refine LW_lret dX11_reserve_56 rfl (Nat.le_of_ble_eq_true rfl) (Nat.le_of_ble_eq_true rfl) ?_
      exact MPost.q hW (fun z hz => hI12 z (by omega)) (fun z hz => hL12 z (by unfold yJ mJ; omega)) (by unfold qReserve; rw [if_neg c4, if_neg c42])
  · refine LW_ldc2 dX11_reserve_7 klX11_402 ?_
    refine LW_lret dX11_reserve_10 rfl (Nat.le_of_ble_eq_true rfl) (Nat.le_of_ble_eq_true rfl) ?_
    exact MPost.r hW (by unfold qReserve; rw [if_pos (Classical.not_not.mp c4)])
