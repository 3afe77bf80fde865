/-! the reference: paid, claims, losses -/
theorem lpQ_0 (a b c d : Int64) : lpQ a b c d 0 = a := rfl
theorem lpQ_1 (a b c d : Int64) : lpQ a b c d 1 = b := rfl
theorem lpQ_2 (a b c d : Int64) : lpQ a b c d 2 = c := rfl
theorem lpQ_3 (a b c d : Int64) : lpQ a b c d 3 = d := rfl
theorem aPaid_n {A : AS} {P : LwP} {f t : Nat} (h : ¬ P.1 = 0) (ht : t < 2 ^ 31) (hy : aYs A (aFd A f 0) < 2 ^ 31) : aPaid A P f t = (if (if lpVal P (lpQ (lN t) (nI (aHzAt A (aFd A f 1) (aFd A f 2))).toInt64 (lN (aYs A (aFd A f 0))) (nI (aFd A f 3)).toInt64) < lN t then lpVal P (lpQ (lN t) (nI (aHzAt A (aFd A f 1) (aFd A f 2))).toInt64 (lN (aYs A (aFd A f 0))) (nI (aFd A f 3)).toInt64) else lN t) < 0 then 0 else (if lpVal P (lpQ (lN t) (nI (aHzAt A (aFd A f 1) (aFd A f 2))).toInt64 (lN (aYs A (aFd A f 0))) (nI (aFd A f 3)).toInt64) < lN t then lpVal P (lpQ (lN t) (nI (aHzAt A (aFd A f 1) (aFd A f 2))).toInt64 (lN (aYs A (aFd A f 0))) (nI (aFd A f 3)).toInt64) else lN t)) := by
  unfold aPaid
  rw [if_neg h, nI_l ht, nI_l hy]
set_option maxRecDepth 100000 in
theorem r_mPaidBy {Λ : hc_L} {I : hc_I} {L : hc_J} {R : hc_R} {A : AS} {w : Int32} (hM : MC Λ I L A w) {P : LwP} (hP : ML I L P) {f t : Nat} (hf : f < aF A) (ht : t ≤ 100) : Run xX11_paidBy [.ref 217, .int (nI f), .long (lN t)] Λ I L R (Qj mJ (some (.long (aPaid A P f t))) Λ I L R) := by
  refine Run.of (by decide +kernel) (Nat.le_of_ble_eq_true rfl) ?_
  show LW _ _ _ [(0, .ref 217), (1, .int (nI f)), (2, .long (lN t))] _ _ _ _ _ _
  have hY := hM.y
  have hw := hM.w.2.2.2.2.2.2.2.1 f hf
  have hm12 := hM.w.m
  have hf24 := hM.w.f
  have hhz := hM.w.2.2.2.2.1 (aFd A f 2 * 8 + aFd A f 1) (by omega)
  have hn7 := hP.1.1
  refine LW_aloadn 0 dX11_paidBy_0 rfl rfl ?_
  refine gX11_10 dX11_paidBy_1 flX11_116 (hY.lt (k := 217) (by decide)) (ly217 hY) ?_
  rw [show I 217 10 = nI P.1 from hP.2.1]
  refine LW_if_ne (tgt := 21) dX11_paidBy_4 (by decide) (fun c4 => ?_) (fun c4 => ?_)
  · refine LW_aloadn 0 dX11_paidBy_21 rfl rfl ?_
    refine gX11_34 dX11_paidBy_22 flX11_50 (hY.lt (k := 217) (by decide)) (ly217 hY) (lf217_34 hY) ?_
    refine LW_iconst (v := 0) dX11_paidBy_25 (by decide) ?_
    refine LW_lloadn 2 dX11_paidBy_26 rfl rfl ?_
    refine LW_last dX11_paidBy_27 (hY.lt (k := 229) (by decide)) (ly229 hY) rfl (by decide) (Nat.le_of_ble_eq_true rfl) ?_
    generalize hL27 : hc_u L 229 0 (lN t) = L27
    refine LW_aloadn 0 dX11_paidBy_28 rfl rfl ?_
    refine gX11_34 dX11_paidBy_29 flX11_50 (hY.lt (k := 217) (by decide)) (ly217 hY) (lf217_34 hY) ?_
    refine LW_iconst (v := 1) dX11_paidBy_32 (by decide) ?_
    refine LW_aloadn 0 dX11_paidBy_33 rfl rfl ?_
    refine LW_iloadn 1 dX11_paidBy_34 rfl rfl ?_
    refine LW_callV (As := [.int (nI f)]) (b := 217) (st := [.int 1, .ref 229]) (ci := 11) (r := (RX11, TX11, 44)) (r_mHazardOf (hM.kp (L' := L27) (by rw [← hL27, hc_u_row _ _ _ _ (by decide)]) rfl rfl rfl rfl) hf) YX11_hazardOf rfl dX11_paidBy_35 mlX11_341 (hY.lt (k := 217) (by decide)) (ly217 hY) ⟨rfl, rfl⟩ (by decide) ⟨Nat.le_of_ble_eq_true rfl, Nat.le_of_ble_eq_true rfl⟩ (Nat.le_of_ble_eq_true rfl) rfl (fun r35 Λc35 Ic35 Lc35 Rc35 hq35 => ?_)
    obtain ⟨rfl, rfl, rfl, rfl, rfl⟩ := hq35
    refine LW_i2l dX11_paidBy_38 ?_
    refine LW_last dX11_paidBy_39 (hY.lt (k := 229) (by decide)) (ly229 hY) rfl (by decide) (Nat.le_of_ble_eq_true rfl) ?_
    generalize hL39 : hc_u L27 229 1 ((nI (aHzAt A (aFd A f 1) (aFd A f 2))).toInt64) = L39
    have e39 : L39 218 = L 218 := by rw [← hL39, hc_u_row _ _ _ _ (by decide), ← hL27, hc_u_row _ _ _ _ (by decide)]
    refine LW_aloadn 0 dX11_paidBy_40 rfl rfl ?_
    refine gX11_34 dX11_paidBy_41 flX11_50 (hY.lt (k := 217) (by decide)) (ly217 hY) (lf217_34 hY) ?_
    refine LW_iconst (v := 2) dX11_paidBy_44 (by decide) ?_
    refine LW_aloadn 0 dX11_paidBy_45 rfl rfl ?_
    refine gX11_0 dX11_paidBy_46 flX11_9 (hY.lt (k := 217) (by decide)) (ly217 hY) (lf217_0 hY) ?_
    refine LW_bipush (v := 34) dX11_paidBy_49 (by decide) ?_
    refine LW_aloadn 0 dX11_paidBy_51 rfl rfl ?_
    refine LW_iloadn 1 dX11_paidBy_52 rfl rfl ?_
    refine LW_iconst (v := 0) dX11_paidBy_53 (by decide) ?_
    refine LW_callV (As := [.int (nI f), .int 0]) (b := 217) (st := [.int 34, .ref 218, .int 2, .ref 229]) (ci := 11) (r := (RX11, TX11, 44)) (r_mOf (hM.kp (L' := L39) e39 rfl rfl rfl rfl) hf (a := 0) (by decide)) YX11_of rfl dX11_paidBy_54 mlX11_334 (hY.lt (k := 217) (by decide)) (ly217 hY) ⟨rfl, rfl⟩ (by decide) ⟨Nat.le_of_ble_eq_true rfl, Nat.le_of_ble_eq_true rfl⟩ (Nat.le_of_ble_eq_true rfl) rfl (fun r54 Λc54 Ic54 Lc54 Rc54 hq54 => ?_)
    obtain ⟨rfl, rfl, rfl, rfl, rfl⟩ := hq54
    refine LW_iadd dX11_paidBy_57 ?_
    rw [show (34 + (nI (aFd A f 0))) = nI (34 + aFd A f 0) from (nI_add 34 _)]
    refine LW_lald dX11_paidBy_58 (hY.lt (k := 218) (by decide)) (ly218 hY) rfl (by omega) (Nat.le_of_ble_eq_true rfl) ?_
    rw [show L39 218 (34 + aFd A f 0) = lN (aYs A (aFd A f 0)) from (by rw [e39]; exact hM.ys hw.1)]
    refine LW_last dX11_paidBy_59 (hY.lt (k := 229) (by decide)) (ly229 hY) rfl (by decide) (Nat.le_of_ble_eq_true rfl) ?_
    generalize hL59 : hc_u L39 229 2 (lN (aYs A (aFd A f 0))) = L59
    have e59 : L59 218 = L 218 := by rw [← hL59, hc_u_row _ _ _ _ (by decide)]; exact e39
    refine LW_aloadn 0 dX11_paidBy_60 rfl rfl ?_
    refine gX11_34 dX11_paidBy_61 flX11_50 (hY.lt (k := 217) (by decide)) (ly217 hY) (lf217_34 hY) ?_
    refine LW_iconst (v := 3) dX11_paidBy_64 (by decide) ?_
    refine LW_aloadn 0 dX11_paidBy_65 rfl rfl ?_
    refine LW_iloadn 1 dX11_paidBy_66 rfl rfl ?_
    refine LW_iconst (v := 3) dX11_paidBy_67 (by decide) ?_
    refine LW_callV (As := [.int (nI f), .int 3]) (b := 217) (st := [.int 3, .ref 229]) (ci := 11) (r := (RX11, TX11, 44)) (r_mOf (hM.kp (L' := L59) e59 rfl rfl rfl rfl) hf (a := 3) (by decide)) YX11_of rfl dX11_paidBy_68 mlX11_334 (hY.lt (k := 217) (by decide)) (ly217 hY) ⟨rfl, rfl⟩ (by decide) ⟨Nat.le_of_ble_eq_true rfl, Nat.le_of_ble_eq_true rfl⟩ (Nat.le_of_ble_eq_true rfl) rfl (fun r68 Λc68 Ic68 Lc68 Rc68 hq68 => ?_)
    obtain ⟨rfl, rfl, rfl, rfl, rfl⟩ := hq68
    refine LW_i2l dX11_paidBy_71 ?_
    refine LW_last dX11_paidBy_72 (hY.lt (k := 229) (by decide)) (ly229 hY) rfl (by decide) (Nat.le_of_ble_eq_true rfl) ?_
    generalize hL72 : hc_u L59 229 3 ((nI (aFd A f 3)).toInt64) = L72
    have eL : ∀ z, z ≠ 229 → L72 z = L z := fun z hz => by rw [← hL72, hc_u_row _ _ _ _ hz, ← hL59, hc_u_row _ _ _ _ hz, ← hL39, hc_u_row _ _ _ _ hz, ← hL27, hc_u_row _ _ _ _ hz]
    have hP2 : ML I L72 P := hP.kp rfl rfl (eL _ (by decide))
    have hn : 0 < P.1 := by
      rcases Nat.eq_zero_or_pos P.1 with z | z
      · exact absurd (by rw [z]; rfl) c4
      · exact z
    have hq : ∀ v, v < 4 → L72 229 v = lpQ (lN t) (nI (aHzAt A (aFd A f 1) (aFd A f 2))).toInt64 (lN (aYs A (aFd A f 0))) (nI (aFd A f 3)).toInt64 v := fun v hv => by
      rw [← hL72, hc_u_at, ← hL59, hc_u_at, ← hL39, hc_u_at, ← hL27, hc_u_at]
      rcases (show v = 0 ∨ v = 1 ∨ v = 2 ∨ v = 3 by omega) with rfl | rfl | rfl | rfl
      · rw [if_neg (by decide), if_neg (by decide), if_neg (by decide), if_pos rfl, lpQ_0]
      · rw [if_neg (by decide), if_neg (by decide), if_pos rfl, lpQ_1]
      · rw [if_neg (by decide), if_pos rfl, lpQ_2]
      · rw [if_pos rfl, lpQ_3]
    refine LW_lconst (v := 0) dX11_paidBy_73 (by decide) ?_
    refine LW_lloadn 2 dX11_paidBy_74 rfl rfl ?_
    refine LW_aloadn 0 dX11_paidBy_75 rfl rfl ?_
    refine LW_callV (As := []) (b := 217) (st := [.long (lN t), .long 0]) (ci := 11) (r := (RX11, TX11, 44)) (r_lawTells hY hP2 hn hq) YX11_lawTells rfl dX11_paidBy_76 mlX11_360 (hY.lt (k := 217) (by decide)) (ly217 hY) ⟨rfl, rfl⟩ (by decide) ⟨Nat.le_of_ble_eq_true rfl, Nat.le_of_ble_eq_true rfl⟩ (Nat.le_of_ble_eq_true rfl) rfl (fun r76 Λc76 Ic76 Lc76 Rc76 hq76 => ?_)
    obtain ⟨rfl, rfl, rfl, hL76, hR76⟩ := hq76
    obtain rfl : R = Rc76 := hR76
    refine LW_lmin dX11_paidBy_79 mlX11_308 (by decide) ⟨Nat.le_refl _, Nat.le_refl _⟩ (Nat.le_of_ble_eq_true rfl) ?_
    refine LW_lmax dX11_paidBy_82 mlX11_313 (by decide) ⟨Nat.le_refl _, Nat.le_refl _⟩ (Nat.le_of_ble_eq_true rfl) ?_
    refine LW_lret dX11_paidBy_85 rfl (Nat.le_of_ble_eq_true rfl) (Nat.le_of_ble_eq_true rfl) ?_
    refine ⟨?_, rfl, rfl, fun z hz => ?_, rfl⟩
    · have hys := hM.w.2.2.2.2.2.2.1 _ hw.1
      rw [aPaid_n (show ¬ P.1 = 0 by omega) (show t < 2 ^ 31 by omega) (show aYs A (aFd A f 0) < 2 ^ 31 by omega)]
    · rw [hL76 z (fun q => hz (Or.inl q)), eL z (fun q => hz (Or.inr q))]
  · refine LW_lloadn 2 dX11_paidBy_7 rfl rfl ?_
    refine LW_ldc2 dX11_paidBy_8 klX11_358 ?_
    refine LW_lcmp dX11_paidBy_11 ?_
    refine LW_lif_ge (tgt := 19) dX11_paidBy_12 (by decide) (fun c12 => ?_) (fun c12 => ?_)
    · refine LW_lloadn 2 dX11_paidBy_19 rfl rfl ?_
      refine LW_lret dX11_paidBy_20 rfl (Nat.le_of_ble_eq_true rfl) (Nat.le_of_ble_eq_true rfl) ?_
      have hP0 : P.1 = 0 := (hc_eq (a := P.1) (b := 0) (by omega) (by omega)).mp (Classical.not_not.mp c4)
      refine ⟨?_, rfl, rfl, fun _ _ => rfl, rfl⟩
      unfold aPaid
      have h8 := (lN_le (a := 8) (b := t) (by decide) (by omega)).mp c12
      rw [if_pos hP0, if_neg (show ¬ t < 8 by omega), nI_l (by omega)]
    · refine LW_lconst (v := 0) dX11_paidBy_15 (by decide) ?_
      refine LW_goto (tgt := 20) dX11_paidBy_16 (by decide) ?_
      refine LW_lret dX11_paidBy_20 rfl (Nat.le_of_ble_eq_true rfl) (Nat.le_of_ble_eq_true rfl) ?_
      have hP0 : P.1 = 0 := (hc_eq (a := P.1) (b := 0) (by omega) (by omega)).mp (Classical.not_not.mp c4)
      refine ⟨?_, rfl, rfl, fun _ _ => rfl, rfl⟩
      unfold aPaid
      rw [if_pos hP0, if_pos (show t < 8 from Nat.lt_of_not_le (fun z => c12 ((lN_le (a := 8) (b := t) (by decide) (by omega)).mpr z)))]
set_option maxRecDepth 100000 in
theorem r_mClaimBy {Λ : hc_L} {I : hc_I} {L : hc_J} {R : hc_R} {A : AS} {w : Int32} (hM : MC Λ I L A w) {P : LwP} (hP : ML I L P) {f t : Nat} (hf : f < aF A) (ht : t ≤ 100) : Run xX11_claimBy [.ref 217, .int (nI f), .long (lN t)] Λ I L R (Qj mJ (some (.long (aClaim A P f t))) Λ I L R) := by
  refine Run.of (by decide +kernel) (Nat.le_of_ble_eq_true rfl) ?_
  show LW _ _ _ [(0, .ref 217), (1, .int (nI f)), (2, .long (lN t))] _ _ _ _ _ _
  have hY := hM.y
  refine LW_aloadn 0 dX11_claimBy_0 rfl rfl ?_
  refine LW_iloadn 1 dX11_claimBy_1 rfl rfl ?_
  refine LW_callV (As := [.int (nI f)]) (b := 217) (st := []) (ci := 11) (r := (RX11, TX11, 44)) (r_mSumOf hM hf) YX11_sumOf rfl dX11_claimBy_2 mlX11_338 (hY.lt (k := 217) (by decide)) (ly217 hY) ⟨rfl, rfl⟩ (by decide) ⟨Nat.le_of_ble_eq_true rfl, Nat.le_of_ble_eq_true rfl⟩ (Nat.le_of_ble_eq_true rfl) rfl (fun r2 Λc2 Ic2 Lc2 Rc2 hq2 => ?_)
  obtain ⟨rfl, rfl, rfl, rfl, rfl⟩ := hq2
  refine LW_aloadn 0 dX11_claimBy_5 rfl rfl ?_
  refine LW_iloadn 1 dX11_claimBy_6 rfl rfl ?_
  refine LW_lloadn 2 dX11_claimBy_7 rfl rfl ?_
  refine LW_callV (As := [.int (nI f), .long (lN t)]) (b := 217) (st := [.long (aCo A f)]) (ci := 11) (r := (RX11, TX11, 44)) (r_mPaidBy hM hP hf ht) YX11_paidBy rfl dX11_claimBy_8 mlX11_363 (hY.lt (k := 217) (by decide)) (ly217 hY) ⟨rfl, rfl⟩ (by decide) ⟨Nat.le_of_ble_eq_true rfl, Nat.le_of_ble_eq_true rfl⟩ (Nat.le_of_ble_eq_true rfl) rfl (fun r8 Λc8 Ic8 Lc8 Rc8 hq8 => ?_)
  obtain ⟨rfl, rfl, rfl, hL8, hR8⟩ := hq8
  obtain rfl : R = Rc8 := hR8
  refine LW_lmul dX11_claimBy_11 ?_
  refine LW_ldc2 dX11_claimBy_12 klX11_352 ?_
  refine LW_ldiv dX11_claimBy_15 (by decide) ?_
  refine LW_lret dX11_claimBy_16 rfl (Nat.le_of_ble_eq_true rfl) (Nat.le_of_ble_eq_true rfl) ?_
  exact ⟨rfl, rfl, rfl, hL8, rfl⟩

set_option maxRecDepth 100000 in
theorem r_mClaimsOf {Λ : hc_L} {I : hc_I} {L : hc_J} {R : hc_R} {A : AS} {w : Int32} (hM : MC Λ I L A w) {P : LwP} (hP : ML I L P) {k : Nat} (hk : k < aM A) : Run xX11_claimsOf [.ref 217, .int (nI k)] Λ I L R (Qj mJ (some (.long (gC A P (prX A w) k))) Λ I L R) := by
  refine Run.of (by decide +kernel) (Nat.le_of_ble_eq_true rfl) ?_
  show LW _ _ _ [(0, .ref 217), (1, .int (nI k))] _ _ _ _ _ _
  have hY := hM.y
  have hf24 := hM.w.f
  have hm12 := hM.w.m
  by_cases hp : prX A w k = true
  · have hki := prX_is hp
    have loop : ∀ i, i ≤ aF A → ∀ (L1 : hc_J), (∀ z, ¬ mJ z → L1 z = L z) → LW xX11_claimsOf (0, 0) 5 [(0, .ref 217), (1, .int (nI k)), (2, .long (abClaims A P k i)), (4, .int (nI i))] [] Λ I L1 R (Qj mJ (some (.long (gC A P (prX A w) k))) Λ I L R) := by
      refine hc_down ?_ ?_
      · intro L1 hL1
        have hM1 : MC Λ I L1 A w := hM.kp (hL1 _ (by unfold mJ; decide)) rfl rfl rfl rfl
        have hP1 : ML I L1 P := hP.kp rfl rfl (hL1 _ (by unfold mJ; decide))
        refine LW_iload 3 dX11_claimsOf_5 rfl ?_
        refine LW_i2l dX11_claimsOf_7 ?_
        rw [show (nI (aF A)).toInt64 = lN (aF A) from (nI_l (by omega))]
        refine LW_aloadn 0 dX11_claimsOf_8 rfl rfl ?_
        refine gX11_0 dX11_claimsOf_9 flX11_9 (hY.lt (k := 217) (by decide)) (ly217 hY) (lf217_0 hY) ?_
        refine LW_bipush (v := 6) dX11_claimsOf_12 (by decide) ?_
        refine LW_lald dX11_claimsOf_14 (hY.lt (k := 218) (by decide)) (ly218 hY) rfl (by decide) (Nat.le_of_ble_eq_true rfl) ?_
        rw [show L1 218 6 = lN (aF A) from hM1.nF]
        refine LW_lcmp dX11_claimsOf_15 ?_
        refine LW_lif_ge (tgt := 63) dX11_claimsOf_16 (by decide) (fun c16 => ?_) (fun c16 => absurd (Int64.le_refl _) c16)
        refine LW_lloadn 2 dX11_claimsOf_63 rfl rfl ?_
        refine LW_lret dX11_claimsOf_64 rfl (Nat.le_of_ble_eq_true rfl) (Nat.le_of_ble_eq_true rfl) ?_
        refine ⟨?_, rfl, rfl, hL1, rfl⟩
        unfold gC
        rw [if_pos hp]
      · intro i hi ih L1 hL1
        have hM1 : MC Λ I L1 A w := hM.kp (hL1 _ (by unfold mJ; decide)) rfl rfl rfl rfl
        have hP1 : ML I L1 P := hP.kp rfl rfl (hL1 _ (by unfold mJ; decide))
        refine LW_iload 3 dX11_claimsOf_5 rfl ?_
        refine LW_i2l dX11_claimsOf_7 ?_
        rw [show (nI i).toInt64 = lN i from (nI_l (by omega))]
        refine LW_aloadn 0 dX11_claimsOf_8 rfl rfl ?_
        refine gX11_0 dX11_claimsOf_9 flX11_9 (hY.lt (k := 217) (by decide)) (ly217 hY) (lf217_0 hY) ?_
        refine LW_bipush (v := 6) dX11_claimsOf_12 (by decide) ?_
        refine LW_lald dX11_claimsOf_14 (hY.lt (k := 218) (by decide)) (ly218 hY) rfl (by decide) (Nat.le_of_ble_eq_true rfl) ?_
        rw [show L1 218 6 = lN (aF A) from hM1.nF]
        refine LW_lcmp dX11_claimsOf_15 ?_
        refine LW_lif_ge (tgt := 63) dX11_claimsOf_16 (by decide) (fun c16 => absurd c16 (lN_nle (by omega) (by omega) hi)) (fun c16 => ?_)
        refine LW_aloadn 0 dX11_claimsOf_19 rfl rfl ?_
        refine LW_iloadn 1 dX11_claimsOf_20 rfl rfl ?_
        refine LW_callV (As := [.int (nI k)]) (b := 217) (st := []) (ci := 11) (r := (RX11, TX11, 44)) (r_mIsThere hM1 (k := k) hk) YX11_isThere rfl dX11_claimsOf_21 mlX11_331 (hY.lt (k := 217) (by decide)) (ly217 hY) ⟨rfl, rfl⟩ (by decide) ⟨Nat.le_of_ble_eq_true rfl, Nat.le_of_ble_eq_true rfl⟩ (Nat.le_of_ble_eq_true rfl) rfl (fun r21 Λc21 Ic21 Lc21 Rc21 hq21 => ?_)
        obtain ⟨rfl, rfl, rfl, rfl, rfl⟩ := hq21
        refine LW_bif_eq (tgt := 63) dX11_claimsOf_24 (by decide) (fun c24 => absurd (c24.symm.trans hp) (by decide)) (fun c24 => ?_)
        refine LW_lloadn 2 dX11_claimsOf_27 rfl rfl ?_
        refine LW_aloadn 0 dX11_claimsOf_28 rfl rfl ?_
        refine LW_iload 3 dX11_claimsOf_29 rfl ?_
        refine LW_iconst (v := 0) dX11_claimsOf_31 (by decide) ?_
        refine LW_callV (As := [.int (nI i), .int 0]) (b := 217) (st := [.long (abClaims A P k i)]) (ci := 11) (r := (RX11, TX11, 44)) (r_mOf hM1 (f := i) (a := 0) hi (by decide)) YX11_of rfl dX11_claimsOf_32 mlX11_334 (hY.lt (k := 217) (by decide)) (ly217 hY) ⟨rfl, rfl⟩ (by decide) ⟨Nat.le_of_ble_eq_true rfl, Nat.le_of_ble_eq_true rfl⟩ (Nat.le_of_ble_eq_true rfl) rfl (fun r32 Λc32 Ic32 Lc32 Rc32 hq32 => ?_)
        obtain ⟨rfl, rfl, rfl, rfl, rfl⟩ := hq32
        refine LW_iloadn 1 dX11_claimsOf_35 rfl rfl ?_
        refine LW_icmp_ne (tgt := 54) dX11_claimsOf_36 (by decide) (fun c36 => ?_) (fun c36 => ?_)
        · have hown : ¬ aFd A i 0 = k := fun z => c36 (by rw [z])
          refine LW_lconst (v := 0) dX11_claimsOf_54 (by decide) ?_
          refine LW_ladd dX11_claimsOf_55 ?_
          refine LW_lstoren (ls' := [(0, .ref 217), (1, .int (nI k)), (2, .long ((abClaims A P k i) + 0)), (4, .int (nI i))]) dX11_claimsOf_56 rfl (by decide) rfl ?_
          refine LW_iinc (n := 3) (v := nI (i + 1)) (ls' := [(0, .ref 217), (1, .int (nI k)), (2, .long ((abClaims A P k i) + 0)), (4, .int (nI (i + 1)))]) dX11_claimsOf_57 rfl (hc_inc _) (by decide) rfl ?_
          refine LW_goto (tgt := 5) dX11_claimsOf_60 (by decide) ?_
          have e : abClaims A P k (i + 1) = (abClaims A P k i) + 0 := by
            show abClaims A P k i + (if aSf A i k = true then aClaim A P i (aLost A i) else 0) = _
            rw [aSf_own hi hki, decide_eq_false hown]
            try rfl
          rw [e] at ih
          exact ih _ hL1
        · have hown : aFd A i 0 = k := (hc_eq (by have := (hM.w.2.2.2.2.2.2.2.1 i hi).1; omega) (by omega)).mp (Classical.not_not.mp c36)
          refine LW_aloadn 0 dX11_claimsOf_39 rfl rfl ?_
          refine LW_iload 3 dX11_claimsOf_40 rfl ?_
          refine LW_aloadn 0 dX11_claimsOf_42 rfl rfl ?_
          refine LW_iload 3 dX11_claimsOf_43 rfl ?_
          refine LW_callV (As := [.int (nI i)]) (b := 217) (st := [.int (nI i), .ref 217, .long (abClaims A P k i)]) (ci := 11) (r := (RX11, TX11, 44)) (r_mLostOf hM1 hi) YX11_lostOf rfl dX11_claimsOf_45 mlX11_367 (hY.lt (k := 217) (by decide)) (ly217 hY) ⟨rfl, rfl⟩ (by decide) ⟨Nat.le_of_ble_eq_true rfl, Nat.le_of_ble_eq_true rfl⟩ (Nat.le_of_ble_eq_true rfl) rfl (fun r45 Λc45 Ic45 Lc45 Rc45 hq45 => ?_)
          obtain ⟨rfl, rfl, rfl, rfl, rfl⟩ := hq45
          refine LW_callV (As := [.int (nI i), .long (lN (aLost A i))]) (b := 217) (st := [.long (abClaims A P k i)]) (ci := 11) (r := (RX11, TX11, 44)) (r_mClaimBy hM1 hP1 hi (aLost_le A i)) YX11_claimBy rfl dX11_claimsOf_48 mlX11_370 (hY.lt (k := 217) (by decide)) (ly217 hY) ⟨rfl, rfl⟩ (by decide) ⟨Nat.le_of_ble_eq_true rfl, Nat.le_of_ble_eq_true rfl⟩ (Nat.le_of_ble_eq_true rfl) rfl (fun r48 Λc48 Ic48 Lc48 Rc48 hq48 => ?_)
          obtain ⟨rfl, rfl, rfl, hL48, hR48⟩ := hq48
          obtain rfl : R = Rc48 := hR48
          refine LW_goto (tgt := 55) dX11_claimsOf_51 (by decide) ?_
          refine LW_ladd dX11_claimsOf_55 ?_
          refine LW_lstoren (ls' := [(0, .ref 217), (1, .int (nI k)), (2, .long ((abClaims A P k i) + (aClaim A P i (aLost A i)))), (4, .int (nI i))]) dX11_claimsOf_56 rfl (by decide) rfl ?_
          refine LW_iinc (n := 3) (v := nI (i + 1)) (ls' := [(0, .ref 217), (1, .int (nI k)), (2, .long ((abClaims A P k i) + (aClaim A P i (aLost A i)))), (4, .int (nI (i + 1)))]) dX11_claimsOf_57 rfl (hc_inc _) (by decide) rfl ?_
          refine LW_goto (tgt := 5) dX11_claimsOf_60 (by decide) ?_
          have e : abClaims A P k (i + 1) = (abClaims A P k i) + (aClaim A P i (aLost A i)) := by
            show abClaims A P k i + (if aSf A i k = true then aClaim A P i (aLost A i) else 0) = _
            rw [aSf_own hi hki, decide_eq_true hown]
            try rfl
          rw [e] at ih
          exact ih _ (fun z hz => by rw [hL48 z hz]; exact hL1 z hz)
    refine LW_lconst (v := 0) dX11_claimsOf_0 (by decide) ?_
    refine LW_lstoren (ls' := [(0, .ref 217), (1, .int (nI k)), (2, .long 0)]) dX11_claimsOf_1 rfl (by decide) rfl ?_
    refine LW_iconst (v := 0) dX11_claimsOf_2 (by decide) ?_
    refine LW_istore (ls' := [(0, .ref 217), (1, .int (nI k)), (2, .long 0), (4, .int 0)]) dX11_claimsOf_3 (by decide) rfl ?_
    exact loop 0 (Nat.zero_le _) L (fun _ _ => rfl)
  · refine LW_lconst (v := 0) dX11_claimsOf_0 (by decide) ?_
    refine LW_lstoren (ls' := [(0, .ref 217), (1, .int (nI k)), (2, .long 0)]) dX11_claimsOf_1 rfl (by decide) rfl ?_
    refine LW_iconst (v := 0) dX11_claimsOf_2 (by decide) ?_
    refine LW_istore (ls' := [(0, .ref 217), (1, .int (nI k)), (2, .long 0), (4, .int 0)]) dX11_claimsOf_3 (by decide) rfl ?_
    show LW _ _ _ [(0, .ref 217), (1, .int (nI k)), (2, .long 0), (4, .int (nI 0))] _ _ _ _ _ _
    refine LW_iload 3 dX11_claimsOf_5 rfl ?_
    refine LW_i2l dX11_claimsOf_7 ?_
    rw [show (nI 0).toInt64 = lN 0 from (nI_l (by decide))]
    refine LW_aloadn 0 dX11_claimsOf_8 rfl rfl ?_
    refine gX11_0 dX11_claimsOf_9 flX11_9 (hY.lt (k := 217) (by decide)) (ly217 hY) (lf217_0 hY) ?_
    refine LW_bipush (v := 6) dX11_claimsOf_12 (by decide) ?_
    refine LW_lald dX11_claimsOf_14 (hY.lt (k := 218) (by decide)) (ly218 hY) rfl (by decide) (Nat.le_of_ble_eq_true rfl) ?_
    rw [show L 218 6 = lN (aF A) from hM.nF]
    refine LW_lcmp dX11_claimsOf_15 ?_
    refine LW_lif_ge (tgt := 63) dX11_claimsOf_16 (by decide) (fun c16 => ?_) (fun c16 => ?_)
    · refine LW_lloadn 2 dX11_claimsOf_63 rfl rfl ?_
      refine LW_lret dX11_claimsOf_64 rfl (Nat.le_of_ble_eq_true rfl) (Nat.le_of_ble_eq_true rfl) ?_
      refine ⟨?_, rfl, rfl, fun _ _ => rfl, rfl⟩
      unfold gC
      rw [if_neg hp]
    · refine LW_aloadn 0 dX11_claimsOf_19 rfl rfl ?_
      refine LW_iloadn 1 dX11_claimsOf_20 rfl rfl ?_
      refine LW_callV (As := [.int (nI k)]) (b := 217) (st := []) (ci := 11) (r := (RX11, TX11, 44)) (r_mIsThere hM (k := k) hk) YX11_isThere rfl dX11_claimsOf_21 mlX11_331 (hY.lt (k := 217) (by decide)) (ly217 hY) ⟨rfl, rfl⟩ (by decide) ⟨Nat.le_of_ble_eq_true rfl, Nat.le_of_ble_eq_true rfl⟩ (Nat.le_of_ble_eq_true rfl) rfl (fun r21 Λc21 Ic21 Lc21 Rc21 hq21 => ?_)
      obtain ⟨rfl, rfl, rfl, rfl, rfl⟩ := hq21
      refine LW_bif_eq (tgt := 63) dX11_claimsOf_24 (by decide) (fun c24 => ?_) (fun c24 => absurd (c24.symm.trans (show prX A w k = false by cases q : prX A w k with | true => exact absurd q hp | false => rfl)) (by decide))
      refine LW_lloadn 2 dX11_claimsOf_63 rfl rfl ?_
      refine LW_lret dX11_claimsOf_64 rfl (Nat.le_of_ble_eq_true rfl) (Nat.le_of_ble_eq_true rfl) ?_
      refine ⟨?_, rfl, rfl, fun _ _ => rfl, rfl⟩
      unfold gC
      rw [if_neg hp]
set_option maxRecDepth 100000 in
theorem r_mLosses {Λ : hc_L} {I : hc_I} {L : hc_J} {R : hc_R} {A : AS} {w : Int32} (hM : MC Λ I L A w) {P : LwP} (hP : ML I L P) : Run xX11_losses [.ref 217] Λ I L R (Qj mJ (some (.long (sumJ (gC A P (prX A w)) (aM A)))) Λ I L R) := by
  refine Run.of (by decide +kernel) (Nat.le_of_ble_eq_true rfl) ?_
  show LW _ _ _ [(0, .ref 217)] _ _ _ _ _ _
  have hY := hM.y
  have hf24 := hM.w.f
  have hm12 := hM.w.m
  have loop : ∀ i, i ≤ aM A → ∀ (L1 : hc_J), (∀ z, ¬ mJ z → L1 z = L z) → LW xX11_losses (0, 0) 4 [(0, .ref 217), (1, .long (sumJ (gC A P (prX A w)) i)), (3, .int (nI i))] [] Λ I L1 R (Qj mJ (some (.long (sumJ (gC A P (prX A w)) (aM A)))) Λ I L R) := by
    refine hc_down ?_ ?_
    · intro L1 hL1
      have hM1 : MC Λ I L1 A w := hM.kp (hL1 _ (by unfold mJ; decide)) rfl rfl rfl rfl
      have hP1 : ML I L1 P := hP.kp rfl rfl (hL1 _ (by unfold mJ; decide))
      refine LW_iloadn 2 dX11_losses_4 rfl rfl ?_
      refine LW_i2l dX11_losses_5 ?_
      rw [show (nI (aM A)).toInt64 = lN (aM A) from (nI_l (by omega))]
      refine LW_aloadn 0 dX11_losses_6 rfl rfl ?_
      refine gX11_0 dX11_losses_7 flX11_9 (hY.lt (k := 217) (by decide)) (ly217 hY) (lf217_0 hY) ?_
      refine LW_iconst (v := 5) dX11_losses_10 (by decide) ?_
      refine LW_lald dX11_losses_11 (hY.lt (k := 218) (by decide)) (ly218 hY) rfl (by decide) (Nat.le_of_ble_eq_true rfl) ?_
      rw [show L1 218 5 = lN (aM A) from hM1.nM]
      refine LW_lcmp dX11_losses_12 ?_
      refine LW_lif_ge (tgt := 30) dX11_losses_13 (by decide) (fun c13 => ?_) (fun c13 => absurd (Int64.le_refl _) c13)
      refine LW_lloadn 1 dX11_losses_30 rfl rfl ?_
      refine LW_lret dX11_losses_31 rfl (Nat.le_of_ble_eq_true rfl) (Nat.le_of_ble_eq_true rfl) ?_
      exact ⟨rfl, rfl, rfl, hL1, rfl⟩
    · intro i hi ih L1 hL1
      have hM1 : MC Λ I L1 A w := hM.kp (hL1 _ (by unfold mJ; decide)) rfl rfl rfl rfl
      have hP1 : ML I L1 P := hP.kp rfl rfl (hL1 _ (by unfold mJ; decide))
      refine LW_iloadn 2 dX11_losses_4 rfl rfl ?_
      refine LW_i2l dX11_losses_5 ?_
      rw [show (nI i).toInt64 = lN i from (nI_l (by omega))]
      refine LW_aloadn 0 dX11_losses_6 rfl rfl ?_
      refine gX11_0 dX11_losses_7 flX11_9 (hY.lt (k := 217) (by decide)) (ly217 hY) (lf217_0 hY) ?_
      refine LW_iconst (v := 5) dX11_losses_10 (by decide) ?_
      refine LW_lald dX11_losses_11 (hY.lt (k := 218) (by decide)) (ly218 hY) rfl (by decide) (Nat.le_of_ble_eq_true rfl) ?_
      rw [show L1 218 5 = lN (aM A) from hM1.nM]
      refine LW_lcmp dX11_losses_12 ?_
      refine LW_lif_ge (tgt := 30) dX11_losses_13 (by decide) (fun c13 => absurd c13 (lN_nle (by omega) (by omega) hi)) (fun c13 => ?_)
      refine LW_lloadn 1 dX11_losses_16 rfl rfl ?_
      refine LW_aloadn 0 dX11_losses_17 rfl rfl ?_
      refine LW_iloadn 2 dX11_losses_18 rfl rfl ?_
      refine LW_callV (As := [.int (nI i)]) (b := 217) (st := [.long (sumJ (gC A P (prX A w)) i)]) (ci := 11) (r := (RX11, TX11, 44)) (r_mClaimsOf hM1 hP1 hi) YX11_claimsOf rfl dX11_losses_19 mlX11_373 (hY.lt (k := 217) (by decide)) (ly217 hY) ⟨rfl, rfl⟩ (by decide) ⟨Nat.le_of_ble_eq_true rfl, Nat.le_of_ble_eq_true rfl⟩ (Nat.le_of_ble_eq_true rfl) rfl (fun r19 Λc19 Ic19 Lc19 Rc19 hq19 => ?_)
      obtain ⟨rfl, rfl, rfl, hL19, hR19⟩ := hq19
      obtain rfl : R = Rc19 := hR19
      refine LW_ladd dX11_losses_22 ?_
      refine LW_lstoren (ls' := [(0, .ref 217), (1, .long ((sumJ (gC A P (prX A w)) i) + (gC A P (prX A w) i))), (3, .int (nI i))]) dX11_losses_23 rfl (by decide) rfl ?_
      refine LW_iinc (n := 2) (v := nI (i + 1)) (ls' := [(0, .ref 217), (1, .long ((sumJ (gC A P (prX A w)) i) + (gC A P (prX A w) i))), (3, .int (nI (i + 1)))]) dX11_losses_24 rfl (hc_inc _) (by decide) rfl ?_
      refine LW_goto (tgt := 4) dX11_losses_27 (by decide) ?_
      exact ih _ (fun z hz => by rw [hL19 z hz]; exact hL1 z hz)
  refine LW_lconst (v := 0) dX11_losses_0 (by decide) ?_
  refine LW_lstoren (ls' := [(0, .ref 217), (1, .long 0)]) dX11_losses_1 rfl (by decide) rfl ?_
  refine LW_iconst (v := 0) dX11_losses_2 (by decide) ?_
  refine LW_istoren (ls' := [(0, .ref 217), (1, .long 0), (3, .int 0)]) dX11_losses_3 rfl (by decide) rfl ?_
  exact loop 0 (Nat.zero_le _) L (fun _ _ => rfl)
