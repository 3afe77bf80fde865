/-! the reference: sums, what fields lose, the law -/
set_option maxRecDepth 100000 in
theorem r_mSumsAll {Λ : hc_L} {I : hc_I} {L : hc_J} {R : hc_R} {A : AS} {w : Int32} (hM : MC Λ I L A w) : Run xX11_sumsAll [.ref 217] Λ I L R (Qr (some (.long (sumJ (gS A (prX A w)) (aM A)))) Λ I L R) := by
  refine Run.of (by decide +kernel) (Nat.le_of_ble_eq_true rfl) ?_
  show LW _ _ _ [(0, .ref 217)] _ _ _ _ _ _
  have hY := hM.y
  have hf24 := hM.w.f
  have hm12 := hM.w.m
  have loop : ∀ i, i ≤ aM A → LW xX11_sumsAll (0, 0) 4 [(0, .ref 217), (1, .long (sumJ (gS A (prX A w)) i)), (3, .int (nI i))] [] Λ I L R (Qr (some (.long (sumJ (gS A (prX A w)) (aM A)))) Λ I L R) := by
    refine hc_down ?_ ?_
    · refine LW_iloadn 2 dX11_sumsAll_4 rfl rfl ?_
      refine LW_i2l dX11_sumsAll_5 ?_
      rw [show (nI (aM A)).toInt64 = lN (aM A) from (nI_l (by omega))]
      refine LW_aloadn 0 dX11_sumsAll_6 rfl rfl ?_
      refine gX11_0 dX11_sumsAll_7 flX11_9 (hY.lt (k := 217) (by decide)) (ly217 hY) (lf217_0 hY) ?_
      refine LW_iconst (v := 5) dX11_sumsAll_10 (by decide) ?_
      refine LW_lald dX11_sumsAll_11 (hY.lt (k := 218) (by decide)) (ly218 hY) rfl (by decide) (Nat.le_of_ble_eq_true rfl) ?_
      rw [show L 218 5 = lN (aM A) from hM.nM]
      refine LW_lcmp dX11_sumsAll_12 ?_
      refine LW_lif_ge (tgt := 30) dX11_sumsAll_13 (by decide) (fun c13 => ?_) (fun c13 => absurd (Int64.le_refl _) c13)
      refine LW_lloadn 1 dX11_sumsAll_30 rfl rfl ?_
      refine LW_lret dX11_sumsAll_31 rfl (Nat.le_of_ble_eq_true rfl) (Nat.le_of_ble_eq_true rfl) ?_
      exact Qr.mk rfl
    · intro i hi ih
      refine LW_iloadn 2 dX11_sumsAll_4 rfl rfl ?_
      refine LW_i2l dX11_sumsAll_5 ?_
      rw [show (nI i).toInt64 = lN i from (nI_l (by omega))]
      refine LW_aloadn 0 dX11_sumsAll_6 rfl rfl ?_
      refine gX11_0 dX11_sumsAll_7 flX11_9 (hY.lt (k := 217) (by decide)) (ly217 hY) (lf217_0 hY) ?_
      refine LW_iconst (v := 5) dX11_sumsAll_10 (by decide) ?_
      refine LW_lald dX11_sumsAll_11 (hY.lt (k := 218) (by decide)) (ly218 hY) rfl (by decide) (Nat.le_of_ble_eq_true rfl) ?_
      rw [show L 218 5 = lN (aM A) from hM.nM]
      refine LW_lcmp dX11_sumsAll_12 ?_
      refine LW_lif_ge (tgt := 30) dX11_sumsAll_13 (by decide) (fun c13 => absurd c13 (lN_nle (by omega) (by omega) hi)) (fun c13 => ?_)
      refine LW_lloadn 1 dX11_sumsAll_16 rfl rfl ?_
      refine LW_aloadn 0 dX11_sumsAll_17 rfl rfl ?_
      refine LW_iloadn 2 dX11_sumsAll_18 rfl rfl ?_
      refine LW_callV (As := [.int (nI i)]) (b := 217) (st := [.long (sumJ (gS A (prX A w)) i)]) (ci := 11) (r := (RX11, TX11, 44)) (r_mSumsOf hM hi) YX11_sumsOf rfl dX11_sumsAll_19 mlX11_344 (hY.lt (k := 217) (by decide)) (ly217 hY) ⟨rfl, rfl⟩ (by decide) ⟨Nat.le_of_ble_eq_true rfl, Nat.le_of_ble_eq_true rfl⟩ (Nat.le_of_ble_eq_true rfl) rfl (fun r19 Λc19 Ic19 Lc19 Rc19 hq19 => ?_)
      obtain ⟨rfl, rfl, rfl, rfl, rfl⟩ := hq19
      refine LW_ladd dX11_sumsAll_22 ?_
      refine LW_lstoren (ls' := [(0, .ref 217), (1, .long ((sumJ (gS A (prX A w)) i) + (gS A (prX A w) i))), (3, .int (nI i))]) dX11_sumsAll_23 rfl (by decide) rfl ?_
      refine LW_iinc (n := 2) (v := nI (i + 1)) (ls' := [(0, .ref 217), (1, .long ((sumJ (gS A (prX A w)) i) + (gS A (prX A w) i))), (3, .int (nI (i + 1)))]) dX11_sumsAll_24 rfl (hc_inc _) (by decide) rfl ?_
      refine LW_goto (tgt := 4) dX11_sumsAll_27 (by decide) ?_
      exact ih
  refine LW_lconst (v := 0) dX11_sumsAll_0 (by decide) ?_
  refine LW_lstoren (ls' := [(0, .ref 217), (1, .long 0)]) dX11_sumsAll_1 rfl (by decide) rfl ?_
  refine LW_iconst (v := 0) dX11_sumsAll_2 (by decide) ?_
  refine LW_istoren (ls' := [(0, .ref 217), (1, .long 0), (3, .int 0)]) dX11_sumsAll_3 rfl (by decide) rfl ?_
  exact loop 0 (Nat.zero_le _)
set_option maxRecDepth 100000 in
theorem r_mPointsAll {Λ : hc_L} {I : hc_I} {L : hc_J} {R : hc_R} {A : AS} {w : Int32} (hM : MC Λ I L A w) : Run xX11_pointsAll [.ref 217] Λ I L R (Qr (some (.long (sumJ (gP A (prX A w)) (aM A)))) Λ I L R) := by
  refine Run.of (by decide +kernel) (Nat.le_of_ble_eq_true rfl) ?_
  show LW _ _ _ [(0, .ref 217)] _ _ _ _ _ _
  have hY := hM.y
  have hf24 := hM.w.f
  have hm12 := hM.w.m
  have loop : ∀ i, i ≤ aM A → LW xX11_pointsAll (0, 0) 4 [(0, .ref 217), (1, .long (sumJ (gP A (prX A w)) i)), (3, .int (nI i))] [] Λ I L R (Qr (some (.long (sumJ (gP A (prX A w)) (aM A)))) Λ I L R) := by
    refine hc_down ?_ ?_
    · refine LW_iloadn 2 dX11_pointsAll_4 rfl rfl ?_
      refine LW_i2l dX11_pointsAll_5 ?_
      rw [show (nI (aM A)).toInt64 = lN (aM A) from (nI_l (by omega))]
      refine LW_aloadn 0 dX11_pointsAll_6 rfl rfl ?_
      refine gX11_0 dX11_pointsAll_7 flX11_9 (hY.lt (k := 217) (by decide)) (ly217 hY) (lf217_0 hY) ?_
      refine LW_iconst (v := 5) dX11_pointsAll_10 (by decide) ?_
      refine LW_lald dX11_pointsAll_11 (hY.lt (k := 218) (by decide)) (ly218 hY) rfl (by decide) (Nat.le_of_ble_eq_true rfl) ?_
      rw [show L 218 5 = lN (aM A) from hM.nM]
      refine LW_lcmp dX11_pointsAll_12 ?_
      refine LW_lif_ge (tgt := 30) dX11_pointsAll_13 (by decide) (fun c13 => ?_) (fun c13 => absurd (Int64.le_refl _) c13)
      refine LW_lloadn 1 dX11_pointsAll_30 rfl rfl ?_
      refine LW_lret dX11_pointsAll_31 rfl (Nat.le_of_ble_eq_true rfl) (Nat.le_of_ble_eq_true rfl) ?_
      exact Qr.mk rfl
    · intro i hi ih
      refine LW_iloadn 2 dX11_pointsAll_4 rfl rfl ?_
      refine LW_i2l dX11_pointsAll_5 ?_
      rw [show (nI i).toInt64 = lN i from (nI_l (by omega))]
      refine LW_aloadn 0 dX11_pointsAll_6 rfl rfl ?_
      refine gX11_0 dX11_pointsAll_7 flX11_9 (hY.lt (k := 217) (by decide)) (ly217 hY) (lf217_0 hY) ?_
      refine LW_iconst (v := 5) dX11_pointsAll_10 (by decide) ?_
      refine LW_lald dX11_pointsAll_11 (hY.lt (k := 218) (by decide)) (ly218 hY) rfl (by decide) (Nat.le_of_ble_eq_true rfl) ?_
      rw [show L 218 5 = lN (aM A) from hM.nM]
      refine LW_lcmp dX11_pointsAll_12 ?_
      refine LW_lif_ge (tgt := 30) dX11_pointsAll_13 (by decide) (fun c13 => absurd c13 (lN_nle (by omega) (by omega) hi)) (fun c13 => ?_)
      refine LW_lloadn 1 dX11_pointsAll_16 rfl rfl ?_
      refine LW_aloadn 0 dX11_pointsAll_17 rfl rfl ?_
      refine LW_iloadn 2 dX11_pointsAll_18 rfl rfl ?_
      refine LW_callV (As := [.int (nI i)]) (b := 217) (st := [.long (sumJ (gP A (prX A w)) i)]) (ci := 11) (r := (RX11, TX11, 44)) (r_mPointsOf hM hi) YX11_pointsOf rfl dX11_pointsAll_19 mlX11_315 (hY.lt (k := 217) (by decide)) (ly217 hY) ⟨rfl, rfl⟩ (by decide) ⟨Nat.le_of_ble_eq_true rfl, Nat.le_of_ble_eq_true rfl⟩ (Nat.le_of_ble_eq_true rfl) rfl (fun r19 Λc19 Ic19 Lc19 Rc19 hq19 => ?_)
      obtain ⟨rfl, rfl, rfl, rfl, rfl⟩ := hq19
      refine LW_ladd dX11_pointsAll_22 ?_
      refine LW_lstoren (ls' := [(0, .ref 217), (1, .long ((sumJ (gP A (prX A w)) i) + (gP A (prX A w) i))), (3, .int (nI i))]) dX11_pointsAll_23 rfl (by decide) rfl ?_
      refine LW_iinc (n := 2) (v := nI (i + 1)) (ls' := [(0, .ref 217), (1, .long ((sumJ (gP A (prX A w)) i) + (gP A (prX A w) i))), (3, .int (nI (i + 1)))]) dX11_pointsAll_24 rfl (hc_inc _) (by decide) rfl ?_
      refine LW_goto (tgt := 4) dX11_pointsAll_27 (by decide) ?_
      exact ih
  refine LW_lconst (v := 0) dX11_pointsAll_0 (by decide) ?_
  refine LW_lstoren (ls' := [(0, .ref 217), (1, .long 0)]) dX11_pointsAll_1 rfl (by decide) rfl ?_
  refine LW_iconst (v := 0) dX11_pointsAll_2 (by decide) ?_
  refine LW_istoren (ls' := [(0, .ref 217), (1, .long 0), (3, .int 0)]) dX11_pointsAll_3 rfl (by decide) rfl ?_
  exact loop 0 (Nat.zero_le _)
def mMt (A : AS) (w : Int32) : Nat → Int32 := sumI (fun m => hc_b (prX A w m))
set_option maxRecDepth 100000 in
theorem r_mMembersThere {Λ : hc_L} {I : hc_I} {L : hc_J} {R : hc_R} {A : AS} {w : Int32} (hM : MC Λ I L A w) : Run xX11_membersThere [.ref 217] Λ I L R (Qr (some (.int (mMt A w (aM A)))) Λ I L R) := by
  refine Run.of (by decide +kernel) (Nat.le_of_ble_eq_true rfl) ?_
  show LW _ _ _ [(0, .ref 217)] _ _ _ _ _ _
  have hY := hM.y
  have hf24 := hM.w.f
  have hm12 := hM.w.m
  have loop : ∀ i, i ≤ aM A → LW xX11_membersThere (0, 0) 4 [(0, .ref 217), (1, .int (mMt A w i)), (2, .int (nI i))] [] Λ I L R (Qr (some (.int (mMt A w (aM A)))) Λ I L R) := by
    refine hc_down ?_ ?_
    · refine LW_iloadn 2 dX11_membersThere_4 rfl rfl ?_
      refine LW_i2l dX11_membersThere_5 ?_
      rw [show (nI (aM A)).toInt64 = lN (aM A) from (nI_l (by omega))]
      refine LW_aloadn 0 dX11_membersThere_6 rfl rfl ?_
      refine gX11_0 dX11_membersThere_7 flX11_9 (hY.lt (k := 217) (by decide)) (ly217 hY) (lf217_0 hY) ?_
      refine LW_iconst (v := 5) dX11_membersThere_10 (by decide) ?_
      refine LW_lald dX11_membersThere_11 (hY.lt (k := 218) (by decide)) (ly218 hY) rfl (by decide) (Nat.le_of_ble_eq_true rfl) ?_
      rw [show L 218 5 = lN (aM A) from hM.nM]
      refine LW_lcmp dX11_membersThere_12 ?_
      refine LW_lif_ge (tgt := 33) dX11_membersThere_13 (by decide) (fun c13 => ?_) (fun c13 => absurd (Int64.le_refl _) c13)
      refine LW_iloadn 1 dX11_membersThere_33 rfl rfl ?_
      refine LW_iret dX11_membersThere_34 rfl (Nat.le_of_ble_eq_true rfl) (Nat.le_of_ble_eq_true rfl) ?_
      exact Qr.mk rfl
    · intro i hi ih
      refine LW_iloadn 2 dX11_membersThere_4 rfl rfl ?_
      refine LW_i2l dX11_membersThere_5 ?_
      rw [show (nI i).toInt64 = lN i from (nI_l (by omega))]
      refine LW_aloadn 0 dX11_membersThere_6 rfl rfl ?_
      refine gX11_0 dX11_membersThere_7 flX11_9 (hY.lt (k := 217) (by decide)) (ly217 hY) (lf217_0 hY) ?_
      refine LW_iconst (v := 5) dX11_membersThere_10 (by decide) ?_
      refine LW_lald dX11_membersThere_11 (hY.lt (k := 218) (by decide)) (ly218 hY) rfl (by decide) (Nat.le_of_ble_eq_true rfl) ?_
      rw [show L 218 5 = lN (aM A) from hM.nM]
      refine LW_lcmp dX11_membersThere_12 ?_
      refine LW_lif_ge (tgt := 33) dX11_membersThere_13 (by decide) (fun c13 => absurd c13 (lN_nle (by omega) (by omega) hi)) (fun c13 => ?_)
      refine LW_iloadn 1 dX11_membersThere_16 rfl rfl ?_
      refine LW_aloadn 0 dX11_membersThere_17 rfl rfl ?_
      refine LW_iloadn 2 dX11_membersThere_18 rfl rfl ?_
      refine LW_callV (As := [.int (nI i)]) (b := 217) (st := [.int (mMt A w i)]) (ci := 11) (r := (RX11, TX11, 44)) (r_mIsThere hM (k := i) hi) YX11_isThere rfl dX11_membersThere_19 mlX11_331 (hY.lt (k := 217) (by decide)) (ly217 hY) ⟨rfl, rfl⟩ (by decide) ⟨Nat.le_of_ble_eq_true rfl, Nat.le_of_ble_eq_true rfl⟩ (Nat.le_of_ble_eq_true rfl) rfl (fun r19 Λc19 Ic19 Lc19 Rc19 hq19 => ?_)
      obtain ⟨rfl, rfl, rfl, rfl, rfl⟩ := hq19
      refine LW_callS (As := [.int (hc_b (prX A w i))]) (st := [.int (mMt A w i)]) (r_one (prX A w i)) YX11_one rfl dX11_membersThere_22 mlX11_391 (by decide) ⟨Nat.le_of_ble_eq_true rfl, Nat.le_of_ble_eq_true rfl⟩ (Nat.le_of_ble_eq_true rfl) rfl (fun r22 Λc22 Ic22 Lc22 Rc22 hq22 => ?_)
      obtain ⟨rfl, rfl, rfl, rfl, rfl⟩ := hq22
      refine LW_iadd dX11_membersThere_25 ?_
      refine LW_istoren (ls' := [(0, .ref 217), (1, .int ((mMt A w i) + (hc_b (prX A w i)))), (2, .int (nI i))]) dX11_membersThere_26 rfl (by decide) rfl ?_
      refine LW_iinc (n := 2) (v := nI (i + 1)) (ls' := [(0, .ref 217), (1, .int ((mMt A w i) + (hc_b (prX A w i)))), (2, .int (nI (i + 1)))]) dX11_membersThere_27 rfl (hc_inc _) (by decide) rfl ?_
      refine LW_goto (tgt := 4) dX11_membersThere_30 (by decide) ?_
      exact ih
  refine LW_iconst (v := 0) dX11_membersThere_0 (by decide) ?_
  refine LW_istoren (ls' := [(0, .ref 217), (1, .int 0)]) dX11_membersThere_1 rfl (by decide) rfl ?_
  refine LW_iconst (v := 0) dX11_membersThere_2 (by decide) ?_
  refine LW_istoren (ls' := [(0, .ref 217), (1, .int 0), (2, .int 0)]) dX11_membersThere_3 rfl (by decide) rfl ?_
  exact loop 0 (Nat.zero_le _)
set_option maxRecDepth 100000 in
theorem r_mAdvanceOf {Λ : hc_L} {I : hc_I} {L : hc_J} {R : hc_R} {A : AS} {w : Int32} (hM : MC Λ I L A w) {k : Nat} (hk : k < aM A) : Run xX11_advanceOf [.ref 217, .int (nI k)] Λ I L R (Qr (some (.long (gA A (prX A w) k))) Λ I L R) := by
  refine Run.of (by decide +kernel) (Nat.le_of_ble_eq_true rfl) ?_
  show LW _ _ _ [(0, .ref 217), (1, .int (nI k))] _ _ _ _ _ _
  have hY := hM.y
  refine LW_aloadn 0 dX11_advanceOf_0 rfl rfl ?_
  refine LW_iloadn 1 dX11_advanceOf_1 rfl rfl ?_
  refine LW_callV (As := [.int (nI k)]) (b := 217) (st := []) (ci := 11) (r := (RX11, TX11, 44)) (r_mPointsOf hM hk) YX11_pointsOf rfl dX11_advanceOf_2 mlX11_315 (hY.lt (k := 217) (by decide)) (ly217 hY) ⟨rfl, rfl⟩ (by decide) ⟨Nat.le_of_ble_eq_true rfl, Nat.le_of_ble_eq_true rfl⟩ (Nat.le_of_ble_eq_true rfl) rfl (fun r2 Λc2 Ic2 Lc2 Rc2 hq2 => ?_)
  obtain ⟨rfl, rfl, rfl, rfl, rfl⟩ := hq2
  refine LW_aloadn 0 dX11_advanceOf_5 rfl rfl ?_
  refine gX11_0 dX11_advanceOf_6 flX11_9 (hY.lt (k := 217) (by decide)) (ly217 hY) (lf217_0 hY) ?_
  refine LW_iconst (v := 0) dX11_advanceOf_9 (by decide) ?_
  refine LW_lald dX11_advanceOf_10 (hY.lt (k := 218) (by decide)) (ly218 hY) rfl (by decide) (Nat.le_of_ble_eq_true rfl) ?_
  rw [show L 218 0 = aRu A 0 from hM.n.1.1]
  refine LW_lmul dX11_advanceOf_11 ?_
  refine LW_ldc2 dX11_advanceOf_12 klX11_347 ?_
  refine LW_ldiv dX11_advanceOf_15 (by decide) ?_
  refine LW_lret dX11_advanceOf_16 rfl (Nat.le_of_ble_eq_true rfl) (Nat.le_of_ble_eq_true rfl) ?_
  exact Qr.mk rfl
set_option maxRecDepth 100000 in
theorem r_mIsOver {Λ : hc_L} {I : hc_I} {L : hc_J} {R : hc_R} {A : AS} {w : Int32} (hM : MC Λ I L A w) {s f : Nat} (hs : s < aS A) (hf : f < aF A) : Run xX11_isOver [.ref 217, .int (nI s), .int (nI f)] Λ I L R (Qr (some (.int (hc_b (aOv (aSd A s) (aFd A f))))) Λ I L R) := by
  refine Run.of (by decide +kernel) (Nat.le_of_ble_eq_true rfl) ?_
  show LW _ _ _ [(0, .ref 217), (1, .int (nI s)), (2, .int (nI f))] _ _ _ _ _ _
  have hY := hM.y
  have hw := hM.w.2.2.2.2.2.2.2.1 f hf
  have hws := hM.w.2.2.2.2.2.2.2.2 s hs
  have hm12 := hM.w.m
  have hf24 := hM.w.f
  have hs16 := hM.w.s
  have e1 : lIn (lN (aFd A f 1)) (lN (aSd A s 0)) (lN (aSd A s 2)) = (decide (aSd A s 0 ≤ aFd A f 1) && decide (aFd A f 1 ≤ aSd A s 2)) := lIn_n (by omega) (by omega) (by omega)
  have e2 : lIn (lN (aFd A f 2)) (lN (aSd A s 1)) (lN (aSd A s 3)) = (decide (aSd A s 1 ≤ aFd A f 2) && decide (aFd A f 2 ≤ aSd A s 3)) := lIn_n (by omega) (by omega) (by omega)
  have e3 : aOv (aSd A s) (aFd A f) = (lIn (lN (aFd A f 1)) (lN (aSd A s 0)) (lN (aSd A s 2)) && lIn (lN (aFd A f 2)) (lN (aSd A s 1)) (lN (aSd A s 3))) := by rw [e1, e2]; unfold aOv; rw [Bool.and_assoc]
  refine LW_bipush (v := 46) dX11_isOver_0 (by decide) ?_
  refine LW_iconst (v := 5) dX11_isOver_2 (by decide) ?_
  refine LW_iloadn 1 dX11_isOver_3 rfl rfl ?_
  refine LW_imul dX11_isOver_4 ?_
  rw [show (5 * (nI s)) = nI (5 * s) from (nI_mul 5 s)]
  refine LW_iadd dX11_isOver_5 ?_
  rw [show (46 + (nI (5 * s))) = nI (46 + 5 * s) from (nI_add 46 _)]
  refine LW_istoren (ls' := [(0, .ref 217), (1, .int (nI s)), (2, .int (nI f)), (3, .int (nI (46 + 5 * s)))]) dX11_isOver_6 rfl (by decide) rfl ?_
  refine LW_aloadn 0 dX11_isOver_7 rfl rfl ?_
  refine LW_iloadn 2 dX11_isOver_8 rfl rfl ?_
  refine LW_iconst (v := 1) dX11_isOver_9 (by decide) ?_
  refine LW_callV (As := [.int (nI f), .int 1]) (b := 217) (st := []) (ci := 11) (r := (RX11, TX11, 44)) (r_mOf hM (f := f) (a := 1) hf (by decide)) YX11_of rfl dX11_isOver_10 mlX11_334 (hY.lt (k := 217) (by decide)) (ly217 hY) ⟨rfl, rfl⟩ (by decide) ⟨Nat.le_of_ble_eq_true rfl, Nat.le_of_ble_eq_true rfl⟩ (Nat.le_of_ble_eq_true rfl) rfl (fun r10 Λc10 Ic10 Lc10 Rc10 hq10 => ?_)
  obtain ⟨rfl, rfl, rfl, rfl, rfl⟩ := hq10
  refine LW_i2l dX11_isOver_13 ?_
  rw [show (nI (aFd A f 1)).toInt64 = lN (aFd A f 1) from (nI_l (by omega))]
  refine LW_aloadn 0 dX11_isOver_14 rfl rfl ?_
  refine gX11_0 dX11_isOver_15 flX11_9 (hY.lt (k := 217) (by decide)) (ly217 hY) (lf217_0 hY) ?_
  refine LW_iloadn 3 dX11_isOver_18 rfl rfl ?_
  refine LW_lald dX11_isOver_19 (hY.lt (k := 218) (by decide)) (ly218 hY) rfl (by omega) (Nat.le_of_ble_eq_true rfl) ?_
  rw [show L 218 (46 + 5 * s) = lN (aSd A s 0) from hM.sd hs (a := 0) (by decide)]
  refine LW_aloadn 0 dX11_isOver_20 rfl rfl ?_
  refine gX11_0 dX11_isOver_21 flX11_9 (hY.lt (k := 217) (by decide)) (ly217 hY) (lf217_0 hY) ?_
  refine LW_iloadn 3 dX11_isOver_24 rfl rfl ?_
  refine LW_iconst (v := 2) dX11_isOver_25 (by decide) ?_
  refine LW_iadd dX11_isOver_26 ?_
  rw [show ((nI (46 + 5 * s)) + 2) = nI (46 + 5 * s + 2) from (nI_add _ 2)]
  refine LW_lald dX11_isOver_27 (hY.lt (k := 218) (by decide)) (ly218 hY) rfl (by omega) (Nat.le_of_ble_eq_true rfl) ?_
  rw [show L 218 (46 + 5 * s + 2) = lN (aSd A s 2) from hM.sd hs (a := 2) (by decide)]
  refine LW_callS (As := [.long (lN (aFd A f 1)), .long (lN (aSd A s 0)), .long (lN (aSd A s 2))]) (st := []) (r_isIn (lN (aFd A f 1)) (lN (aSd A s 0)) (lN (aSd A s 2))) YX11_isIn rfl dX11_isOver_28 mlX11_126 (by decide) ⟨Nat.le_of_ble_eq_true rfl, Nat.le_of_ble_eq_true rfl⟩ (Nat.le_of_ble_eq_true rfl) rfl (fun r28 Λc28 Ic28 Lc28 Rc28 hq28 => ?_)
  obtain ⟨rfl, rfl, rfl, rfl, rfl⟩ := hq28
  refine LW_bif_eq (tgt := 67) dX11_isOver_31 (by decide) (fun c31 => ?_) (fun c31 => ?_)
  · refine LW_iconst (v := 0) dX11_isOver_67 (by decide) ?_
    refine LW_zret dX11_isOver_68 rfl (Nat.le_of_ble_eq_true rfl) (Nat.le_of_ble_eq_true rfl) (Or.inl rfl) ?_
    refine Qr.mk ?_
    rw [e3]
    first | (rw [c31, c60]; rfl) | (rw [c31]; rfl)
  · refine LW_aloadn 0 dX11_isOver_34 rfl rfl ?_
    refine LW_iloadn 2 dX11_isOver_35 rfl rfl ?_
    refine LW_iconst (v := 2) dX11_isOver_36 (by decide) ?_
    refine LW_callV (As := [.int (nI f), .int 2]) (b := 217) (st := []) (ci := 11) (r := (RX11, TX11, 44)) (r_mOf hM (f := f) (a := 2) hf (by decide)) YX11_of rfl dX11_isOver_37 mlX11_334 (hY.lt (k := 217) (by decide)) (ly217 hY) ⟨rfl, rfl⟩ (by decide) ⟨Nat.le_of_ble_eq_true rfl, Nat.le_of_ble_eq_true rfl⟩ (Nat.le_of_ble_eq_true rfl) rfl (fun r37 Λc37 Ic37 Lc37 Rc37 hq37 => ?_)
    obtain ⟨rfl, rfl, rfl, rfl, rfl⟩ := hq37
    refine LW_i2l dX11_isOver_40 ?_
    rw [show (nI (aFd A f 2)).toInt64 = lN (aFd A f 2) from (nI_l (by omega))]
    refine LW_aloadn 0 dX11_isOver_41 rfl rfl ?_
    refine gX11_0 dX11_isOver_42 flX11_9 (hY.lt (k := 217) (by decide)) (ly217 hY) (lf217_0 hY) ?_
    refine LW_iloadn 3 dX11_isOver_45 rfl rfl ?_
    refine LW_iconst (v := 1) dX11_isOver_46 (by decide) ?_
    refine LW_iadd dX11_isOver_47 ?_
    rw [show ((nI (46 + 5 * s)) + 1) = nI (46 + 5 * s + 1) from (nI_add _ 1)]
    refine LW_lald dX11_isOver_48 (hY.lt (k := 218) (by decide)) (ly218 hY) rfl (by omega) (Nat.le_of_ble_eq_true rfl) ?_
    rw [show L 218 (46 + 5 * s + 1) = lN (aSd A s 1) from hM.sd hs (a := 1) (by decide)]
    refine LW_aloadn 0 dX11_isOver_49 rfl rfl ?_
    refine gX11_0 dX11_isOver_50 flX11_9 (hY.lt (k := 217) (by decide)) (ly217 hY) (lf217_0 hY) ?_
    refine LW_iloadn 3 dX11_isOver_53 rfl rfl ?_
    refine LW_iconst (v := 3) dX11_isOver_54 (by decide) ?_
    refine LW_iadd dX11_isOver_55 ?_
    rw [show ((nI (46 + 5 * s)) + 3) = nI (46 + 5 * s + 3) from (nI_add _ 3)]
    refine LW_lald dX11_isOver_56 (hY.lt (k := 218) (by decide)) (ly218 hY) rfl (by omega) (Nat.le_of_ble_eq_true rfl) ?_
    rw [show L 218 (46 + 5 * s + 3) = lN (aSd A s 3) from hM.sd hs (a := 3) (by decide)]
    refine LW_callS (As := [.long (lN (aFd A f 2)), .long (lN (aSd A s 1)), .long (lN (aSd A s 3))]) (st := []) (r_isIn (lN (aFd A f 2)) (lN (aSd A s 1)) (lN (aSd A s 3))) YX11_isIn rfl dX11_isOver_57 mlX11_126 (by decide) ⟨Nat.le_of_ble_eq_true rfl, Nat.le_of_ble_eq_true rfl⟩ (Nat.le_of_ble_eq_true rfl) rfl (fun r57 Λc57 Ic57 Lc57 Rc57 hq57 => ?_)
    obtain ⟨rfl, rfl, rfl, rfl, rfl⟩ := hq57
    refine LW_bif_eq (tgt := 67) dX11_isOver_60 (by decide) (fun c60 => ?_) (fun c60 => ?_)
    · refine LW_iconst (v := 0) dX11_isOver_67 (by decide) ?_
      refine LW_zret dX11_isOver_68 rfl (Nat.le_of_ble_eq_true rfl) (Nat.le_of_ble_eq_true rfl) (Or.inl rfl) ?_
      refine Qr.mk ?_
      rw [e3]
      first | (rw [c31, c60]; rfl) | (rw [c31]; rfl)
    · refine LW_iconst (v := 1) dX11_isOver_63 (by decide) ?_
      refine LW_goto (tgt := 68) dX11_isOver_64 (by decide) ?_
      refine LW_zret dX11_isOver_68 rfl (Nat.le_of_ble_eq_true rfl) (Nat.le_of_ble_eq_true rfl) (Or.inr rfl) ?_
      refine Qr.mk ?_
      rw [e3]
      first | (rw [c31, c60]; rfl) | (rw [c31]; rfl)
set_option maxRecDepth 100000 in
theorem r_mHit {Λ : hc_L} {I : hc_I} {L : hc_J} {R : hc_R} {A : AS} {w : Int32} (hM : MC Λ I L A w) {s f : Nat} (hs : s < aS A) (hf : f < aF A) : Run xX11_hit [.ref 217, .int (nI s), .int (nI f)] Λ I L R (Qr (some (.long ((if aOv (aSd A s) (aFd A f) = true then lN (aHarm A (aSd A s 4) f) else 0)))) Λ I L R) := by
  refine Run.of (by decide +kernel) (Nat.le_of_ble_eq_true rfl) ?_
  show LW _ _ _ [(0, .ref 217), (1, .int (nI s)), (2, .int (nI f))] _ _ _ _ _ _
  have hY := hM.y
  have hw := hM.w.2.2.2.2.2.2.2.1 f hf
  have hws := hM.w.2.2.2.2.2.2.2.2 s hs
  have hm12 := hM.w.m
  have hf24 := hM.w.f
  have hs16 := hM.w.s
  have hso := hM.w.2.2.2.2.2.1 _ hw.2.2.2.1
  refine LW_aloadn 0 dX11_hit_0 rfl rfl ?_
  refine LW_iloadn 1 dX11_hit_1 rfl rfl ?_
  refine LW_iloadn 2 dX11_hit_2 rfl rfl ?_
  refine LW_callV (As := [.int (nI s), .int (nI f)]) (b := 217) (st := []) (ci := 11) (r := (RX11, TX11, 44)) (r_mIsOver hM hs hf) YX11_isOver rfl dX11_hit_3 mlX11_349 (hY.lt (k := 217) (by decide)) (ly217 hY) ⟨rfl, rfl⟩ (by decide) ⟨Nat.le_of_ble_eq_true rfl, Nat.le_of_ble_eq_true rfl⟩ (Nat.le_of_ble_eq_true rfl) rfl (fun r3 Λc3 Ic3 Lc3 Rc3 hq3 => ?_)
  obtain ⟨rfl, rfl, rfl, rfl, rfl⟩ := hq3
  refine LW_bif_eq (tgt := 42) dX11_hit_6 (by decide) (fun c6 => ?_) (fun c6 => ?_)
  · refine LW_lconst (v := 0) dX11_hit_42 (by decide) ?_
    refine LW_lret dX11_hit_43 rfl (Nat.le_of_ble_eq_true rfl) (Nat.le_of_ble_eq_true rfl) ?_
    refine Qr.mk ?_
    first | (rw [if_pos c6]; done) | (rw [if_neg (by rw [c6]; decide)]; done)
  · refine LW_aloadn 0 dX11_hit_9 rfl rfl ?_
    refine gX11_0 dX11_hit_10 flX11_9 (hY.lt (k := 217) (by decide)) (ly217 hY) (lf217_0 hY) ?_
    refine LW_bipush (v := 46) dX11_hit_13 (by decide) ?_
    refine LW_iconst (v := 5) dX11_hit_15 (by decide) ?_
    refine LW_iloadn 1 dX11_hit_16 rfl rfl ?_
    refine LW_imul dX11_hit_17 ?_
    rw [show (5 * (nI s)) = nI (5 * s) from (nI_mul 5 s)]
    refine LW_iadd dX11_hit_18 ?_
    rw [show (46 + (nI (5 * s))) = nI (46 + 5 * s) from (nI_add 46 _)]
    refine LW_iconst (v := 4) dX11_hit_19 (by decide) ?_
    refine LW_iadd dX11_hit_20 ?_
    rw [show ((nI (46 + 5 * s)) + 4) = nI (46 + 5 * s + 4) from (nI_add _ 4)]
    refine LW_lald dX11_hit_21 (hY.lt (k := 218) (by decide)) (ly218 hY) rfl (by omega) (Nat.le_of_ble_eq_true rfl) ?_
    rw [show L 218 (46 + 5 * s + 4) = lN (aSd A s 4) from hM.sd hs (a := 4) (by decide)]
    refine LW_aloadn 0 dX11_hit_22 rfl rfl ?_
    refine gX11_6 dX11_hit_23 flX11_28 (hY.lt (k := 217) (by decide)) (ly217 hY) (lf217_6 hY) ?_
    refine LW_aloadn 0 dX11_hit_26 rfl rfl ?_
    refine LW_iloadn 2 dX11_hit_27 rfl rfl ?_
    refine LW_iconst (v := 3) dX11_hit_28 (by decide) ?_
    refine LW_callV (As := [.int (nI f), .int 3]) (b := 217) (st := [.ref 223, .long (lN (aSd A s 4))]) (ci := 11) (r := (RX11, TX11, 44)) (r_mOf hM (f := f) (a := 3) hf (by decide)) YX11_of rfl dX11_hit_29 mlX11_334 (hY.lt (k := 217) (by decide)) (ly217 hY) ⟨rfl, rfl⟩ (by decide) ⟨Nat.le_of_ble_eq_true rfl, Nat.le_of_ble_eq_true rfl⟩ (Nat.le_of_ble_eq_true rfl) rfl (fun r29 Λc29 Ic29 Lc29 Rc29 hq29 => ?_)
    obtain ⟨rfl, rfl, rfl, rfl, rfl⟩ := hq29
    refine LW_iald dX11_hit_32 (hY.lt (k := 223) (by decide)) (ly223 hY) rfl (by omega) (Nat.le_of_ble_eq_true rfl) ?_
    rw [show I 223 (aFd A f 3) = nI (aSo A (aFd A f 3)) from hM.so hw.2.2.2.1]
    refine LW_i2l dX11_hit_33 ?_
    rw [show (nI (aSo A (aFd A f 3))).toInt64 = lN (aSo A (aFd A f 3)) from (nI_l (by omega))]
    refine LW_lmul dX11_hit_34 ?_
    rw [show ((lN (aSd A s 4)) * (lN (aSo A (aFd A f 3)))) = lN (aSd A s 4 * aSo A (aFd A f 3)) from (lN_mul _ _)]
    refine LW_ldc2 dX11_hit_35 klX11_352 ?_
    refine LW_ldiv dX11_hit_38 (by decide) ?_
    rw [show ((lN (aSd A s 4 * aSo A (aFd A f 3))) / 100) = lN (aHarm A (aSd A s 4) f) from (pk_lDiv (Nat.lt_of_le_of_lt (Nat.mul_le_mul hws.2.2.2.2.2 hso) (by decide)) (by decide) (by decide))]
    refine LW_goto (tgt := 43) dX11_hit_39 (by decide) ?_
    refine LW_lret dX11_hit_43 rfl (Nat.le_of_ble_eq_true rfl) (Nat.le_of_ble_eq_true rfl) ?_
    refine Qr.mk ?_
    first | (rw [if_pos c6]; done) | (rw [if_neg (by rw [c6]; decide)]; done)
set_option maxRecDepth 100000 in
theorem r_mLostOf {Λ : hc_L} {I : hc_I} {L : hc_J} {R : hc_R} {A : AS} {w : Int32} (hM : MC Λ I L A w) {f : Nat} (hf : f < aF A) : Run xX11_lostOf [.ref 217, .int (nI f)] Λ I L R (Qr (some (.long (lN (aLost A f)))) Λ I L R) := by
  refine Run.of (by decide +kernel) (Nat.le_of_ble_eq_true rfl) ?_
  show LW _ _ _ [(0, .ref 217), (1, .int (nI f))] _ _ _ _ _ _
  have hY := hM.y
  have hw := hM.w.2.2.2.2.2.2.2.1 f hf
  have hs16 := hM.w.s
  have hf24 := hM.w.f
  have hln := fun j hj => aLostN_le hM.w hw.2.2.2.1 j hj
  have loop : ∀ i, i ≤ aS A → LW xX11_lostOf (0, 0) 5 [(0, .ref 217), (1, .int (nI f)), (2, .long (lN (aLostN A f i))), (4, .int (nI i))] [] Λ I L R (Qr (some (.long (lN (aLost A f)))) Λ I L R) := by
    refine hc_down ?_ ?_
    · refine LW_iload 3 dX11_lostOf_5 rfl ?_
      refine LW_i2l dX11_lostOf_7 ?_
      rw [show (nI (aS A)).toInt64 = lN (aS A) from (nI_l (by omega))]
      refine LW_aloadn 0 dX11_lostOf_8 rfl rfl ?_
      refine gX11_0 dX11_lostOf_9 flX11_9 (hY.lt (k := 217) (by decide)) (ly217 hY) (lf217_0 hY) ?_
      refine LW_bipush (v := 7) dX11_lostOf_12 (by decide) ?_
      refine LW_lald dX11_lostOf_14 (hY.lt (k := 218) (by decide)) (ly218 hY) rfl (by decide) (Nat.le_of_ble_eq_true rfl) ?_
      rw [show L 218 7 = lN (aS A) from hM.nS]
      refine LW_lcmp dX11_lostOf_15 ?_
      refine LW_lif_ge (tgt := 35) dX11_lostOf_16 (by decide) (fun c16 => ?_) (fun c16 => absurd (Int64.le_refl _) c16)
      refine LW_ldc2 dX11_lostOf_35 klX11_352 ?_
      refine LW_lloadn 2 dX11_lostOf_38 rfl rfl ?_
      refine LW_lmin dX11_lostOf_39 mlX11_308 (by decide) ⟨Nat.le_refl _, Nat.le_refl _⟩ (Nat.le_of_ble_eq_true rfl) ?_
      refine LW_lret dX11_lostOf_42 rfl (Nat.le_of_ble_eq_true rfl) (Nat.le_of_ble_eq_true rfl) ?_
      refine Qr.mk ?_
      have h1 := hln (aS A) (Nat.le_refl _)
      unfold aLost
      by_cases c : aLostN A f (aS A) < 100
      · rw [if_pos (show lN (aLostN A f (aS A)) < 100 from (lN_lt (b := 100) (by omega) (by decide)).mpr c), Nat.min_eq_right (by omega)]
      · rw [if_neg (show ¬ lN (aLostN A f (aS A)) < 100 from fun q => c ((lN_lt (b := 100) (by omega) (by decide)).mp q)), Nat.min_eq_left (by omega)]; rfl
    · intro i hi ih
      refine LW_iload 3 dX11_lostOf_5 rfl ?_
      refine LW_i2l dX11_lostOf_7 ?_
      rw [show (nI i).toInt64 = lN i from (nI_l (by omega))]
      refine LW_aloadn 0 dX11_lostOf_8 rfl rfl ?_
      refine gX11_0 dX11_lostOf_9 flX11_9 (hY.lt (k := 217) (by decide)) (ly217 hY) (lf217_0 hY) ?_
      refine LW_bipush (v := 7) dX11_lostOf_12 (by decide) ?_
      refine LW_lald dX11_lostOf_14 (hY.lt (k := 218) (by decide)) (ly218 hY) rfl (by decide) (Nat.le_of_ble_eq_true rfl) ?_
      rw [show L 218 7 = lN (aS A) from hM.nS]
      refine LW_lcmp dX11_lostOf_15 ?_
      refine LW_lif_ge (tgt := 35) dX11_lostOf_16 (by decide) (fun c16 => absurd c16 (lN_nle (by omega) (by omega) hi)) (fun c16 => ?_)
      refine LW_lloadn 2 dX11_lostOf_19 rfl rfl ?_
      refine LW_aloadn 0 dX11_lostOf_20 rfl rfl ?_
      refine LW_iload 3 dX11_lostOf_21 rfl ?_
      refine LW_iloadn 1 dX11_lostOf_23 rfl rfl ?_
      refine LW_callV (As := [.int (nI i), .int (nI f)]) (b := 217) (st := [.long (lN (aLostN A f i))]) (ci := 11) (r := (RX11, TX11, 44)) (r_mHit hM hi hf) YX11_hit rfl dX11_lostOf_24 mlX11_354 (hY.lt (k := 217) (by decide)) (ly217 hY) ⟨rfl, rfl⟩ (by decide) ⟨Nat.le_of_ble_eq_true rfl, Nat.le_of_ble_eq_true rfl⟩ (Nat.le_of_ble_eq_true rfl) rfl (fun r24 Λc24 Ic24 Lc24 Rc24 hq24 => ?_)
      obtain ⟨rfl, rfl, rfl, rfl, rfl⟩ := hq24
      refine LW_ladd dX11_lostOf_27 ?_
      rw [show ((lN (aLostN A f i)) + (if aOv (aSd A i) (aFd A f) = true then lN (aHarm A (aSd A i 4) f) else 0)) = lN (aLostN A f (i + 1)) from (by
        show _ = lN (aLostN A f i + _)
        split <;> first | (rw [lN_add]; done) | (rw [show (0 : Int64) = lN 0 from rfl, lN_add]))]
      refine LW_lstoren (ls' := [(0, .ref 217), (1, .int (nI f)), (2, .long (lN (aLostN A f (i + 1)))), (4, .int (nI i))]) dX11_lostOf_28 rfl (by decide) rfl ?_
      refine LW_iinc (n := 3) (v := nI (i + 1)) (ls' := [(0, .ref 217), (1, .int (nI f)), (2, .long (lN (aLostN A f (i + 1)))), (4, .int (nI (i + 1)))]) dX11_lostOf_29 rfl (hc_inc _) (by decide) rfl ?_
      refine LW_goto (tgt := 5) dX11_lostOf_32 (by decide) ?_
      exact ih
  refine LW_lconst (v := 0) dX11_lostOf_0 (by decide) ?_
  refine LW_lstoren (ls' := [(0, .ref 217), (1, .int (nI f)), (2, .long 0)]) dX11_lostOf_1 rfl (by decide) rfl ?_
  refine LW_iconst (v := 0) dX11_lostOf_2 (by decide) ?_
  refine LW_istore (ls' := [(0, .ref 217), (1, .int (nI f)), (2, .long 0), (4, .int 0)]) dX11_lostOf_3 (by decide) rfl ?_
  exact loop 0 (Nat.zero_le _)
set_option maxRecDepth 100000 in
theorem r_joined_43 {Λ : hc_L} {I : hc_I} {L : hc_J} {R : hc_R} (a b : Int64) : Run xX11_joined [.int 43, .long a, .long b] Λ I L R (Qr (some (.long (lpBin 43 a b))) Λ I L R) := by
  refine Run.of (by decide +kernel) (Nat.le_of_ble_eq_true rfl) ?_
  show LW _ _ _ [(0, .int 43), (1, .long a), (3, .long b)] _ _ _ _ _ _
  refine LW_iloadn 0 dX11_joined_0 rfl rfl ?_
  refine LW_lookup (off := 51) (tgt := 52) dX11_joined_1 (by decide) (by decide) (by decide) ?_
  refine LW_lloadn 1 dX11_joined_52 rfl rfl ?_
  refine LW_lloadn 2 dX11_joined_53 rfl rfl ?_
  refine LW_ladd dX11_joined_54 ?_
  refine LW_lret dX11_joined_55 rfl (Nat.le_of_ble_eq_true rfl) (Nat.le_of_ble_eq_true rfl) ?_
  exact Qr.mk rfl
set_option maxRecDepth 100000 in
theorem r_joined_45 {Λ : hc_L} {I : hc_I} {L : hc_J} {R : hc_R} (a b : Int64) : Run xX11_joined [.int 45, .long a, .long b] Λ I L R (Qr (some (.long (lpBin 45 a b))) Λ I L R) := by
  refine Run.of (by decide +kernel) (Nat.le_of_ble_eq_true rfl) ?_
  show LW _ _ _ [(0, .int 45), (1, .long a), (3, .long b)] _ _ _ _ _ _
  refine LW_iloadn 0 dX11_joined_0 rfl rfl ?_
  refine LW_lookup (off := 55) (tgt := 56) dX11_joined_1 (by decide) (by decide) (by decide) ?_
  refine LW_lloadn 1 dX11_joined_56 rfl rfl ?_
  refine LW_lloadn 2 dX11_joined_57 rfl rfl ?_
  refine LW_lsub dX11_joined_58 ?_
  refine LW_lret dX11_joined_59 rfl (Nat.le_of_ble_eq_true rfl) (Nat.le_of_ble_eq_true rfl) ?_
  exact Qr.mk rfl
set_option maxRecDepth 100000 in
theorem r_joined_42 {Λ : hc_L} {I : hc_I} {L : hc_J} {R : hc_R} (a b : Int64) : Run xX11_joined [.int 42, .long a, .long b] Λ I L R (Qr (some (.long (lpBin 42 a b))) Λ I L R) := by
  refine Run.of (by decide +kernel) (Nat.le_of_ble_eq_true rfl) ?_
  show LW _ _ _ [(0, .int 42), (1, .long a), (3, .long b)] _ _ _ _ _ _
  refine LW_iloadn 0 dX11_joined_0 rfl rfl ?_
  refine LW_lookup (off := 59) (tgt := 60) dX11_joined_1 (by decide) (by decide) (by decide) ?_
  refine LW_lloadn 1 dX11_joined_60 rfl rfl ?_
  refine LW_lloadn 2 dX11_joined_61 rfl rfl ?_
  refine LW_lmul dX11_joined_62 ?_
  refine LW_lret dX11_joined_63 rfl (Nat.le_of_ble_eq_true rfl) (Nat.le_of_ble_eq_true rfl) ?_
  exact Qr.mk rfl
set_option maxRecDepth 100000 in
theorem r_joined_47 {Λ : hc_L} {I : hc_I} {L : hc_J} {R : hc_R} (a b : Int64) : Run xX11_joined [.int 47, .long a, .long b] Λ I L R (Qr (some (.long (lpBin 47 a b))) Λ I L R) := by
  refine Run.of (by decide +kernel) (Nat.le_of_ble_eq_true rfl) ?_
  show LW _ _ _ [(0, .int 47), (1, .long a), (3, .long b)] _ _ _ _ _ _
  refine LW_iloadn 0 dX11_joined_0 rfl rfl ?_
  refine LW_lookup (off := 63) (tgt := 64) dX11_joined_1 (by decide) (by decide) (by decide) ?_
  refine LW_lloadn 2 dX11_joined_64 rfl rfl ?_
  refine LW_lconst (v := 0) dX11_joined_65 (by decide) ?_
  refine LW_lcmp dX11_joined_66 ?_
  refine LW_lif_ne (tgt := 74) dX11_joined_67 (by decide) (fun c67 => ?_) (fun c67 => ?_)
  · refine LW_lloadn 1 dX11_joined_74 rfl rfl ?_
    refine LW_lloadn 2 dX11_joined_75 rfl rfl ?_
    refine LW_ldiv dX11_joined_76 c67 ?_
    refine LW_lret dX11_joined_77 rfl (Nat.le_of_ble_eq_true rfl) (Nat.le_of_ble_eq_true rfl) ?_
    refine Qr.mk ?_
    show _ = some (Value.long (if b = 0 then 0 else a / b))
    rw [if_neg c67]
  · refine LW_lconst (v := 0) dX11_joined_70 (by decide) ?_
    refine LW_goto (tgt := 77) dX11_joined_71 (by decide) ?_
    refine LW_lret dX11_joined_77 rfl (Nat.le_of_ble_eq_true rfl) (Nat.le_of_ble_eq_true rfl) ?_
    refine Qr.mk ?_
    show _ = some (Value.long (if b = 0 then 0 else a / b))
    rw [if_pos (Classical.not_not.mp c67)]
set_option maxRecDepth 100000 in
theorem r_joined_2 {Λ : hc_L} {I : hc_I} {L : hc_J} {R : hc_R} (a b : Int64) : Run xX11_joined [.int 2, .long a, .long b] Λ I L R (Qr (some (.long (lpBin 2 a b))) Λ I L R) := by
  refine Run.of (by decide +kernel) (Nat.le_of_ble_eq_true rfl) ?_
  show LW _ _ _ [(0, .int 2), (1, .long a), (3, .long b)] _ _ _ _ _ _
  refine LW_iloadn 0 dX11_joined_0 rfl rfl ?_
  refine LW_lookup (off := 77) (tgt := 78) dX11_joined_1 (by decide) (by decide) (by decide) ?_
  refine LW_lloadn 1 dX11_joined_78 rfl rfl ?_
  refine LW_lloadn 2 dX11_joined_79 rfl rfl ?_
  refine LW_lmin dX11_joined_80 mlX11_308 (by decide) ⟨Nat.le_refl _, Nat.le_refl _⟩ (Nat.le_of_ble_eq_true rfl) ?_
  refine LW_lret dX11_joined_83 rfl (Nat.le_of_ble_eq_true rfl) (Nat.le_of_ble_eq_true rfl) ?_
  refine Qr.mk ?_
  show some (Value.long (if b < a then b else a)) = some (Value.long (if a < b then a else b))
  congr 2
  by_cases c : a < b
  · rw [if_pos c, if_neg (fun q => Int64.lt_irrefl (Int64.lt_trans c q))]
  · by_cases d : b < a
    · rw [if_pos d, if_neg c]
    · rw [if_neg d, if_neg c, Int64.le_antisymm (Int64.not_lt.mp d) (Int64.not_lt.mp c)]
set_option maxRecDepth 100000 in
theorem r_joined_3 {Λ : hc_L} {I : hc_I} {L : hc_J} {R : hc_R} (a b : Int64) : Run xX11_joined [.int 3, .long a, .long b] Λ I L R (Qr (some (.long (lpBin 3 a b))) Λ I L R) := by
  refine Run.of (by decide +kernel) (Nat.le_of_ble_eq_true rfl) ?_
  show LW _ _ _ [(0, .int 3), (1, .long a), (3, .long b)] _ _ _ _ _ _
  refine LW_iloadn 0 dX11_joined_0 rfl rfl ?_
  refine LW_lookup (off := 83) (tgt := 84) dX11_joined_1 (by decide) (by decide) (by decide) ?_
  refine LW_lloadn 1 dX11_joined_84 rfl rfl ?_
  refine LW_lloadn 2 dX11_joined_85 rfl rfl ?_
  refine LW_lmax dX11_joined_86 mlX11_313 (by decide) ⟨Nat.le_refl _, Nat.le_refl _⟩ (Nat.le_of_ble_eq_true rfl) ?_
  refine LW_lret dX11_joined_89 rfl (Nat.le_of_ble_eq_true rfl) (Nat.le_of_ble_eq_true rfl) ?_
  exact Qr.mk rfl
theorem r_joined {Λ : hc_L} {I : hc_I} {L : hc_J} {R : hc_R} {k : Nat} (hk : lpK k = true) (h0 : k ≠ 0) (h1 : k ≠ 1) (h4 : k ≠ 4) (a b : Int64) : Run xX11_joined [.int (nI k), .long a, .long b] Λ I L R (Qr (some (.long (lpBin k a b))) Λ I L R) := by
  rcases lpK_c hk with rfl | rfl | rfl | rfl | rfl | rfl | rfl | rfl | rfl
  · contradiction
  · contradiction
  · exact r_joined_2 a b
  · exact r_joined_3 a b
  · contradiction
  · exact r_joined_42 a b
  · exact r_joined_43 a b
  · exact r_joined_45 a b
  · exact r_joined_47 a b
def mJ (z : Nat) : Prop := z = 228 ∨ z = 229
theorem hc_dec {n : Nat} (h : 1 ≤ n) : nI n + Int32.ofInt (-1) = nI (n - 1) := by
  obtain ⟨m, rfl⟩ : ∃ m, n = m + 1 := ⟨n - 1, by omega⟩
  rw [Nat.add_sub_cancel, nI_succ]
  show nI m + 1 + (-1) = nI m
  rw [Int32.add_assoc, show (1 : Int32) + (-1) = 0 from rfl, Int32.add_zero]
theorem hc_dec2 {n : Nat} (h : 2 ≤ n) : nI n + Int32.ofInt (-2) = nI (n - 2) := by
  obtain ⟨m, rfl⟩ : ∃ m, n = m + 2 := ⟨n - 2, by omega⟩
  rw [Nat.add_sub_cancel, ← nI_add m 2]
  show nI m + 2 + (-2) = nI m
  rw [Int32.add_assoc, show (2 : Int32) + (-2) = 0 from rfl, Int32.add_zero]
set_option maxRecDepth 100000 in
theorem r_lawTells {Λ : hc_L} {I : hc_I} {L : hc_J} {R : hc_R} {P : LwP} {q : Nat → Int64} (hY : LY Λ) (hP : ML I L P) (hn : 0 < P.1) (hq : ∀ v, v < 4 → L 229 v = q v) : Run xX11_lawTells [.ref 217] Λ I L R (Qj (fun z => z = 228) (some (.long (lpVal P q))) Λ I L R) := by
  refine Run.of (by decide +kernel) (Nat.le_of_ble_eq_true rfl) ?_
  show LW _ _ _ [(0, .ref 217)] _ _ _ _ _ _
  have hn7 := hP.1.1
  have loop : ∀ i, i ≤ P.1 → ∀ (L1 : hc_J), (∀ z, z ≠ 228 → L1 z = L z) → (∀ j, j < lpT P i → L1 228 j = lpS P q i j) → LW xX11_lawTells (0, 0) 4 [(0, .ref 217), (1, .int (nI (lpT P i))), (2, .int (nI i))] [] Λ I L1 R (Qj (fun z => z = 228) (some (.long (lpVal P q))) Λ I L R) := by
    refine hc_down ?_ ?_
    · intro L1 hL1 hS
      refine LW_iloadn 2 dX11_lawTells_4 rfl rfl ?_
      refine LW_aloadn 0 dX11_lawTells_5 rfl rfl ?_
      refine gX11_10 dX11_lawTells_6 flX11_116 (hY.lt (k := 217) (by decide)) (ly217 hY) ?_
      rw [show I 217 10 = nI P.1 from hP.2.1]
      refine LW_icmp_ge (tgt := 149) dX11_lawTells_9 (by decide) (fun c9 => ?_) (fun c9 => absurd (Int32.le_refl _) c9)
      refine LW_aloadn 0 dX11_lawTells_149 rfl rfl ?_
      refine gX11_33 dX11_lawTells_150 flX11_47 (hY.lt (k := 217) (by decide)) (ly217 hY) (lf217_33 hY) ?_
      refine LW_iconst (v := 0) dX11_lawTells_153 (by decide) ?_
      refine LW_lald dX11_lawTells_154 (hY.lt (k := 228) (by decide)) (ly228 hY) rfl (by decide) (Nat.le_of_ble_eq_true rfl) ?_
      refine LW_lret dX11_lawTells_155 rfl (Nat.le_of_ble_eq_true rfl) (Nat.le_of_ble_eq_true rfl) ?_
      refine ⟨?_, rfl, rfl, fun z hz => hL1 z hz, rfl⟩
      rw [hS 0 (hP.1.2.2 hn)]; rfl
    · intro i hi ih L1 hL1 hS
      obtain ⟨o1, o2, o3, o4, o5⟩ := hP.1.2.1 i hi
      have hT : lpT P (i + 1) = lpT P i - lpAr (P.2.1 i) + 1 := rfl
      have hc : L1 225 i = lN (P.2.2 i) := by rw [hL1 225 (by decide)]; exact (hP.2.2 i hi).2
      by_cases hk : P.2.1 i = 0
      · have ha : lpAr (P.2.1 i) = 0 := by rw [hk]; rfl
        refine LW_iloadn 2 dX11_lawTells_4 rfl rfl ?_
        refine LW_aloadn 0 dX11_lawTells_5 rfl rfl ?_
        refine gX11_10 dX11_lawTells_6 flX11_116 (hY.lt (k := 217) (by decide)) (ly217 hY) ?_
        rw [show I 217 10 = nI P.1 from hP.2.1]
        refine LW_icmp_ge (tgt := 149) dX11_lawTells_9 (by decide) (fun c9 => absurd c9 (hc_nle (by omega) (by omega) hi)) (fun c9 => ?_)
        refine LW_aloadn 0 dX11_lawTells_12 rfl rfl ?_
        refine gX11_9 dX11_lawTells_13 flX11_37 (hY.lt (k := 217) (by decide)) (ly217 hY) (lf217_9 hY) ?_
        refine LW_iloadn 2 dX11_lawTells_16 rfl rfl ?_
        refine LW_iald dX11_lawTells_17 (hY.lt (k := 226) (by decide)) (ly226 hY) rfl (by omega) (Nat.le_of_ble_eq_true rfl) ?_
        rw [show I 226 i = 0 from (by rw [(hP.2.2 i hi).1, hk]; rfl)]
        refine LW_istoren (ls' := [(0, .ref 217), (1, .int (nI (lpT P i))), (2, .int (nI i)), (3, .int 0)]) dX11_lawTells_18 rfl (by decide) rfl ?_
        refine LW_iloadn 3 dX11_lawTells_19 rfl rfl ?_
        refine LW_if_eq (tgt := 28) dX11_lawTells_20 (by decide) (fun c20 => ?_) (fun c20 => absurd rfl c20)
        refine LW_aloadn 0 dX11_lawTells_28 rfl rfl ?_
        refine gX11_33 dX11_lawTells_29 flX11_47 (hY.lt (k := 217) (by decide)) (ly217 hY) (lf217_33 hY) ?_
        refine LW_iloadn 1 dX11_lawTells_32 rfl rfl ?_
        refine LW_iloadn 3 dX11_lawTells_33 rfl rfl ?_
        refine LW_if_ne (tgt := 46) dX11_lawTells_34 (by decide) (fun c34 => absurd c34 (by decide)) (fun c34 => ?_)
        refine LW_aloadn 0 dX11_lawTells_37 rfl rfl ?_
        refine gX11_8 dX11_lawTells_38 flX11_34 (hY.lt (k := 217) (by decide)) (ly217 hY) (lf217_8 hY) ?_
        refine LW_iloadn 2 dX11_lawTells_41 rfl rfl ?_
        refine LW_lald dX11_lawTells_42 (hY.lt (k := 225) (by decide)) (ly225 hY) rfl (by omega) (Nat.le_of_ble_eq_true rfl) ?_
        rw [show L1 225 i = lN (P.2.2 i) from hc]
        refine LW_goto (tgt := 58) dX11_lawTells_43 (by decide) ?_
        refine LW_last dX11_lawTells_58 (hY.lt (k := 228) (by decide)) (ly228 hY) rfl (by omega) (Nat.le_of_ble_eq_true rfl) ?_
        generalize hL58 : hc_u L1 228 (lpT P i) (lN (P.2.2 i)) = L58
        refine LW_iinc (n := 1) (v := nI (lpT P i + 1)) (ls' := [(0, .ref 217), (1, .int (nI (lpT P i + 1))), (2, .int (nI i)), (3, .int 0)]) dX11_lawTells_59 rfl (hc_inc _) (by decide) rfl ?_
        refine LW_goto (tgt := 143) dX11_lawTells_62 (by decide) ?_
        refine LW_iinc (n := 2) (v := nI (i + 1)) (ls' := [(0, .ref 217), (1, .int (nI (lpT P i + 1))), (2, .int (nI (i + 1))), (3, .int 0)]) dX11_lawTells_143 rfl (hc_inc _) (by decide) rfl ?_
        refine LW_goto (tgt := 4) dX11_lawTells_146 (by decide) ?_
        have e : lpS P q (i + 1) = lpUp (lpS P q i) (lpT P i) (lN (P.2.2 i)) := by
          show lpUp (lpS P q i) (lpT P i - lpAr (P.2.1 i)) (if P.2.1 i = 0 then lN (P.2.2 i) else if P.2.1 i = 1 then q (P.2.2 i) else if P.2.1 i = 4 then (if 0 < lpS P q i (lpT P i - lpAr (P.2.1 i)) then lpS P q i (lpT P i - lpAr (P.2.1 i) + 1) else lpS P q i (lpT P i - lpAr (P.2.1 i) + 2)) else lpBin (P.2.1 i) (lpS P q i (lpT P i - lpAr (P.2.1 i))) (lpS P q i (lpT P i - lpAr (P.2.1 i) + 1))) = _
          rw [ha, if_pos hk]
          try rfl
        have eT : lpT P (i + 1) = lpT P i + 1 := by rw [hT, ha]; omega
        rw [eT] at ih
        refine LW_ls (ls' := [(0, .ref 217), (1, .int (nI (lpT P i + 1))), (2, .int (nI (i + 1)))]) [0, 1, 2] rfl ?_
        refine ih L58 (fun z hz => by rw [← hL58, hc_u_row _ _ _ _ hz]; exact hL1 z hz) (fun j hj => ?_)
        rw [e, ← hL58, hc_u_at]
        unfold lpUp
        by_cases cj : j = lpT P i
        · rw [if_pos cj, if_pos cj]
        · rw [if_neg cj, if_neg cj]
          exact hS j (by omega)
      have k0 : P.2.1 i ≠ 0 := hk
      clear hk
      by_cases hk : P.2.1 i = 1
      · have ha : lpAr (P.2.1 i) = 0 := by rw [hk]; rfl
        refine LW_iloadn 2 dX11_lawTells_4 rfl rfl ?_
        refine LW_aloadn 0 dX11_lawTells_5 rfl rfl ?_
        refine gX11_10 dX11_lawTells_6 flX11_116 (hY.lt (k := 217) (by decide)) (ly217 hY) ?_
        rw [show I 217 10 = nI P.1 from hP.2.1]
        refine LW_icmp_ge (tgt := 149) dX11_lawTells_9 (by decide) (fun c9 => absurd c9 (hc_nle (by omega) (by omega) hi)) (fun c9 => ?_)
        refine LW_aloadn 0 dX11_lawTells_12 rfl rfl ?_
        refine gX11_9 dX11_lawTells_13 flX11_37 (hY.lt (k := 217) (by decide)) (ly217 hY) (lf217_9 hY) ?_
        refine LW_iloadn 2 dX11_lawTells_16 rfl rfl ?_
        refine LW_iald dX11_lawTells_17 (hY.lt (k := 226) (by decide)) (ly226 hY) rfl (by omega) (Nat.le_of_ble_eq_true rfl) ?_
        rw [show I 226 i = 1 from (by rw [(hP.2.2 i hi).1, hk]; rfl)]
        refine LW_istoren (ls' := [(0, .ref 217), (1, .int (nI (lpT P i))), (2, .int (nI i)), (3, .int 1)]) dX11_lawTells_18 rfl (by decide) rfl ?_
        refine LW_iloadn 3 dX11_lawTells_19 rfl rfl ?_
        refine LW_if_eq (tgt := 28) dX11_lawTells_20 (by decide) (fun c20 => absurd c20 (by decide)) (fun c20 => ?_)
        refine LW_iloadn 3 dX11_lawTells_23 rfl rfl ?_
        refine LW_iconst (v := 1) dX11_lawTells_24 (by decide) ?_
        refine LW_icmp_ne (tgt := 65) dX11_lawTells_25 (by decide) (fun c25 => absurd c25 (by decide)) (fun c25 => ?_)
        refine LW_aloadn 0 dX11_lawTells_28 rfl rfl ?_
        refine gX11_33 dX11_lawTells_29 flX11_47 (hY.lt (k := 217) (by decide)) (ly217 hY) (lf217_33 hY) ?_
        refine LW_iloadn 1 dX11_lawTells_32 rfl rfl ?_
        refine LW_iloadn 3 dX11_lawTells_33 rfl rfl ?_
        refine LW_if_ne (tgt := 46) dX11_lawTells_34 (by decide) (fun c34 => ?_) (fun c34 => absurd (by decide) c34)
        refine LW_aloadn 0 dX11_lawTells_46 rfl rfl ?_
        refine gX11_34 dX11_lawTells_47 flX11_50 (hY.lt (k := 217) (by decide)) (ly217 hY) (lf217_34 hY) ?_
        refine LW_aloadn 0 dX11_lawTells_50 rfl rfl ?_
        refine gX11_8 dX11_lawTells_51 flX11_34 (hY.lt (k := 217) (by decide)) (ly217 hY) (lf217_8 hY) ?_
        refine LW_iloadn 2 dX11_lawTells_54 rfl rfl ?_
        refine LW_lald dX11_lawTells_55 (hY.lt (k := 225) (by decide)) (ly225 hY) rfl (by omega) (Nat.le_of_ble_eq_true rfl) ?_
        rw [show L1 225 i = lN (P.2.2 i) from hc]
        refine LW_l2i dX11_lawTells_56 ?_
        rw [show (lN (P.2.2 i)).toInt32 = nI (P.2.2 i) from (lN_i _)]
        refine LW_lald dX11_lawTells_57 (hY.lt (k := 229) (by decide)) (ly229 hY) rfl (by have := o5 hk; omega) (Nat.le_of_ble_eq_true rfl) ?_
        rw [show L1 229 (P.2.2 i) = q (P.2.2 i) from (by rw [hL1 229 (by decide)]; exact hq _ (o5 hk))]
        refine LW_last dX11_lawTells_58 (hY.lt (k := 228) (by decide)) (ly228 hY) rfl (by omega) (Nat.le_of_ble_eq_true rfl) ?_
        generalize hL58 : hc_u L1 228 (lpT P i) (q (P.2.2 i)) = L58
        refine LW_iinc (n := 1) (v := nI (lpT P i + 1)) (ls' := [(0, .ref 217), (1, .int (nI (lpT P i + 1))), (2, .int (nI i)), (3, .int 1)]) dX11_lawTells_59 rfl (hc_inc _) (by decide) rfl ?_
        refine LW_goto (tgt := 143) dX11_lawTells_62 (by decide) ?_
        refine LW_iinc (n := 2) (v := nI (i + 1)) (ls' := [(0, .ref 217), (1, .int (nI (lpT P i + 1))), (2, .int (nI (i + 1))), (3, .int 1)]) dX11_lawTells_143 rfl (hc_inc _) (by decide) rfl ?_
        refine LW_goto (tgt := 4) dX11_lawTells_146 (by decide) ?_
        have e : lpS P q (i + 1) = lpUp (lpS P q i) (lpT P i) (q (P.2.2 i)) := by
          show lpUp (lpS P q i) (lpT P i - lpAr (P.2.1 i)) (if P.2.1 i = 0 then lN (P.2.2 i) else if P.2.1 i = 1 then q (P.2.2 i) else if P.2.1 i = 4 then (if 0 < lpS P q i (lpT P i - lpAr (P.2.1 i)) then lpS P q i (lpT P i - lpAr (P.2.1 i) + 1) else lpS P q i (lpT P i - lpAr (P.2.1 i) + 2)) else lpBin (P.2.1 i) (lpS P q i (lpT P i - lpAr (P.2.1 i))) (lpS P q i (lpT P i - lpAr (P.2.1 i) + 1))) = _
          rw [ha, if_neg (by rw [hk]; decide), if_pos hk]
          try rfl
        have eT : lpT P (i + 1) = lpT P i + 1 := by rw [hT, ha]; omega
        rw [eT] at ih
        refine LW_ls (ls' := [(0, .ref 217), (1, .int (nI (lpT P i + 1))), (2, .int (nI (i + 1)))]) [0, 1, 2] rfl ?_
        refine ih L58 (fun z hz => by rw [← hL58, hc_u_row _ _ _ _ hz]; exact hL1 z hz) (fun j hj => ?_)
        rw [e, ← hL58, hc_u_at]
        unfold lpUp
        by_cases cj : j = lpT P i
        · rw [if_pos cj, if_pos cj]
        · rw [if_neg cj, if_neg cj]
          exact hS j (by omega)
      have k1 : P.2.1 i ≠ 1 := hk
      clear hk
      by_cases hk : P.2.1 i = 4
      · have ha : lpAr (P.2.1 i) = 3 := by rw [hk]; rfl
        refine LW_iloadn 2 dX11_lawTells_4 rfl rfl ?_
        refine LW_aloadn 0 dX11_lawTells_5 rfl rfl ?_
        refine gX11_10 dX11_lawTells_6 flX11_116 (hY.lt (k := 217) (by decide)) (ly217 hY) ?_
        rw [show I 217 10 = nI P.1 from hP.2.1]
        refine LW_icmp_ge (tgt := 149) dX11_lawTells_9 (by decide) (fun c9 => absurd c9 (hc_nle (by omega) (by omega) hi)) (fun c9 => ?_)
        refine LW_aloadn 0 dX11_lawTells_12 rfl rfl ?_
        refine gX11_9 dX11_lawTells_13 flX11_37 (hY.lt (k := 217) (by decide)) (ly217 hY) (lf217_9 hY) ?_
        refine LW_iloadn 2 dX11_lawTells_16 rfl rfl ?_
        refine LW_iald dX11_lawTells_17 (hY.lt (k := 226) (by decide)) (ly226 hY) rfl (by omega) (Nat.le_of_ble_eq_true rfl) ?_
        rw [show I 226 i = 4 from (by rw [(hP.2.2 i hi).1, hk]; rfl)]
        refine LW_istoren (ls' := [(0, .ref 217), (1, .int (nI (lpT P i))), (2, .int (nI i)), (3, .int 4)]) dX11_lawTells_18 rfl (by decide) rfl ?_
        refine LW_iloadn 3 dX11_lawTells_19 rfl rfl ?_
        refine LW_if_eq (tgt := 28) dX11_lawTells_20 (by decide) (fun c20 => absurd c20 (by decide)) (fun c20 => ?_)
        refine LW_iloadn 3 dX11_lawTells_23 rfl rfl ?_
        refine LW_iconst (v := 1) dX11_lawTells_24 (by decide) ?_
        refine LW_icmp_ne (tgt := 65) dX11_lawTells_25 (by decide) (fun c25 => ?_) (fun c25 => absurd (by decide) c25)
        refine LW_iloadn 3 dX11_lawTells_65 rfl rfl ?_
        refine LW_iconst (v := 4) dX11_lawTells_66 (by decide) ?_
        refine LW_icmp_ne (tgt := 114) dX11_lawTells_67 (by decide) (fun c67 => absurd c67 (fun z => z rfl)) (fun c67 => ?_)
        refine LW_iinc (n := 1) (v := nI (lpT P i - 2)) (ls' := [(0, .ref 217), (1, .int (nI (lpT P i - 2))), (2, .int (nI i)), (3, .int 4)]) dX11_lawTells_70 rfl (hc_dec2 (by omega)) (by decide) rfl ?_
        refine LW_aloadn 0 dX11_lawTells_73 rfl rfl ?_
        refine gX11_33 dX11_lawTells_74 flX11_47 (hY.lt (k := 217) (by decide)) (ly217 hY) (lf217_33 hY) ?_
        refine LW_iloadn 1 dX11_lawTells_77 rfl rfl ?_
        refine LW_iconst (v := 1) dX11_lawTells_78 (by decide) ?_
        refine LW_isub dX11_lawTells_79 ?_
        rw [show ((nI (lpT P i - 2)) - 1) = nI (lpT P i - 3) from (by rw [show (1 : Int32) = nI 1 from rfl, nI_sub (by omega)]; congr 1)]
        refine LW_aloadn 0 dX11_lawTells_80 rfl rfl ?_
        refine gX11_33 dX11_lawTells_81 flX11_47 (hY.lt (k := 217) (by decide)) (ly217 hY) (lf217_33 hY) ?_
        refine LW_iloadn 1 dX11_lawTells_84 rfl rfl ?_
        refine LW_iconst (v := 1) dX11_lawTells_85 (by decide) ?_
        refine LW_isub dX11_lawTells_86 ?_
        rw [show ((nI (lpT P i - 2)) - 1) = nI (lpT P i - 3) from (by rw [show (1 : Int32) = nI 1 from rfl, nI_sub (by omega)]; congr 1)]
        refine LW_lald dX11_lawTells_87 (hY.lt (k := 228) (by decide)) (ly228 hY) rfl (by omega) (Nat.le_of_ble_eq_true rfl) ?_
        rw [show L1 228 (lpT P i - 3) = lpS P q i (lpT P i - 3) from hS _ (by omega)]
        refine LW_lconst (v := 0) dX11_lawTells_88 (by decide) ?_
        refine LW_lcmp dX11_lawTells_89 ?_
        refine LW_lif_le (tgt := 102) dX11_lawTells_90 (by decide) (fun c90 => ?_) (fun c90 => ?_)
        · have c90x : ¬ 0 < lpS P q i (lpT P i - 3) := Int64.not_lt.mpr c90
          refine LW_aloadn 0 dX11_lawTells_102 rfl rfl ?_
          refine gX11_33 dX11_lawTells_103 flX11_47 (hY.lt (k := 217) (by decide)) (ly217 hY) (lf217_33 hY) ?_
          refine LW_iloadn 1 dX11_lawTells_106 rfl rfl ?_
          refine LW_iconst (v := 1) dX11_lawTells_107 (by decide) ?_
          refine LW_iadd dX11_lawTells_108 ?_
          rw [show ((nI (lpT P i - 2)) + 1) = nI (lpT P i - 1) from (by rw [show (1 : Int32) = nI 1 from rfl, nI_add]; congr 1; omega)]
          refine LW_lald dX11_lawTells_109 (hY.lt (k := 228) (by decide)) (ly228 hY) rfl (by omega) (Nat.le_of_ble_eq_true rfl) ?_
          rw [show L1 228 (lpT P i - 1) = lpS P q i (lpT P i - 1) from hS _ (by omega)]
          refine LW_last dX11_lawTells_110 (hY.lt (k := 228) (by decide)) (ly228 hY) rfl (by omega) (Nat.le_of_ble_eq_true rfl) ?_
          generalize hL110 : hc_u L1 228 (lpT P i - 3) (lpS P q i (lpT P i - 1)) = L110
          refine LW_goto (tgt := 143) dX11_lawTells_111 (by decide) ?_
          refine LW_iinc (n := 2) (v := nI (i + 1)) (ls' := [(0, .ref 217), (1, .int (nI (lpT P i - 2))), (2, .int (nI (i + 1))), (3, .int 4)]) dX11_lawTells_143 rfl (hc_inc _) (by decide) rfl ?_
          refine LW_goto (tgt := 4) dX11_lawTells_146 (by decide) ?_
          have e : lpS P q (i + 1) = lpUp (lpS P q i) (lpT P i - 3) ((if 0 < lpS P q i (lpT P i - 3) then lpS P q i (lpT P i - 3 + 1) else lpS P q i (lpT P i - 3 + 2))) := by
            show lpUp (lpS P q i) (lpT P i - lpAr (P.2.1 i)) (if P.2.1 i = 0 then lN (P.2.2 i) else if P.2.1 i = 1 then q (P.2.2 i) else if P.2.1 i = 4 then (if 0 < lpS P q i (lpT P i - lpAr (P.2.1 i)) then lpS P q i (lpT P i - lpAr (P.2.1 i) + 1) else lpS P q i (lpT P i - lpAr (P.2.1 i) + 2)) else lpBin (P.2.1 i) (lpS P q i (lpT P i - lpAr (P.2.1 i))) (lpS P q i (lpT P i - lpAr (P.2.1 i) + 1))) = _
            rw [ha, if_neg (by rw [hk]; decide), if_neg (by rw [hk]; decide), if_pos hk]
            try rfl
          have eT : lpT P (i + 1) = lpT P i - 2 := by rw [hT, ha]; omega
          rw [eT] at ih
          refine LW_ls (ls' := [(0, .ref 217), (1, .int (nI (lpT P i - 2))), (2, .int (nI (i + 1)))]) [0, 1, 2] rfl ?_
          refine ih L110 (fun z hz => by rw [← hL110, hc_u_row _ _ _ _ hz]; exact hL1 z hz) (fun j hj => ?_)
          rw [e, ← hL110, hc_u_at]
          unfold lpUp
          by_cases cj : j = lpT P i - 3
          · rw [if_pos cj, if_pos cj]
            rw [if_neg c90x, show lpT P i - 3 + 2 = lpT P i - 1 by omega]
          · rw [if_neg cj, if_neg cj]
            exact hS j (by omega)
        · have c90x : 0 < lpS P q i (lpT P i - 3) := Int64.not_le.mp c90
          refine LW_aloadn 0 dX11_lawTells_93 rfl rfl ?_
          refine gX11_33 dX11_lawTells_94 flX11_47 (hY.lt (k := 217) (by decide)) (ly217 hY) (lf217_33 hY) ?_
          refine LW_iloadn 1 dX11_lawTells_97 rfl rfl ?_
          refine LW_lald dX11_lawTells_98 (hY.lt (k := 228) (by decide)) (ly228 hY) rfl (by omega) (Nat.le_of_ble_eq_true rfl) ?_
          rw [show L1 228 (lpT P i - 2) = lpS P q i (lpT P i - 2) from hS _ (by omega)]
          refine LW_goto (tgt := 110) dX11_lawTells_99 (by decide) ?_
          refine LW_last dX11_lawTells_110 (hY.lt (k := 228) (by decide)) (ly228 hY) rfl (by omega) (Nat.le_of_ble_eq_true rfl) ?_
          generalize hL110 : hc_u L1 228 (lpT P i - 3) (lpS P q i (lpT P i - 2)) = L110
          refine LW_goto (tgt := 143) dX11_lawTells_111 (by decide) ?_
          refine LW_iinc (n := 2) (v := nI (i + 1)) (ls' := [(0, .ref 217), (1, .int (nI (lpT P i - 2))), (2, .int (nI (i + 1))), (3, .int 4)]) dX11_lawTells_143 rfl (hc_inc _) (by decide) rfl ?_
          refine LW_goto (tgt := 4) dX11_lawTells_146 (by decide) ?_
          have e : lpS P q (i + 1) = lpUp (lpS P q i) (lpT P i - 3) ((if 0 < lpS P q i (lpT P i - 3) then lpS P q i (lpT P i - 3 + 1) else lpS P q i (lpT P i - 3 + 2))) := by
            show lpUp (lpS P q i) (lpT P i - lpAr (P.2.1 i)) (if P.2.1 i = 0 then lN (P.2.2 i) else if P.2.1 i = 1 then q (P.2.2 i) else if P.2.1 i = 4 then (if 0 < lpS P q i (lpT P i - lpAr (P.2.1 i)) then lpS P q i (lpT P i - lpAr (P.2.1 i) + 1) else lpS P q i (lpT P i - lpAr (P.2.1 i) + 2)) else lpBin (P.2.1 i) (lpS P q i (lpT P i - lpAr (P.2.1 i))) (lpS P q i (lpT P i - lpAr (P.2.1 i) + 1))) = _
            rw [ha, if_neg (by rw [hk]; decide), if_neg (by rw [hk]; decide), if_pos hk]
            try rfl
          have eT : lpT P (i + 1) = lpT P i - 2 := by rw [hT, ha]; omega
          rw [eT] at ih
          refine LW_ls (ls' := [(0, .ref 217), (1, .int (nI (lpT P i - 2))), (2, .int (nI (i + 1)))]) [0, 1, 2] rfl ?_
          refine ih L110 (fun z hz => by rw [← hL110, hc_u_row _ _ _ _ hz]; exact hL1 z hz) (fun j hj => ?_)
          rw [e, ← hL110, hc_u_at]
          unfold lpUp
          by_cases cj : j = lpT P i - 3
          · rw [if_pos cj, if_pos cj]
            rw [if_pos c90x, show lpT P i - 3 + 1 = lpT P i - 2 by omega]
          · rw [if_neg cj, if_neg cj]
            exact hS j (by omega)
      have k4 : P.2.1 i ≠ 4 := hk
      clear hk
      have hkb : P.2.1 i < 48 := by rcases lpK_c o1 with q | q | q | q | q | q | q | q | q <;> omega
      have ha : lpAr (P.2.1 i) = 2 := by unfold lpAr; rw [if_neg k0, if_neg k1, if_neg k4]
      refine LW_iloadn 2 dX11_lawTells_4 rfl rfl ?_
      refine LW_aloadn 0 dX11_lawTells_5 rfl rfl ?_
      refine gX11_10 dX11_lawTells_6 flX11_116 (hY.lt (k := 217) (by decide)) (ly217 hY) ?_
      rw [show I 217 10 = nI P.1 from hP.2.1]
      refine LW_icmp_ge (tgt := 149) dX11_lawTells_9 (by decide) (fun c9 => absurd c9 (hc_nle (by omega) (by omega) hi)) (fun c9 => ?_)
      refine LW_aloadn 0 dX11_lawTells_12 rfl rfl ?_
      refine gX11_9 dX11_lawTells_13 flX11_37 (hY.lt (k := 217) (by decide)) (ly217 hY) (lf217_9 hY) ?_
      refine LW_iloadn 2 dX11_lawTells_16 rfl rfl ?_
      refine LW_iald dX11_lawTells_17 (hY.lt (k := 226) (by decide)) (ly226 hY) rfl (by omega) (Nat.le_of_ble_eq_true rfl) ?_
      rw [show I 226 i = nI (P.2.1 i) from (by rw [(hP.2.2 i hi).1])]
      refine LW_istoren (ls' := [(0, .ref 217), (1, .int (nI (lpT P i))), (2, .int (nI i)), (3, .int (nI (P.2.1 i)))]) dX11_lawTells_18 rfl (by decide) rfl ?_
      refine LW_iloadn 3 dX11_lawTells_19 rfl rfl ?_
      refine LW_if_eq (tgt := 28) dX11_lawTells_20 (by decide) (fun c20 => absurd c20 (fun z => k0 ((hc_eq (b := 0) (by omega) (by omega)).mp z))) (fun c20 => ?_)
      refine LW_iloadn 3 dX11_lawTells_23 rfl rfl ?_
      refine LW_iconst (v := 1) dX11_lawTells_24 (by decide) ?_
      refine LW_icmp_ne (tgt := 65) dX11_lawTells_25 (by decide) (fun c25 => ?_) (fun c25 => absurd (fun z => k1 ((hc_eq (b := 1) (by omega) (by omega)).mp z)) c25)
      refine LW_iloadn 3 dX11_lawTells_65 rfl rfl ?_
      refine LW_iconst (v := 4) dX11_lawTells_66 (by decide) ?_
      refine LW_icmp_ne (tgt := 114) dX11_lawTells_67 (by decide) (fun c67 => ?_) (fun c67 => absurd (fun z => k4 ((hc_eq (b := 4) (by omega) (by omega)).mp z)) c67)
      refine LW_iinc (n := 1) (v := nI (lpT P i - 1)) (ls' := [(0, .ref 217), (1, .int (nI (lpT P i - 1))), (2, .int (nI i)), (3, .int (nI (P.2.1 i)))]) dX11_lawTells_114 rfl (hc_dec (by omega)) (by decide) rfl ?_
      refine LW_aloadn 0 dX11_lawTells_117 rfl rfl ?_
      refine gX11_33 dX11_lawTells_118 flX11_47 (hY.lt (k := 217) (by decide)) (ly217 hY) (lf217_33 hY) ?_
      refine LW_iloadn 1 dX11_lawTells_121 rfl rfl ?_
      refine LW_iconst (v := 1) dX11_lawTells_122 (by decide) ?_
      refine LW_isub dX11_lawTells_123 ?_
      rw [show ((nI (lpT P i - 1)) - 1) = nI (lpT P i - 2) from (by rw [show (1 : Int32) = nI 1 from rfl, nI_sub (by omega)]; congr 1)]
      refine LW_iloadn 3 dX11_lawTells_124 rfl rfl ?_
      refine LW_aloadn 0 dX11_lawTells_125 rfl rfl ?_
      refine gX11_33 dX11_lawTells_126 flX11_47 (hY.lt (k := 217) (by decide)) (ly217 hY) (lf217_33 hY) ?_
      refine LW_iloadn 1 dX11_lawTells_129 rfl rfl ?_
      refine LW_iconst (v := 1) dX11_lawTells_130 (by decide) ?_
      refine LW_isub dX11_lawTells_131 ?_
      rw [show ((nI (lpT P i - 1)) - 1) = nI (lpT P i - 2) from (by rw [show (1 : Int32) = nI 1 from rfl, nI_sub (by omega)]; congr 1)]
      refine LW_lald dX11_lawTells_132 (hY.lt (k := 228) (by decide)) (ly228 hY) rfl (by omega) (Nat.le_of_ble_eq_true rfl) ?_
      rw [show L1 228 (lpT P i - 2) = lpS P q i (lpT P i - 2) from hS _ (by omega)]
      refine LW_aloadn 0 dX11_lawTells_133 rfl rfl ?_
      refine gX11_33 dX11_lawTells_134 flX11_47 (hY.lt (k := 217) (by decide)) (ly217 hY) (lf217_33 hY) ?_
      refine LW_iloadn 1 dX11_lawTells_137 rfl rfl ?_
      refine LW_lald dX11_lawTells_138 (hY.lt (k := 228) (by decide)) (ly228 hY) rfl (by omega) (Nat.le_of_ble_eq_true rfl) ?_
      rw [show L1 228 (lpT P i - 1) = lpS P q i (lpT P i - 1) from hS _ (by omega)]
      refine LW_callS (As := [.int (nI (P.2.1 i)), .long (lpS P q i (lpT P i - 2)), .long (lpS P q i (lpT P i - 1))]) (st := [.int (nI (lpT P i - 2)), .ref 228]) (r_joined o1 k0 k1 k4 (lpS P q i (lpT P i - 2)) (lpS P q i (lpT P i - 1))) YX11_joined rfl dX11_lawTells_139 mlX11_304 (by decide) ⟨Nat.le_of_ble_eq_true rfl, Nat.le_of_ble_eq_true rfl⟩ (Nat.le_of_ble_eq_true rfl) rfl (fun r139 Λc139 Ic139 Lc139 Rc139 hq139 => ?_)
      obtain ⟨rfl, rfl, rfl, rfl, rfl⟩ := hq139
      refine LW_last dX11_lawTells_142 (hY.lt (k := 228) (by decide)) (ly228 hY) rfl (by omega) (Nat.le_of_ble_eq_true rfl) ?_
      generalize hL142 : hc_u L1 228 (lpT P i - 2) (lpBin (P.2.1 i) (lpS P q i (lpT P i - 2)) (lpS P q i (lpT P i - 1))) = L142
      refine LW_iinc (n := 2) (v := nI (i + 1)) (ls' := [(0, .ref 217), (1, .int (nI (lpT P i - 1))), (2, .int (nI (i + 1))), (3, .int (nI (P.2.1 i)))]) dX11_lawTells_143 rfl (hc_inc _) (by decide) rfl ?_
      refine LW_goto (tgt := 4) dX11_lawTells_146 (by decide) ?_
      have e : lpS P q (i + 1) = lpUp (lpS P q i) (lpT P i - 2) (lpBin (P.2.1 i) (lpS P q i (lpT P i - 2)) (lpS P q i (lpT P i - 2 + 1))) := by
        show lpUp (lpS P q i) (lpT P i - lpAr (P.2.1 i)) (if P.2.1 i = 0 then lN (P.2.2 i) else if P.2.1 i = 1 then q (P.2.2 i) else if P.2.1 i = 4 then (if 0 < lpS P q i (lpT P i - lpAr (P.2.1 i)) then lpS P q i (lpT P i - lpAr (P.2.1 i) + 1) else lpS P q i (lpT P i - lpAr (P.2.1 i) + 2)) else lpBin (P.2.1 i) (lpS P q i (lpT P i - lpAr (P.2.1 i))) (lpS P q i (lpT P i - lpAr (P.2.1 i) + 1))) = _
        rw [ha, if_neg k0, if_neg k1, if_neg k4]
        try rfl
      have eT : lpT P (i + 1) = lpT P i - 1 := by rw [hT, ha]; omega
      rw [eT] at ih
      refine LW_ls (ls' := [(0, .ref 217), (1, .int (nI (lpT P i - 1))), (2, .int (nI (i + 1)))]) [0, 1, 2] rfl ?_
      refine ih L142 (fun z hz => by rw [← hL142, hc_u_row _ _ _ _ hz]; exact hL1 z hz) (fun j hj => ?_)
      rw [e, ← hL142, hc_u_at]
      unfold lpUp
      by_cases cj : j = lpT P i - 2
      · rw [if_pos cj, if_pos cj]
        rw [show lpT P i - 2 + 1 = lpT P i - 1 by omega]
      · rw [if_neg cj, if_neg cj]
        exact hS j (by omega)
  refine LW_iconst (v := 0) dX11_lawTells_0 (by decide) ?_
  refine LW_istoren (ls' := [(0, .ref 217), (1, .int 0)]) dX11_lawTells_1 rfl (by decide) rfl ?_
  refine LW_iconst (v := 0) dX11_lawTells_2 (by decide) ?_
  refine LW_istoren (ls' := [(0, .ref 217), (1, .int 0), (2, .int 0)]) dX11_lawTells_3 rfl (by decide) rfl ?_
  exact loop 0 (Nat.zero_le _) L (fun _ _ => rfl) (fun j hj => absurd hj (Nat.not_lt_zero j))
