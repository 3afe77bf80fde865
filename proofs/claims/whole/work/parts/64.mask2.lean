/-! the reference: members, fields, near, alone -/
theorem prm {S : HS} (h : wf (sA S)) : prX (sA S) (-1) = aIs (sA S) := prX_m1 h.m
theorem aStk {A : AS} {i : Nat} (hi : i < aF A) : aIs A (aFd A i 0) = aSt A i := by unfold aSt; rw [decide_eq_true hi, Bool.true_and]
theorem aSf_b {A : AS} {i k : Nat} (hi : i < aF A) : aSf A i k = (aIs A k && decide (aFd A i 0 = k)) := by
  cases h : aIs A k with
  | true => rw [aSf_own hi h, Bool.true_and]
  | false => rw [aSf_no h, Bool.false_and]
theorem aTh_is {A : AS} {k : Nat} (hk : k < aM A) : aIs A k = aTh A k := by unfold aIs; rw [decide_eq_true hk, Bool.true_and]
set_option maxRecDepth 100000 in
theorem mem_loop {Λ : hc_L} {I : hc_I} {L : hc_J} {R : hc_R} {S : HS} (hM : MC Λ I L (sA S) (-1)) {k : Nat} (hk : k < aM (sA S)) {wv : Int32} {Q : hc_Q} (hend : LW xX11_member (0, 0) 72 [(0, .ref 217), (1, .int (nI k)), (2, .int wv), (3, .int (hc_b (aIs (sA S) k))), (4, .int (abNf (sA S) k (aF (sA S)))), (5, .int (nI (aF (sA S))))] [] Λ I L R Q) : ∀ i, i ≤ aF (sA S) → LW xX11_member (0, 0) 24 [(0, .ref 217), (1, .int (nI k)), (2, .int wv), (3, .int (hc_b (aIs (sA S) k))), (4, .int (abNf (sA S) k i)), (5, .int (nI i))] [] Λ I L R Q := by
  have hY := hM.y
  have hf24 := hM.w.f
  have hm12 := hM.w.m
  refine hc_down ?_ ?_
  · refine LW_iload 5 dX11_member_24 rfl ?_
    refine LW_i2l dX11_member_26 ?_
    rw [show (nI (aF (sA S))).toInt64 = lN (aF (sA S)) from (nI_l (by omega))]
    refine LW_aloadn 0 dX11_member_27 rfl rfl ?_
    refine gX11_0 dX11_member_28 flX11_9 (hY.lt (k := 217) (by decide)) (ly217 hY) (lf217_0 hY) ?_
    refine LW_bipush (v := 6) dX11_member_31 (by decide) ?_
    refine LW_lald dX11_member_33 (hY.lt (k := 218) (by decide)) (ly218 hY) rfl (by decide) (Nat.le_of_ble_eq_true rfl) ?_
    rw [show L 218 6 = lN (aF (sA S)) from hM.nF]
    refine LW_lcmp dX11_member_34 ?_
    refine LW_lif_ge (tgt := 72) dX11_member_35 (by decide) (fun c35 => ?_) (fun c35 => absurd (Int64.le_refl _) c35)
    exact hend
  · intro i hi ih
    have hwi := hM.w.2.2.2.2.2.2.2.1 i hi
    refine LW_iload 5 dX11_member_24 rfl ?_
    refine LW_i2l dX11_member_26 ?_
    rw [show (nI i).toInt64 = lN i from (nI_l (by omega))]
    refine LW_aloadn 0 dX11_member_27 rfl rfl ?_
    refine gX11_0 dX11_member_28 flX11_9 (hY.lt (k := 217) (by decide)) (ly217 hY) (lf217_0 hY) ?_
    refine LW_bipush (v := 6) dX11_member_31 (by decide) ?_
    refine LW_lald dX11_member_33 (hY.lt (k := 218) (by decide)) (ly218 hY) rfl (by decide) (Nat.le_of_ble_eq_true rfl) ?_
    rw [show L 218 6 = lN (aF (sA S)) from hM.nF]
    refine LW_lcmp dX11_member_34 ?_
    refine LW_lif_ge (tgt := 72) dX11_member_35 (by decide) (fun c35 => absurd c35 (lN_nle (by omega) (by omega) hi)) (fun c35 => ?_)
    refine LW_iload 4 dX11_member_38 rfl ?_
    refine LW_iloadn 3 dX11_member_40 rfl rfl ?_
    refine LW_bif_eq (tgt := 59) dX11_member_41 (by decide) (fun c41 => ?_) (fun c41 => ?_)
    · refine LW_iconst (v := 0) dX11_member_59 (by decide) ?_
      refine LW_callS (As := [.int 0]) (st := [.int (abNf (sA S) k i)]) (r_one false) YX11_one rfl dX11_member_60 mlX11_391 (by decide) ⟨Nat.le_of_ble_eq_true rfl, Nat.le_of_ble_eq_true rfl⟩ (Nat.le_of_ble_eq_true rfl) rfl (fun r60 Λc60 Ic60 Lc60 Rc60 hq60 => ?_)
      obtain ⟨rfl, rfl, rfl, rfl, rfl⟩ := hq60
      refine LW_iadd dX11_member_63 ?_
      refine LW_istore (ls' := [(0, .ref 217), (1, .int (nI k)), (2, .int wv), (3, .int (hc_b (aIs (sA S) k))), (4, .int ((abNf (sA S) k i) + (hc_b false))), (5, .int (nI i))]) dX11_member_64 (by decide) rfl ?_
      refine LW_iinc (n := 5) (v := nI (i + 1)) (ls' := [(0, .ref 217), (1, .int (nI k)), (2, .int wv), (3, .int (hc_b (aIs (sA S) k))), (4, .int ((abNf (sA S) k i) + (hc_b false))), (5, .int (nI (i + 1)))]) dX11_member_66 rfl (hc_inc _) (by decide) rfl ?_
      refine LW_goto (tgt := 24) dX11_member_69 (by decide) ?_
      have e : abNf (sA S) k (i + 1) = (abNf (sA S) k i) + (hc_b false) := by
        show abNf (sA S) k i + hc_b (aSf (sA S) i k) = _
        rw [aSf_b hi, c41, Bool.false_and]; try rfl
      rw [e] at ih
      exact ih
    · refine LW_aloadn 0 dX11_member_44 rfl rfl ?_
      refine LW_iload 5 dX11_member_45 rfl ?_
      refine LW_iconst (v := 0) dX11_member_47 (by decide) ?_
      refine LW_callV (As := [.int (nI i), .int 0]) (b := 217) (st := [.int (abNf (sA S) k i)]) (ci := 11) (r := (RX11, TX11, 44)) (r_mOf hM (f := i) (a := 0) hi (by decide)) YX11_of rfl dX11_member_48 mlX11_334 (hY.lt (k := 217) (by decide)) (ly217 hY) ⟨rfl, rfl⟩ (by decide) ⟨Nat.le_of_ble_eq_true rfl, Nat.le_of_ble_eq_true rfl⟩ (Nat.le_of_ble_eq_true rfl) rfl (fun r48 Λc48 Ic48 Lc48 Rc48 hq48 => ?_)
      obtain ⟨rfl, rfl, rfl, rfl, rfl⟩ := hq48
      refine LW_iloadn 1 dX11_member_51 rfl rfl ?_
      refine LW_icmp_ne (tgt := 59) dX11_member_52 (by decide) (fun c52 => ?_) (fun c52 => ?_)
      · refine LW_iconst (v := 0) dX11_member_59 (by decide) ?_
        refine LW_callS (As := [.int 0]) (st := [.int (abNf (sA S) k i)]) (r_one false) YX11_one rfl dX11_member_60 mlX11_391 (by decide) ⟨Nat.le_of_ble_eq_true rfl, Nat.le_of_ble_eq_true rfl⟩ (Nat.le_of_ble_eq_true rfl) rfl (fun r60 Λc60 Ic60 Lc60 Rc60 hq60 => ?_)
        obtain ⟨rfl, rfl, rfl, rfl, rfl⟩ := hq60
        refine LW_iadd dX11_member_63 ?_
        refine LW_istore (ls' := [(0, .ref 217), (1, .int (nI k)), (2, .int wv), (3, .int (hc_b (aIs (sA S) k))), (4, .int ((abNf (sA S) k i) + (hc_b false))), (5, .int (nI i))]) dX11_member_64 (by decide) rfl ?_
        refine LW_iinc (n := 5) (v := nI (i + 1)) (ls' := [(0, .ref 217), (1, .int (nI k)), (2, .int wv), (3, .int (hc_b (aIs (sA S) k))), (4, .int ((abNf (sA S) k i) + (hc_b false))), (5, .int (nI (i + 1)))]) dX11_member_66 rfl (hc_inc _) (by decide) rfl ?_
        refine LW_goto (tgt := 24) dX11_member_69 (by decide) ?_
        have e : abNf (sA S) k (i + 1) = (abNf (sA S) k i) + (hc_b false) := by
          show abNf (sA S) k i + hc_b (aSf (sA S) i k) = _
          rw [aSf_b hi, c41, decide_eq_false (fun z => c52 (by rw [z]))]; try rfl
        rw [e] at ih
        exact ih
      · refine LW_iconst (v := 1) dX11_member_55 (by decide) ?_
        refine LW_goto (tgt := 60) dX11_member_56 (by decide) ?_
        refine LW_callS (As := [.int 1]) (st := [.int (abNf (sA S) k i)]) (r_one true) YX11_one rfl dX11_member_60 mlX11_391 (by decide) ⟨Nat.le_of_ble_eq_true rfl, Nat.le_of_ble_eq_true rfl⟩ (Nat.le_of_ble_eq_true rfl) rfl (fun r60 Λc60 Ic60 Lc60 Rc60 hq60 => ?_)
        obtain ⟨rfl, rfl, rfl, rfl, rfl⟩ := hq60
        refine LW_iadd dX11_member_63 ?_
        refine LW_istore (ls' := [(0, .ref 217), (1, .int (nI k)), (2, .int wv), (3, .int (hc_b (aIs (sA S) k))), (4, .int ((abNf (sA S) k i) + (hc_b true))), (5, .int (nI i))]) dX11_member_64 (by decide) rfl ?_
        refine LW_iinc (n := 5) (v := nI (i + 1)) (ls' := [(0, .ref 217), (1, .int (nI k)), (2, .int wv), (3, .int (hc_b (aIs (sA S) k))), (4, .int ((abNf (sA S) k i) + (hc_b true))), (5, .int (nI (i + 1)))]) dX11_member_66 rfl (hc_inc _) (by decide) rfl ?_
        refine LW_goto (tgt := 24) dX11_member_69 (by decide) ?_
        have e : abNf (sA S) k (i + 1) = (abNf (sA S) k i) + (hc_b true) := by
          show abNf (sA S) k i + hc_b (aSf (sA S) i k) = _
          rw [aSf_b hi, c41, decide_eq_true ((hc_eq (by omega) (by omega)).mp (Classical.not_not.mp c52))]; try rfl
        rw [e] at ih
        exact ih
set_option maxRecDepth 100000 in
theorem m_member0 {Λ : hc_L} {I : hc_I} {L : hc_J} {R : hc_R} {S : HS} (hW : MW Λ I L S) (m : Int32) : Run xX11_member [.ref 217, .int m, .int 0] Λ I L R (MPost (some (.long (qMember (sA S) (sP S) m 0))) S Λ I L R) := by
  refine Run.of (by decide +kernel) (Nat.le_of_ble_eq_true rfl) ?_
  show LW _ _ _ [(0, .ref 217), (1, .int m), (2, .int 0)] _ _ _ _ _ _
  have hM := hW.m
  have hP := hW.l
  have hY := hM.y
  refine LW_aloadn 0 dX11_member_0 rfl rfl ?_
  refine LW_iloadn 1 dX11_member_1 rfl rfl ?_
  refine LW_callV (As := [.int m]) (b := 217) (st := []) (ci := 11) (r := (RX11, TX11, 44)) (r_mWasMember hM m) YX11_wasMember rfl dX11_member_2 mlX11_328 (hY.lt (k := 217) (by decide)) (ly217 hY) ⟨rfl, rfl⟩ (by decide) ⟨Nat.le_of_ble_eq_true rfl, Nat.le_of_ble_eq_true rfl⟩ (Nat.le_of_ble_eq_true rfl) rfl (fun r2 Λc2 Ic2 Lc2 Rc2 hq2 => ?_)
  obtain ⟨rfl, rfl, rfl, rfl, rfl⟩ := hq2
  refine LW_bif_ne (tgt := 12) dX11_member_5 (by decide) (fun c5 => ?_) (fun c5 => ?_)
  · obtain ⟨k, hk, rfl⟩ : ∃ k, k < aM (sA S) ∧ m = nI k := ⟨_, (aKnX_n hM.w c5).2, (aKnX_n hM.w c5).1⟩
    have hm12 := hM.w.m
    have hk12 : k < 12 := by omega
    have hk31 : k < 2 ^ 31 := by omega
    have hpr := prX_m1 hM.w.m
    refine LW_aloadn 0 dX11_member_12 rfl rfl ?_
    refine LW_iloadn 1 dX11_member_13 rfl rfl ?_
    refine LW_callV (As := [.int (nI k)]) (b := 217) (st := []) (ci := 11) (r := (RX11, TX11, 44)) (r_mIsThere hM hk) YX11_isThere rfl dX11_member_14 mlX11_331 (hY.lt (k := 217) (by decide)) (ly217 hY) ⟨rfl, rfl⟩ (by decide) ⟨Nat.le_of_ble_eq_true rfl, Nat.le_of_ble_eq_true rfl⟩ (Nat.le_of_ble_eq_true rfl) rfl (fun r14 Λc14 Ic14 Lc14 Rc14 hq14 => ?_)
    rw [hpr] at hq14
    obtain ⟨rfl, rfl, rfl, rfl, rfl⟩ := hq14
    refine LW_istoren (ls' := [(0, .ref 217), (1, .int (nI k)), (2, .int 0), (3, .int (hc_b (aIs (sA S) k)))]) dX11_member_17 rfl (by decide) rfl ?_
    refine LW_iconst (v := 0) dX11_member_18 (by decide) ?_
    refine LW_istore (ls' := [(0, .ref 217), (1, .int (nI k)), (2, .int 0), (3, .int (hc_b (aIs (sA S) k))), (4, .int 0)]) dX11_member_19 (by decide) rfl ?_
    refine LW_iconst (v := 0) dX11_member_21 (by decide) ?_
    refine LW_istore (ls' := [(0, .ref 217), (1, .int (nI k)), (2, .int 0), (3, .int (hc_b (aIs (sA S) k))), (4, .int 0), (5, .int 0)]) dX11_member_22 (by decide) rfl ?_
    refine mem_loop hM hk ?_ 0 (Nat.zero_le _)
    refine LW_iloadn 2 dX11_member_72 rfl rfl ?_
    refine LW_tableIn (off := 47) (tgt := 120) dX11_member_73 (by decide) (by decide) (by decide) (by decide) ?_
    refine LW_iloadn 3 dX11_member_120 rfl rfl ?_
    refine LW_callS (As := [.int (hc_b (aIs (sA S) k))]) (st := []) (r_one (aIs (sA S) k)) YX11_one rfl dX11_member_121 mlX11_391 (by decide) ⟨Nat.le_of_ble_eq_true rfl, Nat.le_of_ble_eq_true rfl⟩ (Nat.le_of_ble_eq_true rfl) rfl (fun r121 Λc121 Ic121 Lc121 Rc121 hq121 => ?_)
    obtain ⟨rfl, rfl, rfl, rfl, rfl⟩ := hq121
    refine LW_i2l dX11_member_124 ?_
    refine LW_lret dX11_member_125 rfl (Nat.le_of_ble_eq_true rfl) (Nat.le_of_ble_eq_true rfl) ?_
    exact MPost.r hW (by unfold qMember; rw [if_pos c5, if_pos rfl, hc_cl hk31, lB_b, aTh_is hk])
  · refine LW_ldc2 dX11_member_8 klX11_402 ?_
    refine LW_lret dX11_member_11 rfl (Nat.le_of_ble_eq_true rfl) (Nat.le_of_ble_eq_true rfl) ?_
    exact MPost.r hW (by unfold qMember; rw [if_neg (by rw [c5]; decide)])
set_option maxRecDepth 100000 in
theorem m_member1 {Λ : hc_L} {I : hc_I} {L : hc_J} {R : hc_R} {S : HS} (hW : MW Λ I L S) (m : Int32) : Run xX11_member [.ref 217, .int m, .int 1] Λ I L R (MPost (some (.long (qMember (sA S) (sP S) m 1))) S Λ I L R) := by
  refine Run.of (by decide +kernel) (Nat.le_of_ble_eq_true rfl) ?_
  show LW _ _ _ [(0, .ref 217), (1, .int m), (2, .int 1)] _ _ _ _ _ _
  have hM := hW.m
  have hP := hW.l
  have hY := hM.y
  refine LW_aloadn 0 dX11_member_0 rfl rfl ?_
  refine LW_iloadn 1 dX11_member_1 rfl rfl ?_
  refine LW_callV (As := [.int m]) (b := 217) (st := []) (ci := 11) (r := (RX11, TX11, 44)) (r_mWasMember hM m) YX11_wasMember rfl dX11_member_2 mlX11_328 (hY.lt (k := 217) (by decide)) (ly217 hY) ⟨rfl, rfl⟩ (by decide) ⟨Nat.le_of_ble_eq_true rfl, Nat.le_of_ble_eq_true rfl⟩ (Nat.le_of_ble_eq_true rfl) rfl (fun r2 Λc2 Ic2 Lc2 Rc2 hq2 => ?_)
  obtain ⟨rfl, rfl, rfl, rfl, rfl⟩ := hq2
  refine LW_bif_ne (tgt := 12) dX11_member_5 (by decide) (fun c5 => ?_) (fun c5 => ?_)
  · obtain ⟨k, hk, rfl⟩ : ∃ k, k < aM (sA S) ∧ m = nI k := ⟨_, (aKnX_n hM.w c5).2, (aKnX_n hM.w c5).1⟩
    have hm12 := hM.w.m
    have hk12 : k < 12 := by omega
    have hk31 : k < 2 ^ 31 := by omega
    have hpr := prX_m1 hM.w.m
    refine LW_aloadn 0 dX11_member_12 rfl rfl ?_
    refine LW_iloadn 1 dX11_member_13 rfl rfl ?_
    refine LW_callV (As := [.int (nI k)]) (b := 217) (st := []) (ci := 11) (r := (RX11, TX11, 44)) (r_mIsThere hM hk) YX11_isThere rfl dX11_member_14 mlX11_331 (hY.lt (k := 217) (by decide)) (ly217 hY) ⟨rfl, rfl⟩ (by decide) ⟨Nat.le_of_ble_eq_true rfl, Nat.le_of_ble_eq_true rfl⟩ (Nat.le_of_ble_eq_true rfl) rfl (fun r14 Λc14 Ic14 Lc14 Rc14 hq14 => ?_)
    rw [hpr] at hq14
    obtain ⟨rfl, rfl, rfl, rfl, rfl⟩ := hq14
    refine LW_istoren (ls' := [(0, .ref 217), (1, .int (nI k)), (2, .int 1), (3, .int (hc_b (aIs (sA S) k)))]) dX11_member_17 rfl (by decide) rfl ?_
    refine LW_iconst (v := 0) dX11_member_18 (by decide) ?_
    refine LW_istore (ls' := [(0, .ref 217), (1, .int (nI k)), (2, .int 1), (3, .int (hc_b (aIs (sA S) k))), (4, .int 0)]) dX11_member_19 (by decide) rfl ?_
    refine LW_iconst (v := 0) dX11_member_21 (by decide) ?_
    refine LW_istore (ls' := [(0, .ref 217), (1, .int (nI k)), (2, .int 1), (3, .int (hc_b (aIs (sA S) k))), (4, .int 0), (5, .int 0)]) dX11_member_22 (by decide) rfl ?_
    refine mem_loop hM hk ?_ 0 (Nat.zero_le _)
    refine LW_iloadn 2 dX11_member_72 rfl rfl ?_
    refine LW_tableIn (off := 53) (tgt := 126) dX11_member_73 (by decide) (by decide) (by decide) (by decide) ?_
    refine LW_aloadn 0 dX11_member_126 rfl rfl ?_
    refine gX11_0 dX11_member_127 flX11_9 (hY.lt (k := 217) (by decide)) (ly217 hY) (lf217_0 hY) ?_
    refine LW_bipush (v := 22) dX11_member_130 (by decide) ?_
    refine LW_iloadn 1 dX11_member_132 rfl rfl ?_
    refine LW_iadd dX11_member_133 ?_
    rw [show (22 + (nI k)) = nI (22 + k) from (nI_add 22 _)]
    refine LW_lald dX11_member_134 (hY.lt (k := 218) (by decide)) (ly218 hY) rfl (by omega) (Nat.le_of_ble_eq_true rfl) ?_
    rw [show L 218 (22 + k) = lB (aLv (sA S) k) from hM.lv hk]
    refine LW_lret dX11_member_135 rfl (Nat.le_of_ble_eq_true rfl) (Nat.le_of_ble_eq_true rfl) ?_
    exact MPost.r hW (by unfold qMember; rw [if_pos c5, if_neg (by decide), if_pos rfl, hc_cl hk31]; rfl)
  · refine LW_ldc2 dX11_member_8 klX11_402 ?_
    refine LW_lret dX11_member_11 rfl (Nat.le_of_ble_eq_true rfl) (Nat.le_of_ble_eq_true rfl) ?_
    exact MPost.r hW (by unfold qMember; rw [if_neg (by rw [c5]; decide)])
set_option maxRecDepth 100000 in
theorem m_member2 {Λ : hc_L} {I : hc_I} {L : hc_J} {R : hc_R} {S : HS} (hW : MW Λ I L S) (m : Int32) : Run xX11_member [.ref 217, .int m, .int 2] Λ I L R (MPost (some (.long (qMember (sA S) (sP S) m 2))) S Λ I L R) := by
  refine Run.of (by decide +kernel) (Nat.le_of_ble_eq_true rfl) ?_
  show LW _ _ _ [(0, .ref 217), (1, .int m), (2, .int 2)] _ _ _ _ _ _
  have hM := hW.m
  have hP := hW.l
  have hY := hM.y
  refine LW_aloadn 0 dX11_member_0 rfl rfl ?_
  refine LW_iloadn 1 dX11_member_1 rfl rfl ?_
  refine LW_callV (As := [.int m]) (b := 217) (st := []) (ci := 11) (r := (RX11, TX11, 44)) (r_mWasMember hM m) YX11_wasMember rfl dX11_member_2 mlX11_328 (hY.lt (k := 217) (by decide)) (ly217 hY) ⟨rfl, rfl⟩ (by decide) ⟨Nat.le_of_ble_eq_true rfl, Nat.le_of_ble_eq_true rfl⟩ (Nat.le_of_ble_eq_true rfl) rfl (fun r2 Λc2 Ic2 Lc2 Rc2 hq2 => ?_)
  obtain ⟨rfl, rfl, rfl, rfl, rfl⟩ := hq2
  refine LW_bif_ne (tgt := 12) dX11_member_5 (by decide) (fun c5 => ?_) (fun c5 => ?_)
  · obtain ⟨k, hk, rfl⟩ : ∃ k, k < aM (sA S) ∧ m = nI k := ⟨_, (aKnX_n hM.w c5).2, (aKnX_n hM.w c5).1⟩
    have hm12 := hM.w.m
    have hk12 : k < 12 := by omega
    have hk31 : k < 2 ^ 31 := by omega
    have hpr := prX_m1 hM.w.m
    refine LW_aloadn 0 dX11_member_12 rfl rfl ?_
    refine LW_iloadn 1 dX11_member_13 rfl rfl ?_
    refine LW_callV (As := [.int (nI k)]) (b := 217) (st := []) (ci := 11) (r := (RX11, TX11, 44)) (r_mIsThere hM hk) YX11_isThere rfl dX11_member_14 mlX11_331 (hY.lt (k := 217) (by decide)) (ly217 hY) ⟨rfl, rfl⟩ (by decide) ⟨Nat.le_of_ble_eq_true rfl, Nat.le_of_ble_eq_true rfl⟩ (Nat.le_of_ble_eq_true rfl) rfl (fun r14 Λc14 Ic14 Lc14 Rc14 hq14 => ?_)
    rw [hpr] at hq14
    obtain ⟨rfl, rfl, rfl, rfl, rfl⟩ := hq14
    refine LW_istoren (ls' := [(0, .ref 217), (1, .int (nI k)), (2, .int 2), (3, .int (hc_b (aIs (sA S) k)))]) dX11_member_17 rfl (by decide) rfl ?_
    refine LW_iconst (v := 0) dX11_member_18 (by decide) ?_
    refine LW_istore (ls' := [(0, .ref 217), (1, .int (nI k)), (2, .int 2), (3, .int (hc_b (aIs (sA S) k))), (4, .int 0)]) dX11_member_19 (by decide) rfl ?_
    refine LW_iconst (v := 0) dX11_member_21 (by decide) ?_
    refine LW_istore (ls' := [(0, .ref 217), (1, .int (nI k)), (2, .int 2), (3, .int (hc_b (aIs (sA S) k))), (4, .int 0), (5, .int 0)]) dX11_member_22 (by decide) rfl ?_
    refine mem_loop hM hk ?_ 0 (Nat.zero_le _)
    refine LW_iloadn 2 dX11_member_72 rfl rfl ?_
    refine LW_tableIn (off := 63) (tgt := 136) dX11_member_73 (by decide) (by decide) (by decide) (by decide) ?_
    refine LW_aloadn 0 dX11_member_136 rfl rfl ?_
    refine gX11_0 dX11_member_137 flX11_9 (hY.lt (k := 217) (by decide)) (ly217 hY) (lf217_0 hY) ?_
    refine LW_bipush (v := 34) dX11_member_140 (by decide) ?_
    refine LW_iloadn 1 dX11_member_142 rfl rfl ?_
    refine LW_iadd dX11_member_143 ?_
    rw [show (34 + (nI k)) = nI (34 + k) from (nI_add 34 _)]
    refine LW_lald dX11_member_144 (hY.lt (k := 218) (by decide)) (ly218 hY) rfl (by omega) (Nat.le_of_ble_eq_true rfl) ?_
    rw [show L 218 (34 + k) = lN (aYs (sA S) k) from hM.ys hk]
    refine LW_lret dX11_member_145 rfl (Nat.le_of_ble_eq_true rfl) (Nat.le_of_ble_eq_true rfl) ?_
    exact MPost.r hW (by unfold qMember; rw [if_pos c5, if_neg (by decide), if_neg (by decide), if_pos rfl, hc_cl hk31])
  · refine LW_ldc2 dX11_member_8 klX11_402 ?_
    refine LW_lret dX11_member_11 rfl (Nat.le_of_ble_eq_true rfl) (Nat.le_of_ble_eq_true rfl) ?_
    exact MPost.r hW (by unfold qMember; rw [if_neg (by rw [c5]; decide)])
set_option maxRecDepth 100000 in
theorem m_member3 {Λ : hc_L} {I : hc_I} {L : hc_J} {R : hc_R} {S : HS} (hW : MW Λ I L S) (m : Int32) : Run xX11_member [.ref 217, .int m, .int 3] Λ I L R (MPost (some (.long (qMember (sA S) (sP S) m 3))) S Λ I L R) := by
  refine Run.of (by decide +kernel) (Nat.le_of_ble_eq_true rfl) ?_
  show LW _ _ _ [(0, .ref 217), (1, .int m), (2, .int 3)] _ _ _ _ _ _
  have hM := hW.m
  have hP := hW.l
  have hY := hM.y
  refine LW_aloadn 0 dX11_member_0 rfl rfl ?_
  refine LW_iloadn 1 dX11_member_1 rfl rfl ?_
  refine LW_callV (As := [.int m]) (b := 217) (st := []) (ci := 11) (r := (RX11, TX11, 44)) (r_mWasMember hM m) YX11_wasMember rfl dX11_member_2 mlX11_328 (hY.lt (k := 217) (by decide)) (ly217 hY) ⟨rfl, rfl⟩ (by decide) ⟨Nat.le_of_ble_eq_true rfl, Nat.le_of_ble_eq_true rfl⟩ (Nat.le_of_ble_eq_true rfl) rfl (fun r2 Λc2 Ic2 Lc2 Rc2 hq2 => ?_)
  obtain ⟨rfl, rfl, rfl, rfl, rfl⟩ := hq2
  refine LW_bif_ne (tgt := 12) dX11_member_5 (by decide) (fun c5 => ?_) (fun c5 => ?_)
  · obtain ⟨k, hk, rfl⟩ : ∃ k, k < aM (sA S) ∧ m = nI k := ⟨_, (aKnX_n hM.w c5).2, (aKnX_n hM.w c5).1⟩
    have hm12 := hM.w.m
    have hk12 : k < 12 := by omega
    have hk31 : k < 2 ^ 31 := by omega
    have hpr := prX_m1 hM.w.m
    refine LW_aloadn 0 dX11_member_12 rfl rfl ?_
    refine LW_iloadn 1 dX11_member_13 rfl rfl ?_
    refine LW_callV (As := [.int (nI k)]) (b := 217) (st := []) (ci := 11) (r := (RX11, TX11, 44)) (r_mIsThere hM hk) YX11_isThere rfl dX11_member_14 mlX11_331 (hY.lt (k := 217) (by decide)) (ly217 hY) ⟨rfl, rfl⟩ (by decide) ⟨Nat.le_of_ble_eq_true rfl, Nat.le_of_ble_eq_true rfl⟩ (Nat.le_of_ble_eq_true rfl) rfl (fun r14 Λc14 Ic14 Lc14 Rc14 hq14 => ?_)
    rw [hpr] at hq14
    obtain ⟨rfl, rfl, rfl, rfl, rfl⟩ := hq14
    refine LW_istoren (ls' := [(0, .ref 217), (1, .int (nI k)), (2, .int 3), (3, .int (hc_b (aIs (sA S) k)))]) dX11_member_17 rfl (by decide) rfl ?_
    refine LW_iconst (v := 0) dX11_member_18 (by decide) ?_
    refine LW_istore (ls' := [(0, .ref 217), (1, .int (nI k)), (2, .int 3), (3, .int (hc_b (aIs (sA S) k))), (4, .int 0)]) dX11_member_19 (by decide) rfl ?_
    refine LW_iconst (v := 0) dX11_member_21 (by decide) ?_
    refine LW_istore (ls' := [(0, .ref 217), (1, .int (nI k)), (2, .int 3), (3, .int (hc_b (aIs (sA S) k))), (4, .int 0), (5, .int 0)]) dX11_member_22 (by decide) rfl ?_
    refine mem_loop hM hk ?_ 0 (Nat.zero_le _)
    refine LW_iloadn 2 dX11_member_72 rfl rfl ?_
    refine LW_tableIn (off := 73) (tgt := 146) dX11_member_73 (by decide) (by decide) (by decide) (by decide) ?_
    refine LW_iload 4 dX11_member_146 rfl ?_
    refine LW_i2l dX11_member_148 ?_
    refine LW_lret dX11_member_149 rfl (Nat.le_of_ble_eq_true rfl) (Nat.le_of_ble_eq_true rfl) ?_
    exact MPost.r hW (by unfold qMember; rw [if_pos c5, if_neg (by decide), if_neg (by decide), if_neg (by decide), if_pos rfl, hc_cl hk31])
  · refine LW_ldc2 dX11_member_8 klX11_402 ?_
    refine LW_lret dX11_member_11 rfl (Nat.le_of_ble_eq_true rfl) (Nat.le_of_ble_eq_true rfl) ?_
    exact MPost.r hW (by unfold qMember; rw [if_neg (by rw [c5]; decide)])
set_option maxRecDepth 100000 in
theorem m_member4 {Λ : hc_L} {I : hc_I} {L : hc_J} {R : hc_R} {S : HS} (hW : MW Λ I L S) (m : Int32) : Run xX11_member [.ref 217, .int m, .int 4] Λ I L R (MPost (some (.long (qMember (sA S) (sP S) m 4))) S Λ I L R) := by
  refine Run.of (by decide +kernel) (Nat.le_of_ble_eq_true rfl) ?_
  show LW _ _ _ [(0, .ref 217), (1, .int m), (2, .int 4)] _ _ _ _ _ _
  have hM := hW.m
  have hP := hW.l
  have hY := hM.y
  refine LW_aloadn 0 dX11_member_0 rfl rfl ?_
  refine LW_iloadn 1 dX11_member_1 rfl rfl ?_
  refine LW_callV (As := [.int m]) (b := 217) (st := []) (ci := 11) (r := (RX11, TX11, 44)) (r_mWasMember hM m) YX11_wasMember rfl dX11_member_2 mlX11_328 (hY.lt (k := 217) (by decide)) (ly217 hY) ⟨rfl, rfl⟩ (by decide) ⟨Nat.le_of_ble_eq_true rfl, Nat.le_of_ble_eq_true rfl⟩ (Nat.le_of_ble_eq_true rfl) rfl (fun r2 Λc2 Ic2 Lc2 Rc2 hq2 => ?_)
  obtain ⟨rfl, rfl, rfl, rfl, rfl⟩ := hq2
  refine LW_bif_ne (tgt := 12) dX11_member_5 (by decide) (fun c5 => ?_) (fun c5 => ?_)
  · obtain ⟨k, hk, rfl⟩ : ∃ k, k < aM (sA S) ∧ m = nI k := ⟨_, (aKnX_n hM.w c5).2, (aKnX_n hM.w c5).1⟩
    have hm12 := hM.w.m
    have hk12 : k < 12 := by omega
    have hk31 : k < 2 ^ 31 := by omega
    have hpr := prX_m1 hM.w.m
    refine LW_aloadn 0 dX11_member_12 rfl rfl ?_
    refine LW_iloadn 1 dX11_member_13 rfl rfl ?_
    refine LW_callV (As := [.int (nI k)]) (b := 217) (st := []) (ci := 11) (r := (RX11, TX11, 44)) (r_mIsThere hM hk) YX11_isThere rfl dX11_member_14 mlX11_331 (hY.lt (k := 217) (by decide)) (ly217 hY) ⟨rfl, rfl⟩ (by decide) ⟨Nat.le_of_ble_eq_true rfl, Nat.le_of_ble_eq_true rfl⟩ (Nat.le_of_ble_eq_true rfl) rfl (fun r14 Λc14 Ic14 Lc14 Rc14 hq14 => ?_)
    rw [hpr] at hq14
    obtain ⟨rfl, rfl, rfl, rfl, rfl⟩ := hq14
    refine LW_istoren (ls' := [(0, .ref 217), (1, .int (nI k)), (2, .int 4), (3, .int (hc_b (aIs (sA S) k)))]) dX11_member_17 rfl (by decide) rfl ?_
    refine LW_iconst (v := 0) dX11_member_18 (by decide) ?_
    refine LW_istore (ls' := [(0, .ref 217), (1, .int (nI k)), (2, .int 4), (3, .int (hc_b (aIs (sA S) k))), (4, .int 0)]) dX11_member_19 (by decide) rfl ?_
    refine LW_iconst (v := 0) dX11_member_21 (by decide) ?_
    refine LW_istore (ls' := [(0, .ref 217), (1, .int (nI k)), (2, .int 4), (3, .int (hc_b (aIs (sA S) k))), (4, .int 0), (5, .int 0)]) dX11_member_22 (by decide) rfl ?_
    refine mem_loop hM hk ?_ 0 (Nat.zero_le _)
    refine LW_iloadn 2 dX11_member_72 rfl rfl ?_
    refine LW_tableIn (off := 77) (tgt := 150) dX11_member_73 (by decide) (by decide) (by decide) (by decide) ?_
    refine LW_aloadn 0 dX11_member_150 rfl rfl ?_
    refine LW_iloadn 1 dX11_member_151 rfl rfl ?_
    refine LW_callV (As := [.int (nI k)]) (b := 217) (st := []) (ci := 11) (r := (RX11, TX11, 44)) (r_mSumsOf hM hk) YX11_sumsOf rfl dX11_member_152 mlX11_344 (hY.lt (k := 217) (by decide)) (ly217 hY) ⟨rfl, rfl⟩ (by decide) ⟨Nat.le_of_ble_eq_true rfl, Nat.le_of_ble_eq_true rfl⟩ (Nat.le_of_ble_eq_true rfl) rfl (fun r152 Λc152 Ic152 Lc152 Rc152 hq152 => ?_)
    rw [hpr, gS_is] at hq152
    obtain ⟨rfl, rfl, rfl, rfl, rfl⟩ := hq152
    refine LW_lret dX11_member_155 rfl (Nat.le_of_ble_eq_true rfl) (Nat.le_of_ble_eq_true rfl) ?_
    exact MPost.r hW (by unfold qMember; rw [if_pos c5, if_neg (by decide), if_neg (by decide), if_neg (by decide), if_neg (by decide), if_pos rfl, hc_cl hk31])
  · refine LW_ldc2 dX11_member_8 klX11_402 ?_
    refine LW_lret dX11_member_11 rfl (Nat.le_of_ble_eq_true rfl) (Nat.le_of_ble_eq_true rfl) ?_
    exact MPost.r hW (by unfold qMember; rw [if_neg (by rw [c5]; decide)])
set_option maxRecDepth 100000 in
theorem m_member5 {Λ : hc_L} {I : hc_I} {L : hc_J} {R : hc_R} {S : HS} (hW : MW Λ I L S) (m : Int32) : Run xX11_member [.ref 217, .int m, .int 5] Λ I L R (MPost (some (.long (qMember (sA S) (sP S) m 5))) S Λ I L R) := by
  refine Run.of (by decide +kernel) (Nat.le_of_ble_eq_true rfl) ?_
  show LW _ _ _ [(0, .ref 217), (1, .int m), (2, .int 5)] _ _ _ _ _ _
  have hM := hW.m
  have hP := hW.l
  have hY := hM.y
  refine LW_aloadn 0 dX11_member_0 rfl rfl ?_
  refine LW_iloadn 1 dX11_member_1 rfl rfl ?_
  refine LW_callV (As := [.int m]) (b := 217) (st := []) (ci := 11) (r := (RX11, TX11, 44)) (r_mWasMember hM m) YX11_wasMember rfl dX11_member_2 mlX11_328 (hY.lt (k := 217) (by decide)) (ly217 hY) ⟨rfl, rfl⟩ (by decide) ⟨Nat.le_of_ble_eq_true rfl, Nat.le_of_ble_eq_true rfl⟩ (Nat.le_of_ble_eq_true rfl) rfl (fun r2 Λc2 Ic2 Lc2 Rc2 hq2 => ?_)
  obtain ⟨rfl, rfl, rfl, rfl, rfl⟩ := hq2
  refine LW_bif_ne (tgt := 12) dX11_member_5 (by decide) (fun c5 => ?_) (fun c5 => ?_)
  · obtain ⟨k, hk, rfl⟩ : ∃ k, k < aM (sA S) ∧ m = nI k := ⟨_, (aKnX_n hM.w c5).2, (aKnX_n hM.w c5).1⟩
    have hm12 := hM.w.m
    have hk12 : k < 12 := by omega
    have hk31 : k < 2 ^ 31 := by omega
    have hpr := prX_m1 hM.w.m
    refine LW_aloadn 0 dX11_member_12 rfl rfl ?_
    refine LW_iloadn 1 dX11_member_13 rfl rfl ?_
    refine LW_callV (As := [.int (nI k)]) (b := 217) (st := []) (ci := 11) (r := (RX11, TX11, 44)) (r_mIsThere hM hk) YX11_isThere rfl dX11_member_14 mlX11_331 (hY.lt (k := 217) (by decide)) (ly217 hY) ⟨rfl, rfl⟩ (by decide) ⟨Nat.le_of_ble_eq_true rfl, Nat.le_of_ble_eq_true rfl⟩ (Nat.le_of_ble_eq_true rfl) rfl (fun r14 Λc14 Ic14 Lc14 Rc14 hq14 => ?_)
    rw [hpr] at hq14
    obtain ⟨rfl, rfl, rfl, rfl, rfl⟩ := hq14
    refine LW_istoren (ls' := [(0, .ref 217), (1, .int (nI k)), (2, .int 5), (3, .int (hc_b (aIs (sA S) k)))]) dX11_member_17 rfl (by decide) rfl ?_
    refine LW_iconst (v := 0) dX11_member_18 (by decide) ?_
    refine LW_istore (ls' := [(0, .ref 217), (1, .int (nI k)), (2, .int 5), (3, .int (hc_b (aIs (sA S) k))), (4, .int 0)]) dX11_member_19 (by decide) rfl ?_
    refine LW_iconst (v := 0) dX11_member_21 (by decide) ?_
    refine LW_istore (ls' := [(0, .ref 217), (1, .int (nI k)), (2, .int 5), (3, .int (hc_b (aIs (sA S) k))), (4, .int 0), (5, .int 0)]) dX11_member_22 (by decide) rfl ?_
    refine mem_loop hM hk ?_ 0 (Nat.zero_le _)
    refine LW_iloadn 2 dX11_member_72 rfl rfl ?_
    refine LW_tableIn (off := 83) (tgt := 156) dX11_member_73 (by decide) (by decide) (by decide) (by decide) ?_
    refine LW_aloadn 0 dX11_member_156 rfl rfl ?_
    refine LW_iloadn 1 dX11_member_157 rfl rfl ?_
    refine LW_callV (As := [.int (nI k)]) (b := 217) (st := []) (ci := 11) (r := (RX11, TX11, 44)) (r_mPointsOf hM hk) YX11_pointsOf rfl dX11_member_158 mlX11_315 (hY.lt (k := 217) (by decide)) (ly217 hY) ⟨rfl, rfl⟩ (by decide) ⟨Nat.le_of_ble_eq_true rfl, Nat.le_of_ble_eq_true rfl⟩ (Nat.le_of_ble_eq_true rfl) rfl (fun r158 Λc158 Ic158 Lc158 Rc158 hq158 => ?_)
    rw [hpr, gP_is] at hq158
    obtain ⟨rfl, rfl, rfl, rfl, rfl⟩ := hq158
    refine LW_lret dX11_member_161 rfl (Nat.le_of_ble_eq_true rfl) (Nat.le_of_ble_eq_true rfl) ?_
    exact MPost.r hW (by unfold qMember; rw [if_pos c5, if_neg (by decide), if_neg (by decide), if_neg (by decide), if_neg (by decide), if_neg (by decide), if_pos rfl, hc_cl hk31])
  · refine LW_ldc2 dX11_member_8 klX11_402 ?_
    refine LW_lret dX11_member_11 rfl (Nat.le_of_ble_eq_true rfl) (Nat.le_of_ble_eq_true rfl) ?_
    exact MPost.r hW (by unfold qMember; rw [if_neg (by rw [c5]; decide)])
set_option maxRecDepth 100000 in
theorem m_member6 {Λ : hc_L} {I : hc_I} {L : hc_J} {R : hc_R} {S : HS} (hW : MW Λ I L S) (m : Int32) : Run xX11_member [.ref 217, .int m, .int 6] Λ I L R (MPost (some (.long (qMember (sA S) (sP S) m 6))) S Λ I L R) := by
  refine Run.of (by decide +kernel) (Nat.le_of_ble_eq_true rfl) ?_
  show LW _ _ _ [(0, .ref 217), (1, .int m), (2, .int 6)] _ _ _ _ _ _
  have hM := hW.m
  have hP := hW.l
  have hY := hM.y
  refine LW_aloadn 0 dX11_member_0 rfl rfl ?_
  refine LW_iloadn 1 dX11_member_1 rfl rfl ?_
  refine LW_callV (As := [.int m]) (b := 217) (st := []) (ci := 11) (r := (RX11, TX11, 44)) (r_mWasMember hM m) YX11_wasMember rfl dX11_member_2 mlX11_328 (hY.lt (k := 217) (by decide)) (ly217 hY) ⟨rfl, rfl⟩ (by decide) ⟨Nat.le_of_ble_eq_true rfl, Nat.le_of_ble_eq_true rfl⟩ (Nat.le_of_ble_eq_true rfl) rfl (fun r2 Λc2 Ic2 Lc2 Rc2 hq2 => ?_)
  obtain ⟨rfl, rfl, rfl, rfl, rfl⟩ := hq2
  refine LW_bif_ne (tgt := 12) dX11_member_5 (by decide) (fun c5 => ?_) (fun c5 => ?_)
  · obtain ⟨k, hk, rfl⟩ : ∃ k, k < aM (sA S) ∧ m = nI k := ⟨_, (aKnX_n hM.w c5).2, (aKnX_n hM.w c5).1⟩
    have hm12 := hM.w.m
    have hk12 : k < 12 := by omega
    have hk31 : k < 2 ^ 31 := by omega
    have hpr := prX_m1 hM.w.m
    refine LW_aloadn 0 dX11_member_12 rfl rfl ?_
    refine LW_iloadn 1 dX11_member_13 rfl rfl ?_
    refine LW_callV (As := [.int (nI k)]) (b := 217) (st := []) (ci := 11) (r := (RX11, TX11, 44)) (r_mIsThere hM hk) YX11_isThere rfl dX11_member_14 mlX11_331 (hY.lt (k := 217) (by decide)) (ly217 hY) ⟨rfl, rfl⟩ (by decide) ⟨Nat.le_of_ble_eq_true rfl, Nat.le_of_ble_eq_true rfl⟩ (Nat.le_of_ble_eq_true rfl) rfl (fun r14 Λc14 Ic14 Lc14 Rc14 hq14 => ?_)
    rw [hpr] at hq14
    obtain ⟨rfl, rfl, rfl, rfl, rfl⟩ := hq14
    refine LW_istoren (ls' := [(0, .ref 217), (1, .int (nI k)), (2, .int 6), (3, .int (hc_b (aIs (sA S) k)))]) dX11_member_17 rfl (by decide) rfl ?_
    refine LW_iconst (v := 0) dX11_member_18 (by decide) ?_
    refine LW_istore (ls' := [(0, .ref 217), (1, .int (nI k)), (2, .int 6), (3, .int (hc_b (aIs (sA S) k))), (4, .int 0)]) dX11_member_19 (by decide) rfl ?_
    refine LW_iconst (v := 0) dX11_member_21 (by decide) ?_
    refine LW_istore (ls' := [(0, .ref 217), (1, .int (nI k)), (2, .int 6), (3, .int (hc_b (aIs (sA S) k))), (4, .int 0), (5, .int 0)]) dX11_member_22 (by decide) rfl ?_
    refine mem_loop hM hk ?_ 0 (Nat.zero_le _)
    refine LW_iloadn 2 dX11_member_72 rfl rfl ?_
    refine LW_tableIn (off := 89) (tgt := 162) dX11_member_73 (by decide) (by decide) (by decide) (by decide) ?_
    refine LW_aloadn 0 dX11_member_162 rfl rfl ?_
    refine LW_iloadn 1 dX11_member_163 rfl rfl ?_
    refine LW_callV (As := [.int (nI k)]) (b := 217) (st := []) (ci := 11) (r := (RX11, TX11, 44)) (r_mAdvanceOf hM hk) YX11_advanceOf rfl dX11_member_164 mlX11_404 (hY.lt (k := 217) (by decide)) (ly217 hY) ⟨rfl, rfl⟩ (by decide) ⟨Nat.le_of_ble_eq_true rfl, Nat.le_of_ble_eq_true rfl⟩ (Nat.le_of_ble_eq_true rfl) rfl (fun r164 Λc164 Ic164 Lc164 Rc164 hq164 => ?_)
    unfold gA at hq164
    rw [hpr, gP_is] at hq164
    obtain ⟨rfl, rfl, rfl, rfl, rfl⟩ := hq164
    refine LW_lret dX11_member_167 rfl (Nat.le_of_ble_eq_true rfl) (Nat.le_of_ble_eq_true rfl) ?_
    exact MPost.r hW (by unfold qMember; rw [if_pos c5, if_neg (by decide), if_neg (by decide), if_neg (by decide), if_neg (by decide), if_neg (by decide), if_neg (by decide), if_pos rfl, hc_cl hk31])
  · refine LW_ldc2 dX11_member_8 klX11_402 ?_
    refine LW_lret dX11_member_11 rfl (Nat.le_of_ble_eq_true rfl) (Nat.le_of_ble_eq_true rfl) ?_
    exact MPost.r hW (by unfold qMember; rw [if_neg (by rw [c5]; decide)])
set_option maxRecDepth 100000 in
theorem m_member7 {Λ : hc_L} {I : hc_I} {L : hc_J} {R : hc_R} {S : HS} (hW : MW Λ I L S) (m : Int32) : Run xX11_member [.ref 217, .int m, .int 7] Λ I L R (MPost (some (.long (qMember (sA S) (sP S) m 7))) S Λ I L R) := by
  refine Run.of (by decide +kernel) (Nat.le_of_ble_eq_true rfl) ?_
  show LW _ _ _ [(0, .ref 217), (1, .int m), (2, .int 7)] _ _ _ _ _ _
  have hM := hW.m
  have hP := hW.l
  have hY := hM.y
  refine LW_aloadn 0 dX11_member_0 rfl rfl ?_
  refine LW_iloadn 1 dX11_member_1 rfl rfl ?_
  refine LW_callV (As := [.int m]) (b := 217) (st := []) (ci := 11) (r := (RX11, TX11, 44)) (r_mWasMember hM m) YX11_wasMember rfl dX11_member_2 mlX11_328 (hY.lt (k := 217) (by decide)) (ly217 hY) ⟨rfl, rfl⟩ (by decide) ⟨Nat.le_of_ble_eq_true rfl, Nat.le_of_ble_eq_true rfl⟩ (Nat.le_of_ble_eq_true rfl) rfl (fun r2 Λc2 Ic2 Lc2 Rc2 hq2 => ?_)
  obtain ⟨rfl, rfl, rfl, rfl, rfl⟩ := hq2
  refine LW_bif_ne (tgt := 12) dX11_member_5 (by decide) (fun c5 => ?_) (fun c5 => ?_)
  · obtain ⟨k, hk, rfl⟩ : ∃ k, k < aM (sA S) ∧ m = nI k := ⟨_, (aKnX_n hM.w c5).2, (aKnX_n hM.w c5).1⟩
    have hm12 := hM.w.m
    have hk12 : k < 12 := by omega
    have hk31 : k < 2 ^ 31 := by omega
    have hpr := prX_m1 hM.w.m
    refine LW_aloadn 0 dX11_member_12 rfl rfl ?_
    refine LW_iloadn 1 dX11_member_13 rfl rfl ?_
    refine LW_callV (As := [.int (nI k)]) (b := 217) (st := []) (ci := 11) (r := (RX11, TX11, 44)) (r_mIsThere hM hk) YX11_isThere rfl dX11_member_14 mlX11_331 (hY.lt (k := 217) (by decide)) (ly217 hY) ⟨rfl, rfl⟩ (by decide) ⟨Nat.le_of_ble_eq_true rfl, Nat.le_of_ble_eq_true rfl⟩ (Nat.le_of_ble_eq_true rfl) rfl (fun r14 Λc14 Ic14 Lc14 Rc14 hq14 => ?_)
    rw [hpr] at hq14
    obtain ⟨rfl, rfl, rfl, rfl, rfl⟩ := hq14
    refine LW_istoren (ls' := [(0, .ref 217), (1, .int (nI k)), (2, .int 7), (3, .int (hc_b (aIs (sA S) k)))]) dX11_member_17 rfl (by decide) rfl ?_
    refine LW_iconst (v := 0) dX11_member_18 (by decide) ?_
    refine LW_istore (ls' := [(0, .ref 217), (1, .int (nI k)), (2, .int 7), (3, .int (hc_b (aIs (sA S) k))), (4, .int 0)]) dX11_member_19 (by decide) rfl ?_
    refine LW_iconst (v := 0) dX11_member_21 (by decide) ?_
    refine LW_istore (ls' := [(0, .ref 217), (1, .int (nI k)), (2, .int 7), (3, .int (hc_b (aIs (sA S) k))), (4, .int 0), (5, .int 0)]) dX11_member_22 (by decide) rfl ?_
    refine mem_loop hM hk ?_ 0 (Nat.zero_le _)
    refine LW_iloadn 2 dX11_member_72 rfl rfl ?_
    refine LW_tableIn (off := 95) (tgt := 168) dX11_member_73 (by decide) (by decide) (by decide) (by decide) ?_
    refine LW_aloadn 0 dX11_member_168 rfl rfl ?_
    refine LW_iloadn 1 dX11_member_169 rfl rfl ?_
    refine LW_callV (As := [.int (nI k)]) (b := 217) (st := []) (ci := 11) (r := (RX11, TX11, 44)) (r_mClaimsOf hM hP hk) YX11_claimsOf rfl dX11_member_170 mlX11_373 (hY.lt (k := 217) (by decide)) (ly217 hY) ⟨rfl, rfl⟩ (by decide) ⟨Nat.le_of_ble_eq_true rfl, Nat.le_of_ble_eq_true rfl⟩ (Nat.le_of_ble_eq_true rfl) rfl (fun r170 Λc170 Ic170 Lc170 Rc170 hq170 => ?_)
    rw [hpr, gC_is] at hq170
    obtain ⟨rfl, rfl, rfl, hL170, hR170⟩ := hq170
    obtain rfl : R = Rc170 := hR170
    refine LW_lret dX11_member_173 rfl (Nat.le_of_ble_eq_true rfl) (Nat.le_of_ble_eq_true rfl) ?_
    exact MPost.j hW hL170 (by unfold qMember; rw [if_pos c5, if_neg (by decide), if_neg (by decide), if_neg (by decide), if_neg (by decide), if_neg (by decide), if_neg (by decide), if_neg (by decide), if_pos rfl, hc_cl hk31])
  · refine LW_ldc2 dX11_member_8 klX11_402 ?_
    refine LW_lret dX11_member_11 rfl (Nat.le_of_ble_eq_true rfl) (Nat.le_of_ble_eq_true rfl) ?_
    exact MPost.r hW (by unfold qMember; rw [if_neg (by rw [c5]; decide)])
set_option maxRecDepth 100000 in
theorem m_memberE {Λ : hc_L} {I : hc_I} {L : hc_J} {R : hc_R} {S : HS} (hW : MW Λ I L S) (m : Int32) {x : Int32} (hx : x ≠ 0 ∧ x ≠ 1 ∧ x ≠ 2 ∧ x ≠ 3 ∧ x ≠ 4 ∧ x ≠ 5 ∧ x ≠ 6 ∧ x ≠ 7) : Run xX11_member [.ref 217, .int m, .int x] Λ I L R (MPost (some (.long (qMember (sA S) (sP S) m x))) S Λ I L R) := by
  refine Run.of (by decide +kernel) (Nat.le_of_ble_eq_true rfl) ?_
  show LW _ _ _ [(0, .ref 217), (1, .int m), (2, .int x)] _ _ _ _ _ _
  have hM := hW.m
  have hP := hW.l
  have hY := hM.y
  have ho : ∀ k, k ≤ 7 → x ≠ nI k := fun k hk => by
    rcases (show k = 0 ∨ k = 1 ∨ k = 2 ∨ k = 3 ∨ k = 4 ∨ k = 5 ∨ k = 6 ∨ k = 7 by omega) with rfl | rfl | rfl | rfl | rfl | rfl | rfl | rfl
    · exact hx.1
    · exact hx.2.1
    · exact hx.2.2.1
    · exact hx.2.2.2.1
    · exact hx.2.2.2.2.1
    · exact hx.2.2.2.2.2.1
    · exact hx.2.2.2.2.2.2.1
    · exact hx.2.2.2.2.2.2.2
  refine LW_aloadn 0 dX11_member_0 rfl rfl ?_
  refine LW_iloadn 1 dX11_member_1 rfl rfl ?_
  refine LW_callV (As := [.int m]) (b := 217) (st := []) (ci := 11) (r := (RX11, TX11, 44)) (r_mWasMember hM m) YX11_wasMember rfl dX11_member_2 mlX11_328 (hY.lt (k := 217) (by decide)) (ly217 hY) ⟨rfl, rfl⟩ (by decide) ⟨Nat.le_of_ble_eq_true rfl, Nat.le_of_ble_eq_true rfl⟩ (Nat.le_of_ble_eq_true rfl) rfl (fun r2 Λc2 Ic2 Lc2 Rc2 hq2 => ?_)
  obtain ⟨rfl, rfl, rfl, rfl, rfl⟩ := hq2
  refine LW_bif_ne (tgt := 12) dX11_member_5 (by decide) (fun c5 => ?_) (fun c5 => ?_)
  · obtain ⟨k, hk, rfl⟩ : ∃ k, k < aM (sA S) ∧ m = nI k := ⟨_, (aKnX_n hM.w c5).2, (aKnX_n hM.w c5).1⟩
    have hm12 := hM.w.m
    have hk12 : k < 12 := by omega
    have hk31 : k < 2 ^ 31 := by omega
    have hpr := prX_m1 hM.w.m
    refine LW_aloadn 0 dX11_member_12 rfl rfl ?_
    refine LW_iloadn 1 dX11_member_13 rfl rfl ?_
    refine LW_callV (As := [.int (nI k)]) (b := 217) (st := []) (ci := 11) (r := (RX11, TX11, 44)) (r_mIsThere hM hk) YX11_isThere rfl dX11_member_14 mlX11_331 (hY.lt (k := 217) (by decide)) (ly217 hY) ⟨rfl, rfl⟩ (by decide) ⟨Nat.le_of_ble_eq_true rfl, Nat.le_of_ble_eq_true rfl⟩ (Nat.le_of_ble_eq_true rfl) rfl (fun r14 Λc14 Ic14 Lc14 Rc14 hq14 => ?_)
    rw [hpr] at hq14
    obtain ⟨rfl, rfl, rfl, rfl, rfl⟩ := hq14
    refine LW_istoren (ls' := [(0, .ref 217), (1, .int (nI k)), (2, .int x), (3, .int (hc_b (aIs (sA S) k)))]) dX11_member_17 rfl (by decide) rfl ?_
    refine LW_iconst (v := 0) dX11_member_18 (by decide) ?_
    refine LW_istore (ls' := [(0, .ref 217), (1, .int (nI k)), (2, .int x), (3, .int (hc_b (aIs (sA S) k))), (4, .int 0)]) dX11_member_19 (by decide) rfl ?_
    refine LW_iconst (v := 0) dX11_member_21 (by decide) ?_
    refine LW_istore (ls' := [(0, .ref 217), (1, .int (nI k)), (2, .int x), (3, .int (hc_b (aIs (sA S) k))), (4, .int 0), (5, .int 0)]) dX11_member_22 (by decide) rfl ?_
    refine mem_loop hM hk ?_ 0 (Nat.zero_le _)
    refine LW_iloadn 2 dX11_member_72 rfl rfl ?_
    refine LW_tableOut (tgt := 174) dX11_member_73 (tsw (N := 7) (by decide) ho) (by decide) ?_
    refine LW_ldc2 dX11_member_174 klX11_402 ?_
    refine LW_lret dX11_member_177 rfl (Nat.le_of_ble_eq_true rfl) (Nat.le_of_ble_eq_true rfl) ?_
    exact MPost.r hW (by unfold qMember; rw [if_pos c5, if_neg hx.1, if_neg hx.2.1, if_neg hx.2.2.1, if_neg hx.2.2.2.1, if_neg hx.2.2.2.2.1, if_neg hx.2.2.2.2.2.1, if_neg hx.2.2.2.2.2.2.1, if_neg hx.2.2.2.2.2.2.2])
  · refine LW_ldc2 dX11_member_8 klX11_402 ?_
    refine LW_lret dX11_member_11 rfl (Nat.le_of_ble_eq_true rfl) (Nat.le_of_ble_eq_true rfl) ?_
    exact MPost.r hW (by unfold qMember; rw [if_neg (by rw [c5]; decide)])
theorem m_member {Λ : hc_L} {I : hc_I} {L : hc_J} {R : hc_R} {S : HS} (hW : MW Λ I L S) (m x : Int32) : Run xX11_member [.ref 217, .int m, .int x] Λ I L R (MPost (some (.long (qMember (sA S) (sP S) m x))) S Λ I L R) := by
  by_cases k0 : x = 0
  · subst k0; exact m_member0 hW m
  by_cases k1 : x = 1
  · subst k1; exact m_member1 hW m
  by_cases k2 : x = 2
  · subst k2; exact m_member2 hW m
  by_cases k3 : x = 3
  · subst k3; exact m_member3 hW m
  by_cases k4 : x = 4
  · subst k4; exact m_member4 hW m
  by_cases k5 : x = 5
  · subst k5; exact m_member5 hW m
  by_cases k6 : x = 6
  · subst k6; exact m_member6 hW m
  by_cases k7 : x = 7
  · subst k7; exact m_member7 hW m
  exact m_memberE hW m ⟨k0, k1, k2, k3, k4, k5, k6, k7⟩
theorem aFkX_in {A : AS} (h : wf A) (x : Int32) : lIn x.toInt64 0 (lN (aF A) - 1) = aFkX A x := by
  have := h.f
  rw [lIn_n1 (by omega)]; rfl
set_option maxRecDepth 100000 in
theorem m_field0 {Λ : hc_L} {I : hc_I} {L : hc_J} {R : hc_R} {S : HS} (hW : MW Λ I L S) (f : Int32) : Run xX11_field [.ref 217, .int f, .int 0] Λ I L R (MPost (some (.long (qField (sA S) (sP S) f 0))) S Λ I L R) := by
  refine Run.of (by decide +kernel) (Nat.le_of_ble_eq_true rfl) ?_
  show LW _ _ _ [(0, .ref 217), (1, .int f), (2, .int 0)] _ _ _ _ _ _
  have hM := hW.m
  have hP := hW.l
  have hY := hM.y
  refine LW_iloadn 1 dX11_field_0 rfl rfl ?_
  refine LW_i2l dX11_field_1 ?_
  refine LW_lconst (v := 0) dX11_field_2 (by decide) ?_
  refine LW_aloadn 0 dX11_field_3 rfl rfl ?_
  refine gX11_0 dX11_field_4 flX11_9 (hY.lt (k := 217) (by decide)) (ly217 hY) (lf217_0 hY) ?_
  refine LW_bipush (v := 6) dX11_field_7 (by decide) ?_
  refine LW_lald dX11_field_9 (hY.lt (k := 218) (by decide)) (ly218 hY) rfl (by decide) (Nat.le_of_ble_eq_true rfl) ?_
  rw [show L 218 6 = lN (aF (sA S)) from hM.nF]
  refine LW_lconst (v := 1) dX11_field_10 (by decide) ?_
  refine LW_lsub dX11_field_11 ?_
  refine LW_callS (As := [.long f.toInt64, .long 0, .long ((lN (aF (sA S))) - 1)]) (st := []) (r_isIn f.toInt64 0 ((lN (aF (sA S))) - 1)) YX11_isIn rfl dX11_field_12 mlX11_126 (by decide) ⟨Nat.le_of_ble_eq_true rfl, Nat.le_of_ble_eq_true rfl⟩ (Nat.le_of_ble_eq_true rfl) rfl (fun r12 Λc12 Ic12 Lc12 Rc12 hq12 => ?_)
  obtain ⟨rfl, rfl, rfl, rfl, rfl⟩ := hq12
  refine LW_bif_eq (tgt := 30) dX11_field_15 (by decide) (fun c15 => ?_) (fun c15 => ?_)
  · refine LW_ldc2 dX11_field_30 klX11_402 ?_
    refine LW_lret dX11_field_33 rfl (Nat.le_of_ble_eq_true rfl) (Nat.le_of_ble_eq_true rfl) ?_
    exact MPost.r hW (by unfold qField; rw [if_neg (by rw [← aFkX_in hM.w]; rw [c15]; decide)])
  · refine LW_iloadn 2 dX11_field_18 rfl rfl ?_
    refine LW_i2l dX11_field_19 ?_
    rw [show (0 : Int32).toInt64 = 0 from (by decide)]
    refine LW_lconst (v := 0) dX11_field_20 (by decide) ?_
    refine LW_ldc2 dX11_field_21 klX11_435 ?_
    refine LW_callS (As := [.long 0, .long 0, .long 9]) (st := []) (r_isIn 0 0 9) YX11_isIn rfl dX11_field_24 mlX11_126 (by decide) ⟨Nat.le_of_ble_eq_true rfl, Nat.le_of_ble_eq_true rfl⟩ (Nat.le_of_ble_eq_true rfl) rfl (fun r24 Λc24 Ic24 Lc24 Rc24 hq24 => ?_)
    obtain ⟨rfl, rfl, rfl, rfl, rfl⟩ := hq24
    refine LW_bif_ne (tgt := 34) dX11_field_27 (by decide) (fun c27 => ?_) (fun c27 => absurd (c27.symm.trans (show lIn 0 0 9 = true by decide)) (by decide))
    have hfk : aFkX (sA S) f = true := by rw [← aFkX_in hM.w]; exact c15
    obtain ⟨k, hk, rfl⟩ : ∃ k, k < aF (sA S) ∧ f = nI k := ⟨_, (aFkX_k hM.w hfk).2, (aFkX_k hM.w hfk).1⟩
    have hf24 := hM.w.f
    have hm12 := hM.w.m
    have hk31 : k < 2 ^ 31 := by omega
    have hpr := prX_m1 hM.w.m
    have hwk := hM.w.2.2.2.2.2.2.2.1 k hk
    have hl100 := aLost_le (sA S) k
    refine LW_iloadn 2 dX11_field_34 rfl rfl ?_
    refine LW_bipush (v := 6) dX11_field_35 (by decide) ?_
    refine LW_icmp_ge (tgt := 48) dX11_field_37 (by decide) (fun c37 => absurd c37 (by decide)) (fun c37 => ?_)
    refine LW_aloadn 0 dX11_field_40 rfl rfl ?_
    refine LW_iloadn 1 dX11_field_41 rfl rfl ?_
    refine LW_iloadn 2 dX11_field_42 rfl rfl ?_
    refine LW_callV (As := [.int (nI k), .int 0]) (b := 217) (st := []) (ci := 11) (r := (RX11, TX11, 44)) (r_mOf hM hk (a := 0) (by decide)) YX11_of rfl dX11_field_43 mlX11_334 (hY.lt (k := 217) (by decide)) (ly217 hY) ⟨rfl, rfl⟩ (by decide) ⟨Nat.le_of_ble_eq_true rfl, Nat.le_of_ble_eq_true rfl⟩ (Nat.le_of_ble_eq_true rfl) rfl (fun r43 Λc43 Ic43 Lc43 Rc43 hq43 => ?_)
    obtain ⟨rfl, rfl, rfl, rfl, rfl⟩ := hq43
    refine LW_i2l dX11_field_46 ?_
    rw [show (nI (aFd (sA S) k 0)).toInt64 = lN (aFd (sA S) k 0) from (nI_l (by omega))]
    refine LW_lret dX11_field_47 rfl (Nat.le_of_ble_eq_true rfl) (Nat.le_of_ble_eq_true rfl) ?_
    exact MPost.r hW (by unfold qField; rw [if_pos hfk, if_pos rfl, hc_cl hk31])
set_option maxRecDepth 100000 in
theorem m_field1 {Λ : hc_L} {I : hc_I} {L : hc_J} {R : hc_R} {S : HS} (hW : MW Λ I L S) (f : Int32) : Run xX11_field [.ref 217, .int f, .int 1] Λ I L R (MPost (some (.long (qField (sA S) (sP S) f 1))) S Λ I L R) := by
  refine Run.of (by decide +kernel) (Nat.le_of_ble_eq_true rfl) ?_
  show LW _ _ _ [(0, .ref 217), (1, .int f), (2, .int 1)] _ _ _ _ _ _
  have hM := hW.m
  have hP := hW.l
  have hY := hM.y
  refine LW_iloadn 1 dX11_field_0 rfl rfl ?_
  refine LW_i2l dX11_field_1 ?_
  refine LW_lconst (v := 0) dX11_field_2 (by decide) ?_
  refine LW_aloadn 0 dX11_field_3 rfl rfl ?_
  refine gX11_0 dX11_field_4 flX11_9 (hY.lt (k := 217) (by decide)) (ly217 hY) (lf217_0 hY) ?_
  refine LW_bipush (v := 6) dX11_field_7 (by decide) ?_
  refine LW_lald dX11_field_9 (hY.lt (k := 218) (by decide)) (ly218 hY) rfl (by decide) (Nat.le_of_ble_eq_true rfl) ?_
  rw [show L 218 6 = lN (aF (sA S)) from hM.nF]
  refine LW_lconst (v := 1) dX11_field_10 (by decide) ?_
  refine LW_lsub dX11_field_11 ?_
  refine LW_callS (As := [.long f.toInt64, .long 0, .long ((lN (aF (sA S))) - 1)]) (st := []) (r_isIn f.toInt64 0 ((lN (aF (sA S))) - 1)) YX11_isIn rfl dX11_field_12 mlX11_126 (by decide) ⟨Nat.le_of_ble_eq_true rfl, Nat.le_of_ble_eq_true rfl⟩ (Nat.le_of_ble_eq_true rfl) rfl (fun r12 Λc12 Ic12 Lc12 Rc12 hq12 => ?_)
  obtain ⟨rfl, rfl, rfl, rfl, rfl⟩ := hq12
  refine LW_bif_eq (tgt := 30) dX11_field_15 (by decide) (fun c15 => ?_) (fun c15 => ?_)
  · refine LW_ldc2 dX11_field_30 klX11_402 ?_
    refine LW_lret dX11_field_33 rfl (Nat.le_of_ble_eq_true rfl) (Nat.le_of_ble_eq_true rfl) ?_
    exact MPost.r hW (by unfold qField; rw [if_neg (by rw [← aFkX_in hM.w]; rw [c15]; decide)])
  · refine LW_iloadn 2 dX11_field_18 rfl rfl ?_
    refine LW_i2l dX11_field_19 ?_
    rw [show (1 : Int32).toInt64 = 1 from (by decide)]
    refine LW_lconst (v := 0) dX11_field_20 (by decide) ?_
    refine LW_ldc2 dX11_field_21 klX11_435 ?_
    refine LW_callS (As := [.long 1, .long 0, .long 9]) (st := []) (r_isIn 1 0 9) YX11_isIn rfl dX11_field_24 mlX11_126 (by decide) ⟨Nat.le_of_ble_eq_true rfl, Nat.le_of_ble_eq_true rfl⟩ (Nat.le_of_ble_eq_true rfl) rfl (fun r24 Λc24 Ic24 Lc24 Rc24 hq24 => ?_)
    obtain ⟨rfl, rfl, rfl, rfl, rfl⟩ := hq24
    refine LW_bif_ne (tgt := 34) dX11_field_27 (by decide) (fun c27 => ?_) (fun c27 => absurd (c27.symm.trans (show lIn 1 0 9 = true by decide)) (by decide))
    have hfk : aFkX (sA S) f = true := by rw [← aFkX_in hM.w]; exact c15
    obtain ⟨k, hk, rfl⟩ : ∃ k, k < aF (sA S) ∧ f = nI k := ⟨_, (aFkX_k hM.w hfk).2, (aFkX_k hM.w hfk).1⟩
    have hf24 := hM.w.f
    have hm12 := hM.w.m
    have hk31 : k < 2 ^ 31 := by omega
    have hpr := prX_m1 hM.w.m
    have hwk := hM.w.2.2.2.2.2.2.2.1 k hk
    have hl100 := aLost_le (sA S) k
    refine LW_iloadn 2 dX11_field_34 rfl rfl ?_
    refine LW_bipush (v := 6) dX11_field_35 (by decide) ?_
    refine LW_icmp_ge (tgt := 48) dX11_field_37 (by decide) (fun c37 => absurd c37 (by decide)) (fun c37 => ?_)
    refine LW_aloadn 0 dX11_field_40 rfl rfl ?_
    refine LW_iloadn 1 dX11_field_41 rfl rfl ?_
    refine LW_iloadn 2 dX11_field_42 rfl rfl ?_
    refine LW_callV (As := [.int (nI k), .int 1]) (b := 217) (st := []) (ci := 11) (r := (RX11, TX11, 44)) (r_mOf hM hk (a := 1) (by decide)) YX11_of rfl dX11_field_43 mlX11_334 (hY.lt (k := 217) (by decide)) (ly217 hY) ⟨rfl, rfl⟩ (by decide) ⟨Nat.le_of_ble_eq_true rfl, Nat.le_of_ble_eq_true rfl⟩ (Nat.le_of_ble_eq_true rfl) rfl (fun r43 Λc43 Ic43 Lc43 Rc43 hq43 => ?_)
    obtain ⟨rfl, rfl, rfl, rfl, rfl⟩ := hq43
    refine LW_i2l dX11_field_46 ?_
    rw [show (nI (aFd (sA S) k 1)).toInt64 = lN (aFd (sA S) k 1) from (nI_l (by omega))]
    refine LW_lret dX11_field_47 rfl (Nat.le_of_ble_eq_true rfl) (Nat.le_of_ble_eq_true rfl) ?_
    exact MPost.r hW (by unfold qField; rw [if_pos hfk, if_neg (by decide), if_pos rfl, hc_cl hk31])
set_option maxRecDepth 100000 in
theorem m_field2 {Λ : hc_L} {I : hc_I} {L : hc_J} {R : hc_R} {S : HS} (hW : MW Λ I L S) (f : Int32) : Run xX11_field [.ref 217, .int f, .int 2] Λ I L R (MPost (some (.long (qField (sA S) (sP S) f 2))) S Λ I L R) := by
  refine Run.of (by decide +kernel) (Nat.le_of_ble_eq_true rfl) ?_
  show LW _ _ _ [(0, .ref 217), (1, .int f), (2, .int 2)] _ _ _ _ _ _
  have hM := hW.m
  have hP := hW.l
  have hY := hM.y
  refine LW_iloadn 1 dX11_field_0 rfl rfl ?_
  refine LW_i2l dX11_field_1 ?_
  refine LW_lconst (v := 0) dX11_field_2 (by decide) ?_
  refine LW_aloadn 0 dX11_field_3 rfl rfl ?_
  refine gX11_0 dX11_field_4 flX11_9 (hY.lt (k := 217) (by decide)) (ly217 hY) (lf217_0 hY) ?_
  refine LW_bipush (v := 6) dX11_field_7 (by decide) ?_
  refine LW_lald dX11_field_9 (hY.lt (k := 218) (by decide)) (ly218 hY) rfl (by decide) (Nat.le_of_ble_eq_true rfl) ?_
  rw [show L 218 6 = lN (aF (sA S)) from hM.nF]
  refine LW_lconst (v := 1) dX11_field_10 (by decide) ?_
  refine LW_lsub dX11_field_11 ?_
  refine LW_callS (As := [.long f.toInt64, .long 0, .long ((lN (aF (sA S))) - 1)]) (st := []) (r_isIn f.toInt64 0 ((lN (aF (sA S))) - 1)) YX11_isIn rfl dX11_field_12 mlX11_126 (by decide) ⟨Nat.le_of_ble_eq_true rfl, Nat.le_of_ble_eq_true rfl⟩ (Nat.le_of_ble_eq_true rfl) rfl (fun r12 Λc12 Ic12 Lc12 Rc12 hq12 => ?_)
  obtain ⟨rfl, rfl, rfl, rfl, rfl⟩ := hq12
  refine LW_bif_eq (tgt := 30) dX11_field_15 (by decide) (fun c15 => ?_) (fun c15 => ?_)
  · refine LW_ldc2 dX11_field_30 klX11_402 ?_
    refine LW_lret dX11_field_33 rfl (Nat.le_of_ble_eq_true rfl) (Nat.le_of_ble_eq_true rfl) ?_
    exact MPost.r hW (by unfold qField; rw [if_neg (by rw [← aFkX_in hM.w]; rw [c15]; decide)])
  · refine LW_iloadn 2 dX11_field_18 rfl rfl ?_
    refine LW_i2l dX11_field_19 ?_
    rw [show (2 : Int32).toInt64 = 2 from (by decide)]
    refine LW_lconst (v := 0) dX11_field_20 (by decide) ?_
    refine LW_ldc2 dX11_field_21 klX11_435 ?_
    refine LW_callS (As := [.long 2, .long 0, .long 9]) (st := []) (r_isIn 2 0 9) YX11_isIn rfl dX11_field_24 mlX11_126 (by decide) ⟨Nat.le_of_ble_eq_true rfl, Nat.le_of_ble_eq_true rfl⟩ (Nat.le_of_ble_eq_true rfl) rfl (fun r24 Λc24 Ic24 Lc24 Rc24 hq24 => ?_)
    obtain ⟨rfl, rfl, rfl, rfl, rfl⟩ := hq24
    refine LW_bif_ne (tgt := 34) dX11_field_27 (by decide) (fun c27 => ?_) (fun c27 => absurd (c27.symm.trans (show lIn 2 0 9 = true by decide)) (by decide))
    have hfk : aFkX (sA S) f = true := by rw [← aFkX_in hM.w]; exact c15
    obtain ⟨k, hk, rfl⟩ : ∃ k, k < aF (sA S) ∧ f = nI k := ⟨_, (aFkX_k hM.w hfk).2, (aFkX_k hM.w hfk).1⟩
    have hf24 := hM.w.f
    have hm12 := hM.w.m
    have hk31 : k < 2 ^ 31 := by omega
    have hpr := prX_m1 hM.w.m
    have hwk := hM.w.2.2.2.2.2.2.2.1 k hk
    have hl100 := aLost_le (sA S) k
    refine LW_iloadn 2 dX11_field_34 rfl rfl ?_
    refine LW_bipush (v := 6) dX11_field_35 (by decide) ?_
    refine LW_icmp_ge (tgt := 48) dX11_field_37 (by decide) (fun c37 => absurd c37 (by decide)) (fun c37 => ?_)
    refine LW_aloadn 0 dX11_field_40 rfl rfl ?_
    refine LW_iloadn 1 dX11_field_41 rfl rfl ?_
    refine LW_iloadn 2 dX11_field_42 rfl rfl ?_
    refine LW_callV (As := [.int (nI k), .int 2]) (b := 217) (st := []) (ci := 11) (r := (RX11, TX11, 44)) (r_mOf hM hk (a := 2) (by decide)) YX11_of rfl dX11_field_43 mlX11_334 (hY.lt (k := 217) (by decide)) (ly217 hY) ⟨rfl, rfl⟩ (by decide) ⟨Nat.le_of_ble_eq_true rfl, Nat.le_of_ble_eq_true rfl⟩ (Nat.le_of_ble_eq_true rfl) rfl (fun r43 Λc43 Ic43 Lc43 Rc43 hq43 => ?_)
    obtain ⟨rfl, rfl, rfl, rfl, rfl⟩ := hq43
    refine LW_i2l dX11_field_46 ?_
    rw [show (nI (aFd (sA S) k 2)).toInt64 = lN (aFd (sA S) k 2) from (nI_l (by omega))]
    refine LW_lret dX11_field_47 rfl (Nat.le_of_ble_eq_true rfl) (Nat.le_of_ble_eq_true rfl) ?_
    exact MPost.r hW (by unfold qField; rw [if_pos hfk, if_neg (by decide), if_neg (by decide), if_pos rfl, hc_cl hk31])
set_option maxRecDepth 100000 in
theorem m_field3 {Λ : hc_L} {I : hc_I} {L : hc_J} {R : hc_R} {S : HS} (hW : MW Λ I L S) (f : Int32) : Run xX11_field [.ref 217, .int f, .int 3] Λ I L R (MPost (some (.long (qField (sA S) (sP S) f 3))) S Λ I L R) := by
  refine Run.of (by decide +kernel) (Nat.le_of_ble_eq_true rfl) ?_
  show LW _ _ _ [(0, .ref 217), (1, .int f), (2, .int 3)] _ _ _ _ _ _
  have hM := hW.m
  have hP := hW.l
  have hY := hM.y
  refine LW_iloadn 1 dX11_field_0 rfl rfl ?_
  refine LW_i2l dX11_field_1 ?_
  refine LW_lconst (v := 0) dX11_field_2 (by decide) ?_
  refine LW_aloadn 0 dX11_field_3 rfl rfl ?_
  refine gX11_0 dX11_field_4 flX11_9 (hY.lt (k := 217) (by decide)) (ly217 hY) (lf217_0 hY) ?_
  refine LW_bipush (v := 6) dX11_field_7 (by decide) ?_
  refine LW_lald dX11_field_9 (hY.lt (k := 218) (by decide)) (ly218 hY) rfl (by decide) (Nat.le_of_ble_eq_true rfl) ?_
  rw [show L 218 6 = lN (aF (sA S)) from hM.nF]
  refine LW_lconst (v := 1) dX11_field_10 (by decide) ?_
  refine LW_lsub dX11_field_11 ?_
  refine LW_callS (As := [.long f.toInt64, .long 0, .long ((lN (aF (sA S))) - 1)]) (st := []) (r_isIn f.toInt64 0 ((lN (aF (sA S))) - 1)) YX11_isIn rfl dX11_field_12 mlX11_126 (by decide) ⟨Nat.le_of_ble_eq_true rfl, Nat.le_of_ble_eq_true rfl⟩ (Nat.le_of_ble_eq_true rfl) rfl (fun r12 Λc12 Ic12 Lc12 Rc12 hq12 => ?_)
  obtain ⟨rfl, rfl, rfl, rfl, rfl⟩ := hq12
  refine LW_bif_eq (tgt := 30) dX11_field_15 (by decide) (fun c15 => ?_) (fun c15 => ?_)
  · refine LW_ldc2 dX11_field_30 klX11_402 ?_
    refine LW_lret dX11_field_33 rfl (Nat.le_of_ble_eq_true rfl) (Nat.le_of_ble_eq_true rfl) ?_
    exact MPost.r hW (by unfold qField; rw [if_neg (by rw [← aFkX_in hM.w]; rw [c15]; decide)])
  · refine LW_iloadn 2 dX11_field_18 rfl rfl ?_
    refine LW_i2l dX11_field_19 ?_
    rw [show (3 : Int32).toInt64 = 3 from (by decide)]
    refine LW_lconst (v := 0) dX11_field_20 (by decide) ?_
    refine LW_ldc2 dX11_field_21 klX11_435 ?_
    refine LW_callS (As := [.long 3, .long 0, .long 9]) (st := []) (r_isIn 3 0 9) YX11_isIn rfl dX11_field_24 mlX11_126 (by decide) ⟨Nat.le_of_ble_eq_true rfl, Nat.le_of_ble_eq_true rfl⟩ (Nat.le_of_ble_eq_true rfl) rfl (fun r24 Λc24 Ic24 Lc24 Rc24 hq24 => ?_)
    obtain ⟨rfl, rfl, rfl, rfl, rfl⟩ := hq24
    refine LW_bif_ne (tgt := 34) dX11_field_27 (by decide) (fun c27 => ?_) (fun c27 => absurd (c27.symm.trans (show lIn 3 0 9 = true by decide)) (by decide))
    have hfk : aFkX (sA S) f = true := by rw [← aFkX_in hM.w]; exact c15
    obtain ⟨k, hk, rfl⟩ : ∃ k, k < aF (sA S) ∧ f = nI k := ⟨_, (aFkX_k hM.w hfk).2, (aFkX_k hM.w hfk).1⟩
    have hf24 := hM.w.f
    have hm12 := hM.w.m
    have hk31 : k < 2 ^ 31 := by omega
    have hpr := prX_m1 hM.w.m
    have hwk := hM.w.2.2.2.2.2.2.2.1 k hk
    have hl100 := aLost_le (sA S) k
    refine LW_iloadn 2 dX11_field_34 rfl rfl ?_
    refine LW_bipush (v := 6) dX11_field_35 (by decide) ?_
    refine LW_icmp_ge (tgt := 48) dX11_field_37 (by decide) (fun c37 => absurd c37 (by decide)) (fun c37 => ?_)
    refine LW_aloadn 0 dX11_field_40 rfl rfl ?_
    refine LW_iloadn 1 dX11_field_41 rfl rfl ?_
    refine LW_iloadn 2 dX11_field_42 rfl rfl ?_
    refine LW_callV (As := [.int (nI k), .int 3]) (b := 217) (st := []) (ci := 11) (r := (RX11, TX11, 44)) (r_mOf hM hk (a := 3) (by decide)) YX11_of rfl dX11_field_43 mlX11_334 (hY.lt (k := 217) (by decide)) (ly217 hY) ⟨rfl, rfl⟩ (by decide) ⟨Nat.le_of_ble_eq_true rfl, Nat.le_of_ble_eq_true rfl⟩ (Nat.le_of_ble_eq_true rfl) rfl (fun r43 Λc43 Ic43 Lc43 Rc43 hq43 => ?_)
    obtain ⟨rfl, rfl, rfl, rfl, rfl⟩ := hq43
    refine LW_i2l dX11_field_46 ?_
    rw [show (nI (aFd (sA S) k 3)).toInt64 = lN (aFd (sA S) k 3) from (nI_l (by omega))]
    refine LW_lret dX11_field_47 rfl (Nat.le_of_ble_eq_true rfl) (Nat.le_of_ble_eq_true rfl) ?_
    exact MPost.r hW (by unfold qField; rw [if_pos hfk, if_neg (by decide), if_neg (by decide), if_neg (by decide), if_pos rfl, hc_cl hk31])
set_option maxRecDepth 100000 in
theorem m_field4 {Λ : hc_L} {I : hc_I} {L : hc_J} {R : hc_R} {S : HS} (hW : MW Λ I L S) (f : Int32) : Run xX11_field [.ref 217, .int f, .int 4] Λ I L R (MPost (some (.long (qField (sA S) (sP S) f 4))) S Λ I L R) := by
  refine Run.of (by decide +kernel) (Nat.le_of_ble_eq_true rfl) ?_
  show LW _ _ _ [(0, .ref 217), (1, .int f), (2, .int 4)] _ _ _ _ _ _
  have hM := hW.m
  have hP := hW.l
  have hY := hM.y
  refine LW_iloadn 1 dX11_field_0 rfl rfl ?_
  refine LW_i2l dX11_field_1 ?_
  refine LW_lconst (v := 0) dX11_field_2 (by decide) ?_
  refine LW_aloadn 0 dX11_field_3 rfl rfl ?_
  refine gX11_0 dX11_field_4 flX11_9 (hY.lt (k := 217) (by decide)) (ly217 hY) (lf217_0 hY) ?_
  refine LW_bipush (v := 6) dX11_field_7 (by decide) ?_
  refine LW_lald dX11_field_9 (hY.lt (k := 218) (by decide)) (ly218 hY) rfl (by decide) (Nat.le_of_ble_eq_true rfl) ?_
  rw [show L 218 6 = lN (aF (sA S)) from hM.nF]
  refine LW_lconst (v := 1) dX11_field_10 (by decide) ?_
  refine LW_lsub dX11_field_11 ?_
  refine LW_callS (As := [.long f.toInt64, .long 0, .long ((lN (aF (sA S))) - 1)]) (st := []) (r_isIn f.toInt64 0 ((lN (aF (sA S))) - 1)) YX11_isIn rfl dX11_field_12 mlX11_126 (by decide) ⟨Nat.le_of_ble_eq_true rfl, Nat.le_of_ble_eq_true rfl⟩ (Nat.le_of_ble_eq_true rfl) rfl (fun r12 Λc12 Ic12 Lc12 Rc12 hq12 => ?_)
  obtain ⟨rfl, rfl, rfl, rfl, rfl⟩ := hq12
  refine LW_bif_eq (tgt := 30) dX11_field_15 (by decide) (fun c15 => ?_) (fun c15 => ?_)
  · refine LW_ldc2 dX11_field_30 klX11_402 ?_
    refine LW_lret dX11_field_33 rfl (Nat.le_of_ble_eq_true rfl) (Nat.le_of_ble_eq_true rfl) ?_
    exact MPost.r hW (by unfold qField; rw [if_neg (by rw [← aFkX_in hM.w]; rw [c15]; decide)])
  · refine LW_iloadn 2 dX11_field_18 rfl rfl ?_
    refine LW_i2l dX11_field_19 ?_
    rw [show (4 : Int32).toInt64 = 4 from (by decide)]
    refine LW_lconst (v := 0) dX11_field_20 (by decide) ?_
    refine LW_ldc2 dX11_field_21 klX11_435 ?_
    refine LW_callS (As := [.long 4, .long 0, .long 9]) (st := []) (r_isIn 4 0 9) YX11_isIn rfl dX11_field_24 mlX11_126 (by decide) ⟨Nat.le_of_ble_eq_true rfl, Nat.le_of_ble_eq_true rfl⟩ (Nat.le_of_ble_eq_true rfl) rfl (fun r24 Λc24 Ic24 Lc24 Rc24 hq24 => ?_)
    obtain ⟨rfl, rfl, rfl, rfl, rfl⟩ := hq24
    refine LW_bif_ne (tgt := 34) dX11_field_27 (by decide) (fun c27 => ?_) (fun c27 => absurd (c27.symm.trans (show lIn 4 0 9 = true by decide)) (by decide))
    have hfk : aFkX (sA S) f = true := by rw [← aFkX_in hM.w]; exact c15
    obtain ⟨k, hk, rfl⟩ : ∃ k, k < aF (sA S) ∧ f = nI k := ⟨_, (aFkX_k hM.w hfk).2, (aFkX_k hM.w hfk).1⟩
    have hf24 := hM.w.f
    have hm12 := hM.w.m
    have hk31 : k < 2 ^ 31 := by omega
    have hpr := prX_m1 hM.w.m
    have hwk := hM.w.2.2.2.2.2.2.2.1 k hk
    have hl100 := aLost_le (sA S) k
    refine LW_iloadn 2 dX11_field_34 rfl rfl ?_
    refine LW_bipush (v := 6) dX11_field_35 (by decide) ?_
    refine LW_icmp_ge (tgt := 48) dX11_field_37 (by decide) (fun c37 => absurd c37 (by decide)) (fun c37 => ?_)
    refine LW_aloadn 0 dX11_field_40 rfl rfl ?_
    refine LW_iloadn 1 dX11_field_41 rfl rfl ?_
    refine LW_iloadn 2 dX11_field_42 rfl rfl ?_
    refine LW_callV (As := [.int (nI k), .int 4]) (b := 217) (st := []) (ci := 11) (r := (RX11, TX11, 44)) (r_mOf hM hk (a := 4) (by decide)) YX11_of rfl dX11_field_43 mlX11_334 (hY.lt (k := 217) (by decide)) (ly217 hY) ⟨rfl, rfl⟩ (by decide) ⟨Nat.le_of_ble_eq_true rfl, Nat.le_of_ble_eq_true rfl⟩ (Nat.le_of_ble_eq_true rfl) rfl (fun r43 Λc43 Ic43 Lc43 Rc43 hq43 => ?_)
    obtain ⟨rfl, rfl, rfl, rfl, rfl⟩ := hq43
    refine LW_i2l dX11_field_46 ?_
    rw [show (nI (aFd (sA S) k 4)).toInt64 = lN (aFd (sA S) k 4) from (nI_l (by omega))]
    refine LW_lret dX11_field_47 rfl (Nat.le_of_ble_eq_true rfl) (Nat.le_of_ble_eq_true rfl) ?_
    exact MPost.r hW (by unfold qField; rw [if_pos hfk, if_neg (by decide), if_neg (by decide), if_neg (by decide), if_neg (by decide), if_pos rfl, hc_cl hk31])
set_option maxRecDepth 100000 in
theorem m_field5 {Λ : hc_L} {I : hc_I} {L : hc_J} {R : hc_R} {S : HS} (hW : MW Λ I L S) (f : Int32) : Run xX11_field [.ref 217, .int f, .int 5] Λ I L R (MPost (some (.long (qField (sA S) (sP S) f 5))) S Λ I L R) := by
  refine Run.of (by decide +kernel) (Nat.le_of_ble_eq_true rfl) ?_
  show LW _ _ _ [(0, .ref 217), (1, .int f), (2, .int 5)] _ _ _ _ _ _
  have hM := hW.m
  have hP := hW.l
  have hY := hM.y
  refine LW_iloadn 1 dX11_field_0 rfl rfl ?_
  refine LW_i2l dX11_field_1 ?_
  refine LW_lconst (v := 0) dX11_field_2 (by decide) ?_
  refine LW_aloadn 0 dX11_field_3 rfl rfl ?_
  refine gX11_0 dX11_field_4 flX11_9 (hY.lt (k := 217) (by decide)) (ly217 hY) (lf217_0 hY) ?_
  refine LW_bipush (v := 6) dX11_field_7 (by decide) ?_
  refine LW_lald dX11_field_9 (hY.lt (k := 218) (by decide)) (ly218 hY) rfl (by decide) (Nat.le_of_ble_eq_true rfl) ?_
  rw [show L 218 6 = lN (aF (sA S)) from hM.nF]
  refine LW_lconst (v := 1) dX11_field_10 (by decide) ?_
  refine LW_lsub dX11_field_11 ?_
  refine LW_callS (As := [.long f.toInt64, .long 0, .long ((lN (aF (sA S))) - 1)]) (st := []) (r_isIn f.toInt64 0 ((lN (aF (sA S))) - 1)) YX11_isIn rfl dX11_field_12 mlX11_126 (by decide) ⟨Nat.le_of_ble_eq_true rfl, Nat.le_of_ble_eq_true rfl⟩ (Nat.le_of_ble_eq_true rfl) rfl (fun r12 Λc12 Ic12 Lc12 Rc12 hq12 => ?_)
  obtain ⟨rfl, rfl, rfl, rfl, rfl⟩ := hq12
  refine LW_bif_eq (tgt := 30) dX11_field_15 (by decide) (fun c15 => ?_) (fun c15 => ?_)
  · refine LW_ldc2 dX11_field_30 klX11_402 ?_
    refine LW_lret dX11_field_33 rfl (Nat.le_of_ble_eq_true rfl) (Nat.le_of_ble_eq_true rfl) ?_
    exact MPost.r hW (by unfold qField; rw [if_neg (by rw [← aFkX_in hM.w]; rw [c15]; decide)])
  · refine LW_iloadn 2 dX11_field_18 rfl rfl ?_
    refine LW_i2l dX11_field_19 ?_
    rw [show (5 : Int32).toInt64 = 5 from (by decide)]
    refine LW_lconst (v := 0) dX11_field_20 (by decide) ?_
    refine LW_ldc2 dX11_field_21 klX11_435 ?_
    refine LW_callS (As := [.long 5, .long 0, .long 9]) (st := []) (r_isIn 5 0 9) YX11_isIn rfl dX11_field_24 mlX11_126 (by decide) ⟨Nat.le_of_ble_eq_true rfl, Nat.le_of_ble_eq_true rfl⟩ (Nat.le_of_ble_eq_true rfl) rfl (fun r24 Λc24 Ic24 Lc24 Rc24 hq24 => ?_)
    obtain ⟨rfl, rfl, rfl, rfl, rfl⟩ := hq24
    refine LW_bif_ne (tgt := 34) dX11_field_27 (by decide) (fun c27 => ?_) (fun c27 => absurd (c27.symm.trans (show lIn 5 0 9 = true by decide)) (by decide))
    have hfk : aFkX (sA S) f = true := by rw [← aFkX_in hM.w]; exact c15
    obtain ⟨k, hk, rfl⟩ : ∃ k, k < aF (sA S) ∧ f = nI k := ⟨_, (aFkX_k hM.w hfk).2, (aFkX_k hM.w hfk).1⟩
    have hf24 := hM.w.f
    have hm12 := hM.w.m
    have hk31 : k < 2 ^ 31 := by omega
    have hpr := prX_m1 hM.w.m
    have hwk := hM.w.2.2.2.2.2.2.2.1 k hk
    have hl100 := aLost_le (sA S) k
    refine LW_iloadn 2 dX11_field_34 rfl rfl ?_
    refine LW_bipush (v := 6) dX11_field_35 (by decide) ?_
    refine LW_icmp_ge (tgt := 48) dX11_field_37 (by decide) (fun c37 => absurd c37 (by decide)) (fun c37 => ?_)
    refine LW_aloadn 0 dX11_field_40 rfl rfl ?_
    refine LW_iloadn 1 dX11_field_41 rfl rfl ?_
    refine LW_iloadn 2 dX11_field_42 rfl rfl ?_
    refine LW_callV (As := [.int (nI k), .int 5]) (b := 217) (st := []) (ci := 11) (r := (RX11, TX11, 44)) (r_mOf hM hk (a := 5) (by decide)) YX11_of rfl dX11_field_43 mlX11_334 (hY.lt (k := 217) (by decide)) (ly217 hY) ⟨rfl, rfl⟩ (by decide) ⟨Nat.le_of_ble_eq_true rfl, Nat.le_of_ble_eq_true rfl⟩ (Nat.le_of_ble_eq_true rfl) rfl (fun r43 Λc43 Ic43 Lc43 Rc43 hq43 => ?_)
    obtain ⟨rfl, rfl, rfl, rfl, rfl⟩ := hq43
    refine LW_i2l dX11_field_46 ?_
    rw [show (nI (aFd (sA S) k 5)).toInt64 = lN (aFd (sA S) k 5) from (nI_l (by omega))]
    refine LW_lret dX11_field_47 rfl (Nat.le_of_ble_eq_true rfl) (Nat.le_of_ble_eq_true rfl) ?_
    exact MPost.r hW (by unfold qField; rw [if_pos hfk, if_neg (by decide), if_neg (by decide), if_neg (by decide), if_neg (by decide), if_neg (by decide), if_pos rfl, hc_cl hk31])
set_option maxRecDepth 100000 in
theorem m_field6 {Λ : hc_L} {I : hc_I} {L : hc_J} {R : hc_R} {S : HS} (hW : MW Λ I L S) (f : Int32) : Run xX11_field [.ref 217, .int f, .int 6] Λ I L R (MPost (some (.long (qField (sA S) (sP S) f 6))) S Λ I L R) := by
  refine Run.of (by decide +kernel) (Nat.le_of_ble_eq_true rfl) ?_
  show LW _ _ _ [(0, .ref 217), (1, .int f), (2, .int 6)] _ _ _ _ _ _
  have hM := hW.m
  have hP := hW.l
  have hY := hM.y
  refine LW_iloadn 1 dX11_field_0 rfl rfl ?_
  refine LW_i2l dX11_field_1 ?_
  refine LW_lconst (v := 0) dX11_field_2 (by decide) ?_
  refine LW_aloadn 0 dX11_field_3 rfl rfl ?_
  refine gX11_0 dX11_field_4 flX11_9 (hY.lt (k := 217) (by decide)) (ly217 hY) (lf217_0 hY) ?_
  refine LW_bipush (v := 6) dX11_field_7 (by decide) ?_
  refine LW_lald dX11_field_9 (hY.lt (k := 218) (by decide)) (ly218 hY) rfl (by decide) (Nat.le_of_ble_eq_true rfl) ?_
  rw [show L 218 6 = lN (aF (sA S)) from hM.nF]
  refine LW_lconst (v := 1) dX11_field_10 (by decide) ?_
  refine LW_lsub dX11_field_11 ?_
  refine LW_callS (As := [.long f.toInt64, .long 0, .long ((lN (aF (sA S))) - 1)]) (st := []) (r_isIn f.toInt64 0 ((lN (aF (sA S))) - 1)) YX11_isIn rfl dX11_field_12 mlX11_126 (by decide) ⟨Nat.le_of_ble_eq_true rfl, Nat.le_of_ble_eq_true rfl⟩ (Nat.le_of_ble_eq_true rfl) rfl (fun r12 Λc12 Ic12 Lc12 Rc12 hq12 => ?_)
  obtain ⟨rfl, rfl, rfl, rfl, rfl⟩ := hq12
  refine LW_bif_eq (tgt := 30) dX11_field_15 (by decide) (fun c15 => ?_) (fun c15 => ?_)
  · refine LW_ldc2 dX11_field_30 klX11_402 ?_
    refine LW_lret dX11_field_33 rfl (Nat.le_of_ble_eq_true rfl) (Nat.le_of_ble_eq_true rfl) ?_
    exact MPost.r hW (by unfold qField; rw [if_neg (by rw [← aFkX_in hM.w]; rw [c15]; decide)])
  · refine LW_iloadn 2 dX11_field_18 rfl rfl ?_
    refine LW_i2l dX11_field_19 ?_
    rw [show (6 : Int32).toInt64 = 6 from (by decide)]
    refine LW_lconst (v := 0) dX11_field_20 (by decide) ?_
    refine LW_ldc2 dX11_field_21 klX11_435 ?_
    refine LW_callS (As := [.long 6, .long 0, .long 9]) (st := []) (r_isIn 6 0 9) YX11_isIn rfl dX11_field_24 mlX11_126 (by decide) ⟨Nat.le_of_ble_eq_true rfl, Nat.le_of_ble_eq_true rfl⟩ (Nat.le_of_ble_eq_true rfl) rfl (fun r24 Λc24 Ic24 Lc24 Rc24 hq24 => ?_)
    obtain ⟨rfl, rfl, rfl, rfl, rfl⟩ := hq24
    refine LW_bif_ne (tgt := 34) dX11_field_27 (by decide) (fun c27 => ?_) (fun c27 => absurd (c27.symm.trans (show lIn 6 0 9 = true by decide)) (by decide))
    have hfk : aFkX (sA S) f = true := by rw [← aFkX_in hM.w]; exact c15
    obtain ⟨k, hk, rfl⟩ : ∃ k, k < aF (sA S) ∧ f = nI k := ⟨_, (aFkX_k hM.w hfk).2, (aFkX_k hM.w hfk).1⟩
    have hf24 := hM.w.f
    have hm12 := hM.w.m
    have hk31 : k < 2 ^ 31 := by omega
    have hpr := prX_m1 hM.w.m
    have hwk := hM.w.2.2.2.2.2.2.2.1 k hk
    have hl100 := aLost_le (sA S) k
    refine LW_iloadn 2 dX11_field_34 rfl rfl ?_
    refine LW_bipush (v := 6) dX11_field_35 (by decide) ?_
    refine LW_icmp_ge (tgt := 48) dX11_field_37 (by decide) (fun c37 => ?_) (fun c37 => absurd (by decide) c37)
    refine LW_iloadn 2 dX11_field_48 rfl rfl ?_
    refine LW_bipush (v := 6) dX11_field_49 (by decide) ?_
    refine LW_icmp_ne (tgt := 64) dX11_field_51 (by decide) (fun c51 => absurd c51 (fun z => z rfl)) (fun c51 => ?_)
    refine LW_aloadn 0 dX11_field_54 rfl rfl ?_
    refine LW_iloadn 1 dX11_field_55 rfl rfl ?_
    refine LW_callV (As := [.int (nI k)]) (b := 217) (st := []) (ci := 11) (r := (RX11, TX11, 44)) (r_mIsField hM hk) YX11_isField rfl dX11_field_56 mlX11_388 (hY.lt (k := 217) (by decide)) (ly217 hY) ⟨rfl, rfl⟩ (by decide) ⟨Nat.le_of_ble_eq_true rfl, Nat.le_of_ble_eq_true rfl⟩ (Nat.le_of_ble_eq_true rfl) rfl (fun r56 Λc56 Ic56 Lc56 Rc56 hq56 => ?_)
    rw [hpr, aStk hk] at hq56
    obtain ⟨rfl, rfl, rfl, rfl, rfl⟩ := hq56
    refine LW_callS (As := [.int (hc_b (aSt (sA S) k))]) (st := []) (r_one _) YX11_one rfl dX11_field_59 mlX11_391 (by decide) ⟨Nat.le_of_ble_eq_true rfl, Nat.le_of_ble_eq_true rfl⟩ (Nat.le_of_ble_eq_true rfl) rfl (fun r59 Λc59 Ic59 Lc59 Rc59 hq59 => ?_)
    obtain ⟨rfl, rfl, rfl, rfl, rfl⟩ := hq59
    refine LW_i2l dX11_field_62 ?_
    refine LW_lret dX11_field_63 rfl (Nat.le_of_ble_eq_true rfl) (Nat.le_of_ble_eq_true rfl) ?_
    exact MPost.r hW (by unfold qField; rw [if_pos hfk, if_neg (by decide), if_neg (by decide), if_neg (by decide), if_neg (by decide), if_neg (by decide), if_neg (by decide), if_pos rfl, hc_cl hk31, lB_b])
set_option maxRecDepth 100000 in
theorem m_field7 {Λ : hc_L} {I : hc_I} {L : hc_J} {R : hc_R} {S : HS} (hW : MW Λ I L S) (f : Int32) : Run xX11_field [.ref 217, .int f, .int 7] Λ I L R (MPost (some (.long (qField (sA S) (sP S) f 7))) S Λ I L R) := by
  refine Run.of (by decide +kernel) (Nat.le_of_ble_eq_true rfl) ?_
  show LW _ _ _ [(0, .ref 217), (1, .int f), (2, .int 7)] _ _ _ _ _ _
  have hM := hW.m
  have hP := hW.l
  have hY := hM.y
  refine LW_iloadn 1 dX11_field_0 rfl rfl ?_
  refine LW_i2l dX11_field_1 ?_
  refine LW_lconst (v := 0) dX11_field_2 (by decide) ?_
  refine LW_aloadn 0 dX11_field_3 rfl rfl ?_
  refine gX11_0 dX11_field_4 flX11_9 (hY.lt (k := 217) (by decide)) (ly217 hY) (lf217_0 hY) ?_
  refine LW_bipush (v := 6) dX11_field_7 (by decide) ?_
  refine LW_lald dX11_field_9 (hY.lt (k := 218) (by decide)) (ly218 hY) rfl (by decide) (Nat.le_of_ble_eq_true rfl) ?_
  rw [show L 218 6 = lN (aF (sA S)) from hM.nF]
  refine LW_lconst (v := 1) dX11_field_10 (by decide) ?_
  refine LW_lsub dX11_field_11 ?_
  refine LW_callS (As := [.long f.toInt64, .long 0, .long ((lN (aF (sA S))) - 1)]) (st := []) (r_isIn f.toInt64 0 ((lN (aF (sA S))) - 1)) YX11_isIn rfl dX11_field_12 mlX11_126 (by decide) ⟨Nat.le_of_ble_eq_true rfl, Nat.le_of_ble_eq_true rfl⟩ (Nat.le_of_ble_eq_true rfl) rfl (fun r12 Λc12 Ic12 Lc12 Rc12 hq12 => ?_)
  obtain ⟨rfl, rfl, rfl, rfl, rfl⟩ := hq12
  refine LW_bif_eq (tgt := 30) dX11_field_15 (by decide) (fun c15 => ?_) (fun c15 => ?_)
  · refine LW_ldc2 dX11_field_30 klX11_402 ?_
    refine LW_lret dX11_field_33 rfl (Nat.le_of_ble_eq_true rfl) (Nat.le_of_ble_eq_true rfl) ?_
    exact MPost.r hW (by unfold qField; rw [if_neg (by rw [← aFkX_in hM.w]; rw [c15]; decide)])
  · refine LW_iloadn 2 dX11_field_18 rfl rfl ?_
    refine LW_i2l dX11_field_19 ?_
    rw [show (7 : Int32).toInt64 = 7 from (by decide)]
    refine LW_lconst (v := 0) dX11_field_20 (by decide) ?_
    refine LW_ldc2 dX11_field_21 klX11_435 ?_
    refine LW_callS (As := [.long 7, .long 0, .long 9]) (st := []) (r_isIn 7 0 9) YX11_isIn rfl dX11_field_24 mlX11_126 (by decide) ⟨Nat.le_of_ble_eq_true rfl, Nat.le_of_ble_eq_true rfl⟩ (Nat.le_of_ble_eq_true rfl) rfl (fun r24 Λc24 Ic24 Lc24 Rc24 hq24 => ?_)
    obtain ⟨rfl, rfl, rfl, rfl, rfl⟩ := hq24
    refine LW_bif_ne (tgt := 34) dX11_field_27 (by decide) (fun c27 => ?_) (fun c27 => absurd (c27.symm.trans (show lIn 7 0 9 = true by decide)) (by decide))
    have hfk : aFkX (sA S) f = true := by rw [← aFkX_in hM.w]; exact c15
    obtain ⟨k, hk, rfl⟩ : ∃ k, k < aF (sA S) ∧ f = nI k := ⟨_, (aFkX_k hM.w hfk).2, (aFkX_k hM.w hfk).1⟩
    have hf24 := hM.w.f
    have hm12 := hM.w.m
    have hk31 : k < 2 ^ 31 := by omega
    have hpr := prX_m1 hM.w.m
    have hwk := hM.w.2.2.2.2.2.2.2.1 k hk
    have hl100 := aLost_le (sA S) k
    refine LW_iloadn 2 dX11_field_34 rfl rfl ?_
    refine LW_bipush (v := 6) dX11_field_35 (by decide) ?_
    refine LW_icmp_ge (tgt := 48) dX11_field_37 (by decide) (fun c37 => ?_) (fun c37 => absurd (by decide) c37)
    refine LW_iloadn 2 dX11_field_48 rfl rfl ?_
    refine LW_bipush (v := 6) dX11_field_49 (by decide) ?_
    refine LW_icmp_ne (tgt := 64) dX11_field_51 (by decide) (fun c51 => ?_) (fun c51 => absurd (by decide) c51)
    refine LW_aloadn 0 dX11_field_64 rfl rfl ?_
    refine LW_iloadn 1 dX11_field_65 rfl rfl ?_
    refine LW_callV (As := [.int (nI k)]) (b := 217) (st := []) (ci := 11) (r := (RX11, TX11, 44)) (r_mIsField hM hk) YX11_isField rfl dX11_field_66 mlX11_388 (hY.lt (k := 217) (by decide)) (ly217 hY) ⟨rfl, rfl⟩ (by decide) ⟨Nat.le_of_ble_eq_true rfl, Nat.le_of_ble_eq_true rfl⟩ (Nat.le_of_ble_eq_true rfl) rfl (fun r66 Λc66 Ic66 Lc66 Rc66 hq66 => ?_)
    rw [hpr, aStk hk] at hq66
    obtain ⟨rfl, rfl, rfl, rfl, rfl⟩ := hq66
    refine LW_bif_ne (tgt := 74) dX11_field_69 (by decide) (fun c69 => ?_) (fun c69 => ?_)
    · refine LW_iloadn 2 dX11_field_74 rfl rfl ?_
      refine LW_bipush (v := 7) dX11_field_75 (by decide) ?_
      refine LW_icmp_ne (tgt := 88) dX11_field_77 (by decide) (fun c77 => absurd c77 (fun z => z rfl)) (fun c77 => ?_)
      refine LW_aloadn 0 dX11_field_80 rfl rfl ?_
      refine LW_iloadn 1 dX11_field_81 rfl rfl ?_
      refine LW_callV (As := [.int (nI k)]) (b := 217) (st := []) (ci := 11) (r := (RX11, TX11, 44)) (r_mLostOf hM hk) YX11_lostOf rfl dX11_field_82 mlX11_367 (hY.lt (k := 217) (by decide)) (ly217 hY) ⟨rfl, rfl⟩ (by decide) ⟨Nat.le_of_ble_eq_true rfl, Nat.le_of_ble_eq_true rfl⟩ (Nat.le_of_ble_eq_true rfl) rfl (fun r82 Λc82 Ic82 Lc82 Rc82 hq82 => ?_)
      obtain ⟨rfl, rfl, rfl, rfl, rfl⟩ := hq82
      refine LW_goto (tgt := 117) dX11_field_85 (by decide) ?_
      refine LW_lret dX11_field_117 rfl (Nat.le_of_ble_eq_true rfl) (Nat.le_of_ble_eq_true rfl) ?_
      exact MPost.r hW (by unfold qField; rw [if_pos hfk, if_neg (by decide), if_neg (by decide), if_neg (by decide), if_neg (by decide), if_neg (by decide), if_neg (by decide), if_neg (by decide), if_pos rfl, hc_cl hk31, if_pos c69])
    · refine LW_lconst (v := 0) dX11_field_72 (by decide) ?_
      refine LW_lret dX11_field_73 rfl (Nat.le_of_ble_eq_true rfl) (Nat.le_of_ble_eq_true rfl) ?_
      exact MPost.r hW (by unfold qField; rw [if_pos hfk, if_neg (by decide), if_neg (by decide), if_neg (by decide), if_neg (by decide), if_neg (by decide), if_neg (by decide), if_neg (by decide), if_pos rfl, hc_cl hk31, if_neg (by rw [c69]; decide)])
set_option maxRecDepth 100000 in
theorem m_field8 {Λ : hc_L} {I : hc_I} {L : hc_J} {R : hc_R} {S : HS} (hW : MW Λ I L S) (f : Int32) : Run xX11_field [.ref 217, .int f, .int 8] Λ I L R (MPost (some (.long (qField (sA S) (sP S) f 8))) S Λ I L R) := by
  refine Run.of (by decide +kernel) (Nat.le_of_ble_eq_true rfl) ?_
  show LW _ _ _ [(0, .ref 217), (1, .int f), (2, .int 8)] _ _ _ _ _ _
  have hM := hW.m
  have hP := hW.l
  have hY := hM.y
  refine LW_iloadn 1 dX11_field_0 rfl rfl ?_
  refine LW_i2l dX11_field_1 ?_
  refine LW_lconst (v := 0) dX11_field_2 (by decide) ?_
  refine LW_aloadn 0 dX11_field_3 rfl rfl ?_
  refine gX11_0 dX11_field_4 flX11_9 (hY.lt (k := 217) (by decide)) (ly217 hY) (lf217_0 hY) ?_
  refine LW_bipush (v := 6) dX11_field_7 (by decide) ?_
  refine LW_lald dX11_field_9 (hY.lt (k := 218) (by decide)) (ly218 hY) rfl (by decide) (Nat.le_of_ble_eq_true rfl) ?_
  rw [show L 218 6 = lN (aF (sA S)) from hM.nF]
  refine LW_lconst (v := 1) dX11_field_10 (by decide) ?_
  refine LW_lsub dX11_field_11 ?_
  refine LW_callS (As := [.long f.toInt64, .long 0, .long ((lN (aF (sA S))) - 1)]) (st := []) (r_isIn f.toInt64 0 ((lN (aF (sA S))) - 1)) YX11_isIn rfl dX11_field_12 mlX11_126 (by decide) ⟨Nat.le_of_ble_eq_true rfl, Nat.le_of_ble_eq_true rfl⟩ (Nat.le_of_ble_eq_true rfl) rfl (fun r12 Λc12 Ic12 Lc12 Rc12 hq12 => ?_)
  obtain ⟨rfl, rfl, rfl, rfl, rfl⟩ := hq12
  refine LW_bif_eq (tgt := 30) dX11_field_15 (by decide) (fun c15 => ?_) (fun c15 => ?_)
  · refine LW_ldc2 dX11_field_30 klX11_402 ?_
    refine LW_lret dX11_field_33 rfl (Nat.le_of_ble_eq_true rfl) (Nat.le_of_ble_eq_true rfl) ?_
    exact MPost.r hW (by unfold qField; rw [if_neg (by rw [← aFkX_in hM.w]; rw [c15]; decide)])
  · refine LW_iloadn 2 dX11_field_18 rfl rfl ?_
    refine LW_i2l dX11_field_19 ?_
    rw [show (8 : Int32).toInt64 = 8 from (by decide)]
    refine LW_lconst (v := 0) dX11_field_20 (by decide) ?_
    refine LW_ldc2 dX11_field_21 klX11_435 ?_
    refine LW_callS (As := [.long 8, .long 0, .long 9]) (st := []) (r_isIn 8 0 9) YX11_isIn rfl dX11_field_24 mlX11_126 (by decide) ⟨Nat.le_of_ble_eq_true rfl, Nat.le_of_ble_eq_true rfl⟩ (Nat.le_of_ble_eq_true rfl) rfl (fun r24 Λc24 Ic24 Lc24 Rc24 hq24 => ?_)
    obtain ⟨rfl, rfl, rfl, rfl, rfl⟩ := hq24
    refine LW_bif_ne (tgt := 34) dX11_field_27 (by decide) (fun c27 => ?_) (fun c27 => absurd (c27.symm.trans (show lIn 8 0 9 = true by decide)) (by decide))
    have hfk : aFkX (sA S) f = true := by rw [← aFkX_in hM.w]; exact c15
    obtain ⟨k, hk, rfl⟩ : ∃ k, k < aF (sA S) ∧ f = nI k := ⟨_, (aFkX_k hM.w hfk).2, (aFkX_k hM.w hfk).1⟩
    have hf24 := hM.w.f
    have hm12 := hM.w.m
    have hk31 : k < 2 ^ 31 := by omega
    have hpr := prX_m1 hM.w.m
    have hwk := hM.w.2.2.2.2.2.2.2.1 k hk
    have hl100 := aLost_le (sA S) k
    refine LW_iloadn 2 dX11_field_34 rfl rfl ?_
    refine LW_bipush (v := 6) dX11_field_35 (by decide) ?_
    refine LW_icmp_ge (tgt := 48) dX11_field_37 (by decide) (fun c37 => ?_) (fun c37 => absurd (by decide) c37)
    refine LW_iloadn 2 dX11_field_48 rfl rfl ?_
    refine LW_bipush (v := 6) dX11_field_49 (by decide) ?_
    refine LW_icmp_ne (tgt := 64) dX11_field_51 (by decide) (fun c51 => ?_) (fun c51 => absurd (by decide) c51)
    refine LW_aloadn 0 dX11_field_64 rfl rfl ?_
    refine LW_iloadn 1 dX11_field_65 rfl rfl ?_
    refine LW_callV (As := [.int (nI k)]) (b := 217) (st := []) (ci := 11) (r := (RX11, TX11, 44)) (r_mIsField hM hk) YX11_isField rfl dX11_field_66 mlX11_388 (hY.lt (k := 217) (by decide)) (ly217 hY) ⟨rfl, rfl⟩ (by decide) ⟨Nat.le_of_ble_eq_true rfl, Nat.le_of_ble_eq_true rfl⟩ (Nat.le_of_ble_eq_true rfl) rfl (fun r66 Λc66 Ic66 Lc66 Rc66 hq66 => ?_)
    rw [hpr, aStk hk] at hq66
    obtain ⟨rfl, rfl, rfl, rfl, rfl⟩ := hq66
    refine LW_bif_ne (tgt := 74) dX11_field_69 (by decide) (fun c69 => ?_) (fun c69 => ?_)
    · refine LW_iloadn 2 dX11_field_74 rfl rfl ?_
      refine LW_bipush (v := 7) dX11_field_75 (by decide) ?_
      refine LW_icmp_ne (tgt := 88) dX11_field_77 (by decide) (fun c77 => ?_) (fun c77 => absurd (by decide) c77)
      refine LW_iloadn 2 dX11_field_88 rfl rfl ?_
      refine LW_bipush (v := 8) dX11_field_89 (by decide) ?_
      refine LW_icmp_ne (tgt := 107) dX11_field_91 (by decide) (fun c91 => absurd c91 (fun z => z rfl)) (fun c91 => ?_)
      refine LW_aloadn 0 dX11_field_94 rfl rfl ?_
      refine LW_iloadn 1 dX11_field_95 rfl rfl ?_
      refine LW_aloadn 0 dX11_field_96 rfl rfl ?_
      refine LW_iloadn 1 dX11_field_97 rfl rfl ?_
      refine LW_callV (As := [.int (nI k)]) (b := 217) (st := [.int (nI k), .ref 217]) (ci := 11) (r := (RX11, TX11, 44)) (r_mLostOf hM hk) YX11_lostOf rfl dX11_field_98 mlX11_367 (hY.lt (k := 217) (by decide)) (ly217 hY) ⟨rfl, rfl⟩ (by decide) ⟨Nat.le_of_ble_eq_true rfl, Nat.le_of_ble_eq_true rfl⟩ (Nat.le_of_ble_eq_true rfl) rfl (fun r98 Λc98 Ic98 Lc98 Rc98 hq98 => ?_)
      obtain ⟨rfl, rfl, rfl, rfl, rfl⟩ := hq98
      refine LW_callV (As := [.int (nI k), .long (lN (aLost (sA S) k))]) (b := 217) (st := []) (ci := 11) (r := (RX11, TX11, 44)) (r_mPaidBy hM hP hk hl100) YX11_paidBy rfl dX11_field_101 mlX11_363 (hY.lt (k := 217) (by decide)) (ly217 hY) ⟨rfl, rfl⟩ (by decide) ⟨Nat.le_of_ble_eq_true rfl, Nat.le_of_ble_eq_true rfl⟩ (Nat.le_of_ble_eq_true rfl) rfl (fun r101 Λc101 Ic101 Lc101 Rc101 hq101 => ?_)
      obtain ⟨rfl, rfl, rfl, hL101, hR101⟩ := hq101
      obtain rfl : R = Rc101 := hR101
      refine LW_goto (tgt := 117) dX11_field_104 (by decide) ?_
      refine LW_lret dX11_field_117 rfl (Nat.le_of_ble_eq_true rfl) (Nat.le_of_ble_eq_true rfl) ?_
      exact MPost.j hW hL101 (by unfold qField; rw [if_pos hfk, if_neg (by decide), if_neg (by decide), if_neg (by decide), if_neg (by decide), if_neg (by decide), if_neg (by decide), if_neg (by decide), if_neg (by decide), if_pos rfl, hc_cl hk31, if_pos c69])
    · refine LW_lconst (v := 0) dX11_field_72 (by decide) ?_
      refine LW_lret dX11_field_73 rfl (Nat.le_of_ble_eq_true rfl) (Nat.le_of_ble_eq_true rfl) ?_
      exact MPost.r hW (by unfold qField; rw [if_pos hfk, if_neg (by decide), if_neg (by decide), if_neg (by decide), if_neg (by decide), if_neg (by decide), if_neg (by decide), if_neg (by decide), if_neg (by decide), if_pos rfl, hc_cl hk31, if_neg (by rw [c69]; decide)])
set_option maxRecDepth 100000 in
theorem m_field9 {Λ : hc_L} {I : hc_I} {L : hc_J} {R : hc_R} {S : HS} (hW : MW Λ I L S) (f : Int32) : Run xX11_field [.ref 217, .int f, .int 9] Λ I L R (MPost (some (.long (qField (sA S) (sP S) f 9))) S Λ I L R) := by
  refine Run.of (by decide +kernel) (Nat.le_of_ble_eq_true rfl) ?_
  show LW _ _ _ [(0, .ref 217), (1, .int f), (2, .int 9)] _ _ _ _ _ _
  have hM := hW.m
  have hP := hW.l
  have hY := hM.y
  refine LW_iloadn 1 dX11_field_0 rfl rfl ?_
  refine LW_i2l dX11_field_1 ?_
  refine LW_lconst (v := 0) dX11_field_2 (by decide) ?_
  refine LW_aloadn 0 dX11_field_3 rfl rfl ?_
  refine gX11_0 dX11_field_4 flX11_9 (hY.lt (k := 217) (by decide)) (ly217 hY) (lf217_0 hY) ?_
  refine LW_bipush (v := 6) dX11_field_7 (by decide) ?_
  refine LW_lald dX11_field_9 (hY.lt (k := 218) (by decide)) (ly218 hY) rfl (by decide) (Nat.le_of_ble_eq_true rfl) ?_
  rw [show L 218 6 = lN (aF (sA S)) from hM.nF]
  refine LW_lconst (v := 1) dX11_field_10 (by decide) ?_
  refine LW_lsub dX11_field_11 ?_
  refine LW_callS (As := [.long f.toInt64, .long 0, .long ((lN (aF (sA S))) - 1)]) (st := []) (r_isIn f.toInt64 0 ((lN (aF (sA S))) - 1)) YX11_isIn rfl dX11_field_12 mlX11_126 (by decide) ⟨Nat.le_of_ble_eq_true rfl, Nat.le_of_ble_eq_true rfl⟩ (Nat.le_of_ble_eq_true rfl) rfl (fun r12 Λc12 Ic12 Lc12 Rc12 hq12 => ?_)
  obtain ⟨rfl, rfl, rfl, rfl, rfl⟩ := hq12
  refine LW_bif_eq (tgt := 30) dX11_field_15 (by decide) (fun c15 => ?_) (fun c15 => ?_)
  · refine LW_ldc2 dX11_field_30 klX11_402 ?_
    refine LW_lret dX11_field_33 rfl (Nat.le_of_ble_eq_true rfl) (Nat.le_of_ble_eq_true rfl) ?_
    exact MPost.r hW (by unfold qField; rw [if_neg (by rw [← aFkX_in hM.w]; rw [c15]; decide)])
  · refine LW_iloadn 2 dX11_field_18 rfl rfl ?_
    refine LW_i2l dX11_field_19 ?_
    rw [show (9 : Int32).toInt64 = 9 from (by decide)]
    refine LW_lconst (v := 0) dX11_field_20 (by decide) ?_
    refine LW_ldc2 dX11_field_21 klX11_435 ?_
    refine LW_callS (As := [.long 9, .long 0, .long 9]) (st := []) (r_isIn 9 0 9) YX11_isIn rfl dX11_field_24 mlX11_126 (by decide) ⟨Nat.le_of_ble_eq_true rfl, Nat.le_of_ble_eq_true rfl⟩ (Nat.le_of_ble_eq_true rfl) rfl (fun r24 Λc24 Ic24 Lc24 Rc24 hq24 => ?_)
    obtain ⟨rfl, rfl, rfl, rfl, rfl⟩ := hq24
    refine LW_bif_ne (tgt := 34) dX11_field_27 (by decide) (fun c27 => ?_) (fun c27 => absurd (c27.symm.trans (show lIn 9 0 9 = true by decide)) (by decide))
    have hfk : aFkX (sA S) f = true := by rw [← aFkX_in hM.w]; exact c15
    obtain ⟨k, hk, rfl⟩ : ∃ k, k < aF (sA S) ∧ f = nI k := ⟨_, (aFkX_k hM.w hfk).2, (aFkX_k hM.w hfk).1⟩
    have hf24 := hM.w.f
    have hm12 := hM.w.m
    have hk31 : k < 2 ^ 31 := by omega
    have hpr := prX_m1 hM.w.m
    have hwk := hM.w.2.2.2.2.2.2.2.1 k hk
    have hl100 := aLost_le (sA S) k
    refine LW_iloadn 2 dX11_field_34 rfl rfl ?_
    refine LW_bipush (v := 6) dX11_field_35 (by decide) ?_
    refine LW_icmp_ge (tgt := 48) dX11_field_37 (by decide) (fun c37 => ?_) (fun c37 => absurd (by decide) c37)
    refine LW_iloadn 2 dX11_field_48 rfl rfl ?_
    refine LW_bipush (v := 6) dX11_field_49 (by decide) ?_
    refine LW_icmp_ne (tgt := 64) dX11_field_51 (by decide) (fun c51 => ?_) (fun c51 => absurd (by decide) c51)
    refine LW_aloadn 0 dX11_field_64 rfl rfl ?_
    refine LW_iloadn 1 dX11_field_65 rfl rfl ?_
    refine LW_callV (As := [.int (nI k)]) (b := 217) (st := []) (ci := 11) (r := (RX11, TX11, 44)) (r_mIsField hM hk) YX11_isField rfl dX11_field_66 mlX11_388 (hY.lt (k := 217) (by decide)) (ly217 hY) ⟨rfl, rfl⟩ (by decide) ⟨Nat.le_of_ble_eq_true rfl, Nat.le_of_ble_eq_true rfl⟩ (Nat.le_of_ble_eq_true rfl) rfl (fun r66 Λc66 Ic66 Lc66 Rc66 hq66 => ?_)
    rw [hpr, aStk hk] at hq66
    obtain ⟨rfl, rfl, rfl, rfl, rfl⟩ := hq66
    refine LW_bif_ne (tgt := 74) dX11_field_69 (by decide) (fun c69 => ?_) (fun c69 => ?_)
    · refine LW_iloadn 2 dX11_field_74 rfl rfl ?_
      refine LW_bipush (v := 7) dX11_field_75 (by decide) ?_
      refine LW_icmp_ne (tgt := 88) dX11_field_77 (by decide) (fun c77 => ?_) (fun c77 => absurd (by decide) c77)
      refine LW_iloadn 2 dX11_field_88 rfl rfl ?_
      refine LW_bipush (v := 8) dX11_field_89 (by decide) ?_
      refine LW_icmp_ne (tgt := 107) dX11_field_91 (by decide) (fun c91 => ?_) (fun c91 => absurd (by decide) c91)
      refine LW_aloadn 0 dX11_field_107 rfl rfl ?_
      refine LW_iloadn 1 dX11_field_108 rfl rfl ?_
      refine LW_aloadn 0 dX11_field_109 rfl rfl ?_
      refine LW_iloadn 1 dX11_field_110 rfl rfl ?_
      refine LW_callV (As := [.int (nI k)]) (b := 217) (st := [.int (nI k), .ref 217]) (ci := 11) (r := (RX11, TX11, 44)) (r_mLostOf hM hk) YX11_lostOf rfl dX11_field_111 mlX11_367 (hY.lt (k := 217) (by decide)) (ly217 hY) ⟨rfl, rfl⟩ (by decide) ⟨Nat.le_of_ble_eq_true rfl, Nat.le_of_ble_eq_true rfl⟩ (Nat.le_of_ble_eq_true rfl) rfl (fun r111 Λc111 Ic111 Lc111 Rc111 hq111 => ?_)
      obtain ⟨rfl, rfl, rfl, rfl, rfl⟩ := hq111
      refine LW_callV (As := [.int (nI k), .long (lN (aLost (sA S) k))]) (b := 217) (st := []) (ci := 11) (r := (RX11, TX11, 44)) (r_mClaimBy hM hP hk hl100) YX11_claimBy rfl dX11_field_114 mlX11_370 (hY.lt (k := 217) (by decide)) (ly217 hY) ⟨rfl, rfl⟩ (by decide) ⟨Nat.le_of_ble_eq_true rfl, Nat.le_of_ble_eq_true rfl⟩ (Nat.le_of_ble_eq_true rfl) rfl (fun r114 Λc114 Ic114 Lc114 Rc114 hq114 => ?_)
      obtain ⟨rfl, rfl, rfl, hL114, hR114⟩ := hq114
      obtain rfl : R = Rc114 := hR114
      refine LW_lret dX11_field_117 rfl (Nat.le_of_ble_eq_true rfl) (Nat.le_of_ble_eq_true rfl) ?_
      exact MPost.j hW hL114 (by unfold qField; rw [if_pos hfk, if_neg (by decide), if_neg (by decide), if_neg (by decide), if_neg (by decide), if_neg (by decide), if_neg (by decide), if_neg (by decide), if_neg (by decide), if_neg (by decide), if_pos rfl, hc_cl hk31, if_pos c69])
    · refine LW_lconst (v := 0) dX11_field_72 (by decide) ?_
      refine LW_lret dX11_field_73 rfl (Nat.le_of_ble_eq_true rfl) (Nat.le_of_ble_eq_true rfl) ?_
      exact MPost.r hW (by unfold qField; rw [if_pos hfk, if_neg (by decide), if_neg (by decide), if_neg (by decide), if_neg (by decide), if_neg (by decide), if_neg (by decide), if_neg (by decide), if_neg (by decide), if_neg (by decide), if_pos rfl, hc_cl hk31, if_neg (by rw [c69]; decide)])
theorem qField_E {A : AS} {P : LwP} {f x : Int32} (hx : x ≠ 0 ∧ x ≠ 1 ∧ x ≠ 2 ∧ x ≠ 3 ∧ x ≠ 4 ∧ x ≠ 5 ∧ x ≠ 6 ∧ x ≠ 7 ∧ x ≠ 8 ∧ x ≠ 9) : qField A P f x = -1 := by
  unfold qField
  by_cases h : aFkX A f = true
  · rw [if_pos h, if_neg hx.1, if_neg hx.2.1, if_neg hx.2.2.1, if_neg hx.2.2.2.1, if_neg hx.2.2.2.2.1, if_neg hx.2.2.2.2.2.1, if_neg hx.2.2.2.2.2.2.1, if_neg hx.2.2.2.2.2.2.2.1, if_neg hx.2.2.2.2.2.2.2.2.1, if_neg hx.2.2.2.2.2.2.2.2.2]
  · rw [if_neg h]
set_option maxRecDepth 100000 in
theorem m_fieldE {Λ : hc_L} {I : hc_I} {L : hc_J} {R : hc_R} {S : HS} (hW : MW Λ I L S) (f : Int32) {x : Int32} (hx : x ≠ 0 ∧ x ≠ 1 ∧ x ≠ 2 ∧ x ≠ 3 ∧ x ≠ 4 ∧ x ≠ 5 ∧ x ≠ 6 ∧ x ≠ 7 ∧ x ≠ 8 ∧ x ≠ 9) : Run xX11_field [.ref 217, .int f, .int x] Λ I L R (MPost (some (.long (qField (sA S) (sP S) f x))) S Λ I L R) := by
  refine Run.of (by decide +kernel) (Nat.le_of_ble_eq_true rfl) ?_
  show LW _ _ _ [(0, .ref 217), (1, .int f), (2, .int x)] _ _ _ _ _ _
  have hM := hW.m
  have hP := hW.l
  have hY := hM.y
  have ho : ∀ k, k ≤ 9 → x ≠ nI k := fun k hk => by
    rcases (show k = 0 ∨ k = 1 ∨ k = 2 ∨ k = 3 ∨ k = 4 ∨ k = 5 ∨ k = 6 ∨ k = 7 ∨ k = 8 ∨ k = 9 by omega) with rfl | rfl | rfl | rfl | rfl | rfl | rfl | rfl | rfl | rfl
    · exact hx.1
    · exact hx.2.1
    · exact hx.2.2.1
    · exact hx.2.2.2.1
    · exact hx.2.2.2.2.1
    · exact hx.2.2.2.2.2.1
    · exact hx.2.2.2.2.2.2.1
    · exact hx.2.2.2.2.2.2.2.1
    · exact hx.2.2.2.2.2.2.2.2.1
    · exact hx.2.2.2.2.2.2.2.2.2
  have h9 : lIn x.toInt64 0 9 = false := by
    cases q : lIn x.toInt64 0 9 with
    | false => rfl
    | true =>
      obtain ⟨k, hk, e⟩ := lIn_k (N := 9) (by decide) q
      exact absurd e (ho k hk)
  refine LW_iloadn 1 dX11_field_0 rfl rfl ?_
  refine LW_i2l dX11_field_1 ?_
  refine LW_lconst (v := 0) dX11_field_2 (by decide) ?_
  refine LW_aloadn 0 dX11_field_3 rfl rfl ?_
  refine gX11_0 dX11_field_4 flX11_9 (hY.lt (k := 217) (by decide)) (ly217 hY) (lf217_0 hY) ?_
  refine LW_bipush (v := 6) dX11_field_7 (by decide) ?_
  refine LW_lald dX11_field_9 (hY.lt (k := 218) (by decide)) (ly218 hY) rfl (by decide) (Nat.le_of_ble_eq_true rfl) ?_
  rw [show L 218 6 = lN (aF (sA S)) from hM.nF]
  refine LW_lconst (v := 1) dX11_field_10 (by decide) ?_
  refine LW_lsub dX11_field_11 ?_
  refine LW_callS (As := [.long f.toInt64, .long 0, .long ((lN (aF (sA S))) - 1)]) (st := []) (r_isIn f.toInt64 0 ((lN (aF (sA S))) - 1)) YX11_isIn rfl dX11_field_12 mlX11_126 (by decide) ⟨Nat.le_of_ble_eq_true rfl, Nat.le_of_ble_eq_true rfl⟩ (Nat.le_of_ble_eq_true rfl) rfl (fun r12 Λc12 Ic12 Lc12 Rc12 hq12 => ?_)
  obtain ⟨rfl, rfl, rfl, rfl, rfl⟩ := hq12
  refine LW_bif_eq (tgt := 30) dX11_field_15 (by decide) (fun c15 => ?_) (fun c15 => ?_)
  · refine LW_ldc2 dX11_field_30 klX11_402 ?_
    refine LW_lret dX11_field_33 rfl (Nat.le_of_ble_eq_true rfl) (Nat.le_of_ble_eq_true rfl) ?_
    exact MPost.r hW (by rw [qField_E hx])
  · refine LW_iloadn 2 dX11_field_18 rfl rfl ?_
    refine LW_i2l dX11_field_19 ?_
    refine LW_lconst (v := 0) dX11_field_20 (by decide) ?_
    refine LW_ldc2 dX11_field_21 klX11_435 ?_
    refine LW_callS (As := [.long x.toInt64, .long 0, .long 9]) (st := []) (r_isIn x.toInt64 0 9) YX11_isIn rfl dX11_field_24 mlX11_126 (by decide) ⟨Nat.le_of_ble_eq_true rfl, Nat.le_of_ble_eq_true rfl⟩ (Nat.le_of_ble_eq_true rfl) rfl (fun r24 Λc24 Ic24 Lc24 Rc24 hq24 => ?_)
    obtain ⟨rfl, rfl, rfl, rfl, rfl⟩ := hq24
    refine LW_bif_ne (tgt := 34) dX11_field_27 (by decide) (fun c27 => absurd (c27.symm.trans h9) (by decide)) (fun c27 => ?_)
    refine LW_ldc2 dX11_field_30 klX11_402 ?_
    refine LW_lret dX11_field_33 rfl (Nat.le_of_ble_eq_true rfl) (Nat.le_of_ble_eq_true rfl) ?_
    exact MPost.r hW (by rw [qField_E hx])
theorem m_field {Λ : hc_L} {I : hc_I} {L : hc_J} {R : hc_R} {S : HS} (hW : MW Λ I L S) (f x : Int32) : Run xX11_field [.ref 217, .int f, .int x] Λ I L R (MPost (some (.long (qField (sA S) (sP S) f x))) S Λ I L R) := by
  by_cases k0 : x = 0
  · subst k0; exact m_field0 hW f
  by_cases k1 : x = 1
  · subst k1; exact m_field1 hW f
  by_cases k2 : x = 2
  · subst k2; exact m_field2 hW f
  by_cases k3 : x = 3
  · subst k3; exact m_field3 hW f
  by_cases k4 : x = 4
  · subst k4; exact m_field4 hW f
  by_cases k5 : x = 5
  · subst k5; exact m_field5 hW f
  by_cases k6 : x = 6
  · subst k6; exact m_field6 hW f
  by_cases k7 : x = 7
  · subst k7; exact m_field7 hW f
  by_cases k8 : x = 8
  · subst k8; exact m_field8 hW f
  by_cases k9 : x = 9
  · subst k9; exact m_field9 hW f
  exact m_fieldE hW f ⟨k0, k1, k2, k3, k4, k5, k6, k7, k8, k9⟩
set_option maxRecDepth 100000 in
theorem lk_loop {Λ : hc_L} {I : hc_I} {L : hc_J} {R : hc_R} {S : HS} (hM : MC Λ I L (sA S) (-1)) {wv : Int32} {Q : hc_Q} (hend : LW xX11_look (0, 0) 34 [(0, .ref 217), (1, .int wv), (2, .int (abFt (sA S) (aF (sA S)))), (3, .int (nI (aF (sA S))))] [] Λ I L R Q) : ∀ i, i ≤ aF (sA S) → LW xX11_look (0, 0) 4 [(0, .ref 217), (1, .int wv), (2, .int (abFt (sA S) i)), (3, .int (nI i))] [] Λ I L R Q := by
  have hY := hM.y
  have hf24 := hM.w.f
  refine hc_down ?_ ?_
  · refine LW_iloadn 3 dX11_look_4 rfl rfl ?_
    refine LW_i2l dX11_look_5 ?_
    rw [show (nI (aF (sA S))).toInt64 = lN (aF (sA S)) from (nI_l (by omega))]
    refine LW_aloadn 0 dX11_look_6 rfl rfl ?_
    refine gX11_0 dX11_look_7 flX11_9 (hY.lt (k := 217) (by decide)) (ly217 hY) (lf217_0 hY) ?_
    refine LW_bipush (v := 6) dX11_look_10 (by decide) ?_
    refine LW_lald dX11_look_12 (hY.lt (k := 218) (by decide)) (ly218 hY) rfl (by decide) (Nat.le_of_ble_eq_true rfl) ?_
    rw [show L 218 6 = lN (aF (sA S)) from hM.nF]
    refine LW_lcmp dX11_look_13 ?_
    refine LW_lif_ge (tgt := 34) dX11_look_14 (by decide) (fun c14 => ?_) (fun c14 => absurd (Int64.le_refl _) c14)
    exact hend
  · intro i hi ih
    refine LW_iloadn 3 dX11_look_4 rfl rfl ?_
    refine LW_i2l dX11_look_5 ?_
    rw [show (nI i).toInt64 = lN i from (nI_l (by omega))]
    refine LW_aloadn 0 dX11_look_6 rfl rfl ?_
    refine gX11_0 dX11_look_7 flX11_9 (hY.lt (k := 217) (by decide)) (ly217 hY) (lf217_0 hY) ?_
    refine LW_bipush (v := 6) dX11_look_10 (by decide) ?_
    refine LW_lald dX11_look_12 (hY.lt (k := 218) (by decide)) (ly218 hY) rfl (by decide) (Nat.le_of_ble_eq_true rfl) ?_
    rw [show L 218 6 = lN (aF (sA S)) from hM.nF]
    refine LW_lcmp dX11_look_13 ?_
    refine LW_lif_ge (tgt := 34) dX11_look_14 (by decide) (fun c14 => absurd c14 (lN_nle (by omega) (by omega) hi)) (fun c14 => ?_)
    refine LW_iloadn 2 dX11_look_17 rfl rfl ?_
    refine LW_aloadn 0 dX11_look_18 rfl rfl ?_
    refine LW_iloadn 3 dX11_look_19 rfl rfl ?_
    refine LW_callV (As := [.int (nI i)]) (b := 217) (st := [.int (abFt (sA S) i)]) (ci := 11) (r := (RX11, TX11, 44)) (r_mIsField hM hi) YX11_isField rfl dX11_look_20 mlX11_388 (hY.lt (k := 217) (by decide)) (ly217 hY) ⟨rfl, rfl⟩ (by decide) ⟨Nat.le_of_ble_eq_true rfl, Nat.le_of_ble_eq_true rfl⟩ (Nat.le_of_ble_eq_true rfl) rfl (fun r20 Λc20 Ic20 Lc20 Rc20 hq20 => ?_)
    rw [prX_m1 hM.w.m, aStk hi] at hq20
    obtain ⟨rfl, rfl, rfl, rfl, rfl⟩ := hq20
    refine LW_callS (As := [.int (hc_b (aSt (sA S) i))]) (st := [.int (abFt (sA S) i)]) (r_one _) YX11_one rfl dX11_look_23 mlX11_391 (by decide) ⟨Nat.le_of_ble_eq_true rfl, Nat.le_of_ble_eq_true rfl⟩ (Nat.le_of_ble_eq_true rfl) rfl (fun r23 Λc23 Ic23 Lc23 Rc23 hq23 => ?_)
    obtain ⟨rfl, rfl, rfl, rfl, rfl⟩ := hq23
    refine LW_iadd dX11_look_26 ?_
    refine LW_istoren (ls' := [(0, .ref 217), (1, .int wv), (2, .int ((abFt (sA S) i) + (hc_b (aSt (sA S) i)))), (3, .int (nI i))]) dX11_look_27 rfl (by decide) rfl ?_
    refine LW_iinc (n := 3) (v := nI (i + 1)) (ls' := [(0, .ref 217), (1, .int wv), (2, .int ((abFt (sA S) i) + (hc_b (aSt (sA S) i)))), (3, .int (nI (i + 1)))]) dX11_look_28 rfl (hc_inc _) (by decide) rfl ?_
    refine LW_goto (tgt := 4) dX11_look_31 (by decide) ?_
    exact ih
set_option maxRecDepth 100000 in
theorem m_look0 {Λ : hc_L} {I : hc_I} {L : hc_J} {R : hc_R} {S : HS} (hW : MW Λ I L S)  : Run xX11_look [.ref 217, .int 0] Λ I L R (MPost (some (.int (qLook S 0))) S Λ I L R) := by
  refine Run.of (by decide +kernel) (Nat.le_of_ble_eq_true rfl) ?_
  show LW _ _ _ [(0, .ref 217), (1, .int 0)] _ _ _ _ _ _
  have hM := hW.m
  have hP := hW.l
  have hY := hM.y
  refine LW_iconst (v := 0) dX11_look_0 (by decide) ?_
  refine LW_istoren (ls' := [(0, .ref 217), (1, .int 0), (2, .int 0)]) dX11_look_1 rfl (by decide) rfl ?_
  refine LW_iconst (v := 0) dX11_look_2 (by decide) ?_
  refine LW_istoren (ls' := [(0, .ref 217), (1, .int 0), (2, .int 0), (3, .int 0)]) dX11_look_3 rfl (by decide) rfl ?_
  refine lk_loop hM ?_ 0 (Nat.zero_le _)
  refine LW_iloadn 1 dX11_look_34 rfl rfl ?_
  refine LW_tableIn (off := 45) (tgt := 80) dX11_look_35 (by decide) (by decide) (by decide) (by decide) ?_
  refine LW_aloadn 0 dX11_look_80 rfl rfl ?_
  refine LW_callV (As := []) (b := 217) (st := []) (ci := 11) (r := (RX11, TX11, 44)) (r_mMembersThere hM) YX11_membersThere rfl dX11_look_81 mlX11_429 (hY.lt (k := 217) (by decide)) (ly217 hY) ⟨rfl, rfl⟩ (by decide) ⟨Nat.le_of_ble_eq_true rfl, Nat.le_of_ble_eq_true rfl⟩ (Nat.le_of_ble_eq_true rfl) rfl (fun r81 Λc81 Ic81 Lc81 Rc81 hq81 => ?_)
  rw [mMt_eq hM.w] at hq81
  obtain ⟨rfl, rfl, rfl, rfl, rfl⟩ := hq81
  refine LW_iret dX11_look_84 rfl (Nat.le_of_ble_eq_true rfl) (Nat.le_of_ble_eq_true rfl) ?_
  exact MPost.r hW (by unfold qLook; rw [if_pos rfl])
set_option maxRecDepth 100000 in
theorem m_look1 {Λ : hc_L} {I : hc_I} {L : hc_J} {R : hc_R} {S : HS} (hW : MW Λ I L S)  : Run xX11_look [.ref 217, .int 1] Λ I L R (MPost (some (.int (qLook S 1))) S Λ I L R) := by
  refine Run.of (by decide +kernel) (Nat.le_of_ble_eq_true rfl) ?_
  show LW _ _ _ [(0, .ref 217), (1, .int 1)] _ _ _ _ _ _
  have hM := hW.m
  have hP := hW.l
  have hY := hM.y
  refine LW_iconst (v := 0) dX11_look_0 (by decide) ?_
  refine LW_istoren (ls' := [(0, .ref 217), (1, .int 1), (2, .int 0)]) dX11_look_1 rfl (by decide) rfl ?_
  refine LW_iconst (v := 0) dX11_look_2 (by decide) ?_
  refine LW_istoren (ls' := [(0, .ref 217), (1, .int 1), (2, .int 0), (3, .int 0)]) dX11_look_3 rfl (by decide) rfl ?_
  refine lk_loop hM ?_ 0 (Nat.zero_le _)
  refine LW_iloadn 1 dX11_look_34 rfl rfl ?_
  refine LW_tableIn (off := 50) (tgt := 85) dX11_look_35 (by decide) (by decide) (by decide) (by decide) ?_
  refine LW_iloadn 2 dX11_look_85 rfl rfl ?_
  refine LW_iret dX11_look_86 rfl (Nat.le_of_ble_eq_true rfl) (Nat.le_of_ble_eq_true rfl) ?_
  exact MPost.r hW (by unfold qLook; rw [if_neg (by decide), if_pos rfl])
set_option maxRecDepth 100000 in
theorem m_look2 {Λ : hc_L} {I : hc_I} {L : hc_J} {R : hc_R} {S : HS} (hW : MW Λ I L S)  : Run xX11_look [.ref 217, .int 2] Λ I L R (MPost (some (.int (qLook S 2))) S Λ I L R) := by
  refine Run.of (by decide +kernel) (Nat.le_of_ble_eq_true rfl) ?_
  show LW _ _ _ [(0, .ref 217), (1, .int 2)] _ _ _ _ _ _
  have hM := hW.m
  have hP := hW.l
  have hY := hM.y
  refine LW_iconst (v := 0) dX11_look_0 (by decide) ?_
  refine LW_istoren (ls' := [(0, .ref 217), (1, .int 2), (2, .int 0)]) dX11_look_1 rfl (by decide) rfl ?_
  refine LW_iconst (v := 0) dX11_look_2 (by decide) ?_
  refine LW_istoren (ls' := [(0, .ref 217), (1, .int 2), (2, .int 0), (3, .int 0)]) dX11_look_3 rfl (by decide) rfl ?_
  refine lk_loop hM ?_ 0 (Nat.zero_le _)
  refine LW_iloadn 1 dX11_look_34 rfl rfl ?_
  refine LW_tableIn (off := 52) (tgt := 87) dX11_look_35 (by decide) (by decide) (by decide) (by decide) ?_
  refine LW_aloadn 0 dX11_look_87 rfl rfl ?_
  refine gX11_0 dX11_look_88 flX11_9 (hY.lt (k := 217) (by decide)) (ly217 hY) (lf217_0 hY) ?_
  refine LW_bipush (v := 7) dX11_look_91 (by decide) ?_
  refine LW_lald dX11_look_93 (hY.lt (k := 218) (by decide)) (ly218 hY) rfl (by decide) (Nat.le_of_ble_eq_true rfl) ?_
  rw [show L 218 7 = lN (aS (sA S)) from hM.nS]
  refine LW_l2i dX11_look_94 ?_
  rw [show (lN (aS (sA S))).toInt32 = nI (aS (sA S)) from (lN_i _)]
  refine LW_iret dX11_look_95 rfl (Nat.le_of_ble_eq_true rfl) (Nat.le_of_ble_eq_true rfl) ?_
  exact MPost.r hW (by unfold qLook; rw [if_neg (by decide), if_neg (by decide), if_pos rfl])
set_option maxRecDepth 100000 in
theorem m_look3 {Λ : hc_L} {I : hc_I} {L : hc_J} {R : hc_R} {S : HS} (hW : MW Λ I L S)  : Run xX11_look [.ref 217, .int 3] Λ I L R (MPost (some (.int (qLook S 3))) S Λ I L R) := by
  refine Run.of (by decide +kernel) (Nat.le_of_ble_eq_true rfl) ?_
  show LW _ _ _ [(0, .ref 217), (1, .int 3)] _ _ _ _ _ _
  have hM := hW.m
  have hP := hW.l
  have hY := hM.y
  refine LW_iconst (v := 0) dX11_look_0 (by decide) ?_
  refine LW_istoren (ls' := [(0, .ref 217), (1, .int 3), (2, .int 0)]) dX11_look_1 rfl (by decide) rfl ?_
  refine LW_iconst (v := 0) dX11_look_2 (by decide) ?_
  refine LW_istoren (ls' := [(0, .ref 217), (1, .int 3), (2, .int 0), (3, .int 0)]) dX11_look_3 rfl (by decide) rfl ?_
  refine lk_loop hM ?_ 0 (Nat.zero_le _)
  refine LW_iloadn 1 dX11_look_34 rfl rfl ?_
  refine LW_tableIn (off := 61) (tgt := 96) dX11_look_35 (by decide) (by decide) (by decide) (by decide) ?_
  refine LW_aloadn 0 dX11_look_96 rfl rfl ?_
  refine gX11_0 dX11_look_97 flX11_9 (hY.lt (k := 217) (by decide)) (ly217 hY) (lf217_0 hY) ?_
  refine LW_iconst (v := 4) dX11_look_100 (by decide) ?_
  refine LW_lald dX11_look_101 (hY.lt (k := 218) (by decide)) (ly218 hY) rfl (by decide) (Nat.le_of_ble_eq_true rfl) ?_
  rw [show L 218 4 = lN (aY (sA S)) from hM.n.2.1.1]
  refine LW_l2i dX11_look_102 ?_
  rw [show (lN (aY (sA S))).toInt32 = nI (aY (sA S)) from (lN_i _)]
  refine LW_iret dX11_look_103 rfl (Nat.le_of_ble_eq_true rfl) (Nat.le_of_ble_eq_true rfl) ?_
  exact MPost.r hW (by unfold qLook; rw [if_neg (by decide), if_neg (by decide), if_neg (by decide), if_pos rfl])
set_option maxRecDepth 100000 in
theorem m_look4 {Λ : hc_L} {I : hc_I} {L : hc_J} {R : hc_R} {S : HS} (hW : MW Λ I L S)  : Run xX11_look [.ref 217, .int 4] Λ I L R (MPost (some (.int (qLook S 4))) S Λ I L R) := by
  refine Run.of (by decide +kernel) (Nat.le_of_ble_eq_true rfl) ?_
  show LW _ _ _ [(0, .ref 217), (1, .int 4)] _ _ _ _ _ _
  have hM := hW.m
  have hP := hW.l
  have hY := hM.y
  refine LW_iconst (v := 0) dX11_look_0 (by decide) ?_
  refine LW_istoren (ls' := [(0, .ref 217), (1, .int 4), (2, .int 0)]) dX11_look_1 rfl (by decide) rfl ?_
  refine LW_iconst (v := 0) dX11_look_2 (by decide) ?_
  refine LW_istoren (ls' := [(0, .ref 217), (1, .int 4), (2, .int 0), (3, .int 0)]) dX11_look_3 rfl (by decide) rfl ?_
  refine lk_loop hM ?_ 0 (Nat.zero_le _)
  refine LW_iloadn 1 dX11_look_34 rfl rfl ?_
  refine LW_tableIn (off := 69) (tgt := 104) dX11_look_35 (by decide) (by decide) (by decide) (by decide) ?_
  refine LW_aloadn 0 dX11_look_104 rfl rfl ?_
  refine gX11_2 dX11_look_105 flX11_87 (hY.lt (k := 217) (by decide)) (ly217 hY) ?_
  rw [show I 217 2 = nI (sC S) from hW.c]
  refine LW_iret dX11_look_108 rfl (Nat.le_of_ble_eq_true rfl) (Nat.le_of_ble_eq_true rfl) ?_
  exact MPost.r hW (by unfold qLook; rw [if_neg (by decide), if_neg (by decide), if_neg (by decide), if_neg (by decide), if_pos rfl])
set_option maxRecDepth 100000 in
theorem m_look5 {Λ : hc_L} {I : hc_I} {L : hc_J} {R : hc_R} {S : HS} (hW : MW Λ I L S)  : Run xX11_look [.ref 217, .int 5] Λ I L R (MPost (some (.int (qLook S 5))) S Λ I L R) := by
  refine Run.of (by decide +kernel) (Nat.le_of_ble_eq_true rfl) ?_
  show LW _ _ _ [(0, .ref 217), (1, .int 5)] _ _ _ _ _ _
  have hM := hW.m
  have hP := hW.l
  have hY := hM.y
  refine LW_iconst (v := 0) dX11_look_0 (by decide) ?_
  refine LW_istoren (ls' := [(0, .ref 217), (1, .int 5), (2, .int 0)]) dX11_look_1 rfl (by decide) rfl ?_
  refine LW_iconst (v := 0) dX11_look_2 (by decide) ?_
  refine LW_istoren (ls' := [(0, .ref 217), (1, .int 5), (2, .int 0), (3, .int 0)]) dX11_look_3 rfl (by decide) rfl ?_
  refine lk_loop hM ?_ 0 (Nat.zero_le _)
  refine LW_iloadn 1 dX11_look_34 rfl rfl ?_
  refine LW_tableIn (off := 74) (tgt := 109) dX11_look_35 (by decide) (by decide) (by decide) (by decide) ?_
  refine LW_aloadn 0 dX11_look_109 rfl rfl ?_
  refine gX11_20 dX11_look_110 flX11_119 (hY.lt (k := 217) (by decide)) (ly217 hY) ?_
  rw [show I 217 20 = nI (sN S) from hW.t]
  refine LW_iret dX11_look_113 rfl (Nat.le_of_ble_eq_true rfl) (Nat.le_of_ble_eq_true rfl) ?_
  exact MPost.r hW (by unfold qLook; rw [if_neg (by decide), if_neg (by decide), if_neg (by decide), if_neg (by decide), if_neg (by decide), if_pos rfl])
set_option maxRecDepth 100000 in
theorem m_look6 {Λ : hc_L} {I : hc_I} {L : hc_J} {R : hc_R} {S : HS} (hW : MW Λ I L S)  : Run xX11_look [.ref 217, .int 6] Λ I L R (MPost (some (.int (qLook S 6))) S Λ I L R) := by
  refine Run.of (by decide +kernel) (Nat.le_of_ble_eq_true rfl) ?_
  show LW _ _ _ [(0, .ref 217), (1, .int 6)] _ _ _ _ _ _
  have hM := hW.m
  have hP := hW.l
  have hY := hM.y
  refine LW_iconst (v := 0) dX11_look_0 (by decide) ?_
  refine LW_istoren (ls' := [(0, .ref 217), (1, .int 6), (2, .int 0)]) dX11_look_1 rfl (by decide) rfl ?_
  refine LW_iconst (v := 0) dX11_look_2 (by decide) ?_
  refine LW_istoren (ls' := [(0, .ref 217), (1, .int 6), (2, .int 0), (3, .int 0)]) dX11_look_3 rfl (by decide) rfl ?_
  refine lk_loop hM ?_ 0 (Nat.zero_le _)
  refine LW_iloadn 1 dX11_look_34 rfl rfl ?_
  refine LW_tableIn (off := 79) (tgt := 114) dX11_look_35 (by decide) (by decide) (by decide) (by decide) ?_
  refine LW_aloadn 0 dX11_look_114 rfl rfl ?_
  refine gX11_0 dX11_look_115 flX11_9 (hY.lt (k := 217) (by decide)) (ly217 hY) (lf217_0 hY) ?_
  refine LW_iconst (v := 5) dX11_look_118 (by decide) ?_
  refine LW_lald dX11_look_119 (hY.lt (k := 218) (by decide)) (ly218 hY) rfl (by decide) (Nat.le_of_ble_eq_true rfl) ?_
  rw [show L 218 5 = lN (aM (sA S)) from hM.nM]
  refine LW_l2i dX11_look_120 ?_
  rw [show (lN (aM (sA S))).toInt32 = nI (aM (sA S)) from (lN_i _)]
  refine LW_iret dX11_look_121 rfl (Nat.le_of_ble_eq_true rfl) (Nat.le_of_ble_eq_true rfl) ?_
  exact MPost.r hW (by unfold qLook; rw [if_neg (by decide), if_neg (by decide), if_neg (by decide), if_neg (by decide), if_neg (by decide), if_neg (by decide), if_pos rfl])
set_option maxRecDepth 100000 in
theorem m_look7 {Λ : hc_L} {I : hc_I} {L : hc_J} {R : hc_R} {S : HS} (hW : MW Λ I L S)  : Run xX11_look [.ref 217, .int 7] Λ I L R (MPost (some (.int (qLook S 7))) S Λ I L R) := by
  refine Run.of (by decide +kernel) (Nat.le_of_ble_eq_true rfl) ?_
  show LW _ _ _ [(0, .ref 217), (1, .int 7)] _ _ _ _ _ _
  have hM := hW.m
  have hP := hW.l
  have hY := hM.y
  refine LW_iconst (v := 0) dX11_look_0 (by decide) ?_
  refine LW_istoren (ls' := [(0, .ref 217), (1, .int 7), (2, .int 0)]) dX11_look_1 rfl (by decide) rfl ?_
  refine LW_iconst (v := 0) dX11_look_2 (by decide) ?_
  refine LW_istoren (ls' := [(0, .ref 217), (1, .int 7), (2, .int 0), (3, .int 0)]) dX11_look_3 rfl (by decide) rfl ?_
  refine lk_loop hM ?_ 0 (Nat.zero_le _)
  refine LW_iloadn 1 dX11_look_34 rfl rfl ?_
  refine LW_tableIn (off := 87) (tgt := 122) dX11_look_35 (by decide) (by decide) (by decide) (by decide) ?_
  refine LW_aloadn 0 dX11_look_122 rfl rfl ?_
  refine gX11_0 dX11_look_123 flX11_9 (hY.lt (k := 217) (by decide)) (ly217 hY) (lf217_0 hY) ?_
  refine LW_bipush (v := 6) dX11_look_126 (by decide) ?_
  refine LW_lald dX11_look_128 (hY.lt (k := 218) (by decide)) (ly218 hY) rfl (by decide) (Nat.le_of_ble_eq_true rfl) ?_
  rw [show L 218 6 = lN (aF (sA S)) from hM.nF]
  refine LW_l2i dX11_look_129 ?_
  rw [show (lN (aF (sA S))).toInt32 = nI (aF (sA S)) from (lN_i _)]
  refine LW_iret dX11_look_130 rfl (Nat.le_of_ble_eq_true rfl) (Nat.le_of_ble_eq_true rfl) ?_
  exact MPost.r hW (by unfold qLook; rw [if_neg (by decide), if_neg (by decide), if_neg (by decide), if_neg (by decide), if_neg (by decide), if_neg (by decide), if_neg (by decide), if_pos rfl])
set_option maxRecDepth 100000 in
theorem m_lookE {Λ : hc_L} {I : hc_I} {L : hc_J} {R : hc_R} {S : HS} (hW : MW Λ I L S) {x : Int32} (hx : x ≠ 0 ∧ x ≠ 1 ∧ x ≠ 2 ∧ x ≠ 3 ∧ x ≠ 4 ∧ x ≠ 5 ∧ x ≠ 6 ∧ x ≠ 7) : Run xX11_look [.ref 217, .int x] Λ I L R (MPost (some (.int (qLook S x))) S Λ I L R) := by
  refine Run.of (by decide +kernel) (Nat.le_of_ble_eq_true rfl) ?_
  show LW _ _ _ [(0, .ref 217), (1, .int x)] _ _ _ _ _ _
  have hM := hW.m
  have hP := hW.l
  have hY := hM.y
  have ho : ∀ k, k ≤ 7 → x ≠ nI k := fun k hk => by
    rcases (show k = 0 ∨ k = 1 ∨ k = 2 ∨ k = 3 ∨ k = 4 ∨ k = 5 ∨ k = 6 ∨ k = 7 by omega) with rfl | rfl | rfl | rfl | rfl | rfl | rfl | rfl
    · exact hx.1
    · exact hx.2.1
    · exact hx.2.2.1
    · exact hx.2.2.2.1
    · exact hx.2.2.2.2.1
    · exact hx.2.2.2.2.2.1
    · exact hx.2.2.2.2.2.2.1
    · exact hx.2.2.2.2.2.2.2
  refine LW_iconst (v := 0) dX11_look_0 (by decide) ?_
  refine LW_istoren (ls' := [(0, .ref 217), (1, .int x), (2, .int 0)]) dX11_look_1 rfl (by decide) rfl ?_
  refine LW_iconst (v := 0) dX11_look_2 (by decide) ?_
  refine LW_istoren (ls' := [(0, .ref 217), (1, .int x), (2, .int 0), (3, .int 0)]) dX11_look_3 rfl (by decide) rfl ?_
  refine lk_loop hM ?_ 0 (Nat.zero_le _)
  refine LW_iloadn 1 dX11_look_34 rfl rfl ?_
  refine LW_tableOut (tgt := 131) dX11_look_35 (tsw (N := 7) (by decide) ho) (by decide) ?_
  refine LW_iconst (v := -1) dX11_look_131 (by decide) ?_
  refine LW_iret dX11_look_132 rfl (Nat.le_of_ble_eq_true rfl) (Nat.le_of_ble_eq_true rfl) ?_
  exact MPost.r hW (by unfold qLook; rw [if_neg hx.1, if_neg hx.2.1, if_neg hx.2.2.1, if_neg hx.2.2.2.1, if_neg hx.2.2.2.2.1, if_neg hx.2.2.2.2.2.1, if_neg hx.2.2.2.2.2.2.1, if_neg hx.2.2.2.2.2.2.2])
theorem m_look {Λ : hc_L} {I : hc_I} {L : hc_J} {R : hc_R} {S : HS} (hW : MW Λ I L S) (x : Int32) : Run xX11_look [.ref 217, .int x] Λ I L R (MPost (some (.int (qLook S x))) S Λ I L R) := by
  by_cases k0 : x = 0
  · subst k0; exact m_look0 hW
  by_cases k1 : x = 1
  · subst k1; exact m_look1 hW
  by_cases k2 : x = 2
  · subst k2; exact m_look2 hW
  by_cases k3 : x = 3
  · subst k3; exact m_look3 hW
  by_cases k4 : x = 4
  · subst k4; exact m_look4 hW
  by_cases k5 : x = 5
  · subst k5; exact m_look5 hW
  by_cases k6 : x = 6
  · subst k6; exact m_look6 hW
  by_cases k7 : x = 7
  · subst k7; exact m_look7 hW
  exact m_lookE hW ⟨k0, k1, k2, k3, k4, k5, k6, k7⟩
