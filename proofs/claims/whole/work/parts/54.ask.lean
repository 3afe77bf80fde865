/-! HailClub: questions that reckon -/
theorem kI_s (z : Nat) (h : kI 201 z) : SJ z := by
  unfold kI at h
  exact ⟨by omega, by omega⟩
theorem kJ_s (z : Nat) (h : kJ 201 39 z) : SJ z := by
  unfold kJ at h
  exact ⟨by omega, by omega⟩
theorem Fr.lj {Λ : hc_L} {I : hc_I} {L L' : hc_J} {R : hc_R} (hL : ∀ z, ¬ (z = 39 + 2) → L' z = L z) : Fr SJ Λ I L R Λ I L' R := Fr.ofL (fun z hz => hL z (fun q => hz ⟨by omega, by omega⟩))
/-- what member() tells -/
def qMember (A : AS) (P : LwP) (m w : Int32) : Int64 := if aKnX A m = true then (if w = 0 then (if aTh A m.toNatClampNeg = true then 1 else 0) else if w = 1 then (if aLv A m.toNatClampNeg = true then 1 else 0) else if w = 2 then lN (aYs A m.toNatClampNeg) else if w = 3 then (abNf A m.toNatClampNeg (aF A)).toInt64 else if w = 4 then abSums A m.toNatClampNeg (aF A) else if w = 5 then abPts A m.toNatClampNeg (aF A) else if w = 6 then abPts A m.toNatClampNeg (aF A) * aRu A 0 / 1000 else if w = 7 then abClaims A P m.toNatClampNeg (aF A) else -1) else -1
def qField (A : AS) (P : LwP) (f w : Int32) : Int64 := if aFkX A f = true then (if w = 0 then lN (aFd A f.toNatClampNeg 0) else if w = 1 then lN (aFd A f.toNatClampNeg 1) else if w = 2 then lN (aFd A f.toNatClampNeg 2) else if w = 3 then lN (aFd A f.toNatClampNeg 3) else if w = 4 then lN (aFd A f.toNatClampNeg 4) else if w = 5 then lN (aFd A f.toNatClampNeg 5) else if w = 6 then (if aSt A f.toNatClampNeg = true then 1 else 0) else if w = 7 then (if aSt A f.toNatClampNeg = true then lN (aLost A f.toNatClampNeg) else 0) else if w = 8 then (if aSt A f.toNatClampNeg = true then aPaid A P f.toNatClampNeg (aLost A f.toNatClampNeg) else 0) else if w = 9 then (if aSt A f.toNatClampNeg = true then aClaim A P f.toNatClampNeg (aLost A f.toNatClampNeg) else 0) else -1) else -1
theorem aLost_le (A : AS) (i : Nat) : aLost A i ≤ 100 := Nat.min_le_left _ _
set_option maxRecDepth 100000 in
theorem h_member0 {Λ : hc_L} {I : hc_I} {L : hc_J} {R : hc_R} {S : HS} (hH : HW Λ I L R S) (m : Int32) : Run xX10_member [.ref 0, .int m, .int 0] Λ I L R (HPost (some (.long (qMember (sA S) (sP S) m 0))) S Λ I L R) := by
  refine Run.of (by decide +kernel) (Nat.le_of_ble_eq_true rfl) ?_
  show LW _ _ _ [(0, .ref 0), (1, .int m), (2, .int 0)] _ _ _ _ _ _
  have hY := hH.y
  have hA := hH.s.w
  refine LW_aloadn 0 dX10_member_0 rfl rfl ?_
  refine gX10_1 dX10_member_1 flX10_19 (hY.lt (k := 0) (by decide)) (ly0 hY) (lf0_1 hY) ?_
  refine LW_iloadn 1 dX10_member_4 rfl rfl ?_
  refine LW_callV (As := [.int m]) (b := 3) (st := []) (ci := 6) (r := (RX6, TX6, 15)) (r_isKnown hH.s m) YX6_isKnown rfl dX10_member_5 mlX10_195 (hY.lt (k := 3) (by decide)) (ly3 hY) ⟨rfl, rfl⟩ (by decide) ⟨Nat.le_of_ble_eq_true rfl, Nat.le_of_ble_eq_true rfl⟩ (Nat.le_of_ble_eq_true rfl) rfl (fun r5 Λc5 Ic5 Lc5 Rc5 hq5 => ?_)
  obtain ⟨rfl, rfl, rfl, rfl, rfl⟩ := hq5
  refine LW_bif_ne (tgt := 15) dX10_member_8 (by decide) (fun c8 => ?_) (fun c8 => ?_)
  · obtain ⟨k, hk, rfl⟩ : ∃ k, k < aM (sA S) ∧ m = nI k := ⟨_, (aKnX_n hA c8).2, (aKnX_n hA c8).1⟩
    have hk12 : k < 12 := Nat.lt_of_lt_of_le hk hA.m
    have hk31 : k < 2 ^ 31 := by omega
    refine LW_iloadn 2 dX10_member_15 rfl rfl ?_
    refine LW_tableIn (off := 48) (tgt := 64) dX10_member_16 (by decide) (by decide) (by decide) (by decide) ?_
    refine LW_aloadn 0 dX10_member_64 rfl rfl ?_
    refine gX10_1 dX10_member_65 flX10_19 (hY.lt (k := 0) (by decide)) (ly0 hY) (lf0_1 hY) ?_
    refine gX6_4 dX10_member_68 flX10_198 (hY.lt (k := 3) (by decide)) (ly3 hY) (lf3_4 hY) ?_
    refine LW_iloadn 1 dX10_member_71 rfl rfl ?_
    refine LW_zald dX10_member_72 (hY.lt (k := 8) (by decide)) (ly8 hY) rfl hk12 (Nat.le_of_ble_eq_true rfl) ?_
    rw [show I 8 k = hc_b (aTh (sA S) k) from hH.s.th hk]
    refine LW_bif_eq (tgt := 80) dX10_member_73 (by decide) (fun c73 => ?_) (fun c73 => ?_)
    · refine LW_lconst (v := 0) dX10_member_80 (by decide) ?_
      refine LW_lret dX10_member_81 rfl (Nat.le_of_ble_eq_true rfl) (Nat.le_of_ble_eq_true rfl) ?_
      exact HPost.r hH (by unfold qMember; rw [if_pos c8, if_pos rfl, hc_cl hk31, if_neg (by rw [c73]; decide)])
    · refine LW_lconst (v := 1) dX10_member_76 (by decide) ?_
      refine LW_goto (tgt := 81) dX10_member_77 (by decide) ?_
      refine LW_lret dX10_member_81 rfl (Nat.le_of_ble_eq_true rfl) (Nat.le_of_ble_eq_true rfl) ?_
      exact HPost.r hH (by unfold qMember; rw [if_pos c8, if_pos rfl, hc_cl hk31, if_pos c73])
  · refine LW_ldc2 dX10_member_11 klX10_179 ?_
    refine LW_lret dX10_member_14 rfl (Nat.le_of_ble_eq_true rfl) (Nat.le_of_ble_eq_true rfl) ?_
    exact HPost.r hH (by unfold qMember; rw [if_neg (by rw [c8]; decide)])
set_option maxRecDepth 100000 in
theorem h_member1 {Λ : hc_L} {I : hc_I} {L : hc_J} {R : hc_R} {S : HS} (hH : HW Λ I L R S) (m : Int32) : Run xX10_member [.ref 0, .int m, .int 1] Λ I L R (HPost (some (.long (qMember (sA S) (sP S) m 1))) S Λ I L R) := by
  refine Run.of (by decide +kernel) (Nat.le_of_ble_eq_true rfl) ?_
  show LW _ _ _ [(0, .ref 0), (1, .int m), (2, .int 1)] _ _ _ _ _ _
  have hY := hH.y
  have hA := hH.s.w
  refine LW_aloadn 0 dX10_member_0 rfl rfl ?_
  refine gX10_1 dX10_member_1 flX10_19 (hY.lt (k := 0) (by decide)) (ly0 hY) (lf0_1 hY) ?_
  refine LW_iloadn 1 dX10_member_4 rfl rfl ?_
  refine LW_callV (As := [.int m]) (b := 3) (st := []) (ci := 6) (r := (RX6, TX6, 15)) (r_isKnown hH.s m) YX6_isKnown rfl dX10_member_5 mlX10_195 (hY.lt (k := 3) (by decide)) (ly3 hY) ⟨rfl, rfl⟩ (by decide) ⟨Nat.le_of_ble_eq_true rfl, Nat.le_of_ble_eq_true rfl⟩ (Nat.le_of_ble_eq_true rfl) rfl (fun r5 Λc5 Ic5 Lc5 Rc5 hq5 => ?_)
  obtain ⟨rfl, rfl, rfl, rfl, rfl⟩ := hq5
  refine LW_bif_ne (tgt := 15) dX10_member_8 (by decide) (fun c8 => ?_) (fun c8 => ?_)
  · obtain ⟨k, hk, rfl⟩ : ∃ k, k < aM (sA S) ∧ m = nI k := ⟨_, (aKnX_n hA c8).2, (aKnX_n hA c8).1⟩
    have hk12 : k < 12 := Nat.lt_of_lt_of_le hk hA.m
    have hk31 : k < 2 ^ 31 := by omega
    refine LW_iloadn 2 dX10_member_15 rfl rfl ?_
    refine LW_tableIn (off := 66) (tgt := 82) dX10_member_16 (by decide) (by decide) (by decide) (by decide) ?_
    refine LW_aloadn 0 dX10_member_82 rfl rfl ?_
    refine gX10_1 dX10_member_83 flX10_19 (hY.lt (k := 0) (by decide)) (ly0 hY) (lf0_1 hY) ?_
    refine gX6_5 dX10_member_86 flX10_171 (hY.lt (k := 3) (by decide)) (ly3 hY) (lf3_5 hY) ?_
    refine LW_iloadn 1 dX10_member_89 rfl rfl ?_
    refine LW_zald dX10_member_90 (hY.lt (k := 9) (by decide)) (ly9 hY) rfl hk12 (Nat.le_of_ble_eq_true rfl) ?_
    rw [show I 9 k = hc_b (aLv (sA S) k) from hH.s.lv hk]
    refine LW_bif_eq (tgt := 98) dX10_member_91 (by decide) (fun c91 => ?_) (fun c91 => ?_)
    · refine LW_lconst (v := 0) dX10_member_98 (by decide) ?_
      refine LW_lret dX10_member_99 rfl (Nat.le_of_ble_eq_true rfl) (Nat.le_of_ble_eq_true rfl) ?_
      exact HPost.r hH (by unfold qMember; rw [if_pos c8, if_neg (by decide), if_pos rfl, hc_cl hk31, if_neg (by rw [c91]; decide)])
    · refine LW_lconst (v := 1) dX10_member_94 (by decide) ?_
      refine LW_goto (tgt := 99) dX10_member_95 (by decide) ?_
      refine LW_lret dX10_member_99 rfl (Nat.le_of_ble_eq_true rfl) (Nat.le_of_ble_eq_true rfl) ?_
      exact HPost.r hH (by unfold qMember; rw [if_pos c8, if_neg (by decide), if_pos rfl, hc_cl hk31, if_pos c91])
  · refine LW_ldc2 dX10_member_11 klX10_179 ?_
    refine LW_lret dX10_member_14 rfl (Nat.le_of_ble_eq_true rfl) (Nat.le_of_ble_eq_true rfl) ?_
    exact HPost.r hH (by unfold qMember; rw [if_neg (by rw [c8]; decide)])
set_option maxRecDepth 100000 in
theorem h_member2 {Λ : hc_L} {I : hc_I} {L : hc_J} {R : hc_R} {S : HS} (hH : HW Λ I L R S) (m : Int32) : Run xX10_member [.ref 0, .int m, .int 2] Λ I L R (HPost (some (.long (qMember (sA S) (sP S) m 2))) S Λ I L R) := by
  refine Run.of (by decide +kernel) (Nat.le_of_ble_eq_true rfl) ?_
  show LW _ _ _ [(0, .ref 0), (1, .int m), (2, .int 2)] _ _ _ _ _ _
  have hY := hH.y
  have hA := hH.s.w
  refine LW_aloadn 0 dX10_member_0 rfl rfl ?_
  refine gX10_1 dX10_member_1 flX10_19 (hY.lt (k := 0) (by decide)) (ly0 hY) (lf0_1 hY) ?_
  refine LW_iloadn 1 dX10_member_4 rfl rfl ?_
  refine LW_callV (As := [.int m]) (b := 3) (st := []) (ci := 6) (r := (RX6, TX6, 15)) (r_isKnown hH.s m) YX6_isKnown rfl dX10_member_5 mlX10_195 (hY.lt (k := 3) (by decide)) (ly3 hY) ⟨rfl, rfl⟩ (by decide) ⟨Nat.le_of_ble_eq_true rfl, Nat.le_of_ble_eq_true rfl⟩ (Nat.le_of_ble_eq_true rfl) rfl (fun r5 Λc5 Ic5 Lc5 Rc5 hq5 => ?_)
  obtain ⟨rfl, rfl, rfl, rfl, rfl⟩ := hq5
  refine LW_bif_ne (tgt := 15) dX10_member_8 (by decide) (fun c8 => ?_) (fun c8 => ?_)
  · obtain ⟨k, hk, rfl⟩ : ∃ k, k < aM (sA S) ∧ m = nI k := ⟨_, (aKnX_n hA c8).2, (aKnX_n hA c8).1⟩
    have hk12 : k < 12 := Nat.lt_of_lt_of_le hk hA.m
    have hk31 : k < 2 ^ 31 := by omega
    refine LW_iloadn 2 dX10_member_15 rfl rfl ?_
    refine LW_tableIn (off := 84) (tgt := 100) dX10_member_16 (by decide) (by decide) (by decide) (by decide) ?_
    refine LW_aloadn 0 dX10_member_100 rfl rfl ?_
    refine gX10_1 dX10_member_101 flX10_19 (hY.lt (k := 0) (by decide)) (ly0 hY) (lf0_1 hY) ?_
    refine gX6_6 dX10_member_104 flX10_201 (hY.lt (k := 3) (by decide)) (ly3 hY) (lf3_6 hY) ?_
    refine LW_iloadn 1 dX10_member_107 rfl rfl ?_
    refine LW_iald dX10_member_108 (hY.lt (k := 10) (by decide)) (ly10 hY) rfl hk12 (Nat.le_of_ble_eq_true rfl) ?_
    rw [show I 10 k = nI (aYs (sA S) k) from hH.s.ys hk]
    refine LW_i2l dX10_member_109 ?_
    rw [show (nI (aYs (sA S) k)).toInt64 = lN (aYs (sA S) k) from (nI_l (by have := hA.2.2.2.2.2.2.1 k hk; omega))]
    refine LW_lret dX10_member_110 rfl (Nat.le_of_ble_eq_true rfl) (Nat.le_of_ble_eq_true rfl) ?_
    exact HPost.r hH (by unfold qMember; rw [if_pos c8, if_neg (by decide), if_neg (by decide), if_pos rfl, hc_cl hk31])
  · refine LW_ldc2 dX10_member_11 klX10_179 ?_
    refine LW_lret dX10_member_14 rfl (Nat.le_of_ble_eq_true rfl) (Nat.le_of_ble_eq_true rfl) ?_
    exact HPost.r hH (by unfold qMember; rw [if_neg (by rw [c8]; decide)])
set_option maxRecDepth 100000 in
theorem h_member3 {Λ : hc_L} {I : hc_I} {L : hc_J} {R : hc_R} {S : HS} (hH : HW Λ I L R S) (m : Int32) : Run xX10_member [.ref 0, .int m, .int 3] Λ I L R (HPost (some (.long (qMember (sA S) (sP S) m 3))) S Λ I L R) := by
  refine Run.of (by decide +kernel) (Nat.le_of_ble_eq_true rfl) ?_
  show LW _ _ _ [(0, .ref 0), (1, .int m), (2, .int 3)] _ _ _ _ _ _
  have hY := hH.y
  have hA := hH.s.w
  refine LW_aloadn 0 dX10_member_0 rfl rfl ?_
  refine gX10_1 dX10_member_1 flX10_19 (hY.lt (k := 0) (by decide)) (ly0 hY) (lf0_1 hY) ?_
  refine LW_iloadn 1 dX10_member_4 rfl rfl ?_
  refine LW_callV (As := [.int m]) (b := 3) (st := []) (ci := 6) (r := (RX6, TX6, 15)) (r_isKnown hH.s m) YX6_isKnown rfl dX10_member_5 mlX10_195 (hY.lt (k := 3) (by decide)) (ly3 hY) ⟨rfl, rfl⟩ (by decide) ⟨Nat.le_of_ble_eq_true rfl, Nat.le_of_ble_eq_true rfl⟩ (Nat.le_of_ble_eq_true rfl) rfl (fun r5 Λc5 Ic5 Lc5 Rc5 hq5 => ?_)
  obtain ⟨rfl, rfl, rfl, rfl, rfl⟩ := hq5
  refine LW_bif_ne (tgt := 15) dX10_member_8 (by decide) (fun c8 => ?_) (fun c8 => ?_)
  · obtain ⟨k, hk, rfl⟩ : ∃ k, k < aM (sA S) ∧ m = nI k := ⟨_, (aKnX_n hA c8).2, (aKnX_n hA c8).1⟩
    have hk12 : k < 12 := Nat.lt_of_lt_of_le hk hA.m
    have hk31 : k < 2 ^ 31 := by omega
    refine LW_iloadn 2 dX10_member_15 rfl rfl ?_
    refine LW_tableIn (off := 95) (tgt := 111) dX10_member_16 (by decide) (by decide) (by decide) (by decide) ?_
    refine LW_aloadn 0 dX10_member_111 rfl rfl ?_
    refine gX10_1 dX10_member_112 flX10_19 (hY.lt (k := 0) (by decide)) (ly0 hY) (lf0_1 hY) ?_
    refine LW_iloadn 1 dX10_member_115 rfl rfl ?_
    refine LW_callV (As := [.int (nI k)]) (b := 3) (st := []) (ci := 6) (r := (RX6, TX6, 15)) (r_fieldsOf hH.s hk31) YX6_fieldsOf rfl dX10_member_116 mlX10_205 (hY.lt (k := 3) (by decide)) (ly3 hY) ⟨rfl, rfl⟩ (by decide) ⟨Nat.le_of_ble_eq_true rfl, Nat.le_of_ble_eq_true rfl⟩ (Nat.le_of_ble_eq_true rfl) rfl (fun r116 Λc116 Ic116 Lc116 Rc116 hq116 => ?_)
    obtain ⟨rfl, rfl, rfl, rfl, rfl⟩ := hq116
    refine LW_i2l dX10_member_119 ?_
    refine LW_lret dX10_member_120 rfl (Nat.le_of_ble_eq_true rfl) (Nat.le_of_ble_eq_true rfl) ?_
    exact HPost.r hH (by unfold qMember; rw [if_pos c8, if_neg (by decide), if_neg (by decide), if_neg (by decide), if_pos rfl, hc_cl hk31])
  · refine LW_ldc2 dX10_member_11 klX10_179 ?_
    refine LW_lret dX10_member_14 rfl (Nat.le_of_ble_eq_true rfl) (Nat.le_of_ble_eq_true rfl) ?_
    exact HPost.r hH (by unfold qMember; rw [if_neg (by rw [c8]; decide)])
set_option maxRecDepth 100000 in
theorem h_member4 {Λ : hc_L} {I : hc_I} {L : hc_J} {R : hc_R} {S : HS} (hH : HW Λ I L R S) (m : Int32) : Run xX10_member [.ref 0, .int m, .int 4] Λ I L R (HPost (some (.long (qMember (sA S) (sP S) m 4))) S Λ I L R) := by
  refine Run.of (by decide +kernel) (Nat.le_of_ble_eq_true rfl) ?_
  show LW _ _ _ [(0, .ref 0), (1, .int m), (2, .int 4)] _ _ _ _ _ _
  have hY := hH.y
  have hA := hH.s.w
  refine LW_aloadn 0 dX10_member_0 rfl rfl ?_
  refine gX10_1 dX10_member_1 flX10_19 (hY.lt (k := 0) (by decide)) (ly0 hY) (lf0_1 hY) ?_
  refine LW_iloadn 1 dX10_member_4 rfl rfl ?_
  refine LW_callV (As := [.int m]) (b := 3) (st := []) (ci := 6) (r := (RX6, TX6, 15)) (r_isKnown hH.s m) YX6_isKnown rfl dX10_member_5 mlX10_195 (hY.lt (k := 3) (by decide)) (ly3 hY) ⟨rfl, rfl⟩ (by decide) ⟨Nat.le_of_ble_eq_true rfl, Nat.le_of_ble_eq_true rfl⟩ (Nat.le_of_ble_eq_true rfl) rfl (fun r5 Λc5 Ic5 Lc5 Rc5 hq5 => ?_)
  obtain ⟨rfl, rfl, rfl, rfl, rfl⟩ := hq5
  refine LW_bif_ne (tgt := 15) dX10_member_8 (by decide) (fun c8 => ?_) (fun c8 => ?_)
  · obtain ⟨k, hk, rfl⟩ : ∃ k, k < aM (sA S) ∧ m = nI k := ⟨_, (aKnX_n hA c8).2, (aKnX_n hA c8).1⟩
    have hk12 : k < 12 := Nat.lt_of_lt_of_le hk hA.m
    have hk31 : k < 2 ^ 31 := by omega
    refine LW_iloadn 2 dX10_member_15 rfl rfl ?_
    refine LW_tableIn (off := 105) (tgt := 121) dX10_member_16 (by decide) (by decide) (by decide) (by decide) ?_
    refine LW_aloadn 0 dX10_member_121 rfl rfl ?_
    refine gX10_1 dX10_member_122 flX10_19 (hY.lt (k := 0) (by decide)) (ly0 hY) (lf0_1 hY) ?_
    refine LW_iloadn 1 dX10_member_125 rfl rfl ?_
    refine LW_callV (As := [.int (nI k)]) (b := 3) (st := []) (ci := 6) (r := (RX6, TX6, 15)) (r_sumsOf hH.s hk31) YX6_sumsOf rfl dX10_member_126 mlX10_209 (hY.lt (k := 3) (by decide)) (ly3 hY) ⟨rfl, rfl⟩ (by decide) ⟨Nat.le_of_ble_eq_true rfl, Nat.le_of_ble_eq_true rfl⟩ (Nat.le_of_ble_eq_true rfl) rfl (fun r126 Λc126 Ic126 Lc126 Rc126 hq126 => ?_)
    obtain ⟨rfl, rfl, rfl, rfl, rfl⟩ := hq126
    refine LW_lret dX10_member_129 rfl (Nat.le_of_ble_eq_true rfl) (Nat.le_of_ble_eq_true rfl) ?_
    exact HPost.r hH (by unfold qMember; rw [if_pos c8, if_neg (by decide), if_neg (by decide), if_neg (by decide), if_neg (by decide), if_pos rfl, hc_cl hk31])
  · refine LW_ldc2 dX10_member_11 klX10_179 ?_
    refine LW_lret dX10_member_14 rfl (Nat.le_of_ble_eq_true rfl) (Nat.le_of_ble_eq_true rfl) ?_
    exact HPost.r hH (by unfold qMember; rw [if_neg (by rw [c8]; decide)])
set_option maxRecDepth 100000 in
theorem h_member5 {Λ : hc_L} {I : hc_I} {L : hc_J} {R : hc_R} {S : HS} (hH : HW Λ I L R S) (m : Int32) : Run xX10_member [.ref 0, .int m, .int 5] Λ I L R (HPost (some (.long (qMember (sA S) (sP S) m 5))) S Λ I L R) := by
  refine Run.of (by decide +kernel) (Nat.le_of_ble_eq_true rfl) ?_
  show LW _ _ _ [(0, .ref 0), (1, .int m), (2, .int 5)] _ _ _ _ _ _
  have hY := hH.y
  have hA := hH.s.w
  refine LW_aloadn 0 dX10_member_0 rfl rfl ?_
  refine gX10_1 dX10_member_1 flX10_19 (hY.lt (k := 0) (by decide)) (ly0 hY) (lf0_1 hY) ?_
  refine LW_iloadn 1 dX10_member_4 rfl rfl ?_
  refine LW_callV (As := [.int m]) (b := 3) (st := []) (ci := 6) (r := (RX6, TX6, 15)) (r_isKnown hH.s m) YX6_isKnown rfl dX10_member_5 mlX10_195 (hY.lt (k := 3) (by decide)) (ly3 hY) ⟨rfl, rfl⟩ (by decide) ⟨Nat.le_of_ble_eq_true rfl, Nat.le_of_ble_eq_true rfl⟩ (Nat.le_of_ble_eq_true rfl) rfl (fun r5 Λc5 Ic5 Lc5 Rc5 hq5 => ?_)
  obtain ⟨rfl, rfl, rfl, rfl, rfl⟩ := hq5
  refine LW_bif_ne (tgt := 15) dX10_member_8 (by decide) (fun c8 => ?_) (fun c8 => ?_)
  · obtain ⟨k, hk, rfl⟩ : ∃ k, k < aM (sA S) ∧ m = nI k := ⟨_, (aKnX_n hA c8).2, (aKnX_n hA c8).1⟩
    have hk12 : k < 12 := Nat.lt_of_lt_of_le hk hA.m
    have hk31 : k < 2 ^ 31 := by omega
    refine LW_iloadn 2 dX10_member_15 rfl rfl ?_
    refine LW_tableIn (off := 114) (tgt := 130) dX10_member_16 (by decide) (by decide) (by decide) (by decide) ?_
    refine LW_aloadn 0 dX10_member_130 rfl rfl ?_
    refine gX10_1 dX10_member_131 flX10_19 (hY.lt (k := 0) (by decide)) (ly0 hY) (lf0_1 hY) ?_
    refine LW_iloadn 1 dX10_member_134 rfl rfl ?_
    refine LW_callV (As := [.int (nI k)]) (b := 3) (st := []) (ci := 6) (r := (RX6, TX6, 15)) (r_pointsOf hH.s hk31) YX6_pointsOf rfl dX10_member_135 mlX10_116 (hY.lt (k := 3) (by decide)) (ly3 hY) ⟨rfl, rfl⟩ (by decide) ⟨Nat.le_of_ble_eq_true rfl, Nat.le_of_ble_eq_true rfl⟩ (Nat.le_of_ble_eq_true rfl) rfl (fun r135 Λc135 Ic135 Lc135 Rc135 hq135 => ?_)
    obtain ⟨rfl, rfl, rfl, rfl, rfl⟩ := hq135
    refine LW_lret dX10_member_138 rfl (Nat.le_of_ble_eq_true rfl) (Nat.le_of_ble_eq_true rfl) ?_
    exact HPost.r hH (by unfold qMember; rw [if_pos c8, if_neg (by decide), if_neg (by decide), if_neg (by decide), if_neg (by decide), if_neg (by decide), if_pos rfl, hc_cl hk31])
  · refine LW_ldc2 dX10_member_11 klX10_179 ?_
    refine LW_lret dX10_member_14 rfl (Nat.le_of_ble_eq_true rfl) (Nat.le_of_ble_eq_true rfl) ?_
    exact HPost.r hH (by unfold qMember; rw [if_neg (by rw [c8]; decide)])
set_option maxRecDepth 100000 in
theorem h_member6 {Λ : hc_L} {I : hc_I} {L : hc_J} {R : hc_R} {S : HS} (hH : HW Λ I L R S) (m : Int32) : Run xX10_member [.ref 0, .int m, .int 6] Λ I L R (HPost (some (.long (qMember (sA S) (sP S) m 6))) S Λ I L R) := by
  refine Run.of (by decide +kernel) (Nat.le_of_ble_eq_true rfl) ?_
  show LW _ _ _ [(0, .ref 0), (1, .int m), (2, .int 6)] _ _ _ _ _ _
  have hY := hH.y
  have hA := hH.s.w
  refine LW_aloadn 0 dX10_member_0 rfl rfl ?_
  refine gX10_1 dX10_member_1 flX10_19 (hY.lt (k := 0) (by decide)) (ly0 hY) (lf0_1 hY) ?_
  refine LW_iloadn 1 dX10_member_4 rfl rfl ?_
  refine LW_callV (As := [.int m]) (b := 3) (st := []) (ci := 6) (r := (RX6, TX6, 15)) (r_isKnown hH.s m) YX6_isKnown rfl dX10_member_5 mlX10_195 (hY.lt (k := 3) (by decide)) (ly3 hY) ⟨rfl, rfl⟩ (by decide) ⟨Nat.le_of_ble_eq_true rfl, Nat.le_of_ble_eq_true rfl⟩ (Nat.le_of_ble_eq_true rfl) rfl (fun r5 Λc5 Ic5 Lc5 Rc5 hq5 => ?_)
  obtain ⟨rfl, rfl, rfl, rfl, rfl⟩ := hq5
  refine LW_bif_ne (tgt := 15) dX10_member_8 (by decide) (fun c8 => ?_) (fun c8 => ?_)
  · obtain ⟨k, hk, rfl⟩ : ∃ k, k < aM (sA S) ∧ m = nI k := ⟨_, (aKnX_n hA c8).2, (aKnX_n hA c8).1⟩
    have hk12 : k < 12 := Nat.lt_of_lt_of_le hk hA.m
    have hk31 : k < 2 ^ 31 := by omega
    refine LW_iloadn 2 dX10_member_15 rfl rfl ?_
    refine LW_tableIn (off := 123) (tgt := 139) dX10_member_16 (by decide) (by decide) (by decide) (by decide) ?_
    refine LW_aloadn 0 dX10_member_139 rfl rfl ?_
    refine gX10_1 dX10_member_140 flX10_19 (hY.lt (k := 0) (by decide)) (ly0 hY) (lf0_1 hY) ?_
    refine LW_iloadn 1 dX10_member_143 rfl rfl ?_
    refine LW_callV (As := [.int (nI k)]) (b := 3) (st := []) (ci := 6) (r := (RX6, TX6, 15)) (r_pointsOf hH.s hk31) YX6_pointsOf rfl dX10_member_144 mlX10_116 (hY.lt (k := 3) (by decide)) (ly3 hY) ⟨rfl, rfl⟩ (by decide) ⟨Nat.le_of_ble_eq_true rfl, Nat.le_of_ble_eq_true rfl⟩ (Nat.le_of_ble_eq_true rfl) rfl (fun r144 Λc144 Ic144 Lc144 Rc144 hq144 => ?_)
    obtain ⟨rfl, rfl, rfl, rfl, rfl⟩ := hq144
    refine LW_aloadn 0 dX10_member_147 rfl rfl ?_
    refine gX10_1 dX10_member_148 flX10_19 (hY.lt (k := 0) (by decide)) (ly0 hY) (lf0_1 hY) ?_
    refine gX6_0 dX10_member_151 flX10_109 (hY.lt (k := 3) (by decide)) (ly3 hY) (lf3_0 hY) ?_
    refine LW_iconst (v := 0) dX10_member_154 (by decide) ?_
    refine LW_lald dX10_member_155 (hY.lt (k := 4) (by decide)) (ly4 hY) rfl (by decide) (Nat.le_of_ble_eq_true rfl) ?_
    rw [show L 4 0 = aRu (sA S) 0 from hH.s.ru (by decide)]
    refine LW_callS (As := [.long (abPts (sA S) k (aF (sA S))), .long (aRu (sA S) 0)]) (st := []) (r_advance _ _) YX10_advance rfl dX10_member_156 mlX10_212 (by decide) ⟨Nat.le_of_ble_eq_true rfl, Nat.le_of_ble_eq_true rfl⟩ (Nat.le_of_ble_eq_true rfl) rfl (fun r156 Λc156 Ic156 Lc156 Rc156 hq156 => ?_)
    obtain ⟨rfl, rfl, rfl, rfl, rfl⟩ := hq156
    refine LW_lret dX10_member_159 rfl (Nat.le_of_ble_eq_true rfl) (Nat.le_of_ble_eq_true rfl) ?_
    exact HPost.r hH (by unfold qMember; rw [if_pos c8, if_neg (by decide), if_neg (by decide), if_neg (by decide), if_neg (by decide), if_neg (by decide), if_neg (by decide), if_pos rfl, hc_cl hk31])
  · refine LW_ldc2 dX10_member_11 klX10_179 ?_
    refine LW_lret dX10_member_14 rfl (Nat.le_of_ble_eq_true rfl) (Nat.le_of_ble_eq_true rfl) ?_
    exact HPost.r hH (by unfold qMember; rw [if_neg (by rw [c8]; decide)])
set_option maxRecDepth 100000 in
theorem h_member7 {Λ : hc_L} {I : hc_I} {L : hc_J} {R : hc_R} {S : HS} (hH : HW Λ I L R S) (m : Int32) : Run xX10_member [.ref 0, .int m, .int 7] Λ I L R (HPost (some (.long (qMember (sA S) (sP S) m 7))) S Λ I L R) := by
  refine Run.of (by decide +kernel) (Nat.le_of_ble_eq_true rfl) ?_
  show LW _ _ _ [(0, .ref 0), (1, .int m), (2, .int 7)] _ _ _ _ _ _
  have hY := hH.y
  have hA := hH.s.w
  refine LW_aloadn 0 dX10_member_0 rfl rfl ?_
  refine gX10_1 dX10_member_1 flX10_19 (hY.lt (k := 0) (by decide)) (ly0 hY) (lf0_1 hY) ?_
  refine LW_iloadn 1 dX10_member_4 rfl rfl ?_
  refine LW_callV (As := [.int m]) (b := 3) (st := []) (ci := 6) (r := (RX6, TX6, 15)) (r_isKnown hH.s m) YX6_isKnown rfl dX10_member_5 mlX10_195 (hY.lt (k := 3) (by decide)) (ly3 hY) ⟨rfl, rfl⟩ (by decide) ⟨Nat.le_of_ble_eq_true rfl, Nat.le_of_ble_eq_true rfl⟩ (Nat.le_of_ble_eq_true rfl) rfl (fun r5 Λc5 Ic5 Lc5 Rc5 hq5 => ?_)
  obtain ⟨rfl, rfl, rfl, rfl, rfl⟩ := hq5
  refine LW_bif_ne (tgt := 15) dX10_member_8 (by decide) (fun c8 => ?_) (fun c8 => ?_)
  · obtain ⟨k, hk, rfl⟩ : ∃ k, k < aM (sA S) ∧ m = nI k := ⟨_, (aKnX_n hA c8).2, (aKnX_n hA c8).1⟩
    have hk12 : k < 12 := Nat.lt_of_lt_of_le hk hA.m
    have hk31 : k < 2 ^ 31 := by omega
    refine LW_iloadn 2 dX10_member_15 rfl rfl ?_
    refine LW_tableIn (off := 144) (tgt := 160) dX10_member_16 (by decide) (by decide) (by decide) (by decide) ?_
    refine LW_aloadn 0 dX10_member_160 rfl rfl ?_
    refine gX10_7 dX10_member_161 flX10_57 (hY.lt (k := 0) (by decide)) (ly0 hY) (lf0_7 hY) ?_
    refine LW_iloadn 1 dX10_member_164 rfl rfl ?_
    refine LW_callV (As := [.int (nI k)]) (b := 198) (st := []) (ci := 0) (r := (RX0, TX0, 7)) (r_claimsOf hY.as hH.s hH.l hH.p hk31) YX0_claimsOf rfl dX10_member_165 mlX10_215 (hY.lt (k := 198) (by decide)) (ly198 hY) ⟨rfl, rfl⟩ (by decide) ⟨Nat.le_of_ble_eq_true rfl, Nat.le_of_ble_eq_true rfl⟩ (Nat.le_of_ble_eq_true rfl) rfl (fun r165 Λc165 Ic165 Lc165 Rc165 hq165 => ?_)
    obtain ⟨rfl, rfl, rfl, hL165, hR165⟩ := hq165
    obtain rfl : R = Rc165 := hR165
    refine LW_lret dX10_member_168 rfl (Nat.le_of_ble_eq_true rfl) (Nat.le_of_ble_eq_true rfl) ?_
    exact HPost.q hH (Fr.lj hL165) (Nat.le_add_right _ _) (by unfold qMember; rw [if_pos c8, if_neg (by decide), if_neg (by decide), if_neg (by decide), if_neg (by decide), if_neg (by decide), if_neg (by decide), if_neg (by decide), if_pos rfl, hc_cl hk31])
  · refine LW_ldc2 dX10_member_11 klX10_179 ?_
    refine LW_lret dX10_member_14 rfl (Nat.le_of_ble_eq_true rfl) (Nat.le_of_ble_eq_true rfl) ?_
    exact HPost.r hH (by unfold qMember; rw [if_neg (by rw [c8]; decide)])
set_option maxRecDepth 100000 in
theorem h_memberE {Λ : hc_L} {I : hc_I} {L : hc_J} {R : hc_R} {S : HS} (hH : HW Λ I L R S) (m : Int32) {x : Int32} (hx : x ≠ 0 ∧ x ≠ 1 ∧ x ≠ 2 ∧ x ≠ 3 ∧ x ≠ 4 ∧ x ≠ 5 ∧ x ≠ 6 ∧ x ≠ 7) : Run xX10_member [.ref 0, .int m, .int x] Λ I L R (HPost (some (.long (qMember (sA S) (sP S) m x))) S Λ I L R) := by
  refine Run.of (by decide +kernel) (Nat.le_of_ble_eq_true rfl) ?_
  show LW _ _ _ [(0, .ref 0), (1, .int m), (2, .int x)] _ _ _ _ _ _
  have hY := hH.y
  have ho : ∀ k, k ≤ 7 → x ≠ nI k := fun k hk => by
    rcases (show k = 0 ∨ k = 1 ∨ k = 2 ∨ k = 3 ∨ k = 4 ∨ k = 5 ∨ k = 6 ∨ k = 7 by omega) with rfl | rfl | rfl | rfl | rfl | rfl | rfl | rfl
    · exact hx.1
    · exact hx.2.1
    · exact hx.2.2.1
    · exact hx.2.2.2.1
    · exact hx.2.2.2.2.1
    · exact hx.2.2.2.2.2.1
    · exact hx.2.2.2.2.2.2.1
    · exact hx.2.2.2.2.2.2.2
  refine LW_aloadn 0 dX10_member_0 rfl rfl ?_
  refine gX10_1 dX10_member_1 flX10_19 (hY.lt (k := 0) (by decide)) (ly0 hY) (lf0_1 hY) ?_
  refine LW_iloadn 1 dX10_member_4 rfl rfl ?_
  refine LW_callV (As := [.int m]) (b := 3) (st := []) (ci := 6) (r := (RX6, TX6, 15)) (r_isKnown hH.s m) YX6_isKnown rfl dX10_member_5 mlX10_195 (hY.lt (k := 3) (by decide)) (ly3 hY) ⟨rfl, rfl⟩ (by decide) ⟨Nat.le_of_ble_eq_true rfl, Nat.le_of_ble_eq_true rfl⟩ (Nat.le_of_ble_eq_true rfl) rfl (fun r5 Λc5 Ic5 Lc5 Rc5 hq5 => ?_)
  obtain ⟨rfl, rfl, rfl, rfl, rfl⟩ := hq5
  refine LW_bif_ne (tgt := 15) dX10_member_8 (by decide) (fun c8 => ?_) (fun c8 => ?_)
  · refine LW_iloadn 2 dX10_member_15 rfl rfl ?_
    refine LW_tableOut (tgt := 169) dX10_member_16 (tsw (N := 7) (by decide) ho) (by decide) ?_
    refine LW_ldc2 dX10_member_169 klX10_179 ?_
    refine LW_lret dX10_member_172 rfl (Nat.le_of_ble_eq_true rfl) (Nat.le_of_ble_eq_true rfl) ?_
    exact HPost.r hH (by unfold qMember; rw [if_pos c8, if_neg hx.1, if_neg hx.2.1, if_neg hx.2.2.1, if_neg hx.2.2.2.1, if_neg hx.2.2.2.2.1, if_neg hx.2.2.2.2.2.1, if_neg hx.2.2.2.2.2.2.1, if_neg hx.2.2.2.2.2.2.2])
  · refine LW_ldc2 dX10_member_11 klX10_179 ?_
    refine LW_lret dX10_member_14 rfl (Nat.le_of_ble_eq_true rfl) (Nat.le_of_ble_eq_true rfl) ?_
    exact HPost.r hH (by unfold qMember; rw [if_neg (by rw [c8]; decide)])
theorem h_member {Λ : hc_L} {I : hc_I} {L : hc_J} {R : hc_R} {S : HS} (hH : HW Λ I L R S) (m x : Int32) : Run xX10_member [.ref 0, .int m, .int x] Λ I L R (HPost (some (.long (qMember (sA S) (sP S) m x))) S Λ I L R) := by
  by_cases k0 : x = 0
  · subst k0; exact h_member0 hH m
  by_cases k1 : x = 1
  · subst k1; exact h_member1 hH m
  by_cases k2 : x = 2
  · subst k2; exact h_member2 hH m
  by_cases k3 : x = 3
  · subst k3; exact h_member3 hH m
  by_cases k4 : x = 4
  · subst k4; exact h_member4 hH m
  by_cases k5 : x = 5
  · subst k5; exact h_member5 hH m
  by_cases k6 : x = 6
  · subst k6; exact h_member6 hH m
  by_cases k7 : x = 7
  · subst k7; exact h_member7 hH m
  exact h_memberE hH m ⟨k0, k1, k2, k3, k4, k5, k6, k7⟩
set_option maxRecDepth 100000 in
theorem h_field0 {Λ : hc_L} {I : hc_I} {L : hc_J} {R : hc_R} {S : HS} (hH : HW Λ I L R S) (f : Int32) : Run xX10_field [.ref 0, .int f, .int 0] Λ I L R (HPost (some (.long (qField (sA S) (sP S) f 0))) S Λ I L R) := by
  refine Run.of (by decide +kernel) (Nat.le_of_ble_eq_true rfl) ?_
  show LW _ _ _ [(0, .ref 0), (1, .int f), (2, .int 0)] _ _ _ _ _ _
  have hY := hH.y
  have hA := hH.s.w
  refine LW_aloadn 0 dX10_field_0 rfl rfl ?_
  refine gX10_1 dX10_field_1 flX10_19 (hY.lt (k := 0) (by decide)) (ly0 hY) (lf0_1 hY) ?_
  refine LW_iloadn 1 dX10_field_4 rfl rfl ?_
  refine LW_callV (As := [.int f]) (b := 3) (st := []) (ci := 6) (r := (RX6, TX6, 15)) (r_isFieldKnown hH.s f) YX6_isFieldKnown rfl dX10_field_5 mlX10_218 (hY.lt (k := 3) (by decide)) (ly3 hY) ⟨rfl, rfl⟩ (by decide) ⟨Nat.le_of_ble_eq_true rfl, Nat.le_of_ble_eq_true rfl⟩ (Nat.le_of_ble_eq_true rfl) rfl (fun r5 Λc5 Ic5 Lc5 Rc5 hq5 => ?_)
  obtain ⟨rfl, rfl, rfl, rfl, rfl⟩ := hq5
  refine LW_bif_ne (tgt := 15) dX10_field_8 (by decide) (fun c8 => ?_) (fun c8 => ?_)
  · obtain ⟨k, hk, rfl⟩ : ∃ k, k < aF (sA S) ∧ f = nI k := ⟨_, (aFkX_k hA c8).2, (aFkX_k hA c8).1⟩
    have hk24 : k < 24 := Nat.lt_of_lt_of_le hk hA.f
    have hk31 : k < 2 ^ 31 := by omega
    obtain ⟨r, hr, hfd⟩ := hH.s.fd hk
    have hwk := hA.2.2.2.2.2.2.2.1 k hk
    have hm12 := hA.m
    have hl100 := aLost_le (sA S) k
    refine LW_aloadn 0 dX10_field_15 rfl rfl ?_
    refine gX10_1 dX10_field_16 flX10_19 (hY.lt (k := 0) (by decide)) (ly0 hY) (lf0_1 hY) ?_
    refine gX6_7 dX10_field_19 flX10_221 (hY.lt (k := 3) (by decide)) (ly3 hY) (lf3_7 hY) ?_
    refine LW_iloadn 1 dX10_field_22 rfl rfl ?_
    refine LW_aald4s (r := r) dX10_field_23 (hY.lt (k := 11) (by decide)) (ly11 hY) rfl hk24 (Nat.le_of_ble_eq_true rfl) hr ?_
    refine LW_astoren (ls' := [(0, .ref 0), (1, .int (nI k)), (2, .int 0), (3, .ref r)]) dX10_field_24 rfl (by decide) rfl ?_
    refine LW_aloadn 0 dX10_field_25 rfl rfl ?_
    refine gX10_1 dX10_field_26 flX10_19 (hY.lt (k := 0) (by decide)) (ly0 hY) (lf0_1 hY) ?_
    refine LW_iloadn 1 dX10_field_29 rfl rfl ?_
    refine LW_callV (As := [.int (nI k)]) (b := 3) (st := []) (ci := 6) (r := (RX6, TX6, 15)) (r_standsN hH.s hk31) YX6_stands rfl dX10_field_30 mlX10_225 (hY.lt (k := 3) (by decide)) (ly3 hY) ⟨rfl, rfl⟩ (by decide) ⟨Nat.le_of_ble_eq_true rfl, Nat.le_of_ble_eq_true rfl⟩ (Nat.le_of_ble_eq_true rfl) rfl (fun r30 Λc30 Ic30 Lc30 Rc30 hq30 => ?_)
    obtain ⟨rfl, rfl, rfl, rfl, rfl⟩ := hq30
    refine LW_istore (ls' := [(0, .ref 0), (1, .int (nI k)), (2, .int 0), (3, .ref r), (4, .int (hc_b (aSt (sA S) k)))]) dX10_field_33 (by decide) rfl ?_
    refine LW_iloadn 2 dX10_field_35 rfl rfl ?_
    refine LW_tableIn (off := 56) (tgt := 92) dX10_field_36 (by decide) (by decide) (by decide) (by decide) ?_
    refine LW_aloadn 3 dX10_field_92 rfl rfl ?_
    refine gX2_0 dX10_field_93 flX10_228 hfd.1 hfd.2.1 ?_
    rw [show I r 0 = nI (aFd (sA S) k 0) from hfd.2.2 0 (by decide)]
    refine LW_i2l dX10_field_96 ?_
    rw [show (nI (aFd (sA S) k 0)).toInt64 = lN (aFd (sA S) k 0) from (nI_l (by omega))]
    refine LW_lret dX10_field_97 rfl (Nat.le_of_ble_eq_true rfl) (Nat.le_of_ble_eq_true rfl) ?_
    exact HPost.r hH (by unfold qField; rw [if_pos c8, if_pos rfl, hc_cl hk31])
  · refine LW_ldc2 dX10_field_11 klX10_179 ?_
    refine LW_lret dX10_field_14 rfl (Nat.le_of_ble_eq_true rfl) (Nat.le_of_ble_eq_true rfl) ?_
    exact HPost.r hH (by unfold qField; rw [if_neg (by rw [c8]; decide)])
set_option maxRecDepth 100000 in
theorem h_field1 {Λ : hc_L} {I : hc_I} {L : hc_J} {R : hc_R} {S : HS} (hH : HW Λ I L R S) (f : Int32) : Run xX10_field [.ref 0, .int f, .int 1] Λ I L R (HPost (some (.long (qField (sA S) (sP S) f 1))) S Λ I L R) := by
  refine Run.of (by decide +kernel) (Nat.le_of_ble_eq_true rfl) ?_
  show LW _ _ _ [(0, .ref 0), (1, .int f), (2, .int 1)] _ _ _ _ _ _
  have hY := hH.y
  have hA := hH.s.w
  refine LW_aloadn 0 dX10_field_0 rfl rfl ?_
  refine gX10_1 dX10_field_1 flX10_19 (hY.lt (k := 0) (by decide)) (ly0 hY) (lf0_1 hY) ?_
  refine LW_iloadn 1 dX10_field_4 rfl rfl ?_
  refine LW_callV (As := [.int f]) (b := 3) (st := []) (ci := 6) (r := (RX6, TX6, 15)) (r_isFieldKnown hH.s f) YX6_isFieldKnown rfl dX10_field_5 mlX10_218 (hY.lt (k := 3) (by decide)) (ly3 hY) ⟨rfl, rfl⟩ (by decide) ⟨Nat.le_of_ble_eq_true rfl, Nat.le_of_ble_eq_true rfl⟩ (Nat.le_of_ble_eq_true rfl) rfl (fun r5 Λc5 Ic5 Lc5 Rc5 hq5 => ?_)
  obtain ⟨rfl, rfl, rfl, rfl, rfl⟩ := hq5
  refine LW_bif_ne (tgt := 15) dX10_field_8 (by decide) (fun c8 => ?_) (fun c8 => ?_)
  · obtain ⟨k, hk, rfl⟩ : ∃ k, k < aF (sA S) ∧ f = nI k := ⟨_, (aFkX_k hA c8).2, (aFkX_k hA c8).1⟩
    have hk24 : k < 24 := Nat.lt_of_lt_of_le hk hA.f
    have hk31 : k < 2 ^ 31 := by omega
    obtain ⟨r, hr, hfd⟩ := hH.s.fd hk
    have hwk := hA.2.2.2.2.2.2.2.1 k hk
    have hm12 := hA.m
    have hl100 := aLost_le (sA S) k
    refine LW_aloadn 0 dX10_field_15 rfl rfl ?_
    refine gX10_1 dX10_field_16 flX10_19 (hY.lt (k := 0) (by decide)) (ly0 hY) (lf0_1 hY) ?_
    refine gX6_7 dX10_field_19 flX10_221 (hY.lt (k := 3) (by decide)) (ly3 hY) (lf3_7 hY) ?_
    refine LW_iloadn 1 dX10_field_22 rfl rfl ?_
    refine LW_aald4s (r := r) dX10_field_23 (hY.lt (k := 11) (by decide)) (ly11 hY) rfl hk24 (Nat.le_of_ble_eq_true rfl) hr ?_
    refine LW_astoren (ls' := [(0, .ref 0), (1, .int (nI k)), (2, .int 1), (3, .ref r)]) dX10_field_24 rfl (by decide) rfl ?_
    refine LW_aloadn 0 dX10_field_25 rfl rfl ?_
    refine gX10_1 dX10_field_26 flX10_19 (hY.lt (k := 0) (by decide)) (ly0 hY) (lf0_1 hY) ?_
    refine LW_iloadn 1 dX10_field_29 rfl rfl ?_
    refine LW_callV (As := [.int (nI k)]) (b := 3) (st := []) (ci := 6) (r := (RX6, TX6, 15)) (r_standsN hH.s hk31) YX6_stands rfl dX10_field_30 mlX10_225 (hY.lt (k := 3) (by decide)) (ly3 hY) ⟨rfl, rfl⟩ (by decide) ⟨Nat.le_of_ble_eq_true rfl, Nat.le_of_ble_eq_true rfl⟩ (Nat.le_of_ble_eq_true rfl) rfl (fun r30 Λc30 Ic30 Lc30 Rc30 hq30 => ?_)
    obtain ⟨rfl, rfl, rfl, rfl, rfl⟩ := hq30
    refine LW_istore (ls' := [(0, .ref 0), (1, .int (nI k)), (2, .int 1), (3, .ref r), (4, .int (hc_b (aSt (sA S) k)))]) dX10_field_33 (by decide) rfl ?_
    refine LW_iloadn 2 dX10_field_35 rfl rfl ?_
    refine LW_tableIn (off := 62) (tgt := 98) dX10_field_36 (by decide) (by decide) (by decide) (by decide) ?_
    refine LW_aloadn 3 dX10_field_98 rfl rfl ?_
    refine gX2_1 dX10_field_99 flX10_233 hfd.1 hfd.2.1 ?_
    rw [show I r 1 = nI (aFd (sA S) k 1) from hfd.2.2 1 (by decide)]
    refine LW_i2l dX10_field_102 ?_
    rw [show (nI (aFd (sA S) k 1)).toInt64 = lN (aFd (sA S) k 1) from (nI_l (by omega))]
    refine LW_lret dX10_field_103 rfl (Nat.le_of_ble_eq_true rfl) (Nat.le_of_ble_eq_true rfl) ?_
    exact HPost.r hH (by unfold qField; rw [if_pos c8, if_neg (by decide), if_pos rfl, hc_cl hk31])
  · refine LW_ldc2 dX10_field_11 klX10_179 ?_
    refine LW_lret dX10_field_14 rfl (Nat.le_of_ble_eq_true rfl) (Nat.le_of_ble_eq_true rfl) ?_
    exact HPost.r hH (by unfold qField; rw [if_neg (by rw [c8]; decide)])
set_option maxRecDepth 100000 in
theorem h_field2 {Λ : hc_L} {I : hc_I} {L : hc_J} {R : hc_R} {S : HS} (hH : HW Λ I L R S) (f : Int32) : Run xX10_field [.ref 0, .int f, .int 2] Λ I L R (HPost (some (.long (qField (sA S) (sP S) f 2))) S Λ I L R) := by
  refine Run.of (by decide +kernel) (Nat.le_of_ble_eq_true rfl) ?_
  show LW _ _ _ [(0, .ref 0), (1, .int f), (2, .int 2)] _ _ _ _ _ _
  have hY := hH.y
  have hA := hH.s.w
  refine LW_aloadn 0 dX10_field_0 rfl rfl ?_
  refine gX10_1 dX10_field_1 flX10_19 (hY.lt (k := 0) (by decide)) (ly0 hY) (lf0_1 hY) ?_
  refine LW_iloadn 1 dX10_field_4 rfl rfl ?_
  refine LW_callV (As := [.int f]) (b := 3) (st := []) (ci := 6) (r := (RX6, TX6, 15)) (r_isFieldKnown hH.s f) YX6_isFieldKnown rfl dX10_field_5 mlX10_218 (hY.lt (k := 3) (by decide)) (ly3 hY) ⟨rfl, rfl⟩ (by decide) ⟨Nat.le_of_ble_eq_true rfl, Nat.le_of_ble_eq_true rfl⟩ (Nat.le_of_ble_eq_true rfl) rfl (fun r5 Λc5 Ic5 Lc5 Rc5 hq5 => ?_)
  obtain ⟨rfl, rfl, rfl, rfl, rfl⟩ := hq5
  refine LW_bif_ne (tgt := 15) dX10_field_8 (by decide) (fun c8 => ?_) (fun c8 => ?_)
  · obtain ⟨k, hk, rfl⟩ : ∃ k, k < aF (sA S) ∧ f = nI k := ⟨_, (aFkX_k hA c8).2, (aFkX_k hA c8).1⟩
    have hk24 : k < 24 := Nat.lt_of_lt_of_le hk hA.f
    have hk31 : k < 2 ^ 31 := by omega
    obtain ⟨r, hr, hfd⟩ := hH.s.fd hk
    have hwk := hA.2.2.2.2.2.2.2.1 k hk
    have hm12 := hA.m
    have hl100 := aLost_le (sA S) k
    refine LW_aloadn 0 dX10_field_15 rfl rfl ?_
    refine gX10_1 dX10_field_16 flX10_19 (hY.lt (k := 0) (by decide)) (ly0 hY) (lf0_1 hY) ?_
    refine gX6_7 dX10_field_19 flX10_221 (hY.lt (k := 3) (by decide)) (ly3 hY) (lf3_7 hY) ?_
    refine LW_iloadn 1 dX10_field_22 rfl rfl ?_
    refine LW_aald4s (r := r) dX10_field_23 (hY.lt (k := 11) (by decide)) (ly11 hY) rfl hk24 (Nat.le_of_ble_eq_true rfl) hr ?_
    refine LW_astoren (ls' := [(0, .ref 0), (1, .int (nI k)), (2, .int 2), (3, .ref r)]) dX10_field_24 rfl (by decide) rfl ?_
    refine LW_aloadn 0 dX10_field_25 rfl rfl ?_
    refine gX10_1 dX10_field_26 flX10_19 (hY.lt (k := 0) (by decide)) (ly0 hY) (lf0_1 hY) ?_
    refine LW_iloadn 1 dX10_field_29 rfl rfl ?_
    refine LW_callV (As := [.int (nI k)]) (b := 3) (st := []) (ci := 6) (r := (RX6, TX6, 15)) (r_standsN hH.s hk31) YX6_stands rfl dX10_field_30 mlX10_225 (hY.lt (k := 3) (by decide)) (ly3 hY) ⟨rfl, rfl⟩ (by decide) ⟨Nat.le_of_ble_eq_true rfl, Nat.le_of_ble_eq_true rfl⟩ (Nat.le_of_ble_eq_true rfl) rfl (fun r30 Λc30 Ic30 Lc30 Rc30 hq30 => ?_)
    obtain ⟨rfl, rfl, rfl, rfl, rfl⟩ := hq30
    refine LW_istore (ls' := [(0, .ref 0), (1, .int (nI k)), (2, .int 2), (3, .ref r), (4, .int (hc_b (aSt (sA S) k)))]) dX10_field_33 (by decide) rfl ?_
    refine LW_iloadn 2 dX10_field_35 rfl rfl ?_
    refine LW_tableIn (off := 68) (tgt := 104) dX10_field_36 (by decide) (by decide) (by decide) (by decide) ?_
    refine LW_aloadn 3 dX10_field_104 rfl rfl ?_
    refine gX2_2 dX10_field_105 flX10_236 hfd.1 hfd.2.1 ?_
    rw [show I r 2 = nI (aFd (sA S) k 2) from hfd.2.2 2 (by decide)]
    refine LW_i2l dX10_field_108 ?_
    rw [show (nI (aFd (sA S) k 2)).toInt64 = lN (aFd (sA S) k 2) from (nI_l (by omega))]
    refine LW_lret dX10_field_109 rfl (Nat.le_of_ble_eq_true rfl) (Nat.le_of_ble_eq_true rfl) ?_
    exact HPost.r hH (by unfold qField; rw [if_pos c8, if_neg (by decide), if_neg (by decide), if_pos rfl, hc_cl hk31])
  · refine LW_ldc2 dX10_field_11 klX10_179 ?_
    refine LW_lret dX10_field_14 rfl (Nat.le_of_ble_eq_true rfl) (Nat.le_of_ble_eq_true rfl) ?_
    exact HPost.r hH (by unfold qField; rw [if_neg (by rw [c8]; decide)])
set_option maxRecDepth 100000 in
theorem h_field3 {Λ : hc_L} {I : hc_I} {L : hc_J} {R : hc_R} {S : HS} (hH : HW Λ I L R S) (f : Int32) : Run xX10_field [.ref 0, .int f, .int 3] Λ I L R (HPost (some (.long (qField (sA S) (sP S) f 3))) S Λ I L R) := by
  refine Run.of (by decide +kernel) (Nat.le_of_ble_eq_true rfl) ?_
  show LW _ _ _ [(0, .ref 0), (1, .int f), (2, .int 3)] _ _ _ _ _ _
  have hY := hH.y
  have hA := hH.s.w
  refine LW_aloadn 0 dX10_field_0 rfl rfl ?_
  refine gX10_1 dX10_field_1 flX10_19 (hY.lt (k := 0) (by decide)) (ly0 hY) (lf0_1 hY) ?_
  refine LW_iloadn 1 dX10_field_4 rfl rfl ?_
  refine LW_callV (As := [.int f]) (b := 3) (st := []) (ci := 6) (r := (RX6, TX6, 15)) (r_isFieldKnown hH.s f) YX6_isFieldKnown rfl dX10_field_5 mlX10_218 (hY.lt (k := 3) (by decide)) (ly3 hY) ⟨rfl, rfl⟩ (by decide) ⟨Nat.le_of_ble_eq_true rfl, Nat.le_of_ble_eq_true rfl⟩ (Nat.le_of_ble_eq_true rfl) rfl (fun r5 Λc5 Ic5 Lc5 Rc5 hq5 => ?_)
  obtain ⟨rfl, rfl, rfl, rfl, rfl⟩ := hq5
  refine LW_bif_ne (tgt := 15) dX10_field_8 (by decide) (fun c8 => ?_) (fun c8 => ?_)
  · obtain ⟨k, hk, rfl⟩ : ∃ k, k < aF (sA S) ∧ f = nI k := ⟨_, (aFkX_k hA c8).2, (aFkX_k hA c8).1⟩
    have hk24 : k < 24 := Nat.lt_of_lt_of_le hk hA.f
    have hk31 : k < 2 ^ 31 := by omega
    obtain ⟨r, hr, hfd⟩ := hH.s.fd hk
    have hwk := hA.2.2.2.2.2.2.2.1 k hk
    have hm12 := hA.m
    have hl100 := aLost_le (sA S) k
    refine LW_aloadn 0 dX10_field_15 rfl rfl ?_
    refine gX10_1 dX10_field_16 flX10_19 (hY.lt (k := 0) (by decide)) (ly0 hY) (lf0_1 hY) ?_
    refine gX6_7 dX10_field_19 flX10_221 (hY.lt (k := 3) (by decide)) (ly3 hY) (lf3_7 hY) ?_
    refine LW_iloadn 1 dX10_field_22 rfl rfl ?_
    refine LW_aald4s (r := r) dX10_field_23 (hY.lt (k := 11) (by decide)) (ly11 hY) rfl hk24 (Nat.le_of_ble_eq_true rfl) hr ?_
    refine LW_astoren (ls' := [(0, .ref 0), (1, .int (nI k)), (2, .int 3), (3, .ref r)]) dX10_field_24 rfl (by decide) rfl ?_
    refine LW_aloadn 0 dX10_field_25 rfl rfl ?_
    refine gX10_1 dX10_field_26 flX10_19 (hY.lt (k := 0) (by decide)) (ly0 hY) (lf0_1 hY) ?_
    refine LW_iloadn 1 dX10_field_29 rfl rfl ?_
    refine LW_callV (As := [.int (nI k)]) (b := 3) (st := []) (ci := 6) (r := (RX6, TX6, 15)) (r_standsN hH.s hk31) YX6_stands rfl dX10_field_30 mlX10_225 (hY.lt (k := 3) (by decide)) (ly3 hY) ⟨rfl, rfl⟩ (by decide) ⟨Nat.le_of_ble_eq_true rfl, Nat.le_of_ble_eq_true rfl⟩ (Nat.le_of_ble_eq_true rfl) rfl (fun r30 Λc30 Ic30 Lc30 Rc30 hq30 => ?_)
    obtain ⟨rfl, rfl, rfl, rfl, rfl⟩ := hq30
    refine LW_istore (ls' := [(0, .ref 0), (1, .int (nI k)), (2, .int 3), (3, .ref r), (4, .int (hc_b (aSt (sA S) k)))]) dX10_field_33 (by decide) rfl ?_
    refine LW_iloadn 2 dX10_field_35 rfl rfl ?_
    refine LW_tableIn (off := 74) (tgt := 110) dX10_field_36 (by decide) (by decide) (by decide) (by decide) ?_
    refine LW_aloadn 3 dX10_field_110 rfl rfl ?_
    refine gX2_3 dX10_field_111 flX10_239 hfd.1 hfd.2.1 ?_
    rw [show I r 3 = nI (aFd (sA S) k 3) from hfd.2.2 3 (by decide)]
    refine LW_i2l dX10_field_114 ?_
    rw [show (nI (aFd (sA S) k 3)).toInt64 = lN (aFd (sA S) k 3) from (nI_l (by omega))]
    refine LW_lret dX10_field_115 rfl (Nat.le_of_ble_eq_true rfl) (Nat.le_of_ble_eq_true rfl) ?_
    exact HPost.r hH (by unfold qField; rw [if_pos c8, if_neg (by decide), if_neg (by decide), if_neg (by decide), if_pos rfl, hc_cl hk31])
  · refine LW_ldc2 dX10_field_11 klX10_179 ?_
    refine LW_lret dX10_field_14 rfl (Nat.le_of_ble_eq_true rfl) (Nat.le_of_ble_eq_true rfl) ?_
    exact HPost.r hH (by unfold qField; rw [if_neg (by rw [c8]; decide)])
set_option maxRecDepth 100000 in
theorem h_field4 {Λ : hc_L} {I : hc_I} {L : hc_J} {R : hc_R} {S : HS} (hH : HW Λ I L R S) (f : Int32) : Run xX10_field [.ref 0, .int f, .int 4] Λ I L R (HPost (some (.long (qField (sA S) (sP S) f 4))) S Λ I L R) := by
  refine Run.of (by decide +kernel) (Nat.le_of_ble_eq_true rfl) ?_
  show LW _ _ _ [(0, .ref 0), (1, .int f), (2, .int 4)] _ _ _ _ _ _
  have hY := hH.y
  have hA := hH.s.w
  refine LW_aloadn 0 dX10_field_0 rfl rfl ?_
  refine gX10_1 dX10_field_1 flX10_19 (hY.lt (k := 0) (by decide)) (ly0 hY) (lf0_1 hY) ?_
  refine LW_iloadn 1 dX10_field_4 rfl rfl ?_
  refine LW_callV (As := [.int f]) (b := 3) (st := []) (ci := 6) (r := (RX6, TX6, 15)) (r_isFieldKnown hH.s f) YX6_isFieldKnown rfl dX10_field_5 mlX10_218 (hY.lt (k := 3) (by decide)) (ly3 hY) ⟨rfl, rfl⟩ (by decide) ⟨Nat.le_of_ble_eq_true rfl, Nat.le_of_ble_eq_true rfl⟩ (Nat.le_of_ble_eq_true rfl) rfl (fun r5 Λc5 Ic5 Lc5 Rc5 hq5 => ?_)
  obtain ⟨rfl, rfl, rfl, rfl, rfl⟩ := hq5
  refine LW_bif_ne (tgt := 15) dX10_field_8 (by decide) (fun c8 => ?_) (fun c8 => ?_)
  · obtain ⟨k, hk, rfl⟩ : ∃ k, k < aF (sA S) ∧ f = nI k := ⟨_, (aFkX_k hA c8).2, (aFkX_k hA c8).1⟩
    have hk24 : k < 24 := Nat.lt_of_lt_of_le hk hA.f
    have hk31 : k < 2 ^ 31 := by omega
    obtain ⟨r, hr, hfd⟩ := hH.s.fd hk
    have hwk := hA.2.2.2.2.2.2.2.1 k hk
    have hm12 := hA.m
    have hl100 := aLost_le (sA S) k
    refine LW_aloadn 0 dX10_field_15 rfl rfl ?_
    refine gX10_1 dX10_field_16 flX10_19 (hY.lt (k := 0) (by decide)) (ly0 hY) (lf0_1 hY) ?_
    refine gX6_7 dX10_field_19 flX10_221 (hY.lt (k := 3) (by decide)) (ly3 hY) (lf3_7 hY) ?_
    refine LW_iloadn 1 dX10_field_22 rfl rfl ?_
    refine LW_aald4s (r := r) dX10_field_23 (hY.lt (k := 11) (by decide)) (ly11 hY) rfl hk24 (Nat.le_of_ble_eq_true rfl) hr ?_
    refine LW_astoren (ls' := [(0, .ref 0), (1, .int (nI k)), (2, .int 4), (3, .ref r)]) dX10_field_24 rfl (by decide) rfl ?_
    refine LW_aloadn 0 dX10_field_25 rfl rfl ?_
    refine gX10_1 dX10_field_26 flX10_19 (hY.lt (k := 0) (by decide)) (ly0 hY) (lf0_1 hY) ?_
    refine LW_iloadn 1 dX10_field_29 rfl rfl ?_
    refine LW_callV (As := [.int (nI k)]) (b := 3) (st := []) (ci := 6) (r := (RX6, TX6, 15)) (r_standsN hH.s hk31) YX6_stands rfl dX10_field_30 mlX10_225 (hY.lt (k := 3) (by decide)) (ly3 hY) ⟨rfl, rfl⟩ (by decide) ⟨Nat.le_of_ble_eq_true rfl, Nat.le_of_ble_eq_true rfl⟩ (Nat.le_of_ble_eq_true rfl) rfl (fun r30 Λc30 Ic30 Lc30 Rc30 hq30 => ?_)
    obtain ⟨rfl, rfl, rfl, rfl, rfl⟩ := hq30
    refine LW_istore (ls' := [(0, .ref 0), (1, .int (nI k)), (2, .int 4), (3, .ref r), (4, .int (hc_b (aSt (sA S) k)))]) dX10_field_33 (by decide) rfl ?_
    refine LW_iloadn 2 dX10_field_35 rfl rfl ?_
    refine LW_tableIn (off := 80) (tgt := 116) dX10_field_36 (by decide) (by decide) (by decide) (by decide) ?_
    refine LW_aloadn 3 dX10_field_116 rfl rfl ?_
    refine gX2_4 dX10_field_117 flX10_242 hfd.1 hfd.2.1 ?_
    rw [show I r 4 = nI (aFd (sA S) k 4) from hfd.2.2 4 (by decide)]
    refine LW_i2l dX10_field_120 ?_
    rw [show (nI (aFd (sA S) k 4)).toInt64 = lN (aFd (sA S) k 4) from (nI_l (by omega))]
    refine LW_lret dX10_field_121 rfl (Nat.le_of_ble_eq_true rfl) (Nat.le_of_ble_eq_true rfl) ?_
    exact HPost.r hH (by unfold qField; rw [if_pos c8, if_neg (by decide), if_neg (by decide), if_neg (by decide), if_neg (by decide), if_pos rfl, hc_cl hk31])
  · refine LW_ldc2 dX10_field_11 klX10_179 ?_
    refine LW_lret dX10_field_14 rfl (Nat.le_of_ble_eq_true rfl) (Nat.le_of_ble_eq_true rfl) ?_
    exact HPost.r hH (by unfold qField; rw [if_neg (by rw [c8]; decide)])
set_option maxRecDepth 100000 in
theorem h_field5 {Λ : hc_L} {I : hc_I} {L : hc_J} {R : hc_R} {S : HS} (hH : HW Λ I L R S) (f : Int32) : Run xX10_field [.ref 0, .int f, .int 5] Λ I L R (HPost (some (.long (qField (sA S) (sP S) f 5))) S Λ I L R) := by
  refine Run.of (by decide +kernel) (Nat.le_of_ble_eq_true rfl) ?_
  show LW _ _ _ [(0, .ref 0), (1, .int f), (2, .int 5)] _ _ _ _ _ _
  have hY := hH.y
  have hA := hH.s.w
  refine LW_aloadn 0 dX10_field_0 rfl rfl ?_
  refine gX10_1 dX10_field_1 flX10_19 (hY.lt (k := 0) (by decide)) (ly0 hY) (lf0_1 hY) ?_
  refine LW_iloadn 1 dX10_field_4 rfl rfl ?_
  refine LW_callV (As := [.int f]) (b := 3) (st := []) (ci := 6) (r := (RX6, TX6, 15)) (r_isFieldKnown hH.s f) YX6_isFieldKnown rfl dX10_field_5 mlX10_218 (hY.lt (k := 3) (by decide)) (ly3 hY) ⟨rfl, rfl⟩ (by decide) ⟨Nat.le_of_ble_eq_true rfl, Nat.le_of_ble_eq_true rfl⟩ (Nat.le_of_ble_eq_true rfl) rfl (fun r5 Λc5 Ic5 Lc5 Rc5 hq5 => ?_)
  obtain ⟨rfl, rfl, rfl, rfl, rfl⟩ := hq5
  refine LW_bif_ne (tgt := 15) dX10_field_8 (by decide) (fun c8 => ?_) (fun c8 => ?_)
  · obtain ⟨k, hk, rfl⟩ : ∃ k, k < aF (sA S) ∧ f = nI k := ⟨_, (aFkX_k hA c8).2, (aFkX_k hA c8).1⟩
    have hk24 : k < 24 := Nat.lt_of_lt_of_le hk hA.f
    have hk31 : k < 2 ^ 31 := by omega
    obtain ⟨r, hr, hfd⟩ := hH.s.fd hk
    have hwk := hA.2.2.2.2.2.2.2.1 k hk
    have hm12 := hA.m
    have hl100 := aLost_le (sA S) k
    refine LW_aloadn 0 dX10_field_15 rfl rfl ?_
    refine gX10_1 dX10_field_16 flX10_19 (hY.lt (k := 0) (by decide)) (ly0 hY) (lf0_1 hY) ?_
    refine gX6_7 dX10_field_19 flX10_221 (hY.lt (k := 3) (by decide)) (ly3 hY) (lf3_7 hY) ?_
    refine LW_iloadn 1 dX10_field_22 rfl rfl ?_
    refine LW_aald4s (r := r) dX10_field_23 (hY.lt (k := 11) (by decide)) (ly11 hY) rfl hk24 (Nat.le_of_ble_eq_true rfl) hr ?_
    refine LW_astoren (ls' := [(0, .ref 0), (1, .int (nI k)), (2, .int 5), (3, .ref r)]) dX10_field_24 rfl (by decide) rfl ?_
    refine LW_aloadn 0 dX10_field_25 rfl rfl ?_
    refine gX10_1 dX10_field_26 flX10_19 (hY.lt (k := 0) (by decide)) (ly0 hY) (lf0_1 hY) ?_
    refine LW_iloadn 1 dX10_field_29 rfl rfl ?_
    refine LW_callV (As := [.int (nI k)]) (b := 3) (st := []) (ci := 6) (r := (RX6, TX6, 15)) (r_standsN hH.s hk31) YX6_stands rfl dX10_field_30 mlX10_225 (hY.lt (k := 3) (by decide)) (ly3 hY) ⟨rfl, rfl⟩ (by decide) ⟨Nat.le_of_ble_eq_true rfl, Nat.le_of_ble_eq_true rfl⟩ (Nat.le_of_ble_eq_true rfl) rfl (fun r30 Λc30 Ic30 Lc30 Rc30 hq30 => ?_)
    obtain ⟨rfl, rfl, rfl, rfl, rfl⟩ := hq30
    refine LW_istore (ls' := [(0, .ref 0), (1, .int (nI k)), (2, .int 5), (3, .ref r), (4, .int (hc_b (aSt (sA S) k)))]) dX10_field_33 (by decide) rfl ?_
    refine LW_iloadn 2 dX10_field_35 rfl rfl ?_
    refine LW_tableIn (off := 86) (tgt := 122) dX10_field_36 (by decide) (by decide) (by decide) (by decide) ?_
    refine LW_aloadn 3 dX10_field_122 rfl rfl ?_
    refine gX2_5 dX10_field_123 flX10_245 hfd.1 hfd.2.1 ?_
    rw [show I r 5 = nI (aFd (sA S) k 5) from hfd.2.2 5 (by decide)]
    refine LW_i2l dX10_field_126 ?_
    rw [show (nI (aFd (sA S) k 5)).toInt64 = lN (aFd (sA S) k 5) from (nI_l (by omega))]
    refine LW_lret dX10_field_127 rfl (Nat.le_of_ble_eq_true rfl) (Nat.le_of_ble_eq_true rfl) ?_
    exact HPost.r hH (by unfold qField; rw [if_pos c8, if_neg (by decide), if_neg (by decide), if_neg (by decide), if_neg (by decide), if_neg (by decide), if_pos rfl, hc_cl hk31])
  · refine LW_ldc2 dX10_field_11 klX10_179 ?_
    refine LW_lret dX10_field_14 rfl (Nat.le_of_ble_eq_true rfl) (Nat.le_of_ble_eq_true rfl) ?_
    exact HPost.r hH (by unfold qField; rw [if_neg (by rw [c8]; decide)])
set_option maxRecDepth 100000 in
theorem h_field6 {Λ : hc_L} {I : hc_I} {L : hc_J} {R : hc_R} {S : HS} (hH : HW Λ I L R S) (f : Int32) : Run xX10_field [.ref 0, .int f, .int 6] Λ I L R (HPost (some (.long (qField (sA S) (sP S) f 6))) S Λ I L R) := by
  refine Run.of (by decide +kernel) (Nat.le_of_ble_eq_true rfl) ?_
  show LW _ _ _ [(0, .ref 0), (1, .int f), (2, .int 6)] _ _ _ _ _ _
  have hY := hH.y
  have hA := hH.s.w
  refine LW_aloadn 0 dX10_field_0 rfl rfl ?_
  refine gX10_1 dX10_field_1 flX10_19 (hY.lt (k := 0) (by decide)) (ly0 hY) (lf0_1 hY) ?_
  refine LW_iloadn 1 dX10_field_4 rfl rfl ?_
  refine LW_callV (As := [.int f]) (b := 3) (st := []) (ci := 6) (r := (RX6, TX6, 15)) (r_isFieldKnown hH.s f) YX6_isFieldKnown rfl dX10_field_5 mlX10_218 (hY.lt (k := 3) (by decide)) (ly3 hY) ⟨rfl, rfl⟩ (by decide) ⟨Nat.le_of_ble_eq_true rfl, Nat.le_of_ble_eq_true rfl⟩ (Nat.le_of_ble_eq_true rfl) rfl (fun r5 Λc5 Ic5 Lc5 Rc5 hq5 => ?_)
  obtain ⟨rfl, rfl, rfl, rfl, rfl⟩ := hq5
  refine LW_bif_ne (tgt := 15) dX10_field_8 (by decide) (fun c8 => ?_) (fun c8 => ?_)
  · obtain ⟨k, hk, rfl⟩ : ∃ k, k < aF (sA S) ∧ f = nI k := ⟨_, (aFkX_k hA c8).2, (aFkX_k hA c8).1⟩
    have hk24 : k < 24 := Nat.lt_of_lt_of_le hk hA.f
    have hk31 : k < 2 ^ 31 := by omega
    obtain ⟨r, hr, hfd⟩ := hH.s.fd hk
    have hwk := hA.2.2.2.2.2.2.2.1 k hk
    have hm12 := hA.m
    have hl100 := aLost_le (sA S) k
    refine LW_aloadn 0 dX10_field_15 rfl rfl ?_
    refine gX10_1 dX10_field_16 flX10_19 (hY.lt (k := 0) (by decide)) (ly0 hY) (lf0_1 hY) ?_
    refine gX6_7 dX10_field_19 flX10_221 (hY.lt (k := 3) (by decide)) (ly3 hY) (lf3_7 hY) ?_
    refine LW_iloadn 1 dX10_field_22 rfl rfl ?_
    refine LW_aald4s (r := r) dX10_field_23 (hY.lt (k := 11) (by decide)) (ly11 hY) rfl hk24 (Nat.le_of_ble_eq_true rfl) hr ?_
    refine LW_astoren (ls' := [(0, .ref 0), (1, .int (nI k)), (2, .int 6), (3, .ref r)]) dX10_field_24 rfl (by decide) rfl ?_
    refine LW_aloadn 0 dX10_field_25 rfl rfl ?_
    refine gX10_1 dX10_field_26 flX10_19 (hY.lt (k := 0) (by decide)) (ly0 hY) (lf0_1 hY) ?_
    refine LW_iloadn 1 dX10_field_29 rfl rfl ?_
    refine LW_callV (As := [.int (nI k)]) (b := 3) (st := []) (ci := 6) (r := (RX6, TX6, 15)) (r_standsN hH.s hk31) YX6_stands rfl dX10_field_30 mlX10_225 (hY.lt (k := 3) (by decide)) (ly3 hY) ⟨rfl, rfl⟩ (by decide) ⟨Nat.le_of_ble_eq_true rfl, Nat.le_of_ble_eq_true rfl⟩ (Nat.le_of_ble_eq_true rfl) rfl (fun r30 Λc30 Ic30 Lc30 Rc30 hq30 => ?_)
    obtain ⟨rfl, rfl, rfl, rfl, rfl⟩ := hq30
    refine LW_istore (ls' := [(0, .ref 0), (1, .int (nI k)), (2, .int 6), (3, .ref r), (4, .int (hc_b (aSt (sA S) k)))]) dX10_field_33 (by decide) rfl ?_
    refine LW_iloadn 2 dX10_field_35 rfl rfl ?_
    refine LW_tableIn (off := 92) (tgt := 128) dX10_field_36 (by decide) (by decide) (by decide) (by decide) ?_
    refine LW_iload 4 dX10_field_128 rfl ?_
    refine LW_bif_eq (tgt := 137) dX10_field_130 (by decide) (fun c130 => ?_) (fun c130 => ?_)
    · refine LW_lconst (v := 0) dX10_field_137 (by decide) ?_
      refine LW_lret dX10_field_138 rfl (Nat.le_of_ble_eq_true rfl) (Nat.le_of_ble_eq_true rfl) ?_
      exact HPost.r hH (by unfold qField; rw [if_pos c8, if_neg (by decide), if_neg (by decide), if_neg (by decide), if_neg (by decide), if_neg (by decide), if_neg (by decide), if_pos rfl, hc_cl hk31, if_neg (by rw [c130]; decide)])
    · refine LW_lconst (v := 1) dX10_field_133 (by decide) ?_
      refine LW_goto (tgt := 138) dX10_field_134 (by decide) ?_
      refine LW_lret dX10_field_138 rfl (Nat.le_of_ble_eq_true rfl) (Nat.le_of_ble_eq_true rfl) ?_
      exact HPost.r hH (by unfold qField; rw [if_pos c8, if_neg (by decide), if_neg (by decide), if_neg (by decide), if_neg (by decide), if_neg (by decide), if_neg (by decide), if_pos rfl, hc_cl hk31, if_pos c130])
  · refine LW_ldc2 dX10_field_11 klX10_179 ?_
    refine LW_lret dX10_field_14 rfl (Nat.le_of_ble_eq_true rfl) (Nat.le_of_ble_eq_true rfl) ?_
    exact HPost.r hH (by unfold qField; rw [if_neg (by rw [c8]; decide)])
set_option maxRecDepth 100000 in
theorem h_field7 {Λ : hc_L} {I : hc_I} {L : hc_J} {R : hc_R} {S : HS} (hH : HW Λ I L R S) (f : Int32) : Run xX10_field [.ref 0, .int f, .int 7] Λ I L R (HPost (some (.long (qField (sA S) (sP S) f 7))) S Λ I L R) := by
  refine Run.of (by decide +kernel) (Nat.le_of_ble_eq_true rfl) ?_
  show LW _ _ _ [(0, .ref 0), (1, .int f), (2, .int 7)] _ _ _ _ _ _
  have hY := hH.y
  have hA := hH.s.w
  refine LW_aloadn 0 dX10_field_0 rfl rfl ?_
  refine gX10_1 dX10_field_1 flX10_19 (hY.lt (k := 0) (by decide)) (ly0 hY) (lf0_1 hY) ?_
  refine LW_iloadn 1 dX10_field_4 rfl rfl ?_
  refine LW_callV (As := [.int f]) (b := 3) (st := []) (ci := 6) (r := (RX6, TX6, 15)) (r_isFieldKnown hH.s f) YX6_isFieldKnown rfl dX10_field_5 mlX10_218 (hY.lt (k := 3) (by decide)) (ly3 hY) ⟨rfl, rfl⟩ (by decide) ⟨Nat.le_of_ble_eq_true rfl, Nat.le_of_ble_eq_true rfl⟩ (Nat.le_of_ble_eq_true rfl) rfl (fun r5 Λc5 Ic5 Lc5 Rc5 hq5 => ?_)
  obtain ⟨rfl, rfl, rfl, rfl, rfl⟩ := hq5
  refine LW_bif_ne (tgt := 15) dX10_field_8 (by decide) (fun c8 => ?_) (fun c8 => ?_)
  · obtain ⟨k, hk, rfl⟩ : ∃ k, k < aF (sA S) ∧ f = nI k := ⟨_, (aFkX_k hA c8).2, (aFkX_k hA c8).1⟩
    have hk24 : k < 24 := Nat.lt_of_lt_of_le hk hA.f
    have hk31 : k < 2 ^ 31 := by omega
    obtain ⟨r, hr, hfd⟩ := hH.s.fd hk
    have hwk := hA.2.2.2.2.2.2.2.1 k hk
    have hm12 := hA.m
    have hl100 := aLost_le (sA S) k
    refine LW_aloadn 0 dX10_field_15 rfl rfl ?_
    refine gX10_1 dX10_field_16 flX10_19 (hY.lt (k := 0) (by decide)) (ly0 hY) (lf0_1 hY) ?_
    refine gX6_7 dX10_field_19 flX10_221 (hY.lt (k := 3) (by decide)) (ly3 hY) (lf3_7 hY) ?_
    refine LW_iloadn 1 dX10_field_22 rfl rfl ?_
    refine LW_aald4s (r := r) dX10_field_23 (hY.lt (k := 11) (by decide)) (ly11 hY) rfl hk24 (Nat.le_of_ble_eq_true rfl) hr ?_
    refine LW_astoren (ls' := [(0, .ref 0), (1, .int (nI k)), (2, .int 7), (3, .ref r)]) dX10_field_24 rfl (by decide) rfl ?_
    refine LW_aloadn 0 dX10_field_25 rfl rfl ?_
    refine gX10_1 dX10_field_26 flX10_19 (hY.lt (k := 0) (by decide)) (ly0 hY) (lf0_1 hY) ?_
    refine LW_iloadn 1 dX10_field_29 rfl rfl ?_
    refine LW_callV (As := [.int (nI k)]) (b := 3) (st := []) (ci := 6) (r := (RX6, TX6, 15)) (r_standsN hH.s hk31) YX6_stands rfl dX10_field_30 mlX10_225 (hY.lt (k := 3) (by decide)) (ly3 hY) ⟨rfl, rfl⟩ (by decide) ⟨Nat.le_of_ble_eq_true rfl, Nat.le_of_ble_eq_true rfl⟩ (Nat.le_of_ble_eq_true rfl) rfl (fun r30 Λc30 Ic30 Lc30 Rc30 hq30 => ?_)
    obtain ⟨rfl, rfl, rfl, rfl, rfl⟩ := hq30
    refine LW_istore (ls' := [(0, .ref 0), (1, .int (nI k)), (2, .int 7), (3, .ref r), (4, .int (hc_b (aSt (sA S) k)))]) dX10_field_33 (by decide) rfl ?_
    refine LW_iloadn 2 dX10_field_35 rfl rfl ?_
    refine LW_tableIn (off := 103) (tgt := 139) dX10_field_36 (by decide) (by decide) (by decide) (by decide) ?_
    refine LW_iload 4 dX10_field_139 rfl ?_
    refine LW_bif_eq (tgt := 156) dX10_field_141 (by decide) (fun c141 => ?_) (fun c141 => ?_)
    · refine LW_lconst (v := 0) dX10_field_156 (by decide) ?_
      refine LW_lret dX10_field_157 rfl (Nat.le_of_ble_eq_true rfl) (Nat.le_of_ble_eq_true rfl) ?_
      exact HPost.r hH (by unfold qField; rw [if_pos c8, if_neg (by decide), if_neg (by decide), if_neg (by decide), if_neg (by decide), if_neg (by decide), if_neg (by decide), if_neg (by decide), if_pos rfl, hc_cl hk31, if_neg (by rw [c141]; decide)])
    · refine LW_aloadn 0 dX10_field_144 rfl rfl ?_
      refine gX10_7 dX10_field_145 flX10_57 (hY.lt (k := 0) (by decide)) (ly0 hY) (lf0_7 hY) ?_
      refine LW_aloadn 3 dX10_field_148 rfl rfl ?_
      refine LW_callV (As := [.ref r]) (b := 198) (st := []) (ci := 0) (r := (RX0, TX0, 7)) (r_lost hY.as hH.s hk hfd) YX0_lost rfl dX10_field_149 mlX10_248 (hY.lt (k := 198) (by decide)) (ly198 hY) ⟨rfl, rfl⟩ (by decide) ⟨Nat.le_of_ble_eq_true rfl, Nat.le_of_ble_eq_true rfl⟩ (Nat.le_of_ble_eq_true rfl) rfl (fun r149 Λc149 Ic149 Lc149 Rc149 hq149 => ?_)
      obtain ⟨rfl, rfl, rfl, rfl, rfl⟩ := hq149
      refine LW_i2l dX10_field_152 ?_
      rw [show (nI (aLost (sA S) k)).toInt64 = lN (aLost (sA S) k) from (nI_l (by omega))]
      refine LW_goto (tgt := 157) dX10_field_153 (by decide) ?_
      refine LW_lret dX10_field_157 rfl (Nat.le_of_ble_eq_true rfl) (Nat.le_of_ble_eq_true rfl) ?_
      exact HPost.r hH (by unfold qField; rw [if_pos c8, if_neg (by decide), if_neg (by decide), if_neg (by decide), if_neg (by decide), if_neg (by decide), if_neg (by decide), if_neg (by decide), if_pos rfl, hc_cl hk31, if_pos c141])
  · refine LW_ldc2 dX10_field_11 klX10_179 ?_
    refine LW_lret dX10_field_14 rfl (Nat.le_of_ble_eq_true rfl) (Nat.le_of_ble_eq_true rfl) ?_
    exact HPost.r hH (by unfold qField; rw [if_neg (by rw [c8]; decide)])
set_option maxRecDepth 100000 in
theorem h_field8 {Λ : hc_L} {I : hc_I} {L : hc_J} {R : hc_R} {S : HS} (hH : HW Λ I L R S) (f : Int32) : Run xX10_field [.ref 0, .int f, .int 8] Λ I L R (HPost (some (.long (qField (sA S) (sP S) f 8))) S Λ I L R) := by
  refine Run.of (by decide +kernel) (Nat.le_of_ble_eq_true rfl) ?_
  show LW _ _ _ [(0, .ref 0), (1, .int f), (2, .int 8)] _ _ _ _ _ _
  have hY := hH.y
  have hA := hH.s.w
  refine LW_aloadn 0 dX10_field_0 rfl rfl ?_
  refine gX10_1 dX10_field_1 flX10_19 (hY.lt (k := 0) (by decide)) (ly0 hY) (lf0_1 hY) ?_
  refine LW_iloadn 1 dX10_field_4 rfl rfl ?_
  refine LW_callV (As := [.int f]) (b := 3) (st := []) (ci := 6) (r := (RX6, TX6, 15)) (r_isFieldKnown hH.s f) YX6_isFieldKnown rfl dX10_field_5 mlX10_218 (hY.lt (k := 3) (by decide)) (ly3 hY) ⟨rfl, rfl⟩ (by decide) ⟨Nat.le_of_ble_eq_true rfl, Nat.le_of_ble_eq_true rfl⟩ (Nat.le_of_ble_eq_true rfl) rfl (fun r5 Λc5 Ic5 Lc5 Rc5 hq5 => ?_)
  obtain ⟨rfl, rfl, rfl, rfl, rfl⟩ := hq5
  refine LW_bif_ne (tgt := 15) dX10_field_8 (by decide) (fun c8 => ?_) (fun c8 => ?_)
  · obtain ⟨k, hk, rfl⟩ : ∃ k, k < aF (sA S) ∧ f = nI k := ⟨_, (aFkX_k hA c8).2, (aFkX_k hA c8).1⟩
    have hk24 : k < 24 := Nat.lt_of_lt_of_le hk hA.f
    have hk31 : k < 2 ^ 31 := by omega
    obtain ⟨r, hr, hfd⟩ := hH.s.fd hk
    have hwk := hA.2.2.2.2.2.2.2.1 k hk
    have hm12 := hA.m
    have hl100 := aLost_le (sA S) k
    refine LW_aloadn 0 dX10_field_15 rfl rfl ?_
    refine gX10_1 dX10_field_16 flX10_19 (hY.lt (k := 0) (by decide)) (ly0 hY) (lf0_1 hY) ?_
    refine gX6_7 dX10_field_19 flX10_221 (hY.lt (k := 3) (by decide)) (ly3 hY) (lf3_7 hY) ?_
    refine LW_iloadn 1 dX10_field_22 rfl rfl ?_
    refine LW_aald4s (r := r) dX10_field_23 (hY.lt (k := 11) (by decide)) (ly11 hY) rfl hk24 (Nat.le_of_ble_eq_true rfl) hr ?_
    refine LW_astoren (ls' := [(0, .ref 0), (1, .int (nI k)), (2, .int 8), (3, .ref r)]) dX10_field_24 rfl (by decide) rfl ?_
    refine LW_aloadn 0 dX10_field_25 rfl rfl ?_
    refine gX10_1 dX10_field_26 flX10_19 (hY.lt (k := 0) (by decide)) (ly0 hY) (lf0_1 hY) ?_
    refine LW_iloadn 1 dX10_field_29 rfl rfl ?_
    refine LW_callV (As := [.int (nI k)]) (b := 3) (st := []) (ci := 6) (r := (RX6, TX6, 15)) (r_standsN hH.s hk31) YX6_stands rfl dX10_field_30 mlX10_225 (hY.lt (k := 3) (by decide)) (ly3 hY) ⟨rfl, rfl⟩ (by decide) ⟨Nat.le_of_ble_eq_true rfl, Nat.le_of_ble_eq_true rfl⟩ (Nat.le_of_ble_eq_true rfl) rfl (fun r30 Λc30 Ic30 Lc30 Rc30 hq30 => ?_)
    obtain ⟨rfl, rfl, rfl, rfl, rfl⟩ := hq30
    refine LW_istore (ls' := [(0, .ref 0), (1, .int (nI k)), (2, .int 8), (3, .ref r), (4, .int (hc_b (aSt (sA S) k)))]) dX10_field_33 (by decide) rfl ?_
    refine LW_iloadn 2 dX10_field_35 rfl rfl ?_
    refine LW_tableIn (off := 122) (tgt := 158) dX10_field_36 (by decide) (by decide) (by decide) (by decide) ?_
    refine LW_iload 4 dX10_field_158 rfl ?_
    refine LW_bif_eq (tgt := 182) dX10_field_160 (by decide) (fun c160 => ?_) (fun c160 => ?_)
    · refine LW_lconst (v := 0) dX10_field_182 (by decide) ?_
      refine LW_lret dX10_field_183 rfl (Nat.le_of_ble_eq_true rfl) (Nat.le_of_ble_eq_true rfl) ?_
      exact HPost.r hH (by unfold qField; rw [if_pos c8, if_neg (by decide), if_neg (by decide), if_neg (by decide), if_neg (by decide), if_neg (by decide), if_neg (by decide), if_neg (by decide), if_neg (by decide), if_pos rfl, hc_cl hk31, if_neg (by rw [c160]; decide)])
    · refine LW_aloadn 0 dX10_field_163 rfl rfl ?_
      refine gX10_7 dX10_field_164 flX10_57 (hY.lt (k := 0) (by decide)) (ly0 hY) (lf0_7 hY) ?_
      refine LW_aloadn 3 dX10_field_167 rfl rfl ?_
      refine LW_aloadn 0 dX10_field_168 rfl rfl ?_
      refine gX10_7 dX10_field_169 flX10_57 (hY.lt (k := 0) (by decide)) (ly0 hY) (lf0_7 hY) ?_
      refine LW_aloadn 3 dX10_field_172 rfl rfl ?_
      refine LW_callV (As := [.ref r]) (b := 198) (st := [.ref r, .ref 198]) (ci := 0) (r := (RX0, TX0, 7)) (r_lost hY.as hH.s hk hfd) YX0_lost rfl dX10_field_173 mlX10_248 (hY.lt (k := 198) (by decide)) (ly198 hY) ⟨rfl, rfl⟩ (by decide) ⟨Nat.le_of_ble_eq_true rfl, Nat.le_of_ble_eq_true rfl⟩ (Nat.le_of_ble_eq_true rfl) rfl (fun r173 Λc173 Ic173 Lc173 Rc173 hq173 => ?_)
      obtain ⟨rfl, rfl, rfl, rfl, rfl⟩ := hq173
      refine LW_callV (As := [.ref r, .int (nI (aLost (sA S) k))]) (b := 198) (st := []) (ci := 0) (r := (RX0, TX0, 7)) (r_paid hY.as hH.s hH.l hH.p hk hfd hl100) YX0_paid rfl dX10_field_176 mlX10_252 (hY.lt (k := 198) (by decide)) (ly198 hY) ⟨rfl, rfl⟩ (by decide) ⟨Nat.le_of_ble_eq_true rfl, Nat.le_of_ble_eq_true rfl⟩ (Nat.le_of_ble_eq_true rfl) rfl (fun r176 Λc176 Ic176 Lc176 Rc176 hq176 => ?_)
      obtain ⟨rfl, rfl, rfl, hL176, hR176⟩ := hq176
      obtain rfl : R = Rc176 := hR176
      refine LW_goto (tgt := 183) dX10_field_179 (by decide) ?_
      refine LW_lret dX10_field_183 rfl (Nat.le_of_ble_eq_true rfl) (Nat.le_of_ble_eq_true rfl) ?_
      exact HPost.q hH (Fr.lj hL176) (Nat.le_add_right _ _) (by unfold qField; rw [if_pos c8, if_neg (by decide), if_neg (by decide), if_neg (by decide), if_neg (by decide), if_neg (by decide), if_neg (by decide), if_neg (by decide), if_neg (by decide), if_pos rfl, hc_cl hk31, if_pos c160])
  · refine LW_ldc2 dX10_field_11 klX10_179 ?_
    refine LW_lret dX10_field_14 rfl (Nat.le_of_ble_eq_true rfl) (Nat.le_of_ble_eq_true rfl) ?_
    exact HPost.r hH (by unfold qField; rw [if_neg (by rw [c8]; decide)])
set_option maxRecDepth 100000 in
theorem h_field9 {Λ : hc_L} {I : hc_I} {L : hc_J} {R : hc_R} {S : HS} (hH : HW Λ I L R S) (f : Int32) : Run xX10_field [.ref 0, .int f, .int 9] Λ I L R (HPost (some (.long (qField (sA S) (sP S) f 9))) S Λ I L R) := by
  refine Run.of (by decide +kernel) (Nat.le_of_ble_eq_true rfl) ?_
  show LW _ _ _ [(0, .ref 0), (1, .int f), (2, .int 9)] _ _ _ _ _ _
  have hY := hH.y
  have hA := hH.s.w
  refine LW_aloadn 0 dX10_field_0 rfl rfl ?_
  refine gX10_1 dX10_field_1 flX10_19 (hY.lt (k := 0) (by decide)) (ly0 hY) (lf0_1 hY) ?_
  refine LW_iloadn 1 dX10_field_4 rfl rfl ?_
  refine LW_callV (As := [.int f]) (b := 3) (st := []) (ci := 6) (r := (RX6, TX6, 15)) (r_isFieldKnown hH.s f) YX6_isFieldKnown rfl dX10_field_5 mlX10_218 (hY.lt (k := 3) (by decide)) (ly3 hY) ⟨rfl, rfl⟩ (by decide) ⟨Nat.le_of_ble_eq_true rfl, Nat.le_of_ble_eq_true rfl⟩ (Nat.le_of_ble_eq_true rfl) rfl (fun r5 Λc5 Ic5 Lc5 Rc5 hq5 => ?_)
  obtain ⟨rfl, rfl, rfl, rfl, rfl⟩ := hq5
  refine LW_bif_ne (tgt := 15) dX10_field_8 (by decide) (fun c8 => ?_) (fun c8 => ?_)
  · obtain ⟨k, hk, rfl⟩ : ∃ k, k < aF (sA S) ∧ f = nI k := ⟨_, (aFkX_k hA c8).2, (aFkX_k hA c8).1⟩
    have hk24 : k < 24 := Nat.lt_of_lt_of_le hk hA.f
    have hk31 : k < 2 ^ 31 := by omega
    obtain ⟨r, hr, hfd⟩ := hH.s.fd hk
    have hwk := hA.2.2.2.2.2.2.2.1 k hk
    have hm12 := hA.m
    have hl100 := aLost_le (sA S) k
    refine LW_aloadn 0 dX10_field_15 rfl rfl ?_
    refine gX10_1 dX10_field_16 flX10_19 (hY.lt (k := 0) (by decide)) (ly0 hY) (lf0_1 hY) ?_
    refine gX6_7 dX10_field_19 flX10_221 (hY.lt (k := 3) (by decide)) (ly3 hY) (lf3_7 hY) ?_
    refine LW_iloadn 1 dX10_field_22 rfl rfl ?_
    refine LW_aald4s (r := r) dX10_field_23 (hY.lt (k := 11) (by decide)) (ly11 hY) rfl hk24 (Nat.le_of_ble_eq_true rfl) hr ?_
    refine LW_astoren (ls' := [(0, .ref 0), (1, .int (nI k)), (2, .int 9), (3, .ref r)]) dX10_field_24 rfl (by decide) rfl ?_
    refine LW_aloadn 0 dX10_field_25 rfl rfl ?_
    refine gX10_1 dX10_field_26 flX10_19 (hY.lt (k := 0) (by decide)) (ly0 hY) (lf0_1 hY) ?_
    refine LW_iloadn 1 dX10_field_29 rfl rfl ?_
    refine LW_callV (As := [.int (nI k)]) (b := 3) (st := []) (ci := 6) (r := (RX6, TX6, 15)) (r_standsN hH.s hk31) YX6_stands rfl dX10_field_30 mlX10_225 (hY.lt (k := 3) (by decide)) (ly3 hY) ⟨rfl, rfl⟩ (by decide) ⟨Nat.le_of_ble_eq_true rfl, Nat.le_of_ble_eq_true rfl⟩ (Nat.le_of_ble_eq_true rfl) rfl (fun r30 Λc30 Ic30 Lc30 Rc30 hq30 => ?_)
    obtain ⟨rfl, rfl, rfl, rfl, rfl⟩ := hq30
    refine LW_istore (ls' := [(0, .ref 0), (1, .int (nI k)), (2, .int 9), (3, .ref r), (4, .int (hc_b (aSt (sA S) k)))]) dX10_field_33 (by decide) rfl ?_
    refine LW_iloadn 2 dX10_field_35 rfl rfl ?_
    refine LW_tableIn (off := 148) (tgt := 184) dX10_field_36 (by decide) (by decide) (by decide) (by decide) ?_
    refine LW_iload 4 dX10_field_184 rfl ?_
    refine LW_bif_eq (tgt := 208) dX10_field_186 (by decide) (fun c186 => ?_) (fun c186 => ?_)
    · refine LW_lconst (v := 0) dX10_field_208 (by decide) ?_
      refine LW_lret dX10_field_209 rfl (Nat.le_of_ble_eq_true rfl) (Nat.le_of_ble_eq_true rfl) ?_
      exact HPost.r hH (by unfold qField; rw [if_pos c8, if_neg (by decide), if_neg (by decide), if_neg (by decide), if_neg (by decide), if_neg (by decide), if_neg (by decide), if_neg (by decide), if_neg (by decide), if_neg (by decide), if_pos rfl, hc_cl hk31, if_neg (by rw [c186]; decide)])
    · refine LW_aloadn 0 dX10_field_189 rfl rfl ?_
      refine gX10_7 dX10_field_190 flX10_57 (hY.lt (k := 0) (by decide)) (ly0 hY) (lf0_7 hY) ?_
      refine LW_aloadn 3 dX10_field_193 rfl rfl ?_
      refine LW_aloadn 0 dX10_field_194 rfl rfl ?_
      refine gX10_7 dX10_field_195 flX10_57 (hY.lt (k := 0) (by decide)) (ly0 hY) (lf0_7 hY) ?_
      refine LW_aloadn 3 dX10_field_198 rfl rfl ?_
      refine LW_callV (As := [.ref r]) (b := 198) (st := [.ref r, .ref 198]) (ci := 0) (r := (RX0, TX0, 7)) (r_lost hY.as hH.s hk hfd) YX0_lost rfl dX10_field_199 mlX10_248 (hY.lt (k := 198) (by decide)) (ly198 hY) ⟨rfl, rfl⟩ (by decide) ⟨Nat.le_of_ble_eq_true rfl, Nat.le_of_ble_eq_true rfl⟩ (Nat.le_of_ble_eq_true rfl) rfl (fun r199 Λc199 Ic199 Lc199 Rc199 hq199 => ?_)
      obtain ⟨rfl, rfl, rfl, rfl, rfl⟩ := hq199
      refine LW_callV (As := [.ref r, .int (nI (aLost (sA S) k))]) (b := 198) (st := []) (ci := 0) (r := (RX0, TX0, 7)) (r_claim hY.as hH.s hH.l hH.p hk hfd hl100) YX0_claim rfl dX10_field_202 mlX10_256 (hY.lt (k := 198) (by decide)) (ly198 hY) ⟨rfl, rfl⟩ (by decide) ⟨Nat.le_of_ble_eq_true rfl, Nat.le_of_ble_eq_true rfl⟩ (Nat.le_of_ble_eq_true rfl) rfl (fun r202 Λc202 Ic202 Lc202 Rc202 hq202 => ?_)
      obtain ⟨rfl, rfl, rfl, hL202, hR202⟩ := hq202
      obtain rfl : R = Rc202 := hR202
      refine LW_goto (tgt := 209) dX10_field_205 (by decide) ?_
      refine LW_lret dX10_field_209 rfl (Nat.le_of_ble_eq_true rfl) (Nat.le_of_ble_eq_true rfl) ?_
      exact HPost.q hH (Fr.lj hL202) (Nat.le_add_right _ _) (by unfold qField; rw [if_pos c8, if_neg (by decide), if_neg (by decide), if_neg (by decide), if_neg (by decide), if_neg (by decide), if_neg (by decide), if_neg (by decide), if_neg (by decide), if_neg (by decide), if_pos rfl, hc_cl hk31, if_pos c186])
  · refine LW_ldc2 dX10_field_11 klX10_179 ?_
    refine LW_lret dX10_field_14 rfl (Nat.le_of_ble_eq_true rfl) (Nat.le_of_ble_eq_true rfl) ?_
    exact HPost.r hH (by unfold qField; rw [if_neg (by rw [c8]; decide)])
set_option maxRecDepth 100000 in
theorem h_fieldE {Λ : hc_L} {I : hc_I} {L : hc_J} {R : hc_R} {S : HS} (hH : HW Λ I L R S) (f : Int32) {x : Int32} (hx : x ≠ 0 ∧ x ≠ 1 ∧ x ≠ 2 ∧ x ≠ 3 ∧ x ≠ 4 ∧ x ≠ 5 ∧ x ≠ 6 ∧ x ≠ 7 ∧ x ≠ 8 ∧ x ≠ 9) : Run xX10_field [.ref 0, .int f, .int x] Λ I L R (HPost (some (.long (qField (sA S) (sP S) f x))) S Λ I L R) := by
  refine Run.of (by decide +kernel) (Nat.le_of_ble_eq_true rfl) ?_
  show LW _ _ _ [(0, .ref 0), (1, .int f), (2, .int x)] _ _ _ _ _ _
  have hY := hH.y
  have hA := hH.s.w
  have ho : ∀ k, k ≤ 9 → x ≠ nI k := fun k hk => by
    rcases (show k = 0 ∨ k = 1 ∨ k = 2 ∨ k = 3 ∨ k = 4 ∨ k = 5 ∨ k = 6 ∨ k = 7 ∨ k = 8 ∨ k = 9 by omega) with rfl | rfl | rfl | rfl | rfl | rfl | rfl | rfl | rfl | rfl
    · exact hx.1
    · exact hx.2.1
    · exact hx.2.2.1
    · exact hx.2.2.2.1
    · exact hx.2.2.2.2.1
    · exact hx.2.2.2.2.2.1
    · exact hx.2.2.2.2.2.2.1
    · exact hx.2.2.2.2.2.2.2.1
    · exact hx.2.2.2.2.2.2.2.2.1
    · exact hx.2.2.2.2.2.2.2.2.2
  refine LW_aloadn 0 dX10_field_0 rfl rfl ?_
  refine gX10_1 dX10_field_1 flX10_19 (hY.lt (k := 0) (by decide)) (ly0 hY) (lf0_1 hY) ?_
  refine LW_iloadn 1 dX10_field_4 rfl rfl ?_
  refine LW_callV (As := [.int f]) (b := 3) (st := []) (ci := 6) (r := (RX6, TX6, 15)) (r_isFieldKnown hH.s f) YX6_isFieldKnown rfl dX10_field_5 mlX10_218 (hY.lt (k := 3) (by decide)) (ly3 hY) ⟨rfl, rfl⟩ (by decide) ⟨Nat.le_of_ble_eq_true rfl, Nat.le_of_ble_eq_true rfl⟩ (Nat.le_of_ble_eq_true rfl) rfl (fun r5 Λc5 Ic5 Lc5 Rc5 hq5 => ?_)
  obtain ⟨rfl, rfl, rfl, rfl, rfl⟩ := hq5
  refine LW_bif_ne (tgt := 15) dX10_field_8 (by decide) (fun c8 => ?_) (fun c8 => ?_)
  · obtain ⟨k, hk, rfl⟩ : ∃ k, k < aF (sA S) ∧ f = nI k := ⟨_, (aFkX_k hA c8).2, (aFkX_k hA c8).1⟩
    have hk24 : k < 24 := Nat.lt_of_lt_of_le hk hA.f
    have hk31 : k < 2 ^ 31 := by omega
    obtain ⟨r, hr, hfd⟩ := hH.s.fd hk
    have hwk := hA.2.2.2.2.2.2.2.1 k hk
    have hm12 := hA.m
    have hl100 := aLost_le (sA S) k
    refine LW_aloadn 0 dX10_field_15 rfl rfl ?_
    refine gX10_1 dX10_field_16 flX10_19 (hY.lt (k := 0) (by decide)) (ly0 hY) (lf0_1 hY) ?_
    refine gX6_7 dX10_field_19 flX10_221 (hY.lt (k := 3) (by decide)) (ly3 hY) (lf3_7 hY) ?_
    refine LW_iloadn 1 dX10_field_22 rfl rfl ?_
    refine LW_aald4s (r := r) dX10_field_23 (hY.lt (k := 11) (by decide)) (ly11 hY) rfl hk24 (Nat.le_of_ble_eq_true rfl) hr ?_
    refine LW_astoren (ls' := [(0, .ref 0), (1, .int (nI k)), (2, .int x), (3, .ref r)]) dX10_field_24 rfl (by decide) rfl ?_
    refine LW_aloadn 0 dX10_field_25 rfl rfl ?_
    refine gX10_1 dX10_field_26 flX10_19 (hY.lt (k := 0) (by decide)) (ly0 hY) (lf0_1 hY) ?_
    refine LW_iloadn 1 dX10_field_29 rfl rfl ?_
    refine LW_callV (As := [.int (nI k)]) (b := 3) (st := []) (ci := 6) (r := (RX6, TX6, 15)) (r_standsN hH.s hk31) YX6_stands rfl dX10_field_30 mlX10_225 (hY.lt (k := 3) (by decide)) (ly3 hY) ⟨rfl, rfl⟩ (by decide) ⟨Nat.le_of_ble_eq_true rfl, Nat.le_of_ble_eq_true rfl⟩ (Nat.le_of_ble_eq_true rfl) rfl (fun r30 Λc30 Ic30 Lc30 Rc30 hq30 => ?_)
    obtain ⟨rfl, rfl, rfl, rfl, rfl⟩ := hq30
    refine LW_istore (ls' := [(0, .ref 0), (1, .int (nI k)), (2, .int x), (3, .ref r), (4, .int (hc_b (aSt (sA S) k)))]) dX10_field_33 (by decide) rfl ?_
    refine LW_iloadn 2 dX10_field_35 rfl rfl ?_
    refine LW_tableOut (tgt := 210) dX10_field_36 (tsw (N := 9) (by decide) ho) (by decide) ?_
    refine LW_ldc2 dX10_field_210 klX10_179 ?_
    refine LW_lret dX10_field_213 rfl (Nat.le_of_ble_eq_true rfl) (Nat.le_of_ble_eq_true rfl) ?_
    exact HPost.r hH (by unfold qField; rw [if_pos c8, if_neg hx.1, if_neg hx.2.1, if_neg hx.2.2.1, if_neg hx.2.2.2.1, if_neg hx.2.2.2.2.1, if_neg hx.2.2.2.2.2.1, if_neg hx.2.2.2.2.2.2.1, if_neg hx.2.2.2.2.2.2.2.1, if_neg hx.2.2.2.2.2.2.2.2.1, if_neg hx.2.2.2.2.2.2.2.2.2])
  · refine LW_ldc2 dX10_field_11 klX10_179 ?_
    refine LW_lret dX10_field_14 rfl (Nat.le_of_ble_eq_true rfl) (Nat.le_of_ble_eq_true rfl) ?_
    exact HPost.r hH (by unfold qField; rw [if_neg (by rw [c8]; decide)])
theorem h_field {Λ : hc_L} {I : hc_I} {L : hc_J} {R : hc_R} {S : HS} (hH : HW Λ I L R S) (f x : Int32) : Run xX10_field [.ref 0, .int f, .int x] Λ I L R (HPost (some (.long (qField (sA S) (sP S) f x))) S Λ I L R) := by
  by_cases k0 : x = 0
  · subst k0; exact h_field0 hH f
  by_cases k1 : x = 1
  · subst k1; exact h_field1 hH f
  by_cases k2 : x = 2
  · subst k2; exact h_field2 hH f
  by_cases k3 : x = 3
  · subst k3; exact h_field3 hH f
  by_cases k4 : x = 4
  · subst k4; exact h_field4 hH f
  by_cases k5 : x = 5
  · subst k5; exact h_field5 hH f
  by_cases k6 : x = 6
  · subst k6; exact h_field6 hH f
  by_cases k7 : x = 7
  · subst k7; exact h_field7 hH f
  by_cases k8 : x = 8
  · subst k8; exact h_field8 hH f
  by_cases k9 : x = 9
  · subst k9; exact h_field9 hH f
  exact h_fieldE hH f ⟨k0, k1, k2, k3, k4, k5, k6, k7, k8, k9⟩
theorem abs8 : ∀ a, a < 8 → ∀ b, b < 8 → (if (0 : Int32) ≤ nI a - nI b then nI a - nI b else 0 - (nI a - nI b)) = nI ((a - b) + (b - a)) := by decide +kernel
def nrB (x y : Nat) (f : Nat → Nat) : Bool := decide ((f 1 - x) + (x - f 1) + ((f 2 - y) + (y - f 2)) ≤ 1)
def nrN (A : AS) (x y : Nat) : Nat → Int32
  | 0 => 0
  | i + 1 => if (aSt A i && nrB x y (aFd A i)) = true then nrN A x y i ||| (1 <<< (nI (aFd A i 0) &&& 31)) else nrN A x y i
def qNear (A : AS) (x y : Int32) : Int32 := if aCell x y = true then nrN A x.toNatClampNeg y.toNatClampNeg (aF A) else -1
set_option maxRecDepth 100000 in
theorem r_isBeside {Λ : hc_L} {I : hc_I} {L : hc_J} {R : hc_R} {r x y : Nat} {g : Nat → Nat} (hfd : FdAt Λ I r g) (h1 : g 1 < 8) (h2 : g 2 < 8) (hx : x < 8) (hy : y < 8) : Run xX2_isBeside [.ref r, .int (nI x), .int (nI y)] Λ I L R (Qr (some (.int (hc_b (nrB x y g)))) Λ I L R) := by
  refine Run.of (by decide +kernel) (Nat.le_of_ble_eq_true rfl) ?_
  show LW _ _ _ [(0, .ref r), (1, .int (nI x)), (2, .int (nI y))] _ _ _ _ _ _
  refine LW_aloadn 0 dX2_isBeside_0 rfl rfl ?_
  refine gX2_1 dX2_isBeside_1 flX2_13 hfd.1 hfd.2.1 ?_
  rw [show I r 1 = nI (g 1) from hfd.2.2 1 (by decide)]
  refine LW_iloadn 1 dX2_isBeside_4 rfl rfl ?_
  refine LW_isub dX2_isBeside_5 ?_
  refine LW_iabs dX2_isBeside_6 mlX2_28 (by decide) ⟨Nat.le_refl _, Nat.le_refl _⟩ (Nat.le_of_ble_eq_true rfl) ?_
  rw [show (if 0 ≤ ((nI (g 1)) - (nI x)) then ((nI (g 1)) - (nI x)) else 0 - ((nI (g 1)) - (nI x))) = nI ((g 1 - x) + (x - g 1)) from (abs8 _ h1 _ hx)]
  refine LW_aloadn 0 dX2_isBeside_9 rfl rfl ?_
  refine gX2_2 dX2_isBeside_10 flX2_16 hfd.1 hfd.2.1 ?_
  rw [show I r 2 = nI (g 2) from hfd.2.2 2 (by decide)]
  refine LW_iloadn 2 dX2_isBeside_13 rfl rfl ?_
  refine LW_isub dX2_isBeside_14 ?_
  refine LW_iabs dX2_isBeside_15 mlX2_28 (by decide) ⟨Nat.le_refl _, Nat.le_refl _⟩ (Nat.le_of_ble_eq_true rfl) ?_
  rw [show (if 0 ≤ ((nI (g 2)) - (nI y)) then ((nI (g 2)) - (nI y)) else 0 - ((nI (g 2)) - (nI y))) = nI ((g 2 - y) + (y - g 2)) from (abs8 _ h2 _ hy)]
  refine LW_iadd dX2_isBeside_18 ?_
  rw [show ((nI ((g 1 - x) + (x - g 1))) + (nI ((g 2 - y) + (y - g 2)))) = nI ((g 1 - x) + (x - g 1) + ((g 2 - y) + (y - g 2))) from (nI_add _ _)]
  refine LW_iconst (v := 1) dX2_isBeside_19 (by decide) ?_
  refine LW_icmp_gt (tgt := 27) dX2_isBeside_20 (by decide) (fun c20 => ?_) (fun c20 => ?_)
  · refine LW_iconst (v := 0) dX2_isBeside_27 (by decide) ?_
    refine LW_zret dX2_isBeside_28 rfl (Nat.le_of_ble_eq_true rfl) (Nat.le_of_ble_eq_true rfl) (Or.inl rfl) ?_
    refine Qr.mk ?_
    unfold nrB
    first | (rw [decide_eq_true (by have := mt (hc_lt (a := 1) (b := (g 1 - x) + (x - g 1) + ((g 2 - y) + (y - g 2))) (by omega) (by omega)).mpr c20; omega)]; rfl) | (rw [decide_eq_false (by have := (hc_lt (a := 1) (b := (g 1 - x) + (x - g 1) + ((g 2 - y) + (y - g 2))) (by omega) (by omega)).mp c20; omega)]; rfl)
  · refine LW_iconst (v := 1) dX2_isBeside_23 (by decide) ?_
    refine LW_goto (tgt := 28) dX2_isBeside_24 (by decide) ?_
    refine LW_zret dX2_isBeside_28 rfl (Nat.le_of_ble_eq_true rfl) (Nat.le_of_ble_eq_true rfl) (Or.inr rfl) ?_
    refine Qr.mk ?_
    unfold nrB
    first | (rw [decide_eq_true (by have := mt (hc_lt (a := 1) (b := (g 1 - x) + (x - g 1) + ((g 2 - y) + (y - g 2))) (by omega) (by omega)).mpr c20; omega)]; rfl) | (rw [decide_eq_false (by have := (hc_lt (a := 1) (b := (g 1 - x) + (x - g 1) + ((g 2 - y) + (y - g 2))) (by omega) (by omega)).mp c20; omega)]; rfl)
set_option maxRecDepth 100000 in
theorem nr_loop {Λ : hc_L} {I : hc_I} {L : hc_J} {R : hc_R} {S : HS} (hH : HW Λ I L R S) {a b : Nat} (ha : a < 8) (hb : b < 8) : ∀ i, i ≤ aF (sA S) → LW xX10_near (0, 0) 15 [(0, .ref 0), (1, .int (nI a)), (2, .int (nI b)), (3, .int (nrN (sA S) a b i)), (4, .int (nI i))] [] Λ I L R (HPost (some (.int (nrN (sA S) a b (aF (sA S))))) S Λ I L R) := by
  have hY := hH.y
  have hA := hH.s.w
  have hf24 := hA.f
  have hm12 := hA.m
  refine hc_down ?_ ?_
  · refine LW_iload 4 dX10_near_15 rfl ?_
    refine LW_aloadn 0 dX10_near_17 rfl rfl ?_
    refine gX10_1 dX10_near_18 flX10_19 (hY.lt (k := 0) (by decide)) (ly0 hY) (lf0_1 hY) ?_
    refine gX6_12 dX10_near_21 flX10_96 (hY.lt (k := 3) (by decide)) (ly3 hY) ?_
    rw [show I 3 12 = nI (aF (sA S)) from hH.s.fc]
    refine LW_icmp_ge (tgt := 81) dX10_near_24 (by decide) (fun c24 => ?_) (fun c24 => absurd (Int32.le_refl _) c24)
    refine LW_iloadn 3 dX10_near_81 rfl rfl ?_
    refine LW_iret dX10_near_82 rfl (Nat.le_of_ble_eq_true rfl) (Nat.le_of_ble_eq_true rfl) ?_
    exact HPost.r hH rfl
  · intro i hi ih
    have hwi := hA.2.2.2.2.2.2.2.1 i hi
    obtain ⟨r, hr, hfd⟩ := hH.s.fd hi
    refine LW_iload 4 dX10_near_15 rfl ?_
    refine LW_aloadn 0 dX10_near_17 rfl rfl ?_
    refine gX10_1 dX10_near_18 flX10_19 (hY.lt (k := 0) (by decide)) (ly0 hY) (lf0_1 hY) ?_
    refine gX6_12 dX10_near_21 flX10_96 (hY.lt (k := 3) (by decide)) (ly3 hY) ?_
    rw [show I 3 12 = nI (aF (sA S)) from hH.s.fc]
    refine LW_icmp_ge (tgt := 81) dX10_near_24 (by decide) (fun c24 => absurd c24 (hc_nle (by omega) (by omega) hi)) (fun c24 => ?_)
    refine LW_aloadn 0 dX10_near_27 rfl rfl ?_
    refine gX10_1 dX10_near_28 flX10_19 (hY.lt (k := 0) (by decide)) (ly0 hY) (lf0_1 hY) ?_
    refine LW_iload 4 dX10_near_31 rfl ?_
    refine LW_callV (As := [.int (nI i)]) (b := 3) (st := []) (ci := 6) (r := (RX6, TX6, 15)) (r_standsN hH.s (k := i) (by omega)) YX6_stands rfl dX10_near_33 mlX10_225 (hY.lt (k := 3) (by decide)) (ly3 hY) ⟨rfl, rfl⟩ (by decide) ⟨Nat.le_of_ble_eq_true rfl, Nat.le_of_ble_eq_true rfl⟩ (Nat.le_of_ble_eq_true rfl) rfl (fun r33 Λc33 Ic33 Lc33 Rc33 hq33 => ?_)
    obtain ⟨rfl, rfl, rfl, rfl, rfl⟩ := hq33
    refine LW_bif_eq (tgt := 75) dX10_near_36 (by decide) (fun c36 => ?_) (fun c36 => ?_)
    · refine LW_iinc (n := 4) (v := nI (i + 1)) (ls' := [(0, .ref 0), (1, .int (nI a)), (2, .int (nI b)), (3, .int (nrN (sA S) a b i)), (4, .int (nI (i + 1)))]) dX10_near_75 rfl (hc_inc _) (by decide) rfl ?_
      refine LW_goto (tgt := 15) dX10_near_78 (by decide) ?_
      rw [show nrN (sA S) a b (i + 1) = nrN (sA S) a b i from if_neg (by rw [c36, Bool.false_and]; decide)] at ih
      exact ih
    · refine LW_aloadn 0 dX10_near_39 rfl rfl ?_
      refine gX10_1 dX10_near_40 flX10_19 (hY.lt (k := 0) (by decide)) (ly0 hY) (lf0_1 hY) ?_
      refine gX6_7 dX10_near_43 flX10_221 (hY.lt (k := 3) (by decide)) (ly3 hY) (lf3_7 hY) ?_
      refine LW_iload 4 dX10_near_46 rfl ?_
      refine LW_aald4s (r := r) dX10_near_48 (hY.lt (k := 11) (by decide)) (ly11 hY) rfl (by omega) (Nat.le_of_ble_eq_true rfl) hr ?_
      refine LW_iloadn 1 dX10_near_49 rfl rfl ?_
      refine LW_iloadn 2 dX10_near_50 rfl rfl ?_
      refine LW_callV (As := [.int (nI a), .int (nI b)]) (b := r) (st := []) (ci := 2) (r := (RX2, TX2, 6)) (r_isBeside hfd hwi.2.1 hwi.2.2.1 ha hb) YX2_isBeside rfl dX10_near_51 mlX10_317 hfd.1 hfd.2.1 ⟨rfl, rfl⟩ (by decide) ⟨Nat.le_of_ble_eq_true rfl, Nat.le_of_ble_eq_true rfl⟩ (Nat.le_of_ble_eq_true rfl) rfl (fun r51 Λc51 Ic51 Lc51 Rc51 hq51 => ?_)
      obtain ⟨rfl, rfl, rfl, rfl, rfl⟩ := hq51
      refine LW_bif_eq (tgt := 75) dX10_near_54 (by decide) (fun c54 => ?_) (fun c54 => ?_)
      · refine LW_iinc (n := 4) (v := nI (i + 1)) (ls' := [(0, .ref 0), (1, .int (nI a)), (2, .int (nI b)), (3, .int (nrN (sA S) a b i)), (4, .int (nI (i + 1)))]) dX10_near_75 rfl (hc_inc _) (by decide) rfl ?_
        refine LW_goto (tgt := 15) dX10_near_78 (by decide) ?_
        rw [show nrN (sA S) a b (i + 1) = nrN (sA S) a b i from if_neg (by rw [c36, c54]; decide)] at ih
        exact ih
      · refine LW_iloadn 3 dX10_near_57 rfl rfl ?_
        refine LW_iconst (v := 1) dX10_near_58 (by decide) ?_
        refine LW_aloadn 0 dX10_near_59 rfl rfl ?_
        refine gX10_1 dX10_near_60 flX10_19 (hY.lt (k := 0) (by decide)) (ly0 hY) (lf0_1 hY) ?_
        refine gX6_7 dX10_near_63 flX10_221 (hY.lt (k := 3) (by decide)) (ly3 hY) (lf3_7 hY) ?_
        refine LW_iload 4 dX10_near_66 rfl ?_
        refine LW_aald4s (r := r) dX10_near_68 (hY.lt (k := 11) (by decide)) (ly11 hY) rfl (by omega) (Nat.le_of_ble_eq_true rfl) hr ?_
        refine gX2_0 dX10_near_69 flX10_228 hfd.1 hfd.2.1 ?_
        rw [show I r 0 = nI (aFd (sA S) i 0) from hfd.2.2 0 (by decide)]
        refine LW_ishl dX10_near_72 ?_
        refine LW_ior dX10_near_73 ?_
        refine LW_istoren (ls' := [(0, .ref 0), (1, .int (nI a)), (2, .int (nI b)), (3, .int ((nrN (sA S) a b i) ||| (1 <<< ((nI (aFd (sA S) i 0)) &&& 31)))), (4, .int (nI i))]) dX10_near_74 rfl (by decide) rfl ?_
        refine LW_iinc (n := 4) (v := nI (i + 1)) (ls' := [(0, .ref 0), (1, .int (nI a)), (2, .int (nI b)), (3, .int ((nrN (sA S) a b i) ||| (1 <<< ((nI (aFd (sA S) i 0)) &&& 31)))), (4, .int (nI (i + 1)))]) dX10_near_75 rfl (hc_inc _) (by decide) rfl ?_
        refine LW_goto (tgt := 15) dX10_near_78 (by decide) ?_
        rw [show nrN (sA S) a b (i + 1) = (nrN (sA S) a b i) ||| (1 <<< ((nI (aFd (sA S) i 0)) &&& 31)) from if_pos (by rw [c36, c54]; rfl)] at ih
        exact ih
set_option maxRecDepth 100000 in
theorem h_near {Λ : hc_L} {I : hc_I} {L : hc_J} {R : hc_R} {S : HS} (hH : HW Λ I L R S) (x y : Int32) : Run xX10_near [.ref 0, .int x, .int y] Λ I L R (HPost (some (.int (qNear (sA S) x y))) S Λ I L R) := by
  refine Run.of (by decide +kernel) (Nat.le_of_ble_eq_true rfl) ?_
  show LW _ _ _ [(0, .ref 0), (1, .int x), (2, .int y)] _ _ _ _ _ _
  have hY := hH.y
  refine LW_iloadn 1 dX10_near_0 rfl rfl ?_
  refine LW_iloadn 2 dX10_near_1 rfl rfl ?_
  refine LW_callS (As := [.int x, .int y]) (st := []) (r_isCell x y) YX10_isCell rfl dX10_near_2 mlX10_259 (by decide) ⟨Nat.le_of_ble_eq_true rfl, Nat.le_of_ble_eq_true rfl⟩ (Nat.le_of_ble_eq_true rfl) rfl (fun r2 Λc2 Ic2 Lc2 Rc2 hq2 => ?_)
  obtain ⟨rfl, rfl, rfl, rfl, rfl⟩ := hq2
  refine LW_bif_ne (tgt := 10) dX10_near_5 (by decide) (fun c5 => ?_) (fun c5 => ?_)
  · obtain ⟨a, b, rfl, rfl, ha, hb⟩ := aCell_k c5
    refine LW_iconst (v := 0) dX10_near_10 (by decide) ?_
    refine LW_istoren (ls' := [(0, .ref 0), (1, .int (nI a)), (2, .int (nI b)), (3, .int 0)]) dX10_near_11 rfl (by decide) rfl ?_
    refine LW_iconst (v := 0) dX10_near_12 (by decide) ?_
    refine LW_istore (ls' := [(0, .ref 0), (1, .int (nI a)), (2, .int (nI b)), (3, .int 0), (4, .int 0)]) dX10_near_13 (by decide) rfl ?_
    unfold qNear
    rw [if_pos c5, hc_cl (by omega), hc_cl (by omega)]
    exact nr_loop hH ha hb 0 (Nat.zero_le _)
  · refine LW_iconst (v := -1) dX10_near_8 (by decide) ?_
    refine LW_iret dX10_near_9 rfl (Nat.le_of_ble_eq_true rfl) (Nat.le_of_ble_eq_true rfl) ?_
    refine HPost.r hH ?_
    unfold qNear
    rw [if_neg (by rw [c5]; decide)]
def qAlone (A : AS) (P : LwP) (s c : Int32) : Int64 := if (0 ≤ s ∧ s < nI (aS A)) ∧ (0 ≤ c ∧ c < 4) then abOne A P (aSd A s.toNatClampNeg) c.toNatClampNeg (aF A) else -1
set_option maxRecDepth 100000 in
theorem h_alone {Λ : hc_L} {I : hc_I} {L : hc_J} {R : hc_R} {S : HS} (hH : HW Λ I L R S) (s c : Int32) : Run xX10_alone [.ref 0, .int s, .int c] Λ I L R (HPost (some (.long (qAlone (sA S) (sP S) s c))) S Λ I L R) := by
  refine Run.of (by decide +kernel) (Nat.le_of_ble_eq_true rfl) ?_
  show LW _ _ _ [(0, .ref 0), (1, .int s), (2, .int c)] _ _ _ _ _ _
  have hY := hH.y
  have hA := hH.s.w
  refine LW_iloadn 1 dX10_alone_0 rfl rfl ?_
  refine LW_if_lt (tgt := 24) dX10_alone_1 (by decide) (fun c1 => ?_) (fun c1 => ?_)
  · refine LW_ldc2 dX10_alone_24 klX10_179 ?_
    refine LW_lret dX10_alone_27 rfl (Nat.le_of_ble_eq_true rfl) (Nat.le_of_ble_eq_true rfl) ?_
    refine HPost.r hH ?_
    unfold qAlone
    first | (rw [if_neg (fun z => c21 z.2.2)]; done) | (rw [if_neg (fun z => absurd z.2.1 (Int32.not_le.mpr c16))]; done) | (rw [if_neg (fun z => absurd z.1.2 (Int32.not_lt.mpr c12))]; done) | (rw [if_neg (fun z => absurd z.1.1 (Int32.not_le.mpr c1))]; done)
  · refine LW_iloadn 1 dX10_alone_4 rfl rfl ?_
    refine LW_aloadn 0 dX10_alone_5 rfl rfl ?_
    refine gX10_1 dX10_alone_6 flX10_19 (hY.lt (k := 0) (by decide)) (ly0 hY) (lf0_1 hY) ?_
    refine gX6_13 dX10_alone_9 flX10_148 (hY.lt (k := 3) (by decide)) (ly3 hY) ?_
    rw [show I 3 13 = nI (aS (sA S)) from hH.s.sc]
    refine LW_icmp_ge (tgt := 24) dX10_alone_12 (by decide) (fun c12 => ?_) (fun c12 => ?_)
    · refine LW_ldc2 dX10_alone_24 klX10_179 ?_
      refine LW_lret dX10_alone_27 rfl (Nat.le_of_ble_eq_true rfl) (Nat.le_of_ble_eq_true rfl) ?_
      refine HPost.r hH ?_
      unfold qAlone
      first | (rw [if_neg (fun z => c21 z.2.2)]; done) | (rw [if_neg (fun z => absurd z.2.1 (Int32.not_le.mpr c16))]; done) | (rw [if_neg (fun z => absurd z.1.2 (Int32.not_lt.mpr c12))]; done) | (rw [if_neg (fun z => absurd z.1.1 (Int32.not_le.mpr c1))]; done)
    · refine LW_iloadn 2 dX10_alone_15 rfl rfl ?_
      refine LW_if_lt (tgt := 24) dX10_alone_16 (by decide) (fun c16 => ?_) (fun c16 => ?_)
      · refine LW_ldc2 dX10_alone_24 klX10_179 ?_
        refine LW_lret dX10_alone_27 rfl (Nat.le_of_ble_eq_true rfl) (Nat.le_of_ble_eq_true rfl) ?_
        refine HPost.r hH ?_
        unfold qAlone
        first | (rw [if_neg (fun z => c21 z.2.2)]; done) | (rw [if_neg (fun z => absurd z.2.1 (Int32.not_le.mpr c16))]; done) | (rw [if_neg (fun z => absurd z.1.2 (Int32.not_lt.mpr c12))]; done) | (rw [if_neg (fun z => absurd z.1.1 (Int32.not_le.mpr c1))]; done)
      · refine LW_iloadn 2 dX10_alone_19 rfl rfl ?_
        refine LW_iconst (v := 4) dX10_alone_20 (by decide) ?_
        refine LW_icmp_lt (tgt := 28) dX10_alone_21 (by decide) (fun c21 => ?_) (fun c21 => ?_)
        · have hs16 := hA.s
          obtain ⟨s, hs, rfl⟩ := x_in (by omega) (Int32.not_lt.mp c1) (Int32.not_le.mp c12)
          obtain ⟨c, hc, rfl⟩ := x_in (N := 4) (by decide) (Int32.not_lt.mp c16) c21
          obtain ⟨q, hq, hsd⟩ := hH.s.sd hs
          have hws := hA.2.2.2.2.2.2.2.2 s hs
          refine LW_aloadn 0 dX10_alone_28 rfl rfl ?_
          refine gX10_7 dX10_alone_29 flX10_57 (hY.lt (k := 0) (by decide)) (ly0 hY) (lf0_7 hY) ?_
          refine LW_aloadn 0 dX10_alone_32 rfl rfl ?_
          refine gX10_1 dX10_alone_33 flX10_19 (hY.lt (k := 0) (by decide)) (ly0 hY) (lf0_1 hY) ?_
          refine gX6_8 dX10_alone_36 flX10_323 (hY.lt (k := 3) (by decide)) (ly3 hY) (lf3_8 hY) ?_
          refine LW_iloadn 1 dX10_alone_39 rfl rfl ?_
          refine LW_aald5s (r := q) dX10_alone_40 (hY.lt (k := 12) (by decide)) (ly12 hY) rfl (by omega) (Nat.le_of_ble_eq_true rfl) hq ?_
          refine LW_iloadn 2 dX10_alone_41 rfl rfl ?_
          refine LW_callV (As := [.ref q, .int (nI c)]) (b := 198) (st := []) (ci := 0) (r := (RX0, TX0, 7)) (r_claimsOfOne hY.as hH.s hH.l hH.p hsd ⟨by omega, by omega, by omega, by omega⟩ (by omega) hc) YX0_claimsOfOne rfl dX10_alone_42 mlX10_327 (hY.lt (k := 198) (by decide)) (ly198 hY) ⟨rfl, rfl⟩ (by decide) ⟨Nat.le_of_ble_eq_true rfl, Nat.le_of_ble_eq_true rfl⟩ (Nat.le_of_ble_eq_true rfl) rfl (fun r42 Λc42 Ic42 Lc42 Rc42 hq42 => ?_)
          obtain ⟨rfl, rfl, rfl, hL42, hR42⟩ := hq42
          obtain rfl : R = Rc42 := hR42
          refine LW_lret dX10_alone_45 rfl (Nat.le_of_ble_eq_true rfl) (Nat.le_of_ble_eq_true rfl) ?_
          exact HPost.q hH (Fr.lj hL42) (Nat.le_add_right _ _) (by unfold qAlone; rw [hc_cl (by omega), hc_cl (by omega), if_pos ⟨⟨nI_nn (by omega), (hc_lt (by omega) (by omega)).mpr hs⟩, ⟨nI_nn (by omega), (hc_lt (b := 4) (by omega) (by decide)).mpr hc⟩⟩])
        · refine LW_ldc2 dX10_alone_24 klX10_179 ?_
          refine LW_lret dX10_alone_27 rfl (Nat.le_of_ble_eq_true rfl) (Nat.le_of_ble_eq_true rfl) ?_
          refine HPost.r hH ?_
          unfold qAlone
          first | (rw [if_neg (fun z => c21 z.2.2)]; done) | (rw [if_neg (fun z => absurd z.2.1 (Int32.not_le.mpr c16))]; done) | (rw [if_neg (fun z => absurd z.1.2 (Int32.not_lt.mpr c12))]; done) | (rw [if_neg (fun z => absurd z.1.1 (Int32.not_le.mpr c1))]; done)
def qNow (A : AS) (P : LwP) (x : Int32) : Int64 := if (0 ≤ x ∧ x < 11) ∧ ¬ abMt A (aM A) = 0 then kT A P (prX A (-1)) x.toNatClampNeg else -1
set_option maxRecDepth 100000 in
theorem h_now {Λ : hc_L} {I : hc_I} {L : hc_J} {R : hc_R} {S : HS} (hH : HW Λ I L R S) (x : Int32) : Run xX10_now [.ref 0, .int x] Λ I L R (HPost (some (.long (qNow (sA S) (sP S) x))) S Λ I L R) := by
  refine Run.of (by decide +kernel) (Nat.le_of_ble_eq_true rfl) ?_
  show LW _ _ _ [(0, .ref 0), (1, .int x)] _ _ _ _ _ _
  have hY := hH.y
  have hf : Fr SJ Λ I L R Λ I L R := Fr.rf
  have hA := hH.s.w
  have hH0 := hH
  refine LW_iloadn 1 dX10_now_0 rfl rfl ?_
  refine LW_if_lt (tgt := 20) dX10_now_1 (by decide) (fun c1 => ?_) (fun c1 => ?_)
  · refine LW_ldc2 dX10_now_20 klX10_179 ?_
    refine LW_lret dX10_now_23 rfl (Nat.le_of_ble_eq_true rfl) (Nat.le_of_ble_eq_true rfl) ?_
    refine HPost.r hH ?_
    unfold qNow
    first | (rw [if_neg (fun z => z.2 (Classical.not_not.mp c17))]; done) | (rw [if_neg (fun z => absurd z.1.2 (Int32.not_lt.mpr c7))]; done) | (rw [if_neg (fun z => absurd z.1.1 (Int32.not_le.mpr c1))]; done)
  · refine LW_iloadn 1 dX10_now_4 rfl rfl ?_
    refine LW_bipush (v := 11) dX10_now_5 (by decide) ?_
    refine LW_icmp_ge (tgt := 20) dX10_now_7 (by decide) (fun c7 => ?_) (fun c7 => ?_)
    · refine LW_ldc2 dX10_now_20 klX10_179 ?_
      refine LW_lret dX10_now_23 rfl (Nat.le_of_ble_eq_true rfl) (Nat.le_of_ble_eq_true rfl) ?_
      refine HPost.r hH ?_
      unfold qNow
      first | (rw [if_neg (fun z => z.2 (Classical.not_not.mp c17))]; done) | (rw [if_neg (fun z => absurd z.1.2 (Int32.not_lt.mpr c7))]; done) | (rw [if_neg (fun z => absurd z.1.1 (Int32.not_le.mpr c1))]; done)
    · refine LW_aloadn 0 dX10_now_10 rfl rfl ?_
      refine gX10_1 dX10_now_11 flX10_19 (hY.lt (k := 0) (by decide)) (ly0 hY) (lf0_1 hY) ?_
      refine LW_callV (As := []) (b := 3) (st := []) (ci := 6) (r := (RX6, TX6, 15)) (r_membersThere hH.s) YX6_membersThere rfl dX10_now_14 mlX10_175 (hY.lt (k := 3) (by decide)) (ly3 hY) ⟨rfl, rfl⟩ (by decide) ⟨Nat.le_of_ble_eq_true rfl, Nat.le_of_ble_eq_true rfl⟩ (Nat.le_of_ble_eq_true rfl) rfl (fun r14 Λc14 Ic14 Lc14 Rc14 hq14 => ?_)
      obtain ⟨rfl, rfl, rfl, rfl, rfl⟩ := hq14
      refine LW_if_ne (tgt := 24) dX10_now_17 (by decide) (fun c17 => ?_) (fun c17 => ?_)
      · obtain ⟨k, hk, rfl⟩ := x_in (N := 11) (by decide) (Int32.not_lt.mp c1) (Int32.not_le.mp c7)
        refine LW_aloadn 0 dX10_now_24 rfl rfl ?_
        refine gX10_8 dX10_now_25 flX10_66 (hY.lt (k := 0) (by decide)) (ly0 hY) (lf0_8 hY) ?_
        refine LW_iconst (v := -1) dX10_now_28 (by decide) ?_
        refine LW_callV (As := [.int (-1)]) (b := 201) (st := []) (ci := 1) (r := (RX1, TX1, 11)) (r_reckon hY.en hH.s hY.as hH.l hH.p (fun k j hk hj => by omega) (-1)) YX1_reckon rfl dX10_now_29 mlX10_181 (hY.lt (k := 201) (by decide)) (ly201 hY) ⟨rfl, rfl⟩ (by decide) ⟨Nat.le_of_ble_eq_true rfl, Nat.le_of_ble_eq_true rfl⟩ (Nat.le_of_ble_eq_true rfl) rfl (fun r29 Λc29 Ic29 Lc29 Rc29 hq29 => ?_)
        obtain ⟨rfl, rfl, hI29, hL29, hR29, hT29, hRw29, hPr29, hPt29⟩ := hq29
        obtain rfl : R = Rc29 := hR29
        have hf29 : Fr SJ Λ I L R Λ Ic29 Lc29 R := Fr.of hI29 hL29 (fun _ _ => rfl) kI_s kJ_s (fun z (q : False) => absurd q (fun q => q))
        have hf := hf.trans hf29
        have hH := hH.fr hf29 (fun _ q => q.s)
        refine LW_aloadn 0 dX10_now_32 rfl rfl ?_
        refine gX10_8 dX10_now_33 flX10_66 (hY.lt (k := 0) (by decide)) (ly0 hY) (lf0_8 hY) ?_
        refine gX1_2 dX10_now_36 flX10_188 (hY.lt (k := 201) (by decide)) (ly201 hY) (lf201_2 hY) ?_
        refine LW_iloadn 1 dX10_now_39 rfl rfl ?_
        refine LW_lald dX10_now_40 (hY.lt (k := 202) (by decide)) (ly202 hY) rfl hk (Nat.le_of_ble_eq_true rfl) ?_
        rw [show Lc29 202 k = kT (sA S) (sP S) (prX (sA S) (-1)) k from hT29 k hk]
        refine LW_lret dX10_now_41 rfl (Nat.le_of_ble_eq_true rfl) (Nat.le_of_ble_eq_true rfl) ?_
        exact HPost.q hH0 hf (Nat.le_add_right _ _) (by unfold qNow; rw [hc_cl (by omega), if_pos ⟨⟨nI_nn (by omega), (hc_lt (b := 11) (by omega) (by decide)).mpr hk⟩, c17⟩])
      · refine LW_ldc2 dX10_now_20 klX10_179 ?_
        refine LW_lret dX10_now_23 rfl (Nat.le_of_ble_eq_true rfl) (Nat.le_of_ble_eq_true rfl) ?_
        refine HPost.r hH ?_
        unfold qNow
        first | (rw [if_neg (fun z => z.2 (Classical.not_not.mp c17))]; done) | (rw [if_neg (fun z => absurd z.1.2 (Int32.not_lt.mpr c7))]; done) | (rw [if_neg (fun z => absurd z.1.1 (Int32.not_le.mpr c1))]; done)
def qMine (A : AS) (P : LwP) (m w : Int32) : Int64 := if (0 ≤ w ∧ w < 6) ∧ aIsX A m = true then kR A P (prX A (-1)) w.toNatClampNeg m.toNatClampNeg else -9223372036854775808
theorem aIsX_k {A : AS} (h : wf A) {x : Int32} (c : aIsX A x = true) : ∃ k, k < aM A ∧ k < 12 ∧ x = nI k ∧ aIs A k = true := by
  cases hk : aKnX A x with
  | false => rw [aIsX_f hk] at c; cases c
  | true =>
    obtain ⟨xe, xl⟩ := aKnX_n h hk
    have := h.m
    refine ⟨_, xl, by omega, xe, ?_⟩
    rw [aIsX_eq hk] at c
    unfold aIs
    rw [decide_eq_true xl, c]; rfl
set_option maxRecDepth 100000 in
theorem h_mine {Λ : hc_L} {I : hc_I} {L : hc_J} {R : hc_R} {S : HS} (hH : HW Λ I L R S) (m w : Int32) : Run xX10_mine [.ref 0, .int m, .int w] Λ I L R (HPost (some (.long (qMine (sA S) (sP S) m w))) S Λ I L R) := by
  refine Run.of (by decide +kernel) (Nat.le_of_ble_eq_true rfl) ?_
  show LW _ _ _ [(0, .ref 0), (1, .int m), (2, .int w)] _ _ _ _ _ _
  have hY := hH.y
  have hf : Fr SJ Λ I L R Λ I L R := Fr.rf
  have hA := hH.s.w
  have hH0 := hH
  refine LW_iloadn 2 dX10_mine_0 rfl rfl ?_
  refine LW_if_lt (tgt := 21) dX10_mine_1 (by decide) (fun c1 => ?_) (fun c1 => ?_)
  · refine LW_ldc2 dX10_mine_21 klX10_269 ?_
    refine LW_lret dX10_mine_24 rfl (Nat.le_of_ble_eq_true rfl) (Nat.le_of_ble_eq_true rfl) ?_
    refine HPost.r hH ?_
    unfold qMine
    first | (rw [if_neg (fun z => by rw [z.2] at c18; cases c18)]; done) | (rw [if_neg (fun z => absurd z.1.2 (Int32.not_lt.mpr c7))]; done) | (rw [if_neg (fun z => absurd z.1.1 (Int32.not_le.mpr c1))]; done)
  · refine LW_iloadn 2 dX10_mine_4 rfl rfl ?_
    refine LW_bipush (v := 6) dX10_mine_5 (by decide) ?_
    refine LW_icmp_ge (tgt := 21) dX10_mine_7 (by decide) (fun c7 => ?_) (fun c7 => ?_)
    · refine LW_ldc2 dX10_mine_21 klX10_269 ?_
      refine LW_lret dX10_mine_24 rfl (Nat.le_of_ble_eq_true rfl) (Nat.le_of_ble_eq_true rfl) ?_
      refine HPost.r hH ?_
      unfold qMine
      first | (rw [if_neg (fun z => by rw [z.2] at c18; cases c18)]; done) | (rw [if_neg (fun z => absurd z.1.2 (Int32.not_lt.mpr c7))]; done) | (rw [if_neg (fun z => absurd z.1.1 (Int32.not_le.mpr c1))]; done)
    · refine LW_aloadn 0 dX10_mine_10 rfl rfl ?_
      refine gX10_1 dX10_mine_11 flX10_19 (hY.lt (k := 0) (by decide)) (ly0 hY) (lf0_1 hY) ?_
      refine LW_iloadn 1 dX10_mine_14 rfl rfl ?_
      refine LW_callV (As := [.int m]) (b := 3) (st := []) (ci := 6) (r := (RX6, TX6, 15)) (r_isThere hH.s m) YX6_isThere rfl dX10_mine_15 mlX10_145 (hY.lt (k := 3) (by decide)) (ly3 hY) ⟨rfl, rfl⟩ (by decide) ⟨Nat.le_of_ble_eq_true rfl, Nat.le_of_ble_eq_true rfl⟩ (Nat.le_of_ble_eq_true rfl) rfl (fun r15 Λc15 Ic15 Lc15 Rc15 hq15 => ?_)
      obtain ⟨rfl, rfl, rfl, rfl, rfl⟩ := hq15
      refine LW_bif_ne (tgt := 25) dX10_mine_18 (by decide) (fun c18 => ?_) (fun c18 => ?_)
      · obtain ⟨b, hb, rfl⟩ := x_in (N := 6) (by decide) (Int32.not_lt.mp c1) (Int32.not_le.mp c7)
        obtain ⟨k, hkm, hk, rfl, hki⟩ := aIsX_k hA c18
        refine LW_aloadn 0 dX10_mine_25 rfl rfl ?_
        refine gX10_8 dX10_mine_26 flX10_66 (hY.lt (k := 0) (by decide)) (ly0 hY) (lf0_8 hY) ?_
        refine LW_iconst (v := -1) dX10_mine_29 (by decide) ?_
        refine LW_callV (As := [.int (-1)]) (b := 201) (st := []) (ci := 1) (r := (RX1, TX1, 11)) (r_reckon hY.en hH.s hY.as hH.l hH.p (fun k j hk hj => by omega) (-1)) YX1_reckon rfl dX10_mine_30 mlX10_181 (hY.lt (k := 201) (by decide)) (ly201 hY) ⟨rfl, rfl⟩ (by decide) ⟨Nat.le_of_ble_eq_true rfl, Nat.le_of_ble_eq_true rfl⟩ (Nat.le_of_ble_eq_true rfl) rfl (fun r30 Λc30 Ic30 Lc30 Rc30 hq30 => ?_)
        obtain ⟨rfl, rfl, hI30, hL30, hR30, hT30, hRw30, hPr30, hPt30⟩ := hq30
        obtain rfl : R = Rc30 := hR30
        have hf30 : Fr SJ Λ I L R Λ Ic30 Lc30 R := Fr.of hI30 hL30 (fun _ _ => rfl) kI_s kJ_s (fun z (q : False) => absurd q (fun q => q))
        have hf := hf.trans hf30
        have hH := hH.fr hf30 (fun _ q => q.s)
        refine LW_aloadn 0 dX10_mine_33 rfl rfl ?_
        refine gX10_8 dX10_mine_34 flX10_66 (hY.lt (k := 0) (by decide)) (ly0 hY) (lf0_8 hY) ?_
        refine gX1_3 dX10_mine_37 flX10_271 (hY.lt (k := 201) (by decide)) (ly201 hY) (lf201_3 hY) ?_
        refine LW_iloadn 2 dX10_mine_40 rfl rfl ?_
        refine LW_aald7 (r := 201 + 3 + b) dX10_mine_41 (hY.lt (k := 203) (by decide)) (ly203 hY) rfl hb (Nat.le_of_ble_eq_true rfl) (hY.en.fr b hb) ?_
        refine LW_iloadn 1 dX10_mine_42 rfl rfl ?_
        refine LW_lald dX10_mine_43 (by have := hY.1; omega) (hY.en.yr b hb) rfl hk (Nat.le_of_ble_eq_true rfl) ?_
        rw [show Lc30 (201 + 3 + b) k = kR (sA S) (sP S) (prX (sA S) (-1)) b k from hRw30 b k hb hk]
        refine LW_lret dX10_mine_44 rfl (Nat.le_of_ble_eq_true rfl) (Nat.le_of_ble_eq_true rfl) ?_
        exact HPost.q hH0 hf (Nat.le_add_right _ _) (by unfold qMine; rw [hc_cl (by omega), hc_cl (by omega), if_pos ⟨⟨nI_nn (by omega), (hc_lt (b := 6) (by omega) (by decide)).mpr hb⟩, c18⟩])
      · refine LW_ldc2 dX10_mine_21 klX10_269 ?_
        refine LW_lret dX10_mine_24 rfl (Nat.le_of_ble_eq_true rfl) (Nat.le_of_ble_eq_true rfl) ?_
        refine HPost.r hH ?_
        unfold qMine
        first | (rw [if_neg (fun z => by rw [z.2] at c18; cases c18)]; done) | (rw [if_neg (fun z => absurd z.1.2 (Int32.not_lt.mpr c7))]; done) | (rw [if_neg (fun z => absurd z.1.1 (Int32.not_le.mpr c1))]; done)
def qWithout (A : AS) (P : LwP) (m w : Int32) : Int64 := if ¬ m = w ∧ aIsX A m = true ∧ aIsX A w = true then kR A P (prX A w) 5 m.toNatClampNeg - kR A P (prX A (-1)) 5 m.toNatClampNeg else -9223372036854775808
set_option maxRecDepth 100000 in
theorem h_without {Λ : hc_L} {I : hc_I} {L : hc_J} {R : hc_R} {S : HS} (hH : HW Λ I L R S) (m w : Int32) : Run xX10_without [.ref 0, .int m, .int w] Λ I L R (HPost (some (.long (qWithout (sA S) (sP S) m w))) S Λ I L R) := by
  refine Run.of (by decide +kernel) (Nat.le_of_ble_eq_true rfl) ?_
  show LW _ _ _ [(0, .ref 0), (1, .int m), (2, .int w)] _ _ _ _ _ _
  have hY := hH.y
  have hf : Fr SJ Λ I L R Λ I L R := Fr.rf
  have hA := hH.s.w
  have hH0 := hH
  refine LW_iloadn 1 dX10_without_0 rfl rfl ?_
  refine LW_iloadn 2 dX10_without_1 rfl rfl ?_
  refine LW_icmp_eq (tgt := 27) dX10_without_2 (by decide) (fun c2 => ?_) (fun c2 => ?_)
  · refine LW_ldc2 dX10_without_27 klX10_269 ?_
    refine LW_lret dX10_without_30 rfl (Nat.le_of_ble_eq_true rfl) (Nat.le_of_ble_eq_true rfl) ?_
    refine HPost.r hH ?_
    unfold qWithout
    first | (rw [if_neg (fun z => by rw [z.2.2] at c24; cases c24)]; done) | (rw [if_neg (fun z => by rw [z.2.1] at c13; cases c13)]; done) | (rw [if_neg (fun z => z.1 c2)]; done)
  · refine LW_aloadn 0 dX10_without_5 rfl rfl ?_
    refine gX10_1 dX10_without_6 flX10_19 (hY.lt (k := 0) (by decide)) (ly0 hY) (lf0_1 hY) ?_
    refine LW_iloadn 1 dX10_without_9 rfl rfl ?_
    refine LW_callV (As := [.int m]) (b := 3) (st := []) (ci := 6) (r := (RX6, TX6, 15)) (r_isThere hH.s m) YX6_isThere rfl dX10_without_10 mlX10_145 (hY.lt (k := 3) (by decide)) (ly3 hY) ⟨rfl, rfl⟩ (by decide) ⟨Nat.le_of_ble_eq_true rfl, Nat.le_of_ble_eq_true rfl⟩ (Nat.le_of_ble_eq_true rfl) rfl (fun r10 Λc10 Ic10 Lc10 Rc10 hq10 => ?_)
    obtain ⟨rfl, rfl, rfl, rfl, rfl⟩ := hq10
    refine LW_bif_eq (tgt := 27) dX10_without_13 (by decide) (fun c13 => ?_) (fun c13 => ?_)
    · refine LW_ldc2 dX10_without_27 klX10_269 ?_
      refine LW_lret dX10_without_30 rfl (Nat.le_of_ble_eq_true rfl) (Nat.le_of_ble_eq_true rfl) ?_
      refine HPost.r hH ?_
      unfold qWithout
      first | (rw [if_neg (fun z => by rw [z.2.2] at c24; cases c24)]; done) | (rw [if_neg (fun z => by rw [z.2.1] at c13; cases c13)]; done) | (rw [if_neg (fun z => z.1 c2)]; done)
    · refine LW_aloadn 0 dX10_without_16 rfl rfl ?_
      refine gX10_1 dX10_without_17 flX10_19 (hY.lt (k := 0) (by decide)) (ly0 hY) (lf0_1 hY) ?_
      refine LW_iloadn 2 dX10_without_20 rfl rfl ?_
      refine LW_callV (As := [.int w]) (b := 3) (st := []) (ci := 6) (r := (RX6, TX6, 15)) (r_isThere hH.s w) YX6_isThere rfl dX10_without_21 mlX10_145 (hY.lt (k := 3) (by decide)) (ly3 hY) ⟨rfl, rfl⟩ (by decide) ⟨Nat.le_of_ble_eq_true rfl, Nat.le_of_ble_eq_true rfl⟩ (Nat.le_of_ble_eq_true rfl) rfl (fun r21 Λc21 Ic21 Lc21 Rc21 hq21 => ?_)
      obtain ⟨rfl, rfl, rfl, rfl, rfl⟩ := hq21
      refine LW_bif_ne (tgt := 31) dX10_without_24 (by decide) (fun c24 => ?_) (fun c24 => ?_)
      · obtain ⟨k, hkm, hk, rfl, hki⟩ := aIsX_k hA c13
        refine LW_aloadn 0 dX10_without_31 rfl rfl ?_
        refine gX10_8 dX10_without_32 flX10_66 (hY.lt (k := 0) (by decide)) (ly0 hY) (lf0_8 hY) ?_
        refine LW_iconst (v := -1) dX10_without_35 (by decide) ?_
        refine LW_callV (As := [.int (-1)]) (b := 201) (st := []) (ci := 1) (r := (RX1, TX1, 11)) (r_reckon hY.en hH.s hY.as hH.l hH.p (fun k j hk hj => by omega) (-1)) YX1_reckon rfl dX10_without_36 mlX10_181 (hY.lt (k := 201) (by decide)) (ly201 hY) ⟨rfl, rfl⟩ (by decide) ⟨Nat.le_of_ble_eq_true rfl, Nat.le_of_ble_eq_true rfl⟩ (Nat.le_of_ble_eq_true rfl) rfl (fun r36 Λc36 Ic36 Lc36 Rc36 hq36 => ?_)
        obtain ⟨rfl, rfl, hI36, hL36, hR36, hT36, hRw36, hPr36, hPt36⟩ := hq36
        obtain rfl : R = Rc36 := hR36
        have hf36 : Fr SJ Λ I L R Λ Ic36 Lc36 R := Fr.of hI36 hL36 (fun _ _ => rfl) kI_s kJ_s (fun z (q : False) => absurd q (fun q => q))
        have hf := hf.trans hf36
        have hH := hH.fr hf36 (fun _ q => q.s)
        refine LW_aloadn 0 dX10_without_39 rfl rfl ?_
        refine gX10_8 dX10_without_40 flX10_66 (hY.lt (k := 0) (by decide)) (ly0 hY) (lf0_8 hY) ?_
        refine gX1_3 dX10_without_43 flX10_271 (hY.lt (k := 201) (by decide)) (ly201 hY) (lf201_3 hY) ?_
        refine LW_iconst (v := 5) dX10_without_46 (by decide) ?_
        refine LW_aald7 (r := 201 + 3 + 5) dX10_without_47 (hY.lt (k := 203) (by decide)) (ly203 hY) rfl (by decide) (Nat.le_of_ble_eq_true rfl) (hY.en.fr 5 (by decide)) ?_
        refine LW_iloadn 1 dX10_without_48 rfl rfl ?_
        refine LW_lald dX10_without_49 (by have := hY.1; omega) (hY.en.yr 5 (by decide)) rfl hk (Nat.le_of_ble_eq_true rfl) ?_
        rw [show Lc36 (201 + 3 + 5) k = kR (sA S) (sP S) (prX (sA S) (-1)) 5 k from hRw36 5 k (by decide) hk]
        refine LW_lstoren (ls' := [(0, .ref 0), (1, .int (nI k)), (2, .int w), (3, .long (kR (sA S) (sP S) (prX (sA S) (-1)) 5 k))]) dX10_without_50 rfl (by decide) rfl ?_
        refine LW_aloadn 0 dX10_without_51 rfl rfl ?_
        refine gX10_8 dX10_without_52 flX10_66 (hY.lt (k := 0) (by decide)) (ly0 hY) (lf0_8 hY) ?_
        refine LW_iloadn 2 dX10_without_55 rfl rfl ?_
        refine LW_callV (As := [.int w]) (b := 201) (st := []) (ci := 1) (r := (RX1, TX1, 11)) (r_reckon hY.en hH.s hY.as hH.l hH.p (fun k j hk hj => by omega) w) YX1_reckon rfl dX10_without_56 mlX10_181 (hY.lt (k := 201) (by decide)) (ly201 hY) ⟨rfl, rfl⟩ (by decide) ⟨Nat.le_of_ble_eq_true rfl, Nat.le_of_ble_eq_true rfl⟩ (Nat.le_of_ble_eq_true rfl) rfl (fun r56 Λc56 Ic56 Lc56 Rc56 hq56 => ?_)
        obtain ⟨rfl, rfl, hI56, hL56, hR56, hT56, hRw56, hPr56, hPt56⟩ := hq56
        obtain rfl : R = Rc56 := hR56
        have hf56 : Fr SJ Λ Ic36 Lc36 R Λ Ic56 Lc56 R := Fr.of hI56 hL56 (fun _ _ => rfl) kI_s kJ_s (fun z (q : False) => absurd q (fun q => q))
        have hf := hf.trans hf56
        have hH := hH.fr hf56 (fun _ q => q.s)
        refine LW_aloadn 0 dX10_without_59 rfl rfl ?_
        refine gX10_8 dX10_without_60 flX10_66 (hY.lt (k := 0) (by decide)) (ly0 hY) (lf0_8 hY) ?_
        refine gX1_3 dX10_without_63 flX10_271 (hY.lt (k := 201) (by decide)) (ly201 hY) (lf201_3 hY) ?_
        refine LW_iconst (v := 5) dX10_without_66 (by decide) ?_
        refine LW_aald7 (r := 201 + 3 + 5) dX10_without_67 (hY.lt (k := 203) (by decide)) (ly203 hY) rfl (by decide) (Nat.le_of_ble_eq_true rfl) (hY.en.fr 5 (by decide)) ?_
        refine LW_iloadn 1 dX10_without_68 rfl rfl ?_
        refine LW_lald dX10_without_69 (by have := hY.1; omega) (hY.en.yr 5 (by decide)) rfl hk (Nat.le_of_ble_eq_true rfl) ?_
        rw [show Lc56 (201 + 3 + 5) k = kR (sA S) (sP S) (prX (sA S) w) 5 k from hRw56 5 k (by decide) hk]
        refine LW_lloadn 3 dX10_without_70 rfl rfl ?_
        refine LW_lsub dX10_without_71 ?_
        refine LW_lret dX10_without_72 rfl (Nat.le_of_ble_eq_true rfl) (Nat.le_of_ble_eq_true rfl) ?_
        exact HPost.q hH0 hf (Nat.le_add_right _ _) (by unfold qWithout; rw [hc_cl (by omega), if_pos ⟨c2, c13, c24⟩])
      · refine LW_ldc2 dX10_without_27 klX10_269 ?_
        refine LW_lret dX10_without_30 rfl (Nat.le_of_ble_eq_true rfl) (Nat.le_of_ble_eq_true rfl) ?_
        refine HPost.r hH ?_
        unfold qWithout
        first | (rw [if_neg (fun z => by rw [z.2.2] at c24; cases c24)]; done) | (rw [if_neg (fun z => by rw [z.2.1] at c13; cases c13)]; done) | (rw [if_neg (fun z => z.1 c2)]; done)
def rsV (A : AS) (P : LwP) : Int64 := 2 * (if kT A P (prX A (-1)) 2 - kT A P (prX A (-1)) 3 < 0 then 0 else kT A P (prX A (-1)) 2 - kT A P (prX A (-1)) 3)
def qReserve (A : AS) (P : LwP) : Int64 := if abMt A (aM A) = 0 then -1 else if rsV A P ≤ 99999999 then rsV A P else -1
set_option maxRecDepth 100000 in
theorem h_reserve {Λ : hc_L} {I : hc_I} {L : hc_J} {R : hc_R} {S : HS} (hH : HW Λ I L R S)  : Run xX10_reserve [.ref 0] Λ I L R (HPost (some (.long (qReserve (sA S) (sP S)))) S Λ I L R) := by
  refine Run.of (by decide +kernel) (Nat.le_of_ble_eq_true rfl) ?_
  show LW _ _ _ [(0, .ref 0)] _ _ _ _ _ _
  have hY := hH.y
  have hf : Fr SJ Λ I L R Λ I L R := Fr.rf
  have hA := hH.s.w
  have hH0 := hH
  refine LW_aloadn 0 dX10_reserve_0 rfl rfl ?_
  refine gX10_1 dX10_reserve_1 flX10_19 (hY.lt (k := 0) (by decide)) (ly0 hY) (lf0_1 hY) ?_
  refine LW_callV (As := []) (b := 3) (st := []) (ci := 6) (r := (RX6, TX6, 15)) (r_membersThere hH.s) YX6_membersThere rfl dX10_reserve_4 mlX10_175 (hY.lt (k := 3) (by decide)) (ly3 hY) ⟨rfl, rfl⟩ (by decide) ⟨Nat.le_of_ble_eq_true rfl, Nat.le_of_ble_eq_true rfl⟩ (Nat.le_of_ble_eq_true rfl) rfl (fun r4 Λc4 Ic4 Lc4 Rc4 hq4 => ?_)
  obtain ⟨rfl, rfl, rfl, rfl, rfl⟩ := hq4
  refine LW_if_ne (tgt := 14) dX10_reserve_7 (by decide) (fun c7 => ?_) (fun c7 => ?_)
  · refine LW_aloadn 0 dX10_reserve_14 rfl rfl ?_
    refine gX10_8 dX10_reserve_15 flX10_66 (hY.lt (k := 0) (by decide)) (ly0 hY) (lf0_8 hY) ?_
    refine LW_iconst (v := -1) dX10_reserve_18 (by decide) ?_
    refine LW_callV (As := [.int (-1)]) (b := 201) (st := []) (ci := 1) (r := (RX1, TX1, 11)) (r_reckon hY.en hH.s hY.as hH.l hH.p (fun k j hk hj => by omega) (-1)) YX1_reckon rfl dX10_reserve_19 mlX10_181 (hY.lt (k := 201) (by decide)) (ly201 hY) ⟨rfl, rfl⟩ (by decide) ⟨Nat.le_of_ble_eq_true rfl, Nat.le_of_ble_eq_true rfl⟩ (Nat.le_of_ble_eq_true rfl) rfl (fun r19 Λc19 Ic19 Lc19 Rc19 hq19 => ?_)
    obtain ⟨rfl, rfl, hI19, hL19, hR19, hT19, hRw19, hPr19, hPt19⟩ := hq19
    obtain rfl : R = Rc19 := hR19
    have hf19 : Fr SJ Λ I L R Λ Ic19 Lc19 R := Fr.of hI19 hL19 (fun _ _ => rfl) kI_s kJ_s (fun z (q : False) => absurd q (fun q => q))
    have hf := hf.trans hf19
    have hH := hH.fr hf19 (fun _ q => q.s)
    refine LW_ldc2 dX10_reserve_22 klX10_307 ?_
    refine LW_lconst (v := 0) dX10_reserve_25 (by decide) ?_
    refine LW_aloadn 0 dX10_reserve_26 rfl rfl ?_
    refine gX10_8 dX10_reserve_27 flX10_66 (hY.lt (k := 0) (by decide)) (ly0 hY) (lf0_8 hY) ?_
    refine gX1_2 dX10_reserve_30 flX10_188 (hY.lt (k := 201) (by decide)) (ly201 hY) (lf201_2 hY) ?_
    refine LW_iconst (v := 2) dX10_reserve_33 (by decide) ?_
    refine LW_lald dX10_reserve_34 (hY.lt (k := 202) (by decide)) (ly202 hY) rfl (by decide) (Nat.le_of_ble_eq_true rfl) ?_
    rw [show Lc19 202 2 = kT (sA S) (sP S) (prX (sA S) (-1)) 2 from hT19 2 (by decide)]
    refine LW_aloadn 0 dX10_reserve_35 rfl rfl ?_
    refine gX10_8 dX10_reserve_36 flX10_66 (hY.lt (k := 0) (by decide)) (ly0 hY) (lf0_8 hY) ?_
    refine gX1_2 dX10_reserve_39 flX10_188 (hY.lt (k := 201) (by decide)) (ly201 hY) (lf201_2 hY) ?_
    refine LW_iconst (v := 3) dX10_reserve_42 (by decide) ?_
    refine LW_lald dX10_reserve_43 (hY.lt (k := 202) (by decide)) (ly202 hY) rfl (by decide) (Nat.le_of_ble_eq_true rfl) ?_
    rw [show Lc19 202 3 = kT (sA S) (sP S) (prX (sA S) (-1)) 3 from hT19 3 (by decide)]
    refine LW_lsub dX10_reserve_44 ?_
    refine LW_lmax dX10_reserve_45 mlX10_312 (by decide) ⟨Nat.le_refl _, Nat.le_refl _⟩ (Nat.le_of_ble_eq_true rfl) ?_
    refine LW_lmul dX10_reserve_48 ?_
    rw [show (2 * (if ((kT (sA S) (sP S) (prX (sA S) (-1)) 2) - (kT (sA S) (sP S) (prX (sA S) (-1)) 3)) < 0 then 0 else ((kT (sA S) (sP S) (prX (sA S) (-1)) 2) - (kT (sA S) (sP S) (prX (sA S) (-1)) 3)))) = rsV (sA S) (sP S) from rfl]
    refine LW_lstoren (ls' := [(0, .ref 0), (1, .long (rsV (sA S) (sP S)))]) dX10_reserve_49 rfl (by decide) rfl ?_
    refine LW_lloadn 1 dX10_reserve_50 rfl rfl ?_
    refine LW_ldc2 dX10_reserve_51 klX10_315 ?_
    refine LW_lcmp dX10_reserve_54 ?_
    refine LW_lif_gt (tgt := 62) dX10_reserve_55 (by decide) (fun c55 => ?_) (fun c55 => ?_)
    · refine LW_ldc2 dX10_reserve_62 klX10_179 ?_
      refine LW_lret dX10_reserve_65 rfl (Nat.le_of_ble_eq_true rfl) (Nat.le_of_ble_eq_true rfl) ?_
      exact HPost.q hH0 hf (Nat.le_add_right _ _) (by unfold qReserve; rw [if_neg c7, if_neg (Int64.not_le.mpr c55)])
    · refine LW_lloadn 1 dX10_reserve_58 rfl rfl ?_
      refine LW_goto (tgt := 65) dX10_reserve_59 (by decide) ?_
      refine LW_lret dX10_reserve_65 rfl (Nat.le_of_ble_eq_true rfl) (Nat.le_of_ble_eq_true rfl) ?_
      exact HPost.q hH0 hf (Nat.le_add_right _ _) (by unfold qReserve; rw [if_neg c7, if_pos (Int64.not_lt.mp c55)])
  · refine LW_ldc2 dX10_reserve_10 klX10_179 ?_
    refine LW_lret dX10_reserve_13 rfl (Nat.le_of_ble_eq_true rfl) (Nat.le_of_ble_eq_true rfl) ?_
    exact HPost.r hH (by unfold qReserve; rw [if_pos (Classical.not_not.mp c7)])
theorem abAdv_congr {p p' : Nat → Int64} (h : ∀ j, j < 12 → p j = p' j) (x : Int64) : abAdv p x 12 = abAdv p' x 12 := sumJ_congr (fun j hj => by rw [h j hj])
def rtP (A : AS) (P : LwP) (r : Nat) : Bool := decide (kT A P (prX A (-1)) 2 - abAdv (gP A (prX A (-1))) (lN r) 12 ≤ aRu A 1 / 2)
def qRate (A : AS) (P : LwP) : Int32 := if abMt A (aM A) = 0 then -1 else abFind (rtP A P) 1000 0
set_option maxRecDepth 100000 in
theorem rt_loop {Λ : hc_L} {I : hc_I} {L : hc_J} {R : hc_R} {S : HS} (hH : HW Λ I L R S) {Λ0 : hc_L} {I0 : hc_I} {L0 : hc_J} {R0 : hc_R} (hT2 : L 202 2 = kT (sA S) (sP S) (prX (sA S) (-1)) 2) (hPt : ∀ j, j < 12 → L (201 + 12) j = gP (sA S) (prX (sA S) (-1)) j) (hfin : ∀ v, HPost (some (.int v)) S Λ0 I0 L0 R0 (some (.int v)) Λ I L R) : ∀ d r, r + d = 1000 → abFind (rtP (sA S) (sP S)) d r = abFind (rtP (sA S) (sP S)) 1000 0 → LW xX10_rate (0, 0) 36 [(0, .ref 0), (1, .long (aRu (sA S) 1 / 2)), (3, .int (nI r))] [] Λ I L R (HPost (some (.int (abFind (rtP (sA S) (sP S)) 1000 0))) S Λ0 I0 L0 R0) := by
  have hY := hH.y
  intro d
  induction d with
  | zero =>
    intro r hrd he
    obtain rfl : r = 1000 := by omega
    refine LW_iloadn 2 dX10_rate_36 rfl rfl ?_
    refine LW_sipush (v := 999) dX10_rate_37 (by decide) ?_
    refine LW_icmp_gt (tgt := 74) dX10_rate_40 (by decide) (fun c40 => ?_) (fun c40 => absurd (by decide) c40)
    refine LW_iconst (v := -1) dX10_rate_74 (by decide) ?_
    refine LW_iret dX10_rate_75 rfl (Nat.le_of_ble_eq_true rfl) (Nat.le_of_ble_eq_true rfl) ?_
    rw [← he]
    exact hfin _
  | succ d ih =>
    intro r hrd he
    refine LW_iloadn 2 dX10_rate_36 rfl rfl ?_
    refine LW_sipush (v := 999) dX10_rate_37 (by decide) ?_
    refine LW_icmp_gt (tgt := 74) dX10_rate_40 (by decide) (fun c40 => absurd c40 (hc_nlt (a := 999) (b := r) (by decide) (by omega) (by omega))) (fun c40 => ?_)
    refine LW_aloadn 0 dX10_rate_43 rfl rfl ?_
    refine gX10_8 dX10_rate_44 flX10_66 (hY.lt (k := 0) (by decide)) (ly0 hY) (lf0_8 hY) ?_
    refine gX1_2 dX10_rate_47 flX10_188 (hY.lt (k := 201) (by decide)) (ly201 hY) (lf201_2 hY) ?_
    refine LW_iconst (v := 2) dX10_rate_50 (by decide) ?_
    refine LW_lald dX10_rate_51 (hY.lt (k := 202) (by decide)) (ly202 hY) rfl (by decide) (Nat.le_of_ble_eq_true rfl) ?_
    rw [show L 202 2 = kT (sA S) (sP S) (prX (sA S) (-1)) 2 from hT2]
    refine LW_aloadn 0 dX10_rate_52 rfl rfl ?_
    refine gX10_8 dX10_rate_53 flX10_66 (hY.lt (k := 0) (by decide)) (ly0 hY) (lf0_8 hY) ?_
    refine LW_iloadn 2 dX10_rate_56 rfl rfl ?_
    refine LW_callV (As := [.int (nI r)]) (b := 201) (st := [.long (kT (sA S) (sP S) (prX (sA S) (-1)) 2)]) (ci := 1) (r := (RX1, TX1, 11)) (r_advancesBy hY.en (nI r)) YX1_advancesBy rfl dX10_rate_57 mlX10_309 (hY.lt (k := 201) (by decide)) (ly201 hY) ⟨rfl, rfl⟩ (by decide) ⟨Nat.le_of_ble_eq_true rfl, Nat.le_of_ble_eq_true rfl⟩ (Nat.le_of_ble_eq_true rfl) rfl (fun r57 Λc57 Ic57 Lc57 Rc57 hq57 => ?_)
    obtain ⟨rfl, rfl, rfl, rfl, rfl⟩ := hq57
    rw [show abAdv (L (201 + 12)) (nI r).toInt64 12 = abAdv (gP (sA S) (prX (sA S) (-1))) (lN r) 12 by rw [nI_l (by omega)]; exact abAdv_congr hPt _]
    refine LW_lsub dX10_rate_60 ?_
    refine LW_lloadn 1 dX10_rate_61 rfl rfl ?_
    refine LW_lcmp dX10_rate_62 ?_
    refine LW_lif_gt (tgt := 68) dX10_rate_63 (by decide) (fun c63 => ?_) (fun c63 => ?_)
    · have e : rtP (sA S) (sP S) r = false := decide_eq_false (Int64.not_le.mpr c63)
      rw [abFind, if_neg (by rw [e]; decide)] at he
      refine LW_iinc (n := 2) (v := nI (r + 1)) (ls' := [(0, .ref 0), (1, .long (aRu (sA S) 1 / 2)), (3, .int (nI (r + 1)))]) dX10_rate_68 rfl (hc_inc _) (by decide) rfl ?_
      refine LW_goto (tgt := 36) dX10_rate_71 (by decide) ?_
      exact ih (r + 1) (by omega) he
    · have e : rtP (sA S) (sP S) r = true := decide_eq_true (Int64.not_lt.mp c63)
      rw [abFind, if_pos e] at he
      refine LW_iloadn 2 dX10_rate_66 rfl rfl ?_
      refine LW_iret dX10_rate_67 rfl (Nat.le_of_ble_eq_true rfl) (Nat.le_of_ble_eq_true rfl) ?_
      rw [← he]
      exact hfin _
set_option maxRecDepth 100000 in
theorem h_rate {Λ : hc_L} {I : hc_I} {L : hc_J} {R : hc_R} {S : HS} (hH : HW Λ I L R S)  : Run xX10_rate [.ref 0] Λ I L R (HPost (some (.int (qRate (sA S) (sP S)))) S Λ I L R) := by
  refine Run.of (by decide +kernel) (Nat.le_of_ble_eq_true rfl) ?_
  show LW _ _ _ [(0, .ref 0)] _ _ _ _ _ _
  have hY := hH.y
  have hf : Fr SJ Λ I L R Λ I L R := Fr.rf
  have hA := hH.s.w
  have hH0 := hH
  refine LW_aloadn 0 dX10_rate_0 rfl rfl ?_
  refine gX10_1 dX10_rate_1 flX10_19 (hY.lt (k := 0) (by decide)) (ly0 hY) (lf0_1 hY) ?_
  refine LW_callV (As := []) (b := 3) (st := []) (ci := 6) (r := (RX6, TX6, 15)) (r_membersThere hH.s) YX6_membersThere rfl dX10_rate_4 mlX10_175 (hY.lt (k := 3) (by decide)) (ly3 hY) ⟨rfl, rfl⟩ (by decide) ⟨Nat.le_of_ble_eq_true rfl, Nat.le_of_ble_eq_true rfl⟩ (Nat.le_of_ble_eq_true rfl) rfl (fun r4 Λc4 Ic4 Lc4 Rc4 hq4 => ?_)
  obtain ⟨rfl, rfl, rfl, rfl, rfl⟩ := hq4
  refine LW_if_ne (tgt := 12) dX10_rate_7 (by decide) (fun c7 => ?_) (fun c7 => ?_)
  · refine LW_aloadn 0 dX10_rate_12 rfl rfl ?_
    refine gX10_8 dX10_rate_13 flX10_66 (hY.lt (k := 0) (by decide)) (ly0 hY) (lf0_8 hY) ?_
    refine LW_iconst (v := -1) dX10_rate_16 (by decide) ?_
    refine LW_callV (As := [.int (-1)]) (b := 201) (st := []) (ci := 1) (r := (RX1, TX1, 11)) (r_reckon hY.en hH.s hY.as hH.l hH.p (fun k j hk hj => by omega) (-1)) YX1_reckon rfl dX10_rate_17 mlX10_181 (hY.lt (k := 201) (by decide)) (ly201 hY) ⟨rfl, rfl⟩ (by decide) ⟨Nat.le_of_ble_eq_true rfl, Nat.le_of_ble_eq_true rfl⟩ (Nat.le_of_ble_eq_true rfl) rfl (fun r17 Λc17 Ic17 Lc17 Rc17 hq17 => ?_)
    obtain ⟨rfl, rfl, hI17, hL17, hR17, hT17, hRw17, hPr17, hPt17⟩ := hq17
    obtain rfl : R = Rc17 := hR17
    have hf17 : Fr SJ Λ I L R Λ Ic17 Lc17 R := Fr.of hI17 hL17 (fun _ _ => rfl) kI_s kJ_s (fun z (q : False) => absurd q (fun q => q))
    have hf := hf.trans hf17
    have hH := hH.fr hf17 (fun _ q => q.s)
    refine LW_aloadn 0 dX10_rate_20 rfl rfl ?_
    refine gX10_1 dX10_rate_21 flX10_19 (hY.lt (k := 0) (by decide)) (ly0 hY) (lf0_1 hY) ?_
    refine gX6_0 dX10_rate_24 flX10_109 (hY.lt (k := 3) (by decide)) (ly3 hY) (lf3_0 hY) ?_
    refine LW_iconst (v := 1) dX10_rate_27 (by decide) ?_
    refine LW_lald dX10_rate_28 (hY.lt (k := 4) (by decide)) (ly4 hY) rfl (by decide) (Nat.le_of_ble_eq_true rfl) ?_
    rw [show Lc17 4 1 = aRu (sA S) 1 from hH.s.ru (by decide)]
    refine LW_ldc2 dX10_rate_29 klX10_307 ?_
    refine LW_ldiv dX10_rate_32 (by decide) ?_
    refine LW_lstoren (ls' := [(0, .ref 0), (1, .long ((aRu (sA S) 1) / 2))]) dX10_rate_33 rfl (by decide) rfl ?_
    refine LW_iconst (v := 0) dX10_rate_34 (by decide) ?_
    refine LW_istoren (ls' := [(0, .ref 0), (1, .long ((aRu (sA S) 1) / 2)), (3, .int 0)]) dX10_rate_35 rfl (by decide) rfl ?_
    unfold qRate
    rw [if_neg c7]
    exact rt_loop hH (hT17 2 (by decide)) (fun j hj => hPt17 j hj) (fun v => HPost.q hH0 hf (Nat.le_add_right _ _) rfl) 1000 0 rfl rfl
  · refine LW_iconst (v := -1) dX10_rate_10 (by decide) ?_
    refine LW_iret dX10_rate_11 rfl (Nat.le_of_ble_eq_true rfl) (Nat.le_of_ble_eq_true rfl) ?_
    exact HPost.r hH (by unfold qRate; rw [if_pos (Classical.not_not.mp c7)])
theorem sumI_congr {f g : Nat → Int32} : ∀ {n : Nat}, (∀ j, j < n → f j = g j) → sumI f n = sumI g n
  | 0, _ => rfl
  | n + 1, h => by
    show sumI f n + f n = sumI g n + g n
    rw [sumI_congr (fun j hj => h j (by omega)), h n (by omega)]
theorem abAhead_congr {pr : Nat → Bool} {b b' : Nat → Int64} (h : ∀ j, j < 12 → b j = b' j) {m : Nat} (hm : m < 12) : abAhead pr b m 12 = abAhead pr b' m 12 := sumI_congr (fun j hj => by unfold aheadN; rw [h j hj, h m hm])
def rkP (A : AS) (P : LwP) (x : Int32) (m : Nat) : Bool := aIs A m && decide (abAhead (prX A (-1)) (kR A P (prX A (-1)) 5) m 12 = x)
def qRank (A : AS) (P : LwP) (x : Int32) : Int32 := abFind (rkP A P x) (aM A) 0
set_option maxRecDepth 100000 in
theorem rk_loop {Λ : hc_L} {I : hc_I} {L : hc_J} {R : hc_R} {S : HS} (hH : HW Λ I L R S) {Λ0 : hc_L} {I0 : hc_I} {L0 : hc_J} {R0 : hc_R} {x : Int32} (hPr : ∀ j, j < 12 → I (201 + 9) j = hc_b (prX (sA S) (-1) j)) (hB5 : ∀ j, j < 12 → L (201 + 8) j = kR (sA S) (sP S) (prX (sA S) (-1)) 5 j) (hfin : ∀ v, HPost (some (.int v)) S Λ0 I0 L0 R0 (some (.int v)) Λ I L R) : ∀ d r, r + d = aM (sA S) → abFind (rkP (sA S) (sP S) x) d r = qRank (sA S) (sP S) x → LW xX10_rank (0, 0) 10 [(0, .ref 0), (1, .int x), (2, .int (nI r))] [] Λ I L R (HPost (some (.int (qRank (sA S) (sP S) x))) S Λ0 I0 L0 R0) := by
  have hY := hH.y
  have hm12 := hH.s.w.m
  intro d
  induction d with
  | zero =>
    intro r hrd he
    rw [Nat.add_zero] at hrd
    subst hrd
    refine LW_iloadn 2 dX10_rank_10 rfl rfl ?_
    refine LW_aloadn 0 dX10_rank_11 rfl rfl ?_
    refine gX10_1 dX10_rank_12 flX10_19 (hY.lt (k := 0) (by decide)) (ly0 hY) (lf0_1 hY) ?_
    refine gX6_11 dX10_rank_15 flX10_102 (hY.lt (k := 3) (by decide)) (ly3 hY) ?_
    rw [show I 3 11 = nI (aM (sA S)) from hH.s.m]
    refine LW_icmp_ge (tgt := 52) dX10_rank_18 (by decide) (fun c18 => ?_) (fun c18 => absurd (Int32.le_refl _) c18)
    refine LW_iconst (v := -1) dX10_rank_52 (by decide) ?_
    refine LW_iret dX10_rank_53 rfl (Nat.le_of_ble_eq_true rfl) (Nat.le_of_ble_eq_true rfl) ?_
    rw [← he]
    exact hfin _
  | succ d ih =>
    intro r hrd he
    refine LW_iloadn 2 dX10_rank_10 rfl rfl ?_
    refine LW_aloadn 0 dX10_rank_11 rfl rfl ?_
    refine gX10_1 dX10_rank_12 flX10_19 (hY.lt (k := 0) (by decide)) (ly0 hY) (lf0_1 hY) ?_
    refine gX6_11 dX10_rank_15 flX10_102 (hY.lt (k := 3) (by decide)) (ly3 hY) ?_
    rw [show I 3 11 = nI (aM (sA S)) from hH.s.m]
    refine LW_icmp_ge (tgt := 52) dX10_rank_18 (by decide) (fun c18 => absurd c18 (hc_nle (by omega) (by omega) (by omega))) (fun c18 => ?_)
    refine LW_aloadn 0 dX10_rank_21 rfl rfl ?_
    refine gX10_1 dX10_rank_22 flX10_19 (hY.lt (k := 0) (by decide)) (ly0 hY) (lf0_1 hY) ?_
    refine LW_iloadn 2 dX10_rank_25 rfl rfl ?_
    refine LW_callV (As := [.int (nI r)]) (b := 3) (st := []) (ci := 6) (r := (RX6, TX6, 15)) (r_isThereN hH.s (k := r) (by omega)) YX6_isThere rfl dX10_rank_26 mlX10_145 (hY.lt (k := 3) (by decide)) (ly3 hY) ⟨rfl, rfl⟩ (by decide) ⟨Nat.le_of_ble_eq_true rfl, Nat.le_of_ble_eq_true rfl⟩ (Nat.le_of_ble_eq_true rfl) rfl (fun r26 Λc26 Ic26 Lc26 Rc26 hq26 => ?_)
    obtain ⟨rfl, rfl, rfl, rfl, rfl⟩ := hq26
    refine LW_bif_eq (tgt := 46) dX10_rank_29 (by decide) (fun c29 => ?_) (fun c29 => ?_)
    · have e : rkP (sA S) (sP S) x r = false := by unfold rkP; rw [c29]; rfl
      rw [abFind, if_neg (by rw [e]; decide)] at he
      refine LW_iinc (n := 2) (v := nI (r + 1)) (ls' := [(0, .ref 0), (1, .int x), (2, .int (nI (r + 1)))]) dX10_rank_46 rfl (hc_inc _) (by decide) rfl ?_
      refine LW_goto (tgt := 10) dX10_rank_49 (by decide) ?_
      exact ih (r + 1) (by omega) he
    · refine LW_aloadn 0 dX10_rank_32 rfl rfl ?_
      refine gX10_8 dX10_rank_33 flX10_66 (hY.lt (k := 0) (by decide)) (ly0 hY) (lf0_8 hY) ?_
      refine LW_iloadn 2 dX10_rank_36 rfl rfl ?_
      refine LW_callV (As := [.int (nI r)]) (b := 201) (st := []) (ci := 1) (r := (RX1, TX1, 11)) (r_ahead hY.en hPr (m := r) (by omega)) YX1_ahead rfl dX10_rank_37 mlX10_320 (hY.lt (k := 201) (by decide)) (ly201 hY) ⟨rfl, rfl⟩ (by decide) ⟨Nat.le_of_ble_eq_true rfl, Nat.le_of_ble_eq_true rfl⟩ (Nat.le_of_ble_eq_true rfl) rfl (fun r37 Λc37 Ic37 Lc37 Rc37 hq37 => ?_)
      obtain ⟨rfl, rfl, rfl, rfl, rfl⟩ := hq37
      rw [show abAhead (prX (sA S) (-1)) (L (201 + 8)) r 12 = abAhead (prX (sA S) (-1)) (kR (sA S) (sP S) (prX (sA S) (-1)) 5) r 12 from abAhead_congr hB5 (by omega)]
      refine LW_iloadn 1 dX10_rank_40 rfl rfl ?_
      refine LW_icmp_ne (tgt := 46) dX10_rank_41 (by decide) (fun c41 => ?_) (fun c41 => ?_)
      · have e : rkP (sA S) (sP S) x r = false := by unfold rkP; rw [c29, decide_eq_false c41]; rfl
        rw [abFind, if_neg (by rw [e]; decide)] at he
        refine LW_iinc (n := 2) (v := nI (r + 1)) (ls' := [(0, .ref 0), (1, .int x), (2, .int (nI (r + 1)))]) dX10_rank_46 rfl (hc_inc _) (by decide) rfl ?_
        refine LW_goto (tgt := 10) dX10_rank_49 (by decide) ?_
        exact ih (r + 1) (by omega) he
      · have e : rkP (sA S) (sP S) x r = true := by unfold rkP; rw [c29, decide_eq_true (Classical.not_not.mp c41)]; rfl
        rw [abFind, if_pos e] at he
        refine LW_iloadn 2 dX10_rank_44 rfl rfl ?_
        refine LW_iret dX10_rank_45 rfl (Nat.le_of_ble_eq_true rfl) (Nat.le_of_ble_eq_true rfl) ?_
        rw [← he]
        exact hfin _
set_option maxRecDepth 100000 in
theorem h_rank {Λ : hc_L} {I : hc_I} {L : hc_J} {R : hc_R} {S : HS} (hH : HW Λ I L R S) (x : Int32) : Run xX10_rank [.ref 0, .int x] Λ I L R (HPost (some (.int (qRank (sA S) (sP S) x))) S Λ I L R) := by
  refine Run.of (by decide +kernel) (Nat.le_of_ble_eq_true rfl) ?_
  show LW _ _ _ [(0, .ref 0), (1, .int x)] _ _ _ _ _ _
  have hY := hH.y
  have hf : Fr SJ Λ I L R Λ I L R := Fr.rf
  have hA := hH.s.w
  have hH0 := hH
  refine LW_aloadn 0 dX10_rank_0 rfl rfl ?_
  refine gX10_8 dX10_rank_1 flX10_66 (hY.lt (k := 0) (by decide)) (ly0 hY) (lf0_8 hY) ?_
  refine LW_iconst (v := -1) dX10_rank_4 (by decide) ?_
  refine LW_callV (As := [.int (-1)]) (b := 201) (st := []) (ci := 1) (r := (RX1, TX1, 11)) (r_reckon hY.en hH.s hY.as hH.l hH.p (fun k j hk hj => by omega) (-1)) YX1_reckon rfl dX10_rank_5 mlX10_181 (hY.lt (k := 201) (by decide)) (ly201 hY) ⟨rfl, rfl⟩ (by decide) ⟨Nat.le_of_ble_eq_true rfl, Nat.le_of_ble_eq_true rfl⟩ (Nat.le_of_ble_eq_true rfl) rfl (fun r5 Λc5 Ic5 Lc5 Rc5 hq5 => ?_)
  obtain ⟨rfl, rfl, hI5, hL5, hR5, hT5, hRw5, hPr5, hPt5⟩ := hq5
  obtain rfl : R = Rc5 := hR5
  have hf5 : Fr SJ Λ I L R Λ Ic5 Lc5 R := Fr.of hI5 hL5 (fun _ _ => rfl) kI_s kJ_s (fun z (q : False) => absurd q (fun q => q))
  have hf := hf.trans hf5
  have hH := hH.fr hf5 (fun _ q => q.s)
  refine LW_iconst (v := 0) dX10_rank_8 (by decide) ?_
  refine LW_istoren (ls' := [(0, .ref 0), (1, .int x), (2, .int 0)]) dX10_rank_9 rfl (by decide) rfl ?_
  exact rk_loop hH (fun j hj => hPr5 j hj) (fun j hj => hRw5 5 j (by decide) hj) (fun v => HPost.q hH0 hf (Nat.le_add_right _ _) rfl) (aM (sA S)) 0 (Nat.zero_add _) rfl
def wsB (A : AS) (P : LwP) (w h s : Nat) (a b : Int32) : Int64 × Int32 × Int32 := bAll (wW A P s w h) (9 - w) (9 - h) (-1, a, b)
def wsOk (A : AS) (w h s x : Int32) : Bool := aSpan w && (aSpan h && (aStr s && (decide (aS A < 16) && (decide (0 ≤ x) && decide (x ≤ 2)))))
def qWorst (A : AS) (P : LwP) (w h s x a b : Int32) : Int64 := if wsOk A w h s x = true then (if x = 0 then (wsB A P w.toNatClampNeg h.toNatClampNeg s.toNatClampNeg a b).2.1.toInt64 else if x = 1 then (wsB A P w.toNatClampNeg h.toNatClampNeg s.toNatClampNeg a b).2.2.toInt64 else (wsB A P w.toNatClampNeg h.toNatClampNeg s.toNatClampNeg a b).1) else -1
set_option maxRecDepth 100000 in
theorem h_worst {Λ : hc_L} {I : hc_I} {L : hc_J} {R : hc_R} {S : HS} (hH : HW Λ I L R S) (w h s x : Int32) : Run xX10_worst [.ref 0, .int w, .int h, .int s, .int x] Λ I L R (fun r Λ' I' L' R' => ∃ a b, HPost (some (.long (qWorst (sA S) (sP S) w h s x a b))) S Λ I L R r Λ' I' L' R') := by
  refine Run.of (by decide +kernel) (Nat.le_of_ble_eq_true rfl) ?_
  show LW _ _ _ [(0, .ref 0), (1, .int w), (2, .int h), (3, .int s), (4, .int x)] _ _ _ _ _ _
  have hY := hH.y
  have hA := hH.s.w
  refine LW_iloadn 1 dX10_worst_0 rfl rfl ?_
  refine LW_callS (As := [.int w]) (st := []) (r_isSpan w) YX10_isSpan rfl dX10_worst_1 mlX10_290 (by decide) ⟨Nat.le_of_ble_eq_true rfl, Nat.le_of_ble_eq_true rfl⟩ (Nat.le_of_ble_eq_true rfl) rfl (fun r1 Λc1 Ic1 Lc1 Rc1 hq1 => ?_)
  obtain ⟨rfl, rfl, rfl, rfl, rfl⟩ := hq1
  refine LW_bif_eq (tgt := 33) dX10_worst_4 (by decide) (fun c4 => ?_) (fun c4 => ?_)
  · refine LW_ldc2 dX10_worst_33 klX10_179 ?_
    refine LW_lret dX10_worst_36 rfl (Nat.le_of_ble_eq_true rfl) (Nat.le_of_ble_eq_true rfl) ?_
    refine ⟨0, 0, HPost.r hH ?_⟩
    unfold qWorst wsOk
    first | (rw [decide_eq_false (Int32.not_le.mpr (Int32.not_le.mp c45))]; simp; done) | (rw [decide_eq_false (Int32.not_le.mpr c39)]; simp; done) | (rw [decide_eq_false (fun z => c30 ((hc_lt (b := 16) (by have := hA.s; omega) (by decide)).mpr z))]; simp; done) | (rw [c18]; simp; done) | (rw [c11]; simp; done) | (rw [c4]; simp; done)
  · refine LW_iloadn 2 dX10_worst_7 rfl rfl ?_
    refine LW_callS (As := [.int h]) (st := []) (r_isSpan h) YX10_isSpan rfl dX10_worst_8 mlX10_290 (by decide) ⟨Nat.le_of_ble_eq_true rfl, Nat.le_of_ble_eq_true rfl⟩ (Nat.le_of_ble_eq_true rfl) rfl (fun r8 Λc8 Ic8 Lc8 Rc8 hq8 => ?_)
    obtain ⟨rfl, rfl, rfl, rfl, rfl⟩ := hq8
    refine LW_bif_eq (tgt := 33) dX10_worst_11 (by decide) (fun c11 => ?_) (fun c11 => ?_)
    · refine LW_ldc2 dX10_worst_33 klX10_179 ?_
      refine LW_lret dX10_worst_36 rfl (Nat.le_of_ble_eq_true rfl) (Nat.le_of_ble_eq_true rfl) ?_
      refine ⟨0, 0, HPost.r hH ?_⟩
      unfold qWorst wsOk
      first | (rw [decide_eq_false (Int32.not_le.mpr (Int32.not_le.mp c45))]; simp; done) | (rw [decide_eq_false (Int32.not_le.mpr c39)]; simp; done) | (rw [decide_eq_false (fun z => c30 ((hc_lt (b := 16) (by have := hA.s; omega) (by decide)).mpr z))]; simp; done) | (rw [c18]; simp; done) | (rw [c11]; simp; done) | (rw [c4]; simp; done)
    · refine LW_iloadn 3 dX10_worst_14 rfl rfl ?_
      refine LW_callS (As := [.int s]) (st := []) (r_isStrength s) YX10_isStrength rfl dX10_worst_15 mlX10_155 (by decide) ⟨Nat.le_of_ble_eq_true rfl, Nat.le_of_ble_eq_true rfl⟩ (Nat.le_of_ble_eq_true rfl) rfl (fun r15 Λc15 Ic15 Lc15 Rc15 hq15 => ?_)
      obtain ⟨rfl, rfl, rfl, rfl, rfl⟩ := hq15
      refine LW_bif_eq (tgt := 33) dX10_worst_18 (by decide) (fun c18 => ?_) (fun c18 => ?_)
      · refine LW_ldc2 dX10_worst_33 klX10_179 ?_
        refine LW_lret dX10_worst_36 rfl (Nat.le_of_ble_eq_true rfl) (Nat.le_of_ble_eq_true rfl) ?_
        refine ⟨0, 0, HPost.r hH ?_⟩
        unfold qWorst wsOk
        first | (rw [decide_eq_false (Int32.not_le.mpr (Int32.not_le.mp c45))]; simp; done) | (rw [decide_eq_false (Int32.not_le.mpr c39)]; simp; done) | (rw [decide_eq_false (fun z => c30 ((hc_lt (b := 16) (by have := hA.s; omega) (by decide)).mpr z))]; simp; done) | (rw [c18]; simp; done) | (rw [c11]; simp; done) | (rw [c4]; simp; done)
      · refine LW_aloadn 0 dX10_worst_21 rfl rfl ?_
        refine gX10_1 dX10_worst_22 flX10_19 (hY.lt (k := 0) (by decide)) (ly0 hY) (lf0_1 hY) ?_
        refine gX6_13 dX10_worst_25 flX10_148 (hY.lt (k := 3) (by decide)) (ly3 hY) ?_
        rw [show I 3 13 = nI (aS (sA S)) from hH.s.sc]
        refine LW_bipush (v := 16) dX10_worst_28 (by decide) ?_
        refine LW_icmp_lt (tgt := 37) dX10_worst_30 (by decide) (fun c30 => ?_) (fun c30 => ?_)
        · refine LW_iload 4 dX10_worst_37 rfl ?_
          refine LW_if_lt (tgt := 48) dX10_worst_39 (by decide) (fun c39 => ?_) (fun c39 => ?_)
          · refine LW_ldc2 dX10_worst_48 klX10_179 ?_
            refine LW_lret dX10_worst_51 rfl (Nat.le_of_ble_eq_true rfl) (Nat.le_of_ble_eq_true rfl) ?_
            refine ⟨0, 0, HPost.r hH ?_⟩
            unfold qWorst wsOk
            first | (rw [decide_eq_false (Int32.not_le.mpr (Int32.not_le.mp c45))]; simp; done) | (rw [decide_eq_false (Int32.not_le.mpr c39)]; simp; done) | (rw [decide_eq_false (fun z => c30 ((hc_lt (b := 16) (by have := hA.s; omega) (by decide)).mpr z))]; simp; done) | (rw [c18]; simp; done) | (rw [c11]; simp; done) | (rw [c4]; simp; done)
          · refine LW_iload 4 dX10_worst_42 rfl ?_
            refine LW_iconst (v := 2) dX10_worst_44 (by decide) ?_
            refine LW_icmp_le (tgt := 52) dX10_worst_45 (by decide) (fun c45 => ?_) (fun c45 => ?_)
            · have hok : wsOk (sA S) w h s x = true := by
                unfold wsOk
                rw [c4, c11, c18, decide_eq_true ((hc_lt (a := aS (sA S)) (b := 16) (by have := hA.s; omega) (by decide)).mp c30), decide_eq_true (Int32.not_lt.mp c39), decide_eq_true c45]
                rfl
              obtain ⟨u, rfl, hu⟩ := aSpan_k c4
              obtain ⟨v, rfl, hv⟩ := aSpan_k c11
              obtain ⟨q, rfl, hq1⟩ := aStr_k c18
              refine LW_aloadn 0 dX10_worst_52 rfl rfl ?_
              refine gX10_7 dX10_worst_53 flX10_57 (hY.lt (k := 0) (by decide)) (ly0 hY) (lf0_7 hY) ?_
              refine LW_iloadn 1 dX10_worst_56 rfl rfl ?_
              refine LW_iloadn 2 dX10_worst_57 rfl rfl ?_
              refine LW_iloadn 3 dX10_worst_58 rfl rfl ?_
              refine LW_callV (As := [.int (nI u), .int (nI v), .int (nI q)]) (b := 198) (st := []) (ci := 0) (r := (RX0, TX0, 7)) (r_findWorst hY.as hH.s hH.l hH.p (fun k hk => by omega) (w := u) (h0 := v) (str := q) hu hv hq1.2) YX0_findWorst rfl dX10_worst_59 mlX10_293 (hY.lt (k := 198) (by decide)) (ly198 hY) ⟨rfl, rfl⟩ (by decide) ⟨Nat.le_of_ble_eq_true rfl, Nat.le_of_ble_eq_true rfl⟩ (Nat.le_of_ble_eq_true rfl) rfl (fun r59 Λc59 Ic59 Lc59 Rc59 hq59 => ?_)
              obtain ⟨rfl, rfl, hI59, hL59, hR59, hW1, hW2, hW3⟩ := hq59
              obtain rfl : R = Rc59 := hR59
              have hf : Fr SJ Λ I L R Λ Ic59 Lc59 R := Fr.of hI59 hL59 (fun _ _ => rfl) (fun z hz => ⟨by omega, by omega⟩) (fun z hz => by unfold wJ at hz; exact ⟨by omega, by omega⟩) (fun z (q : False) => absurd q (fun q => q))
              refine LW_iload 4 dX10_worst_62 rfl ?_
              refine LW_if_ne (tgt := 76) dX10_worst_64 (by decide) (fun c64 => ?_) (fun c64 => ?_)
              · refine LW_iload 4 dX10_worst_76 rfl ?_
                refine LW_iconst (v := 1) dX10_worst_78 (by decide) ?_
                refine LW_icmp_ne (tgt := 93) dX10_worst_79 (by decide) (fun c79 => ?_) (fun c79 => ?_)
                · refine LW_aloadn 0 dX10_worst_93 rfl rfl ?_
                  refine gX10_7 dX10_worst_94 flX10_57 (hY.lt (k := 0) (by decide)) (ly0 hY) (lf0_7 hY) ?_
                  refine gX0_6 dX10_worst_97 flX10_303 (hY.lt (k := 198) (by decide)) (ly198 hY) ?_
                  rw [show Lc59 198 6 = (bAll (wW (sA S) (sP S) q u v) (9 - u) (9 - v) (-1, I 198 4, I 198 5)).1 from hW1]
                  refine LW_lret dX10_worst_100 rfl (Nat.le_of_ble_eq_true rfl) (Nat.le_of_ble_eq_true rfl) ?_
                  refine ⟨I 198 4, I 198 5, HPost.q hH hf (Nat.le_add_right _ _) ?_⟩
                  unfold qWorst wsB
                  rw [if_pos hok, if_neg c64, if_neg c79, hc_cl (by omega), hc_cl (by omega), hc_cl (by omega)]
                · refine LW_aloadn 0 dX10_worst_82 rfl rfl ?_
                  refine gX10_7 dX10_worst_83 flX10_57 (hY.lt (k := 0) (by decide)) (ly0 hY) (lf0_7 hY) ?_
                  refine gX0_5 dX10_worst_86 flX10_300 (hY.lt (k := 198) (by decide)) (ly198 hY) ?_
                  rw [show Ic59 198 5 = (bAll (wW (sA S) (sP S) q u v) (9 - u) (9 - v) (-1, I 198 4, I 198 5)).2.2 from hW3]
                  refine LW_i2l dX10_worst_89 ?_
                  refine LW_goto (tgt := 100) dX10_worst_90 (by decide) ?_
                  refine LW_lret dX10_worst_100 rfl (Nat.le_of_ble_eq_true rfl) (Nat.le_of_ble_eq_true rfl) ?_
                  refine ⟨I 198 4, I 198 5, HPost.q hH hf (Nat.le_add_right _ _) ?_⟩
                  unfold qWorst wsB
                  rw [if_pos hok, if_neg c64, if_pos (Classical.not_not.mp c79), hc_cl (by omega), hc_cl (by omega), hc_cl (by omega)]
              · refine LW_aloadn 0 dX10_worst_67 rfl rfl ?_
                refine gX10_7 dX10_worst_68 flX10_57 (hY.lt (k := 0) (by decide)) (ly0 hY) (lf0_7 hY) ?_
                refine gX0_4 dX10_worst_71 flX10_297 (hY.lt (k := 198) (by decide)) (ly198 hY) ?_
                rw [show Ic59 198 4 = (bAll (wW (sA S) (sP S) q u v) (9 - u) (9 - v) (-1, I 198 4, I 198 5)).2.1 from hW2]
                refine LW_i2l dX10_worst_74 ?_
                refine LW_lret dX10_worst_75 rfl (Nat.le_of_ble_eq_true rfl) (Nat.le_of_ble_eq_true rfl) ?_
                refine ⟨I 198 4, I 198 5, HPost.q hH hf (Nat.le_add_right _ _) ?_⟩
                unfold qWorst wsB
                rw [if_pos hok, if_pos (Classical.not_not.mp c64), hc_cl (by omega), hc_cl (by omega), hc_cl (by omega)]
            · refine LW_ldc2 dX10_worst_48 klX10_179 ?_
              refine LW_lret dX10_worst_51 rfl (Nat.le_of_ble_eq_true rfl) (Nat.le_of_ble_eq_true rfl) ?_
              refine ⟨0, 0, HPost.r hH ?_⟩
              unfold qWorst wsOk
              first | (rw [decide_eq_false (Int32.not_le.mpr (Int32.not_le.mp c45))]; simp; done) | (rw [decide_eq_false (Int32.not_le.mpr c39)]; simp; done) | (rw [decide_eq_false (fun z => c30 ((hc_lt (b := 16) (by have := hA.s; omega) (by decide)).mpr z))]; simp; done) | (rw [c18]; simp; done) | (rw [c11]; simp; done) | (rw [c4]; simp; done)
        · refine LW_ldc2 dX10_worst_33 klX10_179 ?_
          refine LW_lret dX10_worst_36 rfl (Nat.le_of_ble_eq_true rfl) (Nat.le_of_ble_eq_true rfl) ?_
          refine ⟨0, 0, HPost.r hH ?_⟩
          unfold qWorst wsOk
          first | (rw [decide_eq_false (Int32.not_le.mpr (Int32.not_le.mp c45))]; simp; done) | (rw [decide_eq_false (Int32.not_le.mpr c39)]; simp; done) | (rw [decide_eq_false (fun z => c30 ((hc_lt (b := 16) (by have := hA.s; omega) (by decide)).mpr z))]; simp; done) | (rw [c18]; simp; done) | (rw [c11]; simp; done) | (rw [c4]; simp; done)
