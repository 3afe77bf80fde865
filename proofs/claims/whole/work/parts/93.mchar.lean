/-! the JDK: charAt of a word -/
def chV (i n : Nat) : Int32 := (((hc_byt.getD i []).getD n 0 &&& 255).toUInt32 % 65536).toInt32
set_option maxRecDepth 100000 in
theorem r_jck3 {n m : Nat} (hm : m < 2 ^ 31) (hn : n < m) (v : Value) (hv : v.category = 1) {Λ : hc_L} {I : hc_I} {L : hc_J} {R : hc_R} : Run xJ3_checkIndex_8e157 [.int (nI n), .int (nI m), v] Λ I L R (Qr (some (.int (nI n))) Λ I L R) := by
  cases v with
  | long x => exact absurd (show 2 = 1 from hv) (by decide)
  | double x => exact absurd (show 2 = 1 from hv) (by decide)
  | int x =>
    refine Run.of (by decide +kernel) (Nat.le_of_ble_eq_true rfl) ?_
    show LW _ _ _ [(0, .int (nI n)), (1, .int (nI m)), (2, .int x)] _ _ _ _ _ _
    refine LW_iloadn 0 dJ3_checkIndex_8e157_0 rfl rfl ?_
    refine LW_if_lt (tgt := 9) dJ3_checkIndex_8e157_1 (by decide) (fun c1 => absurd c1 (fun z => absurd z (Int32.not_lt.mpr (nI_nn (by omega))))) (fun c1 => ?_)
    refine LW_iloadn 0 dJ3_checkIndex_8e157_4 rfl rfl ?_
    refine LW_iloadn 1 dJ3_checkIndex_8e157_5 rfl rfl ?_
    refine LW_icmp_lt (tgt := 16) dJ3_checkIndex_8e157_6 (by decide) (fun c6 => ?_) (fun c6 => absurd ((hc_lt (a := n) (b := m) (by omega) (by omega)).mpr hn) c6)
    refine LW_iloadn 0 dJ3_checkIndex_8e157_16 rfl rfl ?_
    refine LW_iret dJ3_checkIndex_8e157_17 rfl (Nat.le_of_ble_eq_true rfl) (Nat.le_of_ble_eq_true rfl) ?_
    exact Qr.mk rfl
  | float x =>
    refine Run.of (by decide +kernel) (Nat.le_of_ble_eq_true rfl) ?_
    show LW _ _ _ [(0, .int (nI n)), (1, .int (nI m)), (2, .float x)] _ _ _ _ _ _
    refine LW_iloadn 0 dJ3_checkIndex_8e157_0 rfl rfl ?_
    refine LW_if_lt (tgt := 9) dJ3_checkIndex_8e157_1 (by decide) (fun c1 => absurd c1 (fun z => absurd z (Int32.not_lt.mpr (nI_nn (by omega))))) (fun c1 => ?_)
    refine LW_iloadn 0 dJ3_checkIndex_8e157_4 rfl rfl ?_
    refine LW_iloadn 1 dJ3_checkIndex_8e157_5 rfl rfl ?_
    refine LW_icmp_lt (tgt := 16) dJ3_checkIndex_8e157_6 (by decide) (fun c6 => ?_) (fun c6 => absurd ((hc_lt (a := n) (b := m) (by omega) (by omega)).mpr hn) c6)
    refine LW_iloadn 0 dJ3_checkIndex_8e157_16 rfl rfl ?_
    refine LW_iret dJ3_checkIndex_8e157_17 rfl (Nat.le_of_ble_eq_true rfl) (Nat.le_of_ble_eq_true rfl) ?_
    exact Qr.mk rfl
  | null =>
    refine Run.of (by decide +kernel) (Nat.le_of_ble_eq_true rfl) ?_
    show LW _ _ _ [(0, .int (nI n)), (1, .int (nI m)), (2, .null)] _ _ _ _ _ _
    refine LW_iloadn 0 dJ3_checkIndex_8e157_0 rfl rfl ?_
    refine LW_if_lt (tgt := 9) dJ3_checkIndex_8e157_1 (by decide) (fun c1 => absurd c1 (fun z => absurd z (Int32.not_lt.mpr (nI_nn (by omega))))) (fun c1 => ?_)
    refine LW_iloadn 0 dJ3_checkIndex_8e157_4 rfl rfl ?_
    refine LW_iloadn 1 dJ3_checkIndex_8e157_5 rfl rfl ?_
    refine LW_icmp_lt (tgt := 16) dJ3_checkIndex_8e157_6 (by decide) (fun c6 => ?_) (fun c6 => absurd ((hc_lt (a := n) (b := m) (by omega) (by omega)).mpr hn) c6)
    refine LW_iloadn 0 dJ3_checkIndex_8e157_16 rfl rfl ?_
    refine LW_iret dJ3_checkIndex_8e157_17 rfl (Nat.le_of_ble_eq_true rfl) (Nat.le_of_ble_eq_true rfl) ?_
    exact Qr.mk rfl
  | ref x =>
    refine Run.of (by decide +kernel) (Nat.le_of_ble_eq_true rfl) ?_
    show LW _ _ _ [(0, .int (nI n)), (1, .int (nI m)), (2, .ref x)] _ _ _ _ _ _
    refine LW_iloadn 0 dJ3_checkIndex_8e157_0 rfl rfl ?_
    refine LW_if_lt (tgt := 9) dJ3_checkIndex_8e157_1 (by decide) (fun c1 => absurd c1 (fun z => absurd z (Int32.not_lt.mpr (nI_nn (by omega))))) (fun c1 => ?_)
    refine LW_iloadn 0 dJ3_checkIndex_8e157_4 rfl rfl ?_
    refine LW_iloadn 1 dJ3_checkIndex_8e157_5 rfl rfl ?_
    refine LW_icmp_lt (tgt := 16) dJ3_checkIndex_8e157_6 (by decide) (fun c6 => ?_) (fun c6 => absurd ((hc_lt (a := n) (b := m) (by omega) (by omega)).mpr hn) c6)
    refine LW_iloadn 0 dJ3_checkIndex_8e157_16 rfl rfl ?_
    refine LW_iret dJ3_checkIndex_8e157_17 rfl (Nat.le_of_ble_eq_true rfl) (Nat.le_of_ble_eq_true rfl) ?_
    exact Qr.mk rfl
  | retAddr x =>
    refine Run.of (by decide +kernel) (Nat.le_of_ble_eq_true rfl) ?_
    show LW _ _ _ [(0, .int (nI n)), (1, .int (nI m)), (2, .retAddr x)] _ _ _ _ _ _
    refine LW_iloadn 0 dJ3_checkIndex_8e157_0 rfl rfl ?_
    refine LW_if_lt (tgt := 9) dJ3_checkIndex_8e157_1 (by decide) (fun c1 => absurd c1 (fun z => absurd z (Int32.not_lt.mpr (nI_nn (by omega))))) (fun c1 => ?_)
    refine LW_iloadn 0 dJ3_checkIndex_8e157_4 rfl rfl ?_
    refine LW_iloadn 1 dJ3_checkIndex_8e157_5 rfl rfl ?_
    refine LW_icmp_lt (tgt := 16) dJ3_checkIndex_8e157_6 (by decide) (fun c6 => ?_) (fun c6 => absurd ((hc_lt (a := n) (b := m) (by omega) (by omega)).mpr hn) c6)
    refine LW_iloadn 0 dJ3_checkIndex_8e157_16 rfl rfl ?_
    refine LW_iret dJ3_checkIndex_8e157_17 rfl (Nat.le_of_ble_eq_true rfl) (Nat.le_of_ble_eq_true rfl) ?_
    exact Qr.mk rfl
set_option maxRecDepth 100000 in
theorem r_jck0 {n m : Nat} (hm : m < 2 ^ 31) (hn : n < m) {Λ : hc_L} {I : hc_I} {L : hc_J} {R : hc_R} : Run xJ0_checkIndex_df160 [.int (nI n), .int (nI m)] Λ I L R (Qr none Λ I L R) := by
  refine Run.of (by decide +kernel) (Nat.le_of_ble_eq_true rfl) ?_
  show LW _ _ _ [(0, .int (nI n)), (1, .int (nI m))] _ _ _ _ _ _
  refine LW_iloadn 0 dJ0_checkIndex_df160_0 rfl rfl ?_
  refine LW_iloadn 1 dJ0_checkIndex_df160_1 rfl rfl ?_
  refine LW_getsP dJ0_checkIndex_df160_2 flJ0_1053 (fun vP hvP => ?_)
  refine LW_callS (As := [.int (nI n), .int (nI m), vP]) (st := []) (r_jck3 hm hn vP hvP) YJ3_checkIndex_8e157 rfl dJ0_checkIndex_df160_5 mlJ0_1059 (by decide) ⟨Nat.le_of_ble_eq_true rfl, Nat.le_of_ble_eq_true rfl⟩ (Nat.le_of_ble_eq_true rfl) rfl (fun r5 Λc5 Ic5 Lc5 Rc5 hq5 => ?_)
  obtain ⟨rfl, rfl, rfl, rfl, rfl⟩ := hq5
  refine LW_pop dJ0_checkIndex_df160_8 rfl ?_
  refine LW_vret dJ0_checkIndex_df160_9 rfl (Nat.le_of_ble_eq_true rfl) (Nat.le_of_ble_eq_true rfl) ?_
  exact Qr.mk rfl
set_option maxRecDepth 100000 in
theorem r_jlch {i n : Nat} (hi : i < 19) (hn : n < hc_len.getD i 0) (hN : hc_len.getD i 0 < 2 ^ 31) (hc : Jvm.narrow .char (.int (chV i n)) = .int (chV i n)) {Λ : hc_L} {I : hc_I} {L : hc_J} {R : hc_R} : Run xJ1_charAt_3b067 [.ref (1000000 + (50 + i)), .int (nI n)] Λ I L R (Qr (some (.int (chV i n))) Λ I L R) := by
  refine Run.of (by decide +kernel) (Nat.le_of_ble_eq_true rfl) ?_
  show LW _ _ _ [(0, .ref (1000000 + (50 + i))), (1, .int (nI n))] _ _ _ _ _ _
  refine LW_iloadn 1 dJ1_charAt_3b067_0 rfl rfl ?_
  refine LW_aloadn 0 dJ1_charAt_3b067_1 rfl rfl ?_
  refine LW_alenS (by omega) dJ1_charAt_3b067_2 ?_
  refine LW_callS (As := [.int (nI n), .int (nI (hc_len.getD i 0))]) (st := []) (r_jck0 hN hn) YJ0_checkIndex_df160 rfl dJ1_charAt_3b067_3 mlJ1_9 (by decide) ⟨Nat.le_of_ble_eq_true rfl, Nat.le_of_ble_eq_true rfl⟩ (Nat.le_of_ble_eq_true rfl) rfl (fun r3 Λc3 Ic3 Lc3 Rc3 hq3 => ?_)
  obtain ⟨rfl, rfl, rfl, rfl, rfl⟩ := hq3
  refine LW_aloadn 0 dJ1_charAt_3b067_6 rfl rfl ?_
  refine LW_iloadn 1 dJ1_charAt_3b067_7 rfl rfl ?_
  refine LW_baldS (by omega) dJ1_charAt_3b067_8 rfl hn hN ?_
  refine LW_sipush (v := 255) dJ1_charAt_3b067_9 (by decide) ?_
  refine LW_iand dJ1_charAt_3b067_12 ?_
  refine LW_i2c dJ1_charAt_3b067_13 ?_
  refine LW_nret dJ1_charAt_3b067_14 rfl (Nat.le_of_ble_eq_true rfl) (Nat.le_of_ble_eq_true rfl) hc ?_
  exact Qr.mk rfl
set_option maxRecDepth 100000 in
theorem r_schar {i n : Nat} (hi : i < 19) (hn : n < hc_len.getD i 0) (hN : hc_len.getD i 0 < 2 ^ 31) (hc : Jvm.narrow .char (.int (chV i n)) = .int (chV i n)) {Λ : hc_L} {I : hc_I} {L : hc_J} {R : hc_R} : Run xJ0_charAt_5068e [.ref (1000000 + i), .int (nI n)] Λ I L R (Qr (some (.int (chV i n))) Λ I L R) := by
  refine Run.of (by decide +kernel) (Nat.le_of_ble_eq_true rfl) ?_
  show LW _ _ _ [(0, .ref (1000000 + i)), (1, .int (nI n))] _ _ _ _ _ _
  refine LW_aloadn 0 dJ0_charAt_5068e_0 rfl rfl ?_
  refine LW_callT (As := []) (b := i) (st := []) (by omega) (r_isLatin1 hi) YJ0_isLatin1_aae02 rfl dJ0_charAt_5068e_1 mlJ0_492 rfl (by decide) ⟨Nat.le_of_ble_eq_true rfl, Nat.le_of_ble_eq_true rfl⟩ (Nat.le_of_ble_eq_true rfl) rfl (fun r1 Λc1 Ic1 Lc1 Rc1 hq1 => ?_)
  obtain ⟨rfl, rfl, rfl, rfl, rfl⟩ := hq1
  refine LW_if_eq (tgt := 16) dJ0_charAt_5068e_4 (by decide) (fun c4 => absurd c4 (by decide)) (fun c4 => ?_)
  refine LW_aloadn 0 dJ0_charAt_5068e_7 rfl rfl ?_
  refine LW_getSv (by omega) dJ0_charAt_5068e_8 flJ0_9 ?_
  refine LW_iloadn 1 dJ0_charAt_5068e_11 rfl rfl ?_
  refine LW_callS (As := [.ref (1000000 + (50 + i)), .int (nI n)]) (st := []) (r_jlch hi hn hN hc) YJ1_charAt_3b067 rfl dJ0_charAt_5068e_12 mlJ0_495 (by decide) ⟨Nat.le_of_ble_eq_true rfl, Nat.le_of_ble_eq_true rfl⟩ (Nat.le_of_ble_eq_true rfl) rfl (fun r12 Λc12 Ic12 Lc12 Rc12 hq12 => ?_)
  obtain ⟨rfl, rfl, rfl, rfl, rfl⟩ := hq12
  refine LW_nret dJ0_charAt_5068e_15 rfl (Nat.le_of_ble_eq_true rfl) (Nat.le_of_ble_eq_true rfl) hc ?_
  exact Qr.mk rfl
