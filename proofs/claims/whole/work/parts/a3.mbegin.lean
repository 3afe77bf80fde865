/-! the reference reads: pay, a line; begins, ends -/
set_option maxRecDepth 100000 in
theorem rm_pay {Λ : hc_L} {I : hc_I} {L : hc_J} {R : hc_R} {I0 : hc_I} {L0 : hc_J} {n i : Nat} {B : Nat → Nat} {A : AS} {P : LwP} (hw : TW I0 L0 n B Λ I L i A P) (hk : kd B n i = 1010) : Run xX11_readPay [.ref 217] Λ I L R (TPost I0 L0 n B (pPay (kd B n) (vl B n) i A P) Λ R) := by
  refine Run.of (by decide +kernel) (Nat.le_of_ble_eq_true rfl) ?_
  show LW _ _ _ [(0, .ref 217)] _ _ _ _ _ _
  have hY := hw.1.y
  obtain ⟨hT, hW, hPi⟩ := hw
  have hB := hT.b
  refine LW_aloadn 0 dX11_readPay_0 rfl rfl ?_
  refine gX11_18 dX11_readPay_1 flX11_112 (hY.lt (k := 217) (by decide)) (ly217 hY) ?_
  rw [show I 217 18 = hc_b (decide (0 < P.1)) from hW.2.2]
  refine LW_bif_eq (tgt := 13) dX11_readPay_4 (by decide) (fun c4 => ?_) (fun c4 => ?_)
  · have hP0 := of_decide_eq_false c4
    refine LW_aloadn 0 dX11_readPay_13 rfl rfl ?_
    refine LW_iconst (v := 1) dX11_readPay_14 (by decide) ?_
    refine pX11_18 dX11_readPay_15 flX11_112 (hY.lt (k := 217) (by decide)) (ly217 hY) (Or.inr rfl) ?_
    generalize hI15 : hc_u I 217 18 1 = I15
    have hT : TK I0 L0 n B Λ I15 L i := by rw [← hI15]; exact hT.uI (by unfold rfZ; omega) (by unfold rfJ; omega) (by unfold LxJ; omega)
    have hDa : Da I15 L A := hW.1.kp (fun j h1 h2 => by rw [← hI15, hc_u_at, if_neg (by omega)]) (fun z h1 h2 => by rw [← hI15, hc_u_row _ _ _ _ (by omega)]) rfl
    have hDp : Dp I15 L P := hW.2.1.kp (by rw [← hI15, hc_u_at, if_neg (by decide)]) (by rw [← hI15, hc_u_row _ _ _ _ (by decide)]) rfl
    have h18 : I15 217 18 = 1 := by rw [← hI15, hc_u_at, if_pos rfl]
    refine LW_aloadn 0 dX11_readPay_18 rfl rfl ?_
    refine LW_callV (As := []) (b := 217) (st := []) (ci := 11) (r := (RX11, TX11, 44)) (r_nx hT) YX11_next rfl dX11_readPay_19 mlX11_234 (hY.lt (k := 217) (by decide)) (ly217 hY) ⟨rfl, rfl⟩ (by decide) ⟨Nat.le_of_ble_eq_true rfl, Nat.le_of_ble_eq_true rfl⟩ (Nat.le_of_ble_eq_true rfl) rfl (fun r19 Λc19 Ic19 Lc19 Rc19 hq19 => ?_)
    obtain ⟨rfl, rfl, rfl, hl19, hT, hr19⟩ := hq19
    have hDa := hDa.lx hl19
    have hDp := hDp.lx hl19
    have h18 : Ic19 217 18 = 1 := (hl19.2.1 18 (by unfold LxJ; omega)).trans h18
    refine LW_aloadn 0 dX11_readPay_22 rfl rfl ?_
    refine LW_iconst (v := 0) dX11_readPay_23 (by decide) ?_
    refine pX11_32 dX11_readPay_24 flX11_282 (hY.lt (k := 217) (by decide)) (ly217 hY) ?_
    generalize hI24 : hc_u Ic19 217 32 0 = I24
    have hS : SW I0 L0 n B Λ I24 Lc19 (i + 1) A P (8 - 8) := by
      refine ⟨?_, ⟨?_, ?_⟩, ?_, ?_, kd_lt_n hB (by rw [hk]; decide)⟩
      · rw [← hI24]; exact hT.uI (by unfold rfZ; omega) (by unfold rfJ; omega) (by unfold LxJ; omega)
      · exact hDa.kp (fun j h1 h2 => by rw [← hI24, hc_u_at, if_neg (by omega)]) (fun z h1 h2 => by rw [← hI24, hc_u_row _ _ _ _ (by omega)]) rfl
      · exact hDp.kp (by rw [← hI24, hc_u_at, if_neg (by decide)]) (by rw [← hI24, hc_u_row _ _ _ _ (by decide)]) rfl
      · rw [← hI24, hc_u_at, if_pos rfl]; rfl
      · rw [← hI24, hc_u_at, if_neg (by decide)]; exact h18
    refine LW_aloadn 0 dX11_readPay_27 rfl rfl ?_
    refine LW_callV (As := []) (b := 217) (st := []) (ci := 11) (r := (RX11, TX11, 44)) (r_msum _ _ _ _ _ _ _ 0 hS (by omega)) (YX11_readSum 34) rfl dX11_readPay_28 mlX11_285 (hY.lt (k := 217) (by decide)) (ly217 hY) ⟨rfl, rfl⟩ (by decide) ⟨Nat.le_of_ble_eq_true rfl, Nat.le_of_ble_eq_true rfl⟩ (Nat.le_of_ble_eq_true rfl) rfl (fun r28 Λc28 Ic28 Lc28 Rc28 hq28 => ?_)
    obtain ⟨rfl, rfl, rfl, hx28⟩ := hq28
    refine LW_zret dX11_readPay_31 rfl (Nat.le_of_ble_eq_true rfl) (Nat.le_of_ble_eq_true rfl) (hc_b01 _) ?_
    cases hs8 : smW (kd B n) (ptD (kd B n) (vl B n) 8) (i + 1) P with
    | inl e =>
      rw [hs8] at hx28
      exact TPost.no (show pPay (kd B n) (vl B n) i A P = .inl e by unfold pPay; rw [if_neg hP0, hs8]) hx28
    | inr q =>
      rw [hs8] at hx28
      obtain ⟨hS2, hs2⟩ := hx28
      obtain ⟨k1, k2, k3⟩ := pay_ok (fun j hj => vl_n hB hj) (by omega) hs8
      exact TPost.yes (q := (q.1, A, q.2)) (show pPay (kd B n) (vl B n) i A P = .inr (q.1, A, q.2) by unfold pPay; rw [if_neg hP0, hs8]) ⟨hS2.1, ⟨hS2.2.1.1, hS2.2.1.2, by rw [hS2.2.2.2.1, decide_eq_true (show 0 < (q.1, A, q.2).2.2.1 from k2)]; rfl⟩, hs2⟩
  · have hP0 := of_decide_eq_true c4
    refine LW_aloadn 0 dX11_readPay_7 rfl rfl ?_
    refine LW_iconst (v := 5) dX11_readPay_8 (by decide) ?_
    refine LW_callV (As := [.int 5]) (b := 217) (st := []) (ci := 11) (r := (RX11, TX11, 44)) (r_fl hT (c := 5) (by decide) (by decide)) YX11_fails rfl dX11_readPay_9 mlX11_231 (hY.lt (k := 217) (by decide)) (ly217 hY) ⟨rfl, rfl⟩ (by decide) ⟨Nat.le_of_ble_eq_true rfl, Nat.le_of_ble_eq_true rfl⟩ (Nat.le_of_ble_eq_true rfl) rfl (fun r9 Λc9 Ic9 Lc9 Rc9 hq9 => ?_)
    obtain ⟨rfl, rfl, rfl, hl9, hF9⟩ := hq9
    refine LW_zret dX11_readPay_12 rfl (Nat.le_of_ble_eq_true rfl) (Nat.le_of_ble_eq_true rfl) (hc_b01 _) ?_
    exact TPost.no (show pPay (kd B n) (vl B n) i A P = .inl (5, i) from if_pos hP0) hF9
set_option maxRecDepth 100000 in
theorem rl_1010 {Λ : hc_L} {I : hc_I} {L : hc_J} {R : hc_R} {I0 : hc_I} {L0 : hc_J} {n i : Nat} {B : Nat → Nat} {A : AS} {P : LwP} (hw : TW I0 L0 n B Λ I L i A P) (hk : kd B n i = 1010) : Run xX11_readLine [.ref 217] Λ I L R (TPost I0 L0 n B (pLine (kd B n) (vl B n) i A P) Λ R) := by
  refine Run.of (by decide +kernel) (Nat.le_of_ble_eq_true rfl) ?_
  show LW _ _ _ [(0, .ref 217)] _ _ _ _ _ _
  have hw0 := hw
  have hY := hw.1.y
  obtain ⟨hT, hW, hPi⟩ := hw0
  have hB := hT.b
  refine LW_aloadn 0 dX11_readLine_0 rfl rfl ?_
  refine LW_ldcS (i := 1) dX11_readLine_1 rfl ?_
  refine LW_callV (As := [.ref (1000000 + 1)]) (b := 217) (st := []) (ci := 11) (r := (RX11, TX11, 44)) (r_isW hT (j := 1) (k := 1000) (by decide) (by decide) rfl) YX11_isWord rfl dX11_readLine_3 mlX11_183 (hY.lt (k := 217) (by decide)) (ly217 hY) ⟨rfl, rfl⟩ (by decide) ⟨Nat.le_of_ble_eq_true rfl, Nat.le_of_ble_eq_true rfl⟩ (Nat.le_of_ble_eq_true rfl) rfl (fun r3 Λc3 Ic3 Lc3 Rc3 hq3 => ?_)
  obtain ⟨rfl, rfl, rfl, rfl, rfl⟩ := hq3
  rw [show decide (kd B n i = 1000) = false from decide_eq_false (by rw [hk]; decide)]
  refine LW_bif_eq (tgt := 14) dX11_readLine_6 (by decide) (fun c6 => ?_) (fun c6 => absurd (c6.symm.trans rfl) (by decide))
  refine LW_aloadn 0 dX11_readLine_14 rfl rfl ?_
  refine LW_ldcS (i := 6) dX11_readLine_15 rfl ?_
  refine LW_callV (As := [.ref (1000000 + 6)]) (b := 217) (st := []) (ci := 11) (r := (RX11, TX11, 44)) (r_isW hT (j := 6) (k := 1001) (by decide) (by decide) rfl) YX11_isWord rfl dX11_readLine_17 mlX11_183 (hY.lt (k := 217) (by decide)) (ly217 hY) ⟨rfl, rfl⟩ (by decide) ⟨Nat.le_of_ble_eq_true rfl, Nat.le_of_ble_eq_true rfl⟩ (Nat.le_of_ble_eq_true rfl) rfl (fun r17 Λc17 Ic17 Lc17 Rc17 hq17 => ?_)
  obtain ⟨rfl, rfl, rfl, rfl, rfl⟩ := hq17
  rw [show decide (kd B n i = 1001) = false from decide_eq_false (by rw [hk]; decide)]
  refine LW_bif_eq (tgt := 28) dX11_readLine_20 (by decide) (fun c20 => ?_) (fun c20 => absurd (c20.symm.trans rfl) (by decide))
  refine LW_aloadn 0 dX11_readLine_28 rfl rfl ?_
  refine LW_ldcS (i := 3) dX11_readLine_29 rfl ?_
  refine LW_callV (As := [.ref (1000000 + 3)]) (b := 217) (st := []) (ci := 11) (r := (RX11, TX11, 44)) (r_isW hT (j := 3) (k := 1002) (by decide) (by decide) rfl) YX11_isWord rfl dX11_readLine_31 mlX11_183 (hY.lt (k := 217) (by decide)) (ly217 hY) ⟨rfl, rfl⟩ (by decide) ⟨Nat.le_of_ble_eq_true rfl, Nat.le_of_ble_eq_true rfl⟩ (Nat.le_of_ble_eq_true rfl) rfl (fun r31 Λc31 Ic31 Lc31 Rc31 hq31 => ?_)
  obtain ⟨rfl, rfl, rfl, rfl, rfl⟩ := hq31
  rw [show decide (kd B n i = 1002) = false from decide_eq_false (by rw [hk]; decide)]
  refine LW_bif_eq (tgt := 42) dX11_readLine_34 (by decide) (fun c34 => ?_) (fun c34 => absurd (c34.symm.trans rfl) (by decide))
  refine LW_aloadn 0 dX11_readLine_42 rfl rfl ?_
  refine LW_ldcS (i := 13) dX11_readLine_43 rfl ?_
  refine LW_callV (As := [.ref (1000000 + 13)]) (b := 217) (st := []) (ci := 11) (r := (RX11, TX11, 44)) (r_isW hT (j := 13) (k := 1010) (by decide) (by decide) rfl) YX11_isWord rfl dX11_readLine_45 mlX11_183 (hY.lt (k := 217) (by decide)) (ly217 hY) ⟨rfl, rfl⟩ (by decide) ⟨Nat.le_of_ble_eq_true rfl, Nat.le_of_ble_eq_true rfl⟩ (Nat.le_of_ble_eq_true rfl) rfl (fun r45 Λc45 Ic45 Lc45 Rc45 hq45 => ?_)
  obtain ⟨rfl, rfl, rfl, rfl, rfl⟩ := hq45
  rw [show decide (kd B n i = 1010) = true from decide_eq_true hk]
  refine LW_bif_eq (tgt := 56) dX11_readLine_48 (by decide) (fun c48 => absurd (c48.symm.trans rfl) (by decide)) (fun c48 => ?_)
  refine LW_aloadn 0 dX11_readLine_51 rfl rfl ?_
  refine LW_callV (As := []) (b := 217) (st := []) (ci := 11) (r := (RX11, TX11, 44)) (rm_pay hw hk) YX11_readPay rfl dX11_readLine_52 mlX11_266 (hY.lt (k := 217) (by decide)) (ly217 hY) ⟨rfl, rfl⟩ (by decide) ⟨Nat.le_of_ble_eq_true rfl, Nat.le_of_ble_eq_true rfl⟩ (Nat.le_of_ble_eq_true rfl) rfl (fun r52 Λc52 Ic52 Lc52 Rc52 hq52 => ?_)
  obtain ⟨rfl, hq252⟩ := hq52
  refine LW_zret dX11_readLine_55 rfl (Nat.le_of_ble_eq_true rfl) (Nat.le_of_ble_eq_true rfl) (hc_b01 _) ?_
  have hx : pLine (kd B n) (vl B n) i A P = pPay (kd B n) (vl B n) i A P := by unfold pLine; rw [if_neg (by rw [hk]; decide), if_neg (by rw [hk]; decide), if_neg (by rw [hk]; decide), if_neg (by rw [hk]; decide), if_neg (by rw [hk]; decide), if_pos hk]
  rw [hx]
  exact ⟨rfl, hq252⟩
theorem r_mline {Λ : hc_L} {I : hc_I} {L : hc_J} {R : hc_R} {I0 : hc_I} {L0 : hc_J} {n i : Nat} {B : Nat → Nat} {A : AS} {P : LwP} (hw : TW I0 L0 n B Λ I L i A P) : Run xX11_readLine [.ref 217] Λ I L R (TPost I0 L0 n B (pLine (kd B n) (vl B n) i A P) Λ R) := by
  by_cases k1000 : kd B n i = 1000
  · exact rl_1000 hw k1000
  by_cases k1001 : kd B n i = 1001
  · exact rl_1001 hw k1001
  by_cases k1002 : kd B n i = 1002
  · exact rl_1002 hw k1002
  by_cases k1003 : kd B n i = 1003
  · exact rl_1003 hw k1003
  by_cases k1004 : kd B n i = 1004
  · exact rl_1004 hw k1004
  by_cases k1005 : kd B n i = 1005
  · exact rl_1005 hw k1005
  by_cases k1006 : kd B n i = 1006
  · exact rl_1006 hw k1006
  by_cases k1007 : kd B n i = 1007
  · exact rl_1007 hw k1007
  by_cases k1008 : kd B n i = 1008
  · exact rl_1008 hw k1008
  by_cases k1009 : kd B n i = 1009
  · exact rl_1009 hw k1009
  by_cases k1010 : kd B n i = 1010
  · exact rl_1010 hw k1010
  exact rl_else hw (by omega)
set_option maxRecDepth 100000 in
theorem r_begins {Λ : hc_L} {I : hc_I} {L : hc_J} {R : hc_R} {I0 : hc_I} {L0 : hc_J} {n : Nat} {B : Nat → Nat} (hY : LY Λ) (hr : RFr I0 I L0 L) (hb : TpB I n B) : Run xX11_begins [.ref 217] Λ I L R (fun r Λ' I' L' R' => r = none ∧ Λ = Λ' ∧ R = R' ∧ LxFr I I' L L' ∧ TK I0 L0 n B Λ I' L' 0) := by
  refine Run.of (by decide +kernel) (Nat.le_of_ble_eq_true rfl) ?_
  show LW _ _ _ [(0, .ref 217)] _ _ _ _ _ _
  refine LW_aloadn 0 dX11_begins_0 rfl rfl ?_
  refine LW_iconst (v := 0) dX11_begins_1 (by decide) ?_
  refine pX11_27 dX11_begins_2 flX11_130 (hY.lt (k := 217) (by decide)) (ly217 hY) ?_
  generalize hI2 : hc_u I 217 27 0 = I2
  refine LW_aloadn 0 dX11_begins_5 rfl rfl ?_
  refine LW_iconst (v := 0) dX11_begins_6 (by decide) ?_
  refine pX11_23 dX11_begins_7 flX11_161 (hY.lt (k := 217) (by decide)) (ly217 hY) ?_
  generalize hI7 : hc_u I2 217 23 0 = I7
  refine LW_aloadn 0 dX11_begins_10 rfl rfl ?_
  refine LW_iconst (v := -1) dX11_begins_11 (by decide) ?_
  refine pX11_24 dX11_begins_12 flX11_164 (hY.lt (k := 217) (by decide)) (ly217 hY) ?_
  generalize hI12 : hc_u I7 217 24 (-1) = I12
  have g : LxFr I I12 L L := ⟨fun z hz => by rw [← hI12, hc_u_row _ _ _ _ hz, ← hI7, hc_u_row _ _ _ _ hz, ← hI2, hc_u_row _ _ _ _ hz], fun j hj => by unfold LxJ at hj; rw [← hI12, hc_u_at, if_neg (by omega), ← hI7, hc_u_at, if_neg (by omega), ← hI2, hc_u_at, if_neg (by omega)], fun _ _ => rfl⟩
  have hb2 : TpB I12 n B := ⟨(g.2.1 20 (by unfold LxJ; omega)).trans hb.1, hb.2.1, fun j hj => by rw [g.1 227 (by decide)]; exact hb.2.2 j hj⟩
  have h23 : I12 217 23 = 0 := by rw [← hI12, hc_u_at, if_neg (by decide), ← hI7, hc_u_at, if_pos rfl]
  have h24 : I12 217 24 = -1 := by rw [← hI12, hc_u_at, if_pos rfl]
  refine LW_aloadn 0 dX11_begins_15 rfl rfl ?_
  refine LW_callV (As := []) (b := 217) (st := []) (ci := 11) (r := (RX11, TX11, 44)) (r_next hY hb2 (Nat.zero_le _) (by rw [← hI12, hc_u_at, if_neg (by decide), ← hI7, hc_u_at, if_neg (by decide), ← hI2, hc_u_at, if_pos rfl]; rfl)) YX11_next rfl dX11_begins_16 mlX11_234 (hY.lt (k := 217) (by decide)) (ly217 hY) ⟨rfl, rfl⟩ (by decide) ⟨Nat.le_of_ble_eq_true rfl, Nat.le_of_ble_eq_true rfl⟩ (Nat.le_of_ble_eq_true rfl) rfl (fun r16 Λc16 Ic16 Lc16 Rc16 hq16 => ?_)
  obtain ⟨rfl, rfl, rfl, h1, h2, h3, h4, h5⟩ := hq16
  refine LW_vret dX11_begins_19 rfl (Nat.le_of_ble_eq_true rfl) (Nat.le_of_ble_eq_true rfl) ?_
  have hf : LxFr I12 Ic16 L Lc16 := ⟨h1, fun j hj => h2 j (by unfold LxJ at hj; unfold LxI; omega), h3⟩
  exact ⟨rfl, rfl, rfl, g.trans hf, hY, hr.trans (g.trans hf).r, ⟨(h2 20 (by unfold LxI; omega)).trans hb2.1, hb2.2.1, fun j hj => by rw [h1 227 (by decide)]; exact hb2.2.2 j hj⟩, h5, (h2 23 (by unfold LxI; omega)).trans h23, (h2 24 (by unfold LxI; omega)).trans h24⟩
set_option maxRecDepth 100000 in
theorem r_isRead {Λ : hc_L} {I : hc_I} {L : hc_J} {R : hc_R} (hY : LY Λ) : Run xX11_isRead [.ref 217] Λ I L R (fun r Λ' I' L' R' => r = some (.int (hc_b (decide (I 217 23 = 0)))) ∧ Λ = Λ' ∧ L = L' ∧ R = R' ∧ (∀ z, z ≠ 217 → I' z = I z) ∧ ∀ j, I' 217 j = if j = 22 then I 217 24 else if j = 21 then I 217 23 else if j = 20 then 0 else I 217 j) := by
  refine Run.of (by decide +kernel) (Nat.le_of_ble_eq_true rfl) ?_
  show LW _ _ _ [(0, .ref 217)] _ _ _ _ _ _
  refine LW_aloadn 0 dX11_isRead_0 rfl rfl ?_
  refine LW_iconst (v := 0) dX11_isRead_1 (by decide) ?_
  refine pX11_20 dX11_isRead_2 flX11_119 (hY.lt (k := 217) (by decide)) (ly217 hY) ?_
  generalize hI2 : hc_u I 217 20 0 = I2
  refine LW_aloadn 0 dX11_isRead_5 rfl rfl ?_
  refine LW_aloadn 0 dX11_isRead_6 rfl rfl ?_
  refine gX11_23 dX11_isRead_7 flX11_161 (hY.lt (k := 217) (by decide)) (ly217 hY) ?_
  rw [show I2 217 23 = I 217 23 from (by rw [← hI2, hc_u_at, if_neg (by decide)])]
  refine pX11_21 dX11_isRead_10 flX11_240 (hY.lt (k := 217) (by decide)) (ly217 hY) ?_
  generalize hI10 : hc_u I2 217 21 (I 217 23) = I10
  refine LW_aloadn 0 dX11_isRead_13 rfl rfl ?_
  refine LW_aloadn 0 dX11_isRead_14 rfl rfl ?_
  refine gX11_24 dX11_isRead_15 flX11_164 (hY.lt (k := 217) (by decide)) (ly217 hY) ?_
  rw [show I10 217 24 = I 217 24 from (by rw [← hI10, hc_u_at, if_neg (by decide), ← hI2, hc_u_at, if_neg (by decide)])]
  refine pX11_22 dX11_isRead_18 flX11_43 (hY.lt (k := 217) (by decide)) (ly217 hY) ?_
  generalize hI18 : hc_u I10 217 22 (I 217 24) = I18
  refine LW_aloadn 0 dX11_isRead_21 rfl rfl ?_
  refine gX11_23 dX11_isRead_22 flX11_161 (hY.lt (k := 217) (by decide)) (ly217 hY) ?_
  rw [show I18 217 23 = I 217 23 from (by rw [← hI18, hc_u_at, if_neg (by decide), ← hI10, hc_u_at, if_neg (by decide), ← hI2, hc_u_at, if_neg (by decide)])]
  refine LW_if_ne (tgt := 32) dX11_isRead_25 (by decide) (fun c25 => ?_) (fun c25 => ?_)
  · refine LW_iconst (v := 0) dX11_isRead_32 (by decide) ?_
    refine LW_zret dX11_isRead_33 rfl (Nat.le_of_ble_eq_true rfl) (Nat.le_of_ble_eq_true rfl) (Or.inl rfl) ?_
    have e := c25
    rw [decide_eq_false e]
    refine ⟨rfl, rfl, rfl, rfl, fun z hz => by rw [← hI18, hc_u_row _ _ _ _ hz, ← hI10, hc_u_row _ _ _ _ hz, ← hI2, hc_u_row _ _ _ _ hz], fun j => ?_⟩
    rw [← hI18, hc_u_at, ← hI10, hc_u_at, ← hI2, hc_u_at]
  · refine LW_iconst (v := 1) dX11_isRead_28 (by decide) ?_
    refine LW_goto (tgt := 33) dX11_isRead_29 (by decide) ?_
    refine LW_zret dX11_isRead_33 rfl (Nat.le_of_ble_eq_true rfl) (Nat.le_of_ble_eq_true rfl) (Or.inr rfl) ?_
    have e := Classical.not_not.mp c25
    rw [decide_eq_true e]
    refine ⟨rfl, rfl, rfl, rfl, fun z hz => by rw [← hI18, hc_u_row _ _ _ _ hz, ← hI10, hc_u_row _ _ _ _ hz, ← hI2, hc_u_row _ _ _ _ hz], fun j => ?_⟩
    rw [← hI18, hc_u_at, ← hI10, hc_u_at, ← hI2, hc_u_at]
set_option maxRecDepth 100000 in
theorem pl_1 {Λ : hc_L} {I : hc_I} {L : hc_J} {R : hc_R} {Q : hc_Q} (hY : LY Λ) (hend : ∀ I' : hc_I, (∀ z, z ≠ 222 → I' z = I z) → (∀ j, j < 64 → I' 222 j = I 222 j) → (∀ j, 64 ≤ j → j < 128 → I' 222 j = 1) → LW xX11_plain (0, 0) 23 [(0, .ref 217), (1, .int (nI 128))] [] Λ I' L R Q) : LW xX11_plain (0, 0) 3 [(0, .ref 217), (1, .int (nI 64))] [] Λ I L R Q := by
  have loop : ∀ k, k ≤ 128 → 64 ≤ k → ∀ I1 : hc_I, (∀ z, z ≠ 222 → I1 z = I z) → (∀ j, j < 64 → I1 222 j = I 222 j) → (∀ j, 64 ≤ j → j < k → I1 222 j = 1) → LW xX11_plain (0, 0) 3 [(0, .ref 217), (1, .int (nI k))] [] Λ I1 L R Q := by
    refine hc_down ?_ ?_
    · intro _ I1 h1 h2 h3
      refine LW_iloadn 1 dX11_plain_3 rfl rfl ?_
      refine LW_sipush (v := 128) dX11_plain_4 (by decide) ?_
      refine LW_icmp_ge (tgt := 23) dX11_plain_7 (by decide) (fun c7 => ?_) (fun c7 => absurd (Int32.le_refl _) c7)
      exact hend I1 h1 h2 h3
    · intro k hk ih hlo I1 h1 h2 h3
      refine LW_iloadn 1 dX11_plain_3 rfl rfl ?_
      refine LW_sipush (v := 128) dX11_plain_4 (by decide) ?_
      refine LW_icmp_ge (tgt := 23) dX11_plain_7 (by decide) (fun c7 => absurd c7 (hc_nle (a := 128) (b := k) (by omega) (by omega) hk)) (fun c7 => ?_)
      refine LW_aloadn 0 dX11_plain_10 rfl rfl ?_
      refine gX11_5 dX11_plain_11 flX11_25 (hY.lt (k := 217) (by decide)) (ly217 hY) (lf217_5 hY) ?_
      refine LW_iloadn 1 dX11_plain_14 rfl rfl ?_
      refine LW_iconst (v := 1) dX11_plain_15 (by decide) ?_
      refine LW_iast dX11_plain_16 (hY.lt (k := 222) (by decide)) (ly222 hY) rfl (by omega) (Nat.le_of_ble_eq_true rfl) ?_
      generalize hI16 : hc_u I1 222 k 1 = I16
      refine LW_iinc (n := 1) (v := nI (k + 1)) (ls' := [(0, .ref 217), (1, .int (nI (k + 1)))]) dX11_plain_17 rfl (hc_inc _) (by decide) rfl ?_
      refine LW_goto (tgt := 3) dX11_plain_20 (by decide) ?_
      exact ih (by omega) I16 (fun z hz => by rw [← hI16, hc_u_row _ _ _ _ hz]; exact h1 z hz) (fun j hj => by rw [← hI16, hc_u_at, if_neg (by omega)]; exact h2 j hj) (fun j h4 h5 => by
        rw [← hI16, hc_u_at]
        by_cases c : j = k
        · rw [if_pos c]
        · rw [if_neg c]; exact h3 j h4 (by omega))
  exact loop 64 (by decide) (Nat.le_refl _) I (fun _ _ => rfl) (fun _ _ => rfl) (fun j h4 h5 => absurd h5 (by omega))
set_option maxRecDepth 100000 in
theorem pl_2 {Λ : hc_L} {I : hc_I} {L : hc_J} {R : hc_R} {Q : hc_Q} (hY : LY Λ) (hend : ∀ I' : hc_I, (∀ z, z ≠ 223 → I' z = I z) → (∀ j, j < 4 → I' 223 j = I 223 j) → (∀ j, 4 ≤ j → j < 8 → I' 223 j = 100) → LW xX11_plain (0, 0) 45 [(0, .ref 217), (1, .int (nI 8))] [] Λ I' L R Q) : LW xX11_plain (0, 0) 25 [(0, .ref 217), (1, .int (nI 4))] [] Λ I L R Q := by
  have loop : ∀ k, k ≤ 8 → 4 ≤ k → ∀ I1 : hc_I, (∀ z, z ≠ 223 → I1 z = I z) → (∀ j, j < 4 → I1 223 j = I 223 j) → (∀ j, 4 ≤ j → j < k → I1 223 j = 100) → LW xX11_plain (0, 0) 25 [(0, .ref 217), (1, .int (nI k))] [] Λ I1 L R Q := by
    refine hc_down ?_ ?_
    · intro _ I1 h1 h2 h3
      refine LW_iloadn 1 dX11_plain_25 rfl rfl ?_
      refine LW_bipush (v := 8) dX11_plain_26 (by decide) ?_
      refine LW_icmp_ge (tgt := 45) dX11_plain_28 (by decide) (fun c28 => ?_) (fun c28 => absurd (Int32.le_refl _) c28)
      exact hend I1 h1 h2 h3
    · intro k hk ih hlo I1 h1 h2 h3
      refine LW_iloadn 1 dX11_plain_25 rfl rfl ?_
      refine LW_bipush (v := 8) dX11_plain_26 (by decide) ?_
      refine LW_icmp_ge (tgt := 45) dX11_plain_28 (by decide) (fun c28 => absurd c28 (hc_nle (a := 8) (b := k) (by omega) (by omega) hk)) (fun c28 => ?_)
      refine LW_aloadn 0 dX11_plain_31 rfl rfl ?_
      refine gX11_6 dX11_plain_32 flX11_28 (hY.lt (k := 217) (by decide)) (ly217 hY) (lf217_6 hY) ?_
      refine LW_iloadn 1 dX11_plain_35 rfl rfl ?_
      refine LW_bipush (v := 100) dX11_plain_36 (by decide) ?_
      refine LW_iast dX11_plain_38 (hY.lt (k := 223) (by decide)) (ly223 hY) rfl (by omega) (Nat.le_of_ble_eq_true rfl) ?_
      generalize hI38 : hc_u I1 223 k 100 = I38
      refine LW_iinc (n := 1) (v := nI (k + 1)) (ls' := [(0, .ref 217), (1, .int (nI (k + 1)))]) dX11_plain_39 rfl (hc_inc _) (by decide) rfl ?_
      refine LW_goto (tgt := 25) dX11_plain_42 (by decide) ?_
      exact ih (by omega) I38 (fun z hz => by rw [← hI38, hc_u_row _ _ _ _ hz]; exact h1 z hz) (fun j hj => by rw [← hI38, hc_u_at, if_neg (by omega)]; exact h2 j hj) (fun j h4 h5 => by
        rw [← hI38, hc_u_at]
        by_cases c : j = k
        · rw [if_pos c]
        · rw [if_neg c]; exact h3 j h4 (by omega))
  exact loop 4 (by decide) (Nat.le_refl _) I (fun _ _ => rfl) (fun _ _ => rfl) (fun j h4 h5 => absurd h5 (by omega))
set_option maxRecDepth 100000 in
theorem r_plain {Λ : hc_L} {I : hc_I} {L : hc_J} {R : hc_R} (hY : LY Λ) : Run xX11_plain [.ref 217] Λ I L R (fun r Λ' I' L' R' => r = none ∧ Λ = Λ' ∧ L = L' ∧ R = R' ∧ RFr I I' L L' ∧ (∀ j, ¬ (11 ≤ j ∧ j ≤ 18) → I' 217 j = I 217 j) ∧ ∀ er, TD I' L' (aNew er) lp0) := by
  refine Run.of (by decide +kernel) (Nat.le_of_ble_eq_true rfl) ?_
  show LW _ _ _ [(0, .ref 217)] _ _ _ _ _ _
  refine LW_bipush (v := 64) dX11_plain_0 (by decide) ?_
  refine LW_istoren (ls' := [(0, .ref 217), (1, .int 64)]) dX11_plain_2 rfl (by decide) rfl ?_
  refine pl_1 hY (fun I2 a2 a3 a4 => ?_)
  refine LW_iconst (v := 4) dX11_plain_23 (by decide) ?_
  refine LW_istoren (ls' := [(0, .ref 217), (1, .int 4)]) dX11_plain_24 rfl (by decide) rfl ?_
  refine pl_2 hY (fun I3 b2 b3 b4 => ?_)
  refine LW_aloadn 0 dX11_plain_45 rfl rfl ?_
  refine gX11_7 dX11_plain_46 flX11_31 (hY.lt (k := 217) (by decide)) (ly217 hY) (lf217_7 hY) ?_
  refine LW_iconst (v := 3) dX11_plain_49 (by decide) ?_
  refine LW_ldc dX11_plain_50 klX11_90 ?_
  refine LW_iast dX11_plain_52 (hY.lt (k := 224) (by decide)) (ly224 hY) rfl (by decide) (Nat.le_of_ble_eq_true rfl) ?_
  generalize hI52 : hc_u I3 224 3 9999999 = I52
  refine LW_aloadn 0 dX11_plain_53 rfl rfl ?_
  refine gX11_7 dX11_plain_54 flX11_31 (hY.lt (k := 217) (by decide)) (ly217 hY) (lf217_7 hY) ?_
  refine LW_iconst (v := 4) dX11_plain_57 (by decide) ?_
  refine LW_iconst (v := 0) dX11_plain_58 (by decide) ?_
  refine LW_iast dX11_plain_59 (hY.lt (k := 224) (by decide)) (ly224 hY) rfl (by decide) (Nat.le_of_ble_eq_true rfl) ?_
  generalize hI59 : hc_u I52 224 4 0 = I59
  refine LW_aloadn 0 dX11_plain_60 rfl rfl ?_
  refine gX11_7 dX11_plain_61 flX11_31 (hY.lt (k := 217) (by decide)) (ly217 hY) (lf217_7 hY) ?_
  refine LW_iconst (v := 5) dX11_plain_64 (by decide) ?_
  refine LW_bipush (v := 100) dX11_plain_65 (by decide) ?_
  refine LW_iast dX11_plain_67 (hY.lt (k := 224) (by decide)) (ly224 hY) rfl (by decide) (Nat.le_of_ble_eq_true rfl) ?_
  generalize hI67 : hc_u I59 224 5 100 = I67
  refine LW_aloadn 0 dX11_plain_68 rfl rfl ?_
  refine LW_iconst (v := 0) dX11_plain_69 (by decide) ?_
  refine pX11_11 dX11_plain_70 flX11_91 (hY.lt (k := 217) (by decide)) (ly217 hY) ?_
  generalize hI70 : hc_u I67 217 11 0 = I70
  refine LW_aloadn 0 dX11_plain_73 rfl rfl ?_
  refine LW_iconst (v := 0) dX11_plain_74 (by decide) ?_
  refine pX11_12 dX11_plain_75 flX11_94 (hY.lt (k := 217) (by decide)) (ly217 hY) ?_
  generalize hI75 : hc_u I70 217 12 0 = I75
  refine LW_aloadn 0 dX11_plain_78 rfl rfl ?_
  refine LW_iconst (v := 0) dX11_plain_79 (by decide) ?_
  refine pX11_13 dX11_plain_80 flX11_97 (hY.lt (k := 217) (by decide)) (ly217 hY) ?_
  generalize hI80 : hc_u I75 217 13 0 = I80
  refine LW_aloadn 0 dX11_plain_83 rfl rfl ?_
  refine LW_bipush (v := 10) dX11_plain_84 (by decide) ?_
  refine pX11_14 dX11_plain_86 flX11_100 (hY.lt (k := 217) (by decide)) (ly217 hY) ?_
  generalize hI86 : hc_u I80 217 14 10 = I86
  refine LW_aloadn 0 dX11_plain_89 rfl rfl ?_
  refine LW_iconst (v := 0) dX11_plain_90 (by decide) ?_
  refine pX11_15 dX11_plain_91 flX11_103 (hY.lt (k := 217) (by decide)) (ly217 hY) ?_
  generalize hI91 : hc_u I86 217 15 0 = I91
  refine LW_aloadn 0 dX11_plain_94 rfl rfl ?_
  refine LW_iconst (v := 4) dX11_plain_95 (by decide) ?_
  refine pX11_16 dX11_plain_96 flX11_106 (hY.lt (k := 217) (by decide)) (ly217 hY) ?_
  generalize hI96 : hc_u I91 217 16 4 = I96
  refine LW_aloadn 0 dX11_plain_99 rfl rfl ?_
  refine LW_bipush (v := 10) dX11_plain_100 (by decide) ?_
  refine pX11_17 dX11_plain_102 flX11_109 (hY.lt (k := 217) (by decide)) (ly217 hY) ?_
  generalize hI102 : hc_u I96 217 17 10 = I102
  refine LW_aloadn 0 dX11_plain_105 rfl rfl ?_
  refine LW_iconst (v := 0) dX11_plain_106 (by decide) ?_
  refine pX11_18 dX11_plain_107 flX11_112 (hY.lt (k := 217) (by decide)) (ly217 hY) (Or.inl rfl) ?_
  generalize hI107 : hc_u I102 217 18 0 = I107
  refine LW_vret dX11_plain_110 rfl (Nat.le_of_ble_eq_true rfl) (Nat.le_of_ble_eq_true rfl) ?_
  have hz : ∀ z, z ≠ 217 → z ≠ 222 → z ≠ 223 → z ≠ 224 → I107 z = I z := fun z a b c d => by rw [← hI107, hc_u_row _ _ _ _ a, ← hI102, hc_u_row _ _ _ _ a, ← hI96, hc_u_row _ _ _ _ a, ← hI91, hc_u_row _ _ _ _ a, ← hI86, hc_u_row _ _ _ _ a, ← hI80, hc_u_row _ _ _ _ a, ← hI75, hc_u_row _ _ _ _ a, ← hI70, hc_u_row _ _ _ _ a, ← hI67, hc_u_row _ _ _ _ d, ← hI59, hc_u_row _ _ _ _ d, ← hI52, hc_u_row _ _ _ _ d, b2 z c, a2 z b]
  have h7 : ∀ j, I107 217 j = if j = 18 then 0 else if j = 17 then 10 else if j = 16 then 4 else if j = 15 then 0 else if j = 14 then 10 else if j = 13 then 0 else if j = 12 then 0 else if j = 11 then 0 else I 217 j := fun j => by
    rw [← hI107, hc_u_at, ← hI102, hc_u_at, ← hI96, hc_u_at, ← hI91, hc_u_at, ← hI86, hc_u_at, ← hI80, hc_u_at, ← hI75, hc_u_at, ← hI70, hc_u_at, ← hI67, hc_u_row _ _ _ _ (by decide), ← hI59, hc_u_row _ _ _ _ (by decide), ← hI52, hc_u_row _ _ _ _ (by decide), b2 217 (by decide), a2 217 (by decide)]
  have h4 : ∀ j, I107 224 j = if j = 5 then 100 else if j = 4 then 0 else if j = 3 then 9999999 else I 224 j := fun j => by
    rw [← hI107, hc_u_row _ _ _ _ (by decide), ← hI102, hc_u_row _ _ _ _ (by decide), ← hI96, hc_u_row _ _ _ _ (by decide), ← hI91, hc_u_row _ _ _ _ (by decide), ← hI86, hc_u_row _ _ _ _ (by decide), ← hI80, hc_u_row _ _ _ _ (by decide), ← hI75, hc_u_row _ _ _ _ (by decide), ← hI70, hc_u_row _ _ _ _ (by decide), ← hI67, hc_u_at, ← hI59, hc_u_at, ← hI52, hc_u_at, b2 224 (by decide), a2 224 (by decide)]
  have h2 : I107 222 = I2 222 := by
    rw [← hI107, hc_u_row _ _ _ _ (by decide), ← hI102, hc_u_row _ _ _ _ (by decide), ← hI96, hc_u_row _ _ _ _ (by decide), ← hI91, hc_u_row _ _ _ _ (by decide), ← hI86, hc_u_row _ _ _ _ (by decide), ← hI80, hc_u_row _ _ _ _ (by decide), ← hI75, hc_u_row _ _ _ _ (by decide), ← hI70, hc_u_row _ _ _ _ (by decide), ← hI67, hc_u_row _ _ _ _ (by decide), ← hI59, hc_u_row _ _ _ _ (by decide), ← hI52, hc_u_row _ _ _ _ (by decide), b2 222 (by decide)]
  have h3 : I107 223 = I3 223 := by
    rw [← hI107, hc_u_row _ _ _ _ (by decide), ← hI102, hc_u_row _ _ _ _ (by decide), ← hI96, hc_u_row _ _ _ _ (by decide), ← hI91, hc_u_row _ _ _ _ (by decide), ← hI86, hc_u_row _ _ _ _ (by decide), ← hI80, hc_u_row _ _ _ _ (by decide), ← hI75, hc_u_row _ _ _ _ (by decide), ← hI70, hc_u_row _ _ _ _ (by decide), ← hI67, hc_u_row _ _ _ _ (by decide), ← hI59, hc_u_row _ _ _ _ (by decide), ← hI52, hc_u_row _ _ _ _ (by decide)]
  refine ⟨rfl, rfl, rfl, rfl, ⟨fun z hz7 => ?_, fun z j hj => ?_, fun _ _ => rfl, fun _ _ _ => rfl⟩, fun j hj => ?_, fun er => ⟨⟨⟨Nat.zero_le _, Nat.zero_le _, rfl, rfl, fun m hm => absurd hm (Nat.not_lt_zero m), fun _ _ => rfl⟩, ⟨by rw [h7]; rfl, by rw [h7]; rfl⟩, ⟨⟨by rw [h7]; rfl, by rw [h7]; rfl, by rw [h7]; rfl, by rw [h7]; rfl⟩, by rw [h4]; rfl, by rw [h4]; rfl, by rw [h4]; rfl⟩, fun c hc => by rw [h2, a4 (64 + c) (by omega) (by omega)]; rfl, fun c hc => by rw [h3, b4 (4 + c) (by omega) (by omega)]; rfl, fun m hm => absurd hm (Nat.not_lt_zero m), fun f hf => absurd hf (Nat.not_lt_zero f)⟩, ⟨by rw [h7]; rfl, fun k hk => absurd hk (Nat.not_lt_zero k)⟩, by rw [h7]; rfl⟩⟩
  · unfold rfZ at hz7
    exact hz z (by omega) (by omega) (by omega) (by omega)
  · unfold rfJ at hj
    rcases (show (z ≠ 217 ∧ z ≠ 222 ∧ z ≠ 223 ∧ z ≠ 224) ∨ (z = 217 ∧ (j < 11 ∨ 18 < j)) ∨ (z = 222 ∧ j < 64) ∨ (z = 223 ∧ j < 4) ∨ (z = 224 ∧ j < 3) by omega) with ⟨a, b, c, d⟩ | ⟨rfl, a⟩ | ⟨rfl, a⟩ | ⟨rfl, a⟩ | ⟨rfl, a⟩
    · rw [hz z a b c d]
    · rw [h7 j, if_neg (by omega), if_neg (by omega), if_neg (by omega), if_neg (by omega), if_neg (by omega), if_neg (by omega), if_neg (by omega), if_neg (by omega)]
    · rw [h2, a3 j a]
    · rw [h3, b3 j a, a2 223 (by decide)]
    · rw [h4 j, if_neg (by omega), if_neg (by omega), if_neg (by omega)]
  · rw [h7 j, if_neg (by omega), if_neg (by omega), if_neg (by omega), if_neg (by omega), if_neg (by omega), if_neg (by omega), if_neg (by omega), if_neg (by omega)]
