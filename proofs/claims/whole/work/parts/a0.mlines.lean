/-! the reference reads: lines -/
theorem aSRu_comm (A : AS) {j k : Nat} (h : j ≠ k) (a b : Int64) : aSRu (aSRu A j a) k b = aSRu (aSRu A k b) j a := by
  have e : lpUp (lpUp (aRu A) j a) k b = lpUp (lpUp (aRu A) k b) j a := by
    funext q
    unfold lpUp
    by_cases c : q = k
    · rw [if_pos c, if_neg (fun z => h (z.symm.trans c)), if_pos c]
    · rw [if_neg c, if_neg c]
  show (aM A, aF A, aS A, aY A, lpUp (lpUp (aRu A) j a) k b, _) = _
  rw [e]
  rfl
set_option maxRecDepth 100000 in
theorem rl_1003 {Λ : hc_L} {I : hc_I} {L : hc_J} {R : hc_R} {I0 : hc_I} {L0 : hc_J} {n i : Nat} {B : Nat → Nat} {A : AS} {P : LwP} (hw : TW I0 L0 n B Λ I L i A P) (hk : kd B n i = 1003) : Run xX11_readLine [.ref 217] Λ I L R (TPost I0 L0 n B (pLine (kd B n) (vl B n) i A P) Λ R) := by
  refine Run.of (by decide +kernel) (Nat.le_of_ble_eq_true rfl) ?_
  show LW _ _ _ [(0, .ref 217)] _ _ _ _ _ _
  have hY := hw.1.y
  obtain ⟨hT, hW, hPi⟩ := hw
  have hB := hT.b
  have hx : pNums (kd B n) (vl B n) [(0, 3), (0, 200)] (i + 1) = pNums (kd B n) (vl B n) [(0, 3), (0, 200)] (i + 1) := rfl
  refine LW_aloadn 0 dX11_readLine_0 rfl rfl ?_
  refine LW_ldcS (i := 1) dX11_readLine_1 rfl ?_
  refine LW_callV (As := [.ref (1000000 + 1)]) (b := 217) (st := []) (ci := 11) (r := (RX11, TX11, 44)) (r_isW hT (j := 1) (k := 1000) (by decide) (by decide) rfl) YX11_isWord rfl dX11_readLine_3 mlX11_183 (hY.lt (k := 217) (by decide)) (ly217 hY) ⟨rfl, rfl⟩ (by decide) ⟨Nat.le_of_ble_eq_true rfl, Nat.le_of_ble_eq_true rfl⟩ (Nat.le_of_ble_eq_true rfl) rfl (fun r3 Λc3 Ic3 Lc3 Rc3 hq3 => ?_)
  obtain ⟨rfl, rfl, rfl, rfl, rfl⟩ := hq3
  rw [show decide (kd B n i = 1000) = false from decide_eq_false (by rw [hk]; decide)]
  refine LW_bif_eq (tgt := 14) dX11_readLine_6 (by decide) (fun c6 => ?_) (fun c6 => absurd (c6.symm.trans rfl) (by decide))
  refine LW_aloadn 0 dX11_readLine_14 rfl rfl ?_
  refine LW_ldcS (i := 6) dX11_readLine_15 rfl ?_
  refine LW_callV (As := [.ref (1000000 + 6)]) (b := 217) (st := []) (ci := 11) (r := (RX11, TX11, 44)) (r_isW hT (j := 6) (k := 1001) (by decide) (by decide) rfl) YX11_isWord rfl dX11_readLine_17 mlX11_183 (hY.lt (k := 217) (by decide)) (ly217 hY) ⟨rfl, rfl⟩ (by decide) ⟨Nat.le_of_ble_eq_true rfl, Nat.le_of_ble_eq_true rfl⟩ (Nat.le_of_ble_eq_true rfl) rfl (fun r17 Λc17 Ic17 Lc17 Rc17 hq17 => ?_)
  obtain ⟨rfl, rfl, rfl, rfl, rfl⟩ := hq17
  rw [show decide (kd B n i = 1001) = false from decide_eq_false (by rw [hk]; decide)]
  refine LW_bif_eq (tgt := 28) dX11_readLine_20 (by decide) (fun c20 => ?_) (fun c20 => absurd (c20.symm.trans rfl) (by decide))
  refine LW_aloadn 0 dX11_readLine_28 rfl rfl ?_
  refine LW_ldcS (i := 3) dX11_readLine_29 rfl ?_
  refine LW_callV (As := [.ref (1000000 + 3)]) (b := 217) (st := []) (ci := 11) (r := (RX11, TX11, 44)) (r_isW hT (j := 3) (k := 1002) (by decide) (by decide) rfl) YX11_isWord rfl dX11_readLine_31 mlX11_183 (hY.lt (k := 217) (by decide)) (ly217 hY) ⟨rfl, rfl⟩ (by decide) ⟨Nat.le_of_ble_eq_true rfl, Nat.le_of_ble_eq_true rfl⟩ (Nat.le_of_ble_eq_true rfl) rfl (fun r31 Λc31 Ic31 Lc31 Rc31 hq31 => ?_)
  obtain ⟨rfl, rfl, rfl, rfl, rfl⟩ := hq31
  rw [show decide (kd B n i = 1002) = false from decide_eq_false (by rw [hk]; decide)]
  refine LW_bif_eq (tgt := 42) dX11_readLine_34 (by decide) (fun c34 => ?_) (fun c34 => absurd (c34.symm.trans rfl) (by decide))
  refine LW_aloadn 0 dX11_readLine_42 rfl rfl ?_
  refine LW_ldcS (i := 13) dX11_readLine_43 rfl ?_
  refine LW_callV (As := [.ref (1000000 + 13)]) (b := 217) (st := []) (ci := 11) (r := (RX11, TX11, 44)) (r_isW hT (j := 13) (k := 1010) (by decide) (by decide) rfl) YX11_isWord rfl dX11_readLine_45 mlX11_183 (hY.lt (k := 217) (by decide)) (ly217 hY) ⟨rfl, rfl⟩ (by decide) ⟨Nat.le_of_ble_eq_true rfl, Nat.le_of_ble_eq_true rfl⟩ (Nat.le_of_ble_eq_true rfl) rfl (fun r45 Λc45 Ic45 Lc45 Rc45 hq45 => ?_)
  obtain ⟨rfl, rfl, rfl, rfl, rfl⟩ := hq45
  rw [show decide (kd B n i = 1010) = false from decide_eq_false (by rw [hk]; decide)]
  refine LW_bif_eq (tgt := 56) dX11_readLine_48 (by decide) (fun c48 => ?_) (fun c48 => absurd (c48.symm.trans rfl) (by decide))
  refine LW_aloadn 0 dX11_readLine_56 rfl rfl ?_
  refine LW_ldcS (i := 5) dX11_readLine_57 rfl ?_
  refine LW_callV (As := [.ref (1000000 + 5)]) (b := 217) (st := []) (ci := 11) (r := (RX11, TX11, 44)) (r_isW hT (j := 5) (k := 1003) (by decide) (by decide) rfl) YX11_isWord rfl dX11_readLine_59 mlX11_183 (hY.lt (k := 217) (by decide)) (ly217 hY) ⟨rfl, rfl⟩ (by decide) ⟨Nat.le_of_ble_eq_true rfl, Nat.le_of_ble_eq_true rfl⟩ (Nat.le_of_ble_eq_true rfl) rfl (fun r59 Λc59 Ic59 Lc59 Rc59 hq59 => ?_)
  obtain ⟨rfl, rfl, rfl, rfl, rfl⟩ := hq59
  rw [show decide (kd B n i = 1003) = true from decide_eq_true hk]
  refine LW_istoren (ls' := [(0, .ref 217), (1, .int (hc_b true))]) dX11_readLine_62 rfl (by decide) rfl ?_
  refine LW_aloadn 0 dX11_readLine_63 rfl rfl ?_
  refine LW_ldcS (i := 7) dX11_readLine_64 rfl ?_
  refine LW_callV (As := [.ref (1000000 + 7)]) (b := 217) (st := []) (ci := 11) (r := (RX11, TX11, 44)) (r_isW hT (j := 7) (k := 1004) (by decide) (by decide) rfl) YX11_isWord rfl dX11_readLine_66 mlX11_183 (hY.lt (k := 217) (by decide)) (ly217 hY) ⟨rfl, rfl⟩ (by decide) ⟨Nat.le_of_ble_eq_true rfl, Nat.le_of_ble_eq_true rfl⟩ (Nat.le_of_ble_eq_true rfl) rfl (fun r66 Λc66 Ic66 Lc66 Rc66 hq66 => ?_)
  obtain ⟨rfl, rfl, rfl, rfl, rfl⟩ := hq66
  rw [show decide (kd B n i = 1004) = false from decide_eq_false (by rw [hk]; decide)]
  refine LW_istoren (ls' := [(0, .ref 217), (1, .int (hc_b true)), (2, .int (hc_b false))]) dX11_readLine_69 rfl (by decide) rfl ?_
  refine LW_aloadn 0 dX11_readLine_70 rfl rfl ?_
  refine LW_ldcS (i := 8) dX11_readLine_71 rfl ?_
  refine LW_callV (As := [.ref (1000000 + 8)]) (b := 217) (st := []) (ci := 11) (r := (RX11, TX11, 44)) (r_isW hT (j := 8) (k := 1005) (by decide) (by decide) rfl) YX11_isWord rfl dX11_readLine_73 mlX11_183 (hY.lt (k := 217) (by decide)) (ly217 hY) ⟨rfl, rfl⟩ (by decide) ⟨Nat.le_of_ble_eq_true rfl, Nat.le_of_ble_eq_true rfl⟩ (Nat.le_of_ble_eq_true rfl) rfl (fun r73 Λc73 Ic73 Lc73 Rc73 hq73 => ?_)
  obtain ⟨rfl, rfl, rfl, rfl, rfl⟩ := hq73
  rw [show decide (kd B n i = 1005) = false from decide_eq_false (by rw [hk]; decide)]
  refine LW_istoren (ls' := [(0, .ref 217), (1, .int (hc_b true)), (2, .int (hc_b false)), (3, .int (hc_b false))]) dX11_readLine_76 rfl (by decide) rfl ?_
  refine LW_aloadn 0 dX11_readLine_77 rfl rfl ?_
  refine LW_ldcS (i := 9) dX11_readLine_78 rfl ?_
  refine LW_callV (As := [.ref (1000000 + 9)]) (b := 217) (st := []) (ci := 11) (r := (RX11, TX11, 44)) (r_isW hT (j := 9) (k := 1006) (by decide) (by decide) rfl) YX11_isWord rfl dX11_readLine_80 mlX11_183 (hY.lt (k := 217) (by decide)) (ly217 hY) ⟨rfl, rfl⟩ (by decide) ⟨Nat.le_of_ble_eq_true rfl, Nat.le_of_ble_eq_true rfl⟩ (Nat.le_of_ble_eq_true rfl) rfl (fun r80 Λc80 Ic80 Lc80 Rc80 hq80 => ?_)
  obtain ⟨rfl, rfl, rfl, rfl, rfl⟩ := hq80
  rw [show decide (kd B n i = 1006) = false from decide_eq_false (by rw [hk]; decide)]
  refine LW_istore (ls' := [(0, .ref 217), (1, .int (hc_b true)), (2, .int (hc_b false)), (3, .int (hc_b false)), (4, .int (hc_b false))]) dX11_readLine_83 (by decide) rfl ?_
  refine LW_aloadn 0 dX11_readLine_85 rfl rfl ?_
  refine LW_ldcS (i := 10) dX11_readLine_86 rfl ?_
  refine LW_callV (As := [.ref (1000000 + 10)]) (b := 217) (st := []) (ci := 11) (r := (RX11, TX11, 44)) (r_isW hT (j := 10) (k := 1007) (by decide) (by decide) rfl) YX11_isWord rfl dX11_readLine_88 mlX11_183 (hY.lt (k := 217) (by decide)) (ly217 hY) ⟨rfl, rfl⟩ (by decide) ⟨Nat.le_of_ble_eq_true rfl, Nat.le_of_ble_eq_true rfl⟩ (Nat.le_of_ble_eq_true rfl) rfl (fun r88 Λc88 Ic88 Lc88 Rc88 hq88 => ?_)
  obtain ⟨rfl, rfl, rfl, rfl, rfl⟩ := hq88
  rw [show decide (kd B n i = 1007) = false from decide_eq_false (by rw [hk]; decide)]
  refine LW_istore (ls' := [(0, .ref 217), (1, .int (hc_b true)), (2, .int (hc_b false)), (3, .int (hc_b false)), (4, .int (hc_b false)), (5, .int (hc_b false))]) dX11_readLine_91 (by decide) rfl ?_
  refine LW_aloadn 0 dX11_readLine_93 rfl rfl ?_
  refine LW_ldcS (i := 11) dX11_readLine_94 rfl ?_
  refine LW_callV (As := [.ref (1000000 + 11)]) (b := 217) (st := []) (ci := 11) (r := (RX11, TX11, 44)) (r_isW hT (j := 11) (k := 1008) (by decide) (by decide) rfl) YX11_isWord rfl dX11_readLine_96 mlX11_183 (hY.lt (k := 217) (by decide)) (ly217 hY) ⟨rfl, rfl⟩ (by decide) ⟨Nat.le_of_ble_eq_true rfl, Nat.le_of_ble_eq_true rfl⟩ (Nat.le_of_ble_eq_true rfl) rfl (fun r96 Λc96 Ic96 Lc96 Rc96 hq96 => ?_)
  obtain ⟨rfl, rfl, rfl, rfl, rfl⟩ := hq96
  rw [show decide (kd B n i = 1008) = false from decide_eq_false (by rw [hk]; decide)]
  refine LW_istore (ls' := [(0, .ref 217), (1, .int (hc_b true)), (2, .int (hc_b false)), (3, .int (hc_b false)), (4, .int (hc_b false)), (5, .int (hc_b false)), (6, .int (hc_b false))]) dX11_readLine_99 (by decide) rfl ?_
  refine LW_iloadn 1 dX11_readLine_101 rfl rfl ?_
  refine LW_bif_ne (tgt := 143) dX11_readLine_102 (by decide) (fun c102 => ?_) (fun c102 => absurd (c102.symm.trans rfl) (by decide))
  refine LW_aloadn 0 dX11_readLine_143 rfl rfl ?_
  refine LW_callV (As := []) (b := 217) (st := []) (ci := 11) (r := (RX11, TX11, 44)) (r_nx hT) YX11_next rfl dX11_readLine_144 mlX11_234 (hY.lt (k := 217) (by decide)) (ly217 hY) ⟨rfl, rfl⟩ (by decide) ⟨Nat.le_of_ble_eq_true rfl, Nat.le_of_ble_eq_true rfl⟩ (Nat.le_of_ble_eq_true rfl) rfl (fun r144 Λc144 Ic144 Lc144 Rc144 hq144 => ?_)
  obtain ⟨rfl, rfl, rfl, hl144, hT, hr144⟩ := hq144
  have hW := hW.lx hl144
  refine LW_aloadn 0 dX11_readLine_147 rfl rfl ?_
  refine LW_iconst (v := 0) dX11_readLine_148 (by decide) ?_
  refine LW_iloadn 1 dX11_readLine_149 rfl rfl ?_
  refine LW_bif_eq (tgt := 157) dX11_readLine_150 (by decide) (fun c150 => absurd (c150.symm.trans rfl) (by decide)) (fun c150 => ?_)
  refine LW_iconst (v := 3) dX11_readLine_153 (by decide) ?_
  refine LW_goto (tgt := 204) dX11_readLine_154 (by decide) ?_
  refine LW_callV (As := [.int 0, .int 3]) (b := 217) (st := []) (ci := 11) (r := (RX11, TX11, 44)) (r_num hT (lo := 0) (hi := 3) (by decide) (by decide)) YX11_readNumber rfl dX11_readLine_204 mlX11_250 (hY.lt (k := 217) (by decide)) (ly217 hY) ⟨rfl, rfl⟩ (by decide) ⟨Nat.le_of_ble_eq_true rfl, Nat.le_of_ble_eq_true rfl⟩ (Nat.le_of_ble_eq_true rfl) rfl (fun r204 Λc204 Ic204 Lc204 Rc204 hq204 => ?_)
  obtain ⟨rfl, rfl, rfl, hl204, hTt204, hFf204⟩ := hq204
  have hW := hW.lx hl204
  refine LW_bif_ne (tgt := 212) dX11_readLine_207 (by decide) (fun c207 => ?_) (fun c207 => ?_)
  · have p204 := of_decide_eq_true c207
    have hx := hx.trans (pNums_s p204)
    obtain ⟨hT, h31⟩ := hTt204 c207
    replace h31 : Ic204 217 31 = _ := h31
    have hk204 := pNum_0 p204
    refine LW_aloadn 0 dX11_readLine_212 rfl rfl ?_
    refine gX11_31 dX11_readLine_213 flX11_237 (hY.lt (k := 217) (by decide)) (ly217 hY) ?_
    rw [show Ic204 217 31 = nI (vl B n (i + 1)) from h31]
    refine LW_istore (ls' := [(0, .ref 217), (1, .int (hc_b true)), (2, .int (hc_b false)), (3, .int (hc_b false)), (4, .int (hc_b false)), (5, .int (hc_b false)), (6, .int (hc_b false)), (7, .int (nI (vl B n (i + 1))))]) dX11_readLine_216 (by decide) rfl ?_
    refine LW_iloadn 1 dX11_readLine_218 rfl rfl ?_
    refine LW_bif_ne (tgt := 227) dX11_readLine_219 (by decide) (fun c219 => ?_) (fun c219 => absurd (c219.symm.trans rfl) (by decide))
    refine LW_aloadn 0 dX11_readLine_227 rfl rfl ?_
    refine LW_iconst (v := 0) dX11_readLine_228 (by decide) ?_
    refine LW_iloadn 1 dX11_readLine_229 rfl rfl ?_
    refine LW_bif_eq (tgt := 239) dX11_readLine_230 (by decide) (fun c230 => absurd (c230.symm.trans rfl) (by decide)) (fun c230 => ?_)
    refine LW_sipush (v := 200) dX11_readLine_233 (by decide) ?_
    refine LW_goto (tgt := 241) dX11_readLine_236 (by decide) ?_
    refine LW_callV (As := [.int 0, .int 200]) (b := 217) (st := []) (ci := 11) (r := (RX11, TX11, 44)) (r_num hT (lo := 0) (hi := 200) (by decide) (by decide)) YX11_readNumber rfl dX11_readLine_241 mlX11_250 (hY.lt (k := 217) (by decide)) (ly217 hY) ⟨rfl, rfl⟩ (by decide) ⟨Nat.le_of_ble_eq_true rfl, Nat.le_of_ble_eq_true rfl⟩ (Nat.le_of_ble_eq_true rfl) rfl (fun r241 Λc241 Ic241 Lc241 Rc241 hq241 => ?_)
    obtain ⟨rfl, rfl, rfl, hl241, hTt241, hFf241⟩ := hq241
    have hW := hW.lx hl241
    refine LW_bif_ne (tgt := 249) dX11_readLine_244 (by decide) (fun c244 => ?_) (fun c244 => ?_)
    · have p241 := of_decide_eq_true c244
      have hx := hx.trans (pNums_s p241)
      obtain ⟨hT, h31⟩ := hTt241 c244
      replace h31 : Ic241 217 31 = _ := h31
      have hk241 := pNum_0 p241
      refine LW_iloadn 1 dX11_readLine_249 rfl rfl ?_
      refine LW_bif_eq (tgt := 269) dX11_readLine_250 (by decide) (fun c250 => absurd (c250.symm.trans rfl) (by decide)) (fun c250 => ?_)
      refine LW_aloadn 0 dX11_readLine_253 rfl rfl ?_
      refine gX11_6 dX11_readLine_254 flX11_28 (hY.lt (k := 217) (by decide)) (ly217 hY) (lf217_6 hY) ?_
      refine LW_iconst (v := 4) dX11_readLine_257 (by decide) ?_
      refine LW_iload 7 dX11_readLine_258 rfl ?_
      refine LW_iadd dX11_readLine_260 ?_
      rw [show (4 + (nI (vl B n (i + 1)))) = nI (4 + vl B n (i + 1)) from (nI_add 4 _)]
      refine LW_aloadn 0 dX11_readLine_261 rfl rfl ?_
      refine gX11_31 dX11_readLine_262 flX11_237 (hY.lt (k := 217) (by decide)) (ly217 hY) ?_
      rw [show Ic241 217 31 = nI (vl B n (i + 1 + 1)) from h31]
      refine LW_iast dX11_readLine_265 (hY.lt (k := 223) (by decide)) (ly223 hY) rfl (by omega) (Nat.le_of_ble_eq_true rfl) ?_
      generalize hI265 : hc_u Ic241 223 (4 + vl B n (i + 1)) (nI (vl B n (i + 1 + 1))) = I265
      refine LW_goto (tgt := 279) dX11_readLine_266 (by decide) ?_
      refine LW_iload 5 dX11_readLine_279 rfl ?_
      refine LW_bif_eq (tgt := 292) dX11_readLine_281 (by decide) (fun c281 => ?_) (fun c281 => absurd (c281.symm.trans rfl) (by decide))
      refine LW_iloadn 2 dX11_readLine_292 rfl rfl ?_
      refine LW_bif_eq (tgt := 305) dX11_readLine_293 (by decide) (fun c293 => ?_) (fun c293 => absurd (c293.symm.trans rfl) (by decide))
      refine LW_iloadn 3 dX11_readLine_305 rfl rfl ?_
      refine LW_bif_eq (tgt := 318) dX11_readLine_306 (by decide) (fun c306 => ?_) (fun c306 => absurd (c306.symm.trans rfl) (by decide))
      refine LW_iload 4 dX11_readLine_318 rfl ?_
      refine LW_bif_eq (tgt := 334) dX11_readLine_320 (by decide) (fun c320 => ?_) (fun c320 => absurd (c320.symm.trans rfl) (by decide))
      refine LW_iload 6 dX11_readLine_334 rfl ?_
      refine LW_bif_eq (tgt := 348) dX11_readLine_336 (by decide) (fun c336 => ?_) (fun c336 => absurd (c336.symm.trans rfl) (by decide))
      refine LW_iloadn 1 dX11_readLine_348 rfl rfl ?_
      refine LW_bif_ne (tgt := 363) dX11_readLine_349 (by decide) (fun c349 => ?_) (fun c349 => absurd (c349.symm.trans rfl) (by decide))
      refine LW_iconst (v := 1) dX11_readLine_363 (by decide) ?_
      refine LW_zret dX11_readLine_364 rfl (Nat.le_of_ble_eq_true rfl) (Nat.le_of_ble_eq_true rfl) (Or.inr rfl) ?_
      have hT2 : TK I0 L0 n B Λ I265 Lc241 (i + 1 + 1 + 1) := by rw [← hI265]; exact hT.uI (by unfold rfZ; omega) (by unfold rfJ; omega) (by unfold LxJ; omega)
      have hW2 : TD I265 Lc241 (aSSo A (vl B n (i + 1)) (vl B n (i + 1 + 1))) P := by rw [← hI265]; exact hW.soft (by omega)
      exact TPost.yes (q := (i + 1 + 1 + 1, aSSo A (vl B n (i + 1)) (vl B n (i + 1 + 1)), P)) (show pLine (kd B n) (vl B n) i A P = .inr (i + 1 + 1 + 1, aSSo A (vl B n (i + 1)) (vl B n (i + 1 + 1)), P) by unfold pLine; rw [if_neg (by rw [hk]; decide), if_neg (by rw [hk]; decide), if_neg (by rw [hk]; decide), if_pos hk]; show pDo (kd B n) (vl B n) [(0, 3), (0, 200)] (i + 1) (aSSo A (vl B n (i + 1)) (vl B n (i + 1 + 1))) P = _; unfold pDo; rw [hx]; rfl) ⟨hT2, hW2, by show P.1 ≤ _; omega⟩
    · have p := of_decide_eq_false c244
      have hx := hx.trans (pNums_e p)
      have hF := hFf241 c244
      refine LW_iconst (v := 0) dX11_readLine_247 (by decide) ?_
      refine LW_zret dX11_readLine_248 rfl (Nat.le_of_ble_eq_true rfl) (Nat.le_of_ble_eq_true rfl) (Or.inl rfl) ?_
      exact TPost.no (show pLine (kd B n) (vl B n) i A P = .inl _ by unfold pLine; rw [if_neg (by rw [hk]; decide), if_neg (by rw [hk]; decide), if_neg (by rw [hk]; decide), if_pos hk]; show pDo (kd B n) (vl B n) [(0, 3), (0, 200)] (i + 1) (aSSo A (vl B n (i + 1)) (vl B n (i + 1 + 1))) P = _; unfold pDo; rw [hx]) hF
  · have p := of_decide_eq_false c207
    have hx := hx.trans (pNums_e p)
    have hF := hFf204 c207
    refine LW_iconst (v := 0) dX11_readLine_210 (by decide) ?_
    refine LW_zret dX11_readLine_211 rfl (Nat.le_of_ble_eq_true rfl) (Nat.le_of_ble_eq_true rfl) (Or.inl rfl) ?_
    exact TPost.no (show pLine (kd B n) (vl B n) i A P = .inl _ by unfold pLine; rw [if_neg (by rw [hk]; decide), if_neg (by rw [hk]; decide), if_neg (by rw [hk]; decide), if_pos hk]; show pDo (kd B n) (vl B n) [(0, 3), (0, 200)] (i + 1) (aSSo A (vl B n (i + 1)) (vl B n (i + 1 + 1))) P = _; unfold pDo; rw [hx]) hF
set_option maxRecDepth 100000 in
theorem rl_1007 {Λ : hc_L} {I : hc_I} {L : hc_J} {R : hc_R} {I0 : hc_I} {L0 : hc_J} {n i : Nat} {B : Nat → Nat} {A : AS} {P : LwP} (hw : TW I0 L0 n B Λ I L i A P) (hk : kd B n i = 1007) : Run xX11_readLine [.ref 217] Λ I L R (TPost I0 L0 n B (pLine (kd B n) (vl B n) i A P) Λ R) := by
  refine Run.of (by decide +kernel) (Nat.le_of_ble_eq_true rfl) ?_
  show LW _ _ _ [(0, .ref 217)] _ _ _ _ _ _
  have hY := hw.1.y
  obtain ⟨hT, hW, hPi⟩ := hw
  have hB := hT.b
  have hx : pNums (kd B n) (vl B n) [(0, 9999999), (0, 100)] (i + 1) = pNums (kd B n) (vl B n) [(0, 9999999), (0, 100)] (i + 1) := rfl
  refine LW_aloadn 0 dX11_readLine_0 rfl rfl ?_
  refine LW_ldcS (i := 1) dX11_readLine_1 rfl ?_
  refine LW_callV (As := [.ref (1000000 + 1)]) (b := 217) (st := []) (ci := 11) (r := (RX11, TX11, 44)) (r_isW hT (j := 1) (k := 1000) (by decide) (by decide) rfl) YX11_isWord rfl dX11_readLine_3 mlX11_183 (hY.lt (k := 217) (by decide)) (ly217 hY) ⟨rfl, rfl⟩ (by decide) ⟨Nat.le_of_ble_eq_true rfl, Nat.le_of_ble_eq_true rfl⟩ (Nat.le_of_ble_eq_true rfl) rfl (fun r3 Λc3 Ic3 Lc3 Rc3 hq3 => ?_)
  obtain ⟨rfl, rfl, rfl, rfl, rfl⟩ := hq3
  rw [show decide (kd B n i = 1000) = false from decide_eq_false (by rw [hk]; decide)]
  refine LW_bif_eq (tgt := 14) dX11_readLine_6 (by decide) (fun c6 => ?_) (fun c6 => absurd (c6.symm.trans rfl) (by decide))
  refine LW_aloadn 0 dX11_readLine_14 rfl rfl ?_
  refine LW_ldcS (i := 6) dX11_readLine_15 rfl ?_
  refine LW_callV (As := [.ref (1000000 + 6)]) (b := 217) (st := []) (ci := 11) (r := (RX11, TX11, 44)) (r_isW hT (j := 6) (k := 1001) (by decide) (by decide) rfl) YX11_isWord rfl dX11_readLine_17 mlX11_183 (hY.lt (k := 217) (by decide)) (ly217 hY) ⟨rfl, rfl⟩ (by decide) ⟨Nat.le_of_ble_eq_true rfl, Nat.le_of_ble_eq_true rfl⟩ (Nat.le_of_ble_eq_true rfl) rfl (fun r17 Λc17 Ic17 Lc17 Rc17 hq17 => ?_)
  obtain ⟨rfl, rfl, rfl, rfl, rfl⟩ := hq17
  rw [show decide (kd B n i = 1001) = false from decide_eq_false (by rw [hk]; decide)]
  refine LW_bif_eq (tgt := 28) dX11_readLine_20 (by decide) (fun c20 => ?_) (fun c20 => absurd (c20.symm.trans rfl) (by decide))
  refine LW_aloadn 0 dX11_readLine_28 rfl rfl ?_
  refine LW_ldcS (i := 3) dX11_readLine_29 rfl ?_
  refine LW_callV (As := [.ref (1000000 + 3)]) (b := 217) (st := []) (ci := 11) (r := (RX11, TX11, 44)) (r_isW hT (j := 3) (k := 1002) (by decide) (by decide) rfl) YX11_isWord rfl dX11_readLine_31 mlX11_183 (hY.lt (k := 217) (by decide)) (ly217 hY) ⟨rfl, rfl⟩ (by decide) ⟨Nat.le_of_ble_eq_true rfl, Nat.le_of_ble_eq_true rfl⟩ (Nat.le_of_ble_eq_true rfl) rfl (fun r31 Λc31 Ic31 Lc31 Rc31 hq31 => ?_)
  obtain ⟨rfl, rfl, rfl, rfl, rfl⟩ := hq31
  rw [show decide (kd B n i = 1002) = false from decide_eq_false (by rw [hk]; decide)]
  refine LW_bif_eq (tgt := 42) dX11_readLine_34 (by decide) (fun c34 => ?_) (fun c34 => absurd (c34.symm.trans rfl) (by decide))
  refine LW_aloadn 0 dX11_readLine_42 rfl rfl ?_
  refine LW_ldcS (i := 13) dX11_readLine_43 rfl ?_
  refine LW_callV (As := [.ref (1000000 + 13)]) (b := 217) (st := []) (ci := 11) (r := (RX11, TX11, 44)) (r_isW hT (j := 13) (k := 1010) (by decide) (by decide) rfl) YX11_isWord rfl dX11_readLine_45 mlX11_183 (hY.lt (k := 217) (by decide)) (ly217 hY) ⟨rfl, rfl⟩ (by decide) ⟨Nat.le_of_ble_eq_true rfl, Nat.le_of_ble_eq_true rfl⟩ (Nat.le_of_ble_eq_true rfl) rfl (fun r45 Λc45 Ic45 Lc45 Rc45 hq45 => ?_)
  obtain ⟨rfl, rfl, rfl, rfl, rfl⟩ := hq45
  rw [show decide (kd B n i = 1010) = false from decide_eq_false (by rw [hk]; decide)]
  refine LW_bif_eq (tgt := 56) dX11_readLine_48 (by decide) (fun c48 => ?_) (fun c48 => absurd (c48.symm.trans rfl) (by decide))
  refine LW_aloadn 0 dX11_readLine_56 rfl rfl ?_
  refine LW_ldcS (i := 5) dX11_readLine_57 rfl ?_
  refine LW_callV (As := [.ref (1000000 + 5)]) (b := 217) (st := []) (ci := 11) (r := (RX11, TX11, 44)) (r_isW hT (j := 5) (k := 1003) (by decide) (by decide) rfl) YX11_isWord rfl dX11_readLine_59 mlX11_183 (hY.lt (k := 217) (by decide)) (ly217 hY) ⟨rfl, rfl⟩ (by decide) ⟨Nat.le_of_ble_eq_true rfl, Nat.le_of_ble_eq_true rfl⟩ (Nat.le_of_ble_eq_true rfl) rfl (fun r59 Λc59 Ic59 Lc59 Rc59 hq59 => ?_)
  obtain ⟨rfl, rfl, rfl, rfl, rfl⟩ := hq59
  rw [show decide (kd B n i = 1003) = false from decide_eq_false (by rw [hk]; decide)]
  refine LW_istoren (ls' := [(0, .ref 217), (1, .int (hc_b false))]) dX11_readLine_62 rfl (by decide) rfl ?_
  refine LW_aloadn 0 dX11_readLine_63 rfl rfl ?_
  refine LW_ldcS (i := 7) dX11_readLine_64 rfl ?_
  refine LW_callV (As := [.ref (1000000 + 7)]) (b := 217) (st := []) (ci := 11) (r := (RX11, TX11, 44)) (r_isW hT (j := 7) (k := 1004) (by decide) (by decide) rfl) YX11_isWord rfl dX11_readLine_66 mlX11_183 (hY.lt (k := 217) (by decide)) (ly217 hY) ⟨rfl, rfl⟩ (by decide) ⟨Nat.le_of_ble_eq_true rfl, Nat.le_of_ble_eq_true rfl⟩ (Nat.le_of_ble_eq_true rfl) rfl (fun r66 Λc66 Ic66 Lc66 Rc66 hq66 => ?_)
  obtain ⟨rfl, rfl, rfl, rfl, rfl⟩ := hq66
  rw [show decide (kd B n i = 1004) = false from decide_eq_false (by rw [hk]; decide)]
  refine LW_istoren (ls' := [(0, .ref 217), (1, .int (hc_b false)), (2, .int (hc_b false))]) dX11_readLine_69 rfl (by decide) rfl ?_
  refine LW_aloadn 0 dX11_readLine_70 rfl rfl ?_
  refine LW_ldcS (i := 8) dX11_readLine_71 rfl ?_
  refine LW_callV (As := [.ref (1000000 + 8)]) (b := 217) (st := []) (ci := 11) (r := (RX11, TX11, 44)) (r_isW hT (j := 8) (k := 1005) (by decide) (by decide) rfl) YX11_isWord rfl dX11_readLine_73 mlX11_183 (hY.lt (k := 217) (by decide)) (ly217 hY) ⟨rfl, rfl⟩ (by decide) ⟨Nat.le_of_ble_eq_true rfl, Nat.le_of_ble_eq_true rfl⟩ (Nat.le_of_ble_eq_true rfl) rfl (fun r73 Λc73 Ic73 Lc73 Rc73 hq73 => ?_)
  obtain ⟨rfl, rfl, rfl, rfl, rfl⟩ := hq73
  rw [show decide (kd B n i = 1005) = false from decide_eq_false (by rw [hk]; decide)]
  refine LW_istoren (ls' := [(0, .ref 217), (1, .int (hc_b false)), (2, .int (hc_b false)), (3, .int (hc_b false))]) dX11_readLine_76 rfl (by decide) rfl ?_
  refine LW_aloadn 0 dX11_readLine_77 rfl rfl ?_
  refine LW_ldcS (i := 9) dX11_readLine_78 rfl ?_
  refine LW_callV (As := [.ref (1000000 + 9)]) (b := 217) (st := []) (ci := 11) (r := (RX11, TX11, 44)) (r_isW hT (j := 9) (k := 1006) (by decide) (by decide) rfl) YX11_isWord rfl dX11_readLine_80 mlX11_183 (hY.lt (k := 217) (by decide)) (ly217 hY) ⟨rfl, rfl⟩ (by decide) ⟨Nat.le_of_ble_eq_true rfl, Nat.le_of_ble_eq_true rfl⟩ (Nat.le_of_ble_eq_true rfl) rfl (fun r80 Λc80 Ic80 Lc80 Rc80 hq80 => ?_)
  obtain ⟨rfl, rfl, rfl, rfl, rfl⟩ := hq80
  rw [show decide (kd B n i = 1006) = false from decide_eq_false (by rw [hk]; decide)]
  refine LW_istore (ls' := [(0, .ref 217), (1, .int (hc_b false)), (2, .int (hc_b false)), (3, .int (hc_b false)), (4, .int (hc_b false))]) dX11_readLine_83 (by decide) rfl ?_
  refine LW_aloadn 0 dX11_readLine_85 rfl rfl ?_
  refine LW_ldcS (i := 10) dX11_readLine_86 rfl ?_
  refine LW_callV (As := [.ref (1000000 + 10)]) (b := 217) (st := []) (ci := 11) (r := (RX11, TX11, 44)) (r_isW hT (j := 10) (k := 1007) (by decide) (by decide) rfl) YX11_isWord rfl dX11_readLine_88 mlX11_183 (hY.lt (k := 217) (by decide)) (ly217 hY) ⟨rfl, rfl⟩ (by decide) ⟨Nat.le_of_ble_eq_true rfl, Nat.le_of_ble_eq_true rfl⟩ (Nat.le_of_ble_eq_true rfl) rfl (fun r88 Λc88 Ic88 Lc88 Rc88 hq88 => ?_)
  obtain ⟨rfl, rfl, rfl, rfl, rfl⟩ := hq88
  rw [show decide (kd B n i = 1007) = true from decide_eq_true hk]
  refine LW_istore (ls' := [(0, .ref 217), (1, .int (hc_b false)), (2, .int (hc_b false)), (3, .int (hc_b false)), (4, .int (hc_b false)), (5, .int (hc_b true))]) dX11_readLine_91 (by decide) rfl ?_
  refine LW_aloadn 0 dX11_readLine_93 rfl rfl ?_
  refine LW_ldcS (i := 11) dX11_readLine_94 rfl ?_
  refine LW_callV (As := [.ref (1000000 + 11)]) (b := 217) (st := []) (ci := 11) (r := (RX11, TX11, 44)) (r_isW hT (j := 11) (k := 1008) (by decide) (by decide) rfl) YX11_isWord rfl dX11_readLine_96 mlX11_183 (hY.lt (k := 217) (by decide)) (ly217 hY) ⟨rfl, rfl⟩ (by decide) ⟨Nat.le_of_ble_eq_true rfl, Nat.le_of_ble_eq_true rfl⟩ (Nat.le_of_ble_eq_true rfl) rfl (fun r96 Λc96 Ic96 Lc96 Rc96 hq96 => ?_)
  obtain ⟨rfl, rfl, rfl, rfl, rfl⟩ := hq96
  rw [show decide (kd B n i = 1008) = false from decide_eq_false (by rw [hk]; decide)]
  refine LW_istore (ls' := [(0, .ref 217), (1, .int (hc_b false)), (2, .int (hc_b false)), (3, .int (hc_b false)), (4, .int (hc_b false)), (5, .int (hc_b true)), (6, .int (hc_b false))]) dX11_readLine_99 (by decide) rfl ?_
  refine LW_iloadn 1 dX11_readLine_101 rfl rfl ?_
  refine LW_bif_ne (tgt := 143) dX11_readLine_102 (by decide) (fun c102 => absurd (c102.symm.trans rfl) (by decide)) (fun c102 => ?_)
  refine LW_iloadn 2 dX11_readLine_105 rfl rfl ?_
  refine LW_bif_ne (tgt := 143) dX11_readLine_106 (by decide) (fun c106 => absurd (c106.symm.trans rfl) (by decide)) (fun c106 => ?_)
  refine LW_iloadn 3 dX11_readLine_109 rfl rfl ?_
  refine LW_bif_ne (tgt := 143) dX11_readLine_110 (by decide) (fun c110 => absurd (c110.symm.trans rfl) (by decide)) (fun c110 => ?_)
  refine LW_iload 4 dX11_readLine_113 rfl ?_
  refine LW_bif_ne (tgt := 143) dX11_readLine_115 (by decide) (fun c115 => absurd (c115.symm.trans rfl) (by decide)) (fun c115 => ?_)
  refine LW_iload 5 dX11_readLine_118 rfl ?_
  refine LW_bif_ne (tgt := 143) dX11_readLine_120 (by decide) (fun c120 => ?_) (fun c120 => absurd (c120.symm.trans rfl) (by decide))
  refine LW_aloadn 0 dX11_readLine_143 rfl rfl ?_
  refine LW_callV (As := []) (b := 217) (st := []) (ci := 11) (r := (RX11, TX11, 44)) (r_nx hT) YX11_next rfl dX11_readLine_144 mlX11_234 (hY.lt (k := 217) (by decide)) (ly217 hY) ⟨rfl, rfl⟩ (by decide) ⟨Nat.le_of_ble_eq_true rfl, Nat.le_of_ble_eq_true rfl⟩ (Nat.le_of_ble_eq_true rfl) rfl (fun r144 Λc144 Ic144 Lc144 Rc144 hq144 => ?_)
  obtain ⟨rfl, rfl, rfl, hl144, hT, hr144⟩ := hq144
  have hW := hW.lx hl144
  refine LW_aloadn 0 dX11_readLine_147 rfl rfl ?_
  refine LW_iconst (v := 0) dX11_readLine_148 (by decide) ?_
  refine LW_iloadn 1 dX11_readLine_149 rfl rfl ?_
  refine LW_bif_eq (tgt := 157) dX11_readLine_150 (by decide) (fun c150 => ?_) (fun c150 => absurd (c150.symm.trans rfl) (by decide))
  refine LW_iloadn 2 dX11_readLine_157 rfl rfl ?_
  refine LW_bif_eq (tgt := 167) dX11_readLine_158 (by decide) (fun c158 => ?_) (fun c158 => absurd (c158.symm.trans rfl) (by decide))
  refine LW_iloadn 3 dX11_readLine_167 rfl rfl ?_
  refine LW_bif_eq (tgt := 177) dX11_readLine_168 (by decide) (fun c168 => ?_) (fun c168 => absurd (c168.symm.trans rfl) (by decide))
  refine LW_iload 4 dX11_readLine_177 rfl ?_
  refine LW_bif_ne (tgt := 187) dX11_readLine_179 (by decide) (fun c179 => absurd (c179.symm.trans rfl) (by decide)) (fun c179 => ?_)
  refine LW_iload 5 dX11_readLine_182 rfl ?_
  refine LW_bif_eq (tgt := 192) dX11_readLine_184 (by decide) (fun c184 => absurd (c184.symm.trans rfl) (by decide)) (fun c184 => ?_)
  refine LW_ldc dX11_readLine_187 klX11_90 ?_
  refine LW_goto (tgt := 204) dX11_readLine_189 (by decide) ?_
  refine LW_callV (As := [.int 0, .int 9999999]) (b := 217) (st := []) (ci := 11) (r := (RX11, TX11, 44)) (r_num hT (lo := 0) (hi := 9999999) (by decide) (by decide)) YX11_readNumber rfl dX11_readLine_204 mlX11_250 (hY.lt (k := 217) (by decide)) (ly217 hY) ⟨rfl, rfl⟩ (by decide) ⟨Nat.le_of_ble_eq_true rfl, Nat.le_of_ble_eq_true rfl⟩ (Nat.le_of_ble_eq_true rfl) rfl (fun r204 Λc204 Ic204 Lc204 Rc204 hq204 => ?_)
  obtain ⟨rfl, rfl, rfl, hl204, hTt204, hFf204⟩ := hq204
  have hW := hW.lx hl204
  refine LW_bif_ne (tgt := 212) dX11_readLine_207 (by decide) (fun c207 => ?_) (fun c207 => ?_)
  · have p204 := of_decide_eq_true c207
    have hx := hx.trans (pNums_s p204)
    obtain ⟨hT, h31⟩ := hTt204 c207
    replace h31 : Ic204 217 31 = _ := h31
    have hk204 := pNum_0 p204
    refine LW_aloadn 0 dX11_readLine_212 rfl rfl ?_
    refine gX11_31 dX11_readLine_213 flX11_237 (hY.lt (k := 217) (by decide)) (ly217 hY) ?_
    rw [show Ic204 217 31 = nI (vl B n (i + 1)) from h31]
    refine LW_istore (ls' := [(0, .ref 217), (1, .int (hc_b false)), (2, .int (hc_b false)), (3, .int (hc_b false)), (4, .int (hc_b false)), (5, .int (hc_b true)), (6, .int (hc_b false)), (7, .int (nI (vl B n (i + 1))))]) dX11_readLine_216 (by decide) rfl ?_
    refine LW_iloadn 1 dX11_readLine_218 rfl rfl ?_
    refine LW_bif_ne (tgt := 227) dX11_readLine_219 (by decide) (fun c219 => absurd (c219.symm.trans rfl) (by decide)) (fun c219 => ?_)
    refine LW_iload 5 dX11_readLine_222 rfl ?_
    refine LW_bif_eq (tgt := 279) dX11_readLine_224 (by decide) (fun c224 => absurd (c224.symm.trans rfl) (by decide)) (fun c224 => ?_)
    refine LW_aloadn 0 dX11_readLine_227 rfl rfl ?_
    refine LW_iconst (v := 0) dX11_readLine_228 (by decide) ?_
    refine LW_iloadn 1 dX11_readLine_229 rfl rfl ?_
    refine LW_bif_eq (tgt := 239) dX11_readLine_230 (by decide) (fun c230 => ?_) (fun c230 => absurd (c230.symm.trans rfl) (by decide))
    refine LW_bipush (v := 100) dX11_readLine_239 (by decide) ?_
    refine LW_callV (As := [.int 0, .int 100]) (b := 217) (st := []) (ci := 11) (r := (RX11, TX11, 44)) (r_num hT (lo := 0) (hi := 100) (by decide) (by decide)) YX11_readNumber rfl dX11_readLine_241 mlX11_250 (hY.lt (k := 217) (by decide)) (ly217 hY) ⟨rfl, rfl⟩ (by decide) ⟨Nat.le_of_ble_eq_true rfl, Nat.le_of_ble_eq_true rfl⟩ (Nat.le_of_ble_eq_true rfl) rfl (fun r241 Λc241 Ic241 Lc241 Rc241 hq241 => ?_)
    obtain ⟨rfl, rfl, rfl, hl241, hTt241, hFf241⟩ := hq241
    have hW := hW.lx hl241
    refine LW_bif_ne (tgt := 249) dX11_readLine_244 (by decide) (fun c244 => ?_) (fun c244 => ?_)
    · have p241 := of_decide_eq_true c244
      have hx := hx.trans (pNums_s p241)
      obtain ⟨hT, h31⟩ := hTt241 c244
      replace h31 : Ic241 217 31 = _ := h31
      have hk241 := pNum_0 p241
      refine LW_iloadn 1 dX11_readLine_249 rfl rfl ?_
      refine LW_bif_eq (tgt := 269) dX11_readLine_250 (by decide) (fun c250 => ?_) (fun c250 => absurd (c250.symm.trans rfl) (by decide))
      refine LW_aloadn 0 dX11_readLine_269 rfl rfl ?_
      refine gX11_7 dX11_readLine_270 flX11_31 (hY.lt (k := 217) (by decide)) (ly217 hY) (lf217_7 hY) ?_
      refine LW_iconst (v := 5) dX11_readLine_273 (by decide) ?_
      refine LW_aloadn 0 dX11_readLine_274 rfl rfl ?_
      refine gX11_31 dX11_readLine_275 flX11_237 (hY.lt (k := 217) (by decide)) (ly217 hY) ?_
      rw [show Ic241 217 31 = nI (vl B n (i + 1 + 1)) from h31]
      refine LW_iast dX11_readLine_278 (hY.lt (k := 224) (by decide)) (ly224 hY) rfl (by decide) (Nat.le_of_ble_eq_true rfl) ?_
      generalize hI278 : hc_u Ic241 224 5 (nI (vl B n (i + 1 + 1))) = I278
      refine LW_iload 5 dX11_readLine_279 rfl ?_
      refine LW_bif_eq (tgt := 292) dX11_readLine_281 (by decide) (fun c281 => absurd (c281.symm.trans rfl) (by decide)) (fun c281 => ?_)
      refine LW_aloadn 0 dX11_readLine_284 rfl rfl ?_
      refine gX11_7 dX11_readLine_285 flX11_31 (hY.lt (k := 217) (by decide)) (ly217 hY) (lf217_7 hY) ?_
      refine LW_iconst (v := 4) dX11_readLine_288 (by decide) ?_
      refine LW_iload 7 dX11_readLine_289 rfl ?_
      refine LW_iast dX11_readLine_291 (hY.lt (k := 224) (by decide)) (ly224 hY) rfl (by decide) (Nat.le_of_ble_eq_true rfl) ?_
      generalize hI291 : hc_u I278 224 4 (nI (vl B n (i + 1))) = I291
      refine LW_iloadn 2 dX11_readLine_292 rfl rfl ?_
      refine LW_bif_eq (tgt := 305) dX11_readLine_293 (by decide) (fun c293 => ?_) (fun c293 => absurd (c293.symm.trans rfl) (by decide))
      refine LW_iloadn 3 dX11_readLine_305 rfl rfl ?_
      refine LW_bif_eq (tgt := 318) dX11_readLine_306 (by decide) (fun c306 => ?_) (fun c306 => absurd (c306.symm.trans rfl) (by decide))
      refine LW_iload 4 dX11_readLine_318 rfl ?_
      refine LW_bif_eq (tgt := 334) dX11_readLine_320 (by decide) (fun c320 => ?_) (fun c320 => absurd (c320.symm.trans rfl) (by decide))
      refine LW_iload 6 dX11_readLine_334 rfl ?_
      refine LW_bif_eq (tgt := 348) dX11_readLine_336 (by decide) (fun c336 => ?_) (fun c336 => absurd (c336.symm.trans rfl) (by decide))
      refine LW_iloadn 1 dX11_readLine_348 rfl rfl ?_
      refine LW_bif_ne (tgt := 363) dX11_readLine_349 (by decide) (fun c349 => absurd (c349.symm.trans rfl) (by decide)) (fun c349 => ?_)
      refine LW_iload 5 dX11_readLine_352 rfl ?_
      refine LW_bif_ne (tgt := 363) dX11_readLine_354 (by decide) (fun c354 => ?_) (fun c354 => absurd (c354.symm.trans rfl) (by decide))
      refine LW_iconst (v := 1) dX11_readLine_363 (by decide) ?_
      refine LW_zret dX11_readLine_364 rfl (Nat.le_of_ble_eq_true rfl) (Nat.le_of_ble_eq_true rfl) (Or.inr rfl) ?_
      have hT2 : TK I0 L0 n B Λ I291 Lc241 (i + 1 + 1 + 1) := by rw [← hI291, ← hI278]; exact (hT.uI (by unfold rfZ; omega) (by unfold rfJ; omega) (by unfold LxJ; omega)).uI (by unfold rfZ; omega) (by unfold rfJ; omega) (by unfold LxJ; omega)
      have hW2 : TD I291 Lc241 (aSRu (aSRu A 3 (lN (vl B n (i + 1)))) 4 (lN (vl B n (i + 1 + 1)))) P := by rw [← hI291, ← hI278, aSRu_comm A (by decide)]; exact (hW.rest (k := 4) (by omega) (Or.inr (Or.inr rfl))).rest (k := 3) (by omega) (Or.inr (Or.inl rfl))
      exact TPost.yes (q := (i + 1 + 1 + 1, aSRu (aSRu A 3 (lN (vl B n (i + 1)))) 4 (lN (vl B n (i + 1 + 1))), P)) (show pLine (kd B n) (vl B n) i A P = .inr (i + 1 + 1 + 1, aSRu (aSRu A 3 (lN (vl B n (i + 1)))) 4 (lN (vl B n (i + 1 + 1))), P) by unfold pLine; rw [if_neg (by rw [hk]; decide), if_neg (by rw [hk]; decide), if_neg (by rw [hk]; decide), if_neg (by rw [hk]; decide), if_pos hk]; show pDo (kd B n) (vl B n) [(0, 9999999), (0, 100)] (i + 1) (aSRu (aSRu A 3 (lN (vl B n (i + 1)))) 4 (lN (vl B n (i + 1 + 1)))) P = _; unfold pDo; rw [hx]; rfl) ⟨hT2, hW2, by show P.1 ≤ _; omega⟩
    · have p := of_decide_eq_false c244
      have hx := hx.trans (pNums_e p)
      have hF := hFf241 c244
      refine LW_iconst (v := 0) dX11_readLine_247 (by decide) ?_
      refine LW_zret dX11_readLine_248 rfl (Nat.le_of_ble_eq_true rfl) (Nat.le_of_ble_eq_true rfl) (Or.inl rfl) ?_
      exact TPost.no (show pLine (kd B n) (vl B n) i A P = .inl _ by unfold pLine; rw [if_neg (by rw [hk]; decide), if_neg (by rw [hk]; decide), if_neg (by rw [hk]; decide), if_neg (by rw [hk]; decide), if_pos hk]; show pDo (kd B n) (vl B n) [(0, 9999999), (0, 100)] (i + 1) (aSRu (aSRu A 3 (lN (vl B n (i + 1)))) 4 (lN (vl B n (i + 1 + 1)))) P = _; unfold pDo; rw [hx]) hF
  · have p := of_decide_eq_false c207
    have hx := hx.trans (pNums_e p)
    have hF := hFf204 c207
    refine LW_iconst (v := 0) dX11_readLine_210 (by decide) ?_
    refine LW_zret dX11_readLine_211 rfl (Nat.le_of_ble_eq_true rfl) (Nat.le_of_ble_eq_true rfl) (Or.inl rfl) ?_
    exact TPost.no (show pLine (kd B n) (vl B n) i A P = .inl _ by unfold pLine; rw [if_neg (by rw [hk]; decide), if_neg (by rw [hk]; decide), if_neg (by rw [hk]; decide), if_neg (by rw [hk]; decide), if_pos hk]; show pDo (kd B n) (vl B n) [(0, 9999999), (0, 100)] (i + 1) (aSRu (aSRu A 3 (lN (vl B n (i + 1)))) 4 (lN (vl B n (i + 1 + 1)))) P = _; unfold pDo; rw [hx]) hF
set_option maxRecDepth 100000 in
theorem rl_1004 {Λ : hc_L} {I : hc_I} {L : hc_J} {R : hc_R} {I0 : hc_I} {L0 : hc_J} {n i : Nat} {B : Nat → Nat} {A : AS} {P : LwP} (hw : TW I0 L0 n B Λ I L i A P) (hk : kd B n i = 1004) : Run xX11_readLine [.ref 217] Λ I L R (TPost I0 L0 n B (pLine (kd B n) (vl B n) i A P) Λ R) := by
  refine Run.of (by decide +kernel) (Nat.le_of_ble_eq_true rfl) ?_
  show LW _ _ _ [(0, .ref 217)] _ _ _ _ _ _
  have hY := hw.1.y
  obtain ⟨hT, hW, hPi⟩ := hw
  have hB := hT.b
  have hx : pNums (kd B n) (vl B n) [(0, 999)] (i + 1) = pNums (kd B n) (vl B n) [(0, 999)] (i + 1) := rfl
  refine LW_aloadn 0 dX11_readLine_0 rfl rfl ?_
  refine LW_ldcS (i := 1) dX11_readLine_1 rfl ?_
  refine LW_callV (As := [.ref (1000000 + 1)]) (b := 217) (st := []) (ci := 11) (r := (RX11, TX11, 44)) (r_isW hT (j := 1) (k := 1000) (by decide) (by decide) rfl) YX11_isWord rfl dX11_readLine_3 mlX11_183 (hY.lt (k := 217) (by decide)) (ly217 hY) ⟨rfl, rfl⟩ (by decide) ⟨Nat.le_of_ble_eq_true rfl, Nat.le_of_ble_eq_true rfl⟩ (Nat.le_of_ble_eq_true rfl) rfl (fun r3 Λc3 Ic3 Lc3 Rc3 hq3 => ?_)
  obtain ⟨rfl, rfl, rfl, rfl, rfl⟩ := hq3
  rw [show decide (kd B n i = 1000) = false from decide_eq_false (by rw [hk]; decide)]
  refine LW_bif_eq (tgt := 14) dX11_readLine_6 (by decide) (fun c6 => ?_) (fun c6 => absurd (c6.symm.trans rfl) (by decide))
  refine LW_aloadn 0 dX11_readLine_14 rfl rfl ?_
  refine LW_ldcS (i := 6) dX11_readLine_15 rfl ?_
  refine LW_callV (As := [.ref (1000000 + 6)]) (b := 217) (st := []) (ci := 11) (r := (RX11, TX11, 44)) (r_isW hT (j := 6) (k := 1001) (by decide) (by decide) rfl) YX11_isWord rfl dX11_readLine_17 mlX11_183 (hY.lt (k := 217) (by decide)) (ly217 hY) ⟨rfl, rfl⟩ (by decide) ⟨Nat.le_of_ble_eq_true rfl, Nat.le_of_ble_eq_true rfl⟩ (Nat.le_of_ble_eq_true rfl) rfl (fun r17 Λc17 Ic17 Lc17 Rc17 hq17 => ?_)
  obtain ⟨rfl, rfl, rfl, rfl, rfl⟩ := hq17
  rw [show decide (kd B n i = 1001) = false from decide_eq_false (by rw [hk]; decide)]
  refine LW_bif_eq (tgt := 28) dX11_readLine_20 (by decide) (fun c20 => ?_) (fun c20 => absurd (c20.symm.trans rfl) (by decide))
  refine LW_aloadn 0 dX11_readLine_28 rfl rfl ?_
  refine LW_ldcS (i := 3) dX11_readLine_29 rfl ?_
  refine LW_callV (As := [.ref (1000000 + 3)]) (b := 217) (st := []) (ci := 11) (r := (RX11, TX11, 44)) (r_isW hT (j := 3) (k := 1002) (by decide) (by decide) rfl) YX11_isWord rfl dX11_readLine_31 mlX11_183 (hY.lt (k := 217) (by decide)) (ly217 hY) ⟨rfl, rfl⟩ (by decide) ⟨Nat.le_of_ble_eq_true rfl, Nat.le_of_ble_eq_true rfl⟩ (Nat.le_of_ble_eq_true rfl) rfl (fun r31 Λc31 Ic31 Lc31 Rc31 hq31 => ?_)
  obtain ⟨rfl, rfl, rfl, rfl, rfl⟩ := hq31
  rw [show decide (kd B n i = 1002) = false from decide_eq_false (by rw [hk]; decide)]
  refine LW_bif_eq (tgt := 42) dX11_readLine_34 (by decide) (fun c34 => ?_) (fun c34 => absurd (c34.symm.trans rfl) (by decide))
  refine LW_aloadn 0 dX11_readLine_42 rfl rfl ?_
  refine LW_ldcS (i := 13) dX11_readLine_43 rfl ?_
  refine LW_callV (As := [.ref (1000000 + 13)]) (b := 217) (st := []) (ci := 11) (r := (RX11, TX11, 44)) (r_isW hT (j := 13) (k := 1010) (by decide) (by decide) rfl) YX11_isWord rfl dX11_readLine_45 mlX11_183 (hY.lt (k := 217) (by decide)) (ly217 hY) ⟨rfl, rfl⟩ (by decide) ⟨Nat.le_of_ble_eq_true rfl, Nat.le_of_ble_eq_true rfl⟩ (Nat.le_of_ble_eq_true rfl) rfl (fun r45 Λc45 Ic45 Lc45 Rc45 hq45 => ?_)
  obtain ⟨rfl, rfl, rfl, rfl, rfl⟩ := hq45
  rw [show decide (kd B n i = 1010) = false from decide_eq_false (by rw [hk]; decide)]
  refine LW_bif_eq (tgt := 56) dX11_readLine_48 (by decide) (fun c48 => ?_) (fun c48 => absurd (c48.symm.trans rfl) (by decide))
  refine LW_aloadn 0 dX11_readLine_56 rfl rfl ?_
  refine LW_ldcS (i := 5) dX11_readLine_57 rfl ?_
  refine LW_callV (As := [.ref (1000000 + 5)]) (b := 217) (st := []) (ci := 11) (r := (RX11, TX11, 44)) (r_isW hT (j := 5) (k := 1003) (by decide) (by decide) rfl) YX11_isWord rfl dX11_readLine_59 mlX11_183 (hY.lt (k := 217) (by decide)) (ly217 hY) ⟨rfl, rfl⟩ (by decide) ⟨Nat.le_of_ble_eq_true rfl, Nat.le_of_ble_eq_true rfl⟩ (Nat.le_of_ble_eq_true rfl) rfl (fun r59 Λc59 Ic59 Lc59 Rc59 hq59 => ?_)
  obtain ⟨rfl, rfl, rfl, rfl, rfl⟩ := hq59
  rw [show decide (kd B n i = 1003) = false from decide_eq_false (by rw [hk]; decide)]
  refine LW_istoren (ls' := [(0, .ref 217), (1, .int (hc_b false))]) dX11_readLine_62 rfl (by decide) rfl ?_
  refine LW_aloadn 0 dX11_readLine_63 rfl rfl ?_
  refine LW_ldcS (i := 7) dX11_readLine_64 rfl ?_
  refine LW_callV (As := [.ref (1000000 + 7)]) (b := 217) (st := []) (ci := 11) (r := (RX11, TX11, 44)) (r_isW hT (j := 7) (k := 1004) (by decide) (by decide) rfl) YX11_isWord rfl dX11_readLine_66 mlX11_183 (hY.lt (k := 217) (by decide)) (ly217 hY) ⟨rfl, rfl⟩ (by decide) ⟨Nat.le_of_ble_eq_true rfl, Nat.le_of_ble_eq_true rfl⟩ (Nat.le_of_ble_eq_true rfl) rfl (fun r66 Λc66 Ic66 Lc66 Rc66 hq66 => ?_)
  obtain ⟨rfl, rfl, rfl, rfl, rfl⟩ := hq66
  rw [show decide (kd B n i = 1004) = true from decide_eq_true hk]
  refine LW_istoren (ls' := [(0, .ref 217), (1, .int (hc_b false)), (2, .int (hc_b true))]) dX11_readLine_69 rfl (by decide) rfl ?_
  refine LW_aloadn 0 dX11_readLine_70 rfl rfl ?_
  refine LW_ldcS (i := 8) dX11_readLine_71 rfl ?_
  refine LW_callV (As := [.ref (1000000 + 8)]) (b := 217) (st := []) (ci := 11) (r := (RX11, TX11, 44)) (r_isW hT (j := 8) (k := 1005) (by decide) (by decide) rfl) YX11_isWord rfl dX11_readLine_73 mlX11_183 (hY.lt (k := 217) (by decide)) (ly217 hY) ⟨rfl, rfl⟩ (by decide) ⟨Nat.le_of_ble_eq_true rfl, Nat.le_of_ble_eq_true rfl⟩ (Nat.le_of_ble_eq_true rfl) rfl (fun r73 Λc73 Ic73 Lc73 Rc73 hq73 => ?_)
  obtain ⟨rfl, rfl, rfl, rfl, rfl⟩ := hq73
  rw [show decide (kd B n i = 1005) = false from decide_eq_false (by rw [hk]; decide)]
  refine LW_istoren (ls' := [(0, .ref 217), (1, .int (hc_b false)), (2, .int (hc_b true)), (3, .int (hc_b false))]) dX11_readLine_76 rfl (by decide) rfl ?_
  refine LW_aloadn 0 dX11_readLine_77 rfl rfl ?_
  refine LW_ldcS (i := 9) dX11_readLine_78 rfl ?_
  refine LW_callV (As := [.ref (1000000 + 9)]) (b := 217) (st := []) (ci := 11) (r := (RX11, TX11, 44)) (r_isW hT (j := 9) (k := 1006) (by decide) (by decide) rfl) YX11_isWord rfl dX11_readLine_80 mlX11_183 (hY.lt (k := 217) (by decide)) (ly217 hY) ⟨rfl, rfl⟩ (by decide) ⟨Nat.le_of_ble_eq_true rfl, Nat.le_of_ble_eq_true rfl⟩ (Nat.le_of_ble_eq_true rfl) rfl (fun r80 Λc80 Ic80 Lc80 Rc80 hq80 => ?_)
  obtain ⟨rfl, rfl, rfl, rfl, rfl⟩ := hq80
  rw [show decide (kd B n i = 1006) = false from decide_eq_false (by rw [hk]; decide)]
  refine LW_istore (ls' := [(0, .ref 217), (1, .int (hc_b false)), (2, .int (hc_b true)), (3, .int (hc_b false)), (4, .int (hc_b false))]) dX11_readLine_83 (by decide) rfl ?_
  refine LW_aloadn 0 dX11_readLine_85 rfl rfl ?_
  refine LW_ldcS (i := 10) dX11_readLine_86 rfl ?_
  refine LW_callV (As := [.ref (1000000 + 10)]) (b := 217) (st := []) (ci := 11) (r := (RX11, TX11, 44)) (r_isW hT (j := 10) (k := 1007) (by decide) (by decide) rfl) YX11_isWord rfl dX11_readLine_88 mlX11_183 (hY.lt (k := 217) (by decide)) (ly217 hY) ⟨rfl, rfl⟩ (by decide) ⟨Nat.le_of_ble_eq_true rfl, Nat.le_of_ble_eq_true rfl⟩ (Nat.le_of_ble_eq_true rfl) rfl (fun r88 Λc88 Ic88 Lc88 Rc88 hq88 => ?_)
  obtain ⟨rfl, rfl, rfl, rfl, rfl⟩ := hq88
  rw [show decide (kd B n i = 1007) = false from decide_eq_false (by rw [hk]; decide)]
  refine LW_istore (ls' := [(0, .ref 217), (1, .int (hc_b false)), (2, .int (hc_b true)), (3, .int (hc_b false)), (4, .int (hc_b false)), (5, .int (hc_b false))]) dX11_readLine_91 (by decide) rfl ?_
  refine LW_aloadn 0 dX11_readLine_93 rfl rfl ?_
  refine LW_ldcS (i := 11) dX11_readLine_94 rfl ?_
  refine LW_callV (As := [.ref (1000000 + 11)]) (b := 217) (st := []) (ci := 11) (r := (RX11, TX11, 44)) (r_isW hT (j := 11) (k := 1008) (by decide) (by decide) rfl) YX11_isWord rfl dX11_readLine_96 mlX11_183 (hY.lt (k := 217) (by decide)) (ly217 hY) ⟨rfl, rfl⟩ (by decide) ⟨Nat.le_of_ble_eq_true rfl, Nat.le_of_ble_eq_true rfl⟩ (Nat.le_of_ble_eq_true rfl) rfl (fun r96 Λc96 Ic96 Lc96 Rc96 hq96 => ?_)
  obtain ⟨rfl, rfl, rfl, rfl, rfl⟩ := hq96
  rw [show decide (kd B n i = 1008) = false from decide_eq_false (by rw [hk]; decide)]
  refine LW_istore (ls' := [(0, .ref 217), (1, .int (hc_b false)), (2, .int (hc_b true)), (3, .int (hc_b false)), (4, .int (hc_b false)), (5, .int (hc_b false)), (6, .int (hc_b false))]) dX11_readLine_99 (by decide) rfl ?_
  refine LW_iloadn 1 dX11_readLine_101 rfl rfl ?_
  refine LW_bif_ne (tgt := 143) dX11_readLine_102 (by decide) (fun c102 => absurd (c102.symm.trans rfl) (by decide)) (fun c102 => ?_)
  refine LW_iloadn 2 dX11_readLine_105 rfl rfl ?_
  refine LW_bif_ne (tgt := 143) dX11_readLine_106 (by decide) (fun c106 => ?_) (fun c106 => absurd (c106.symm.trans rfl) (by decide))
  refine LW_aloadn 0 dX11_readLine_143 rfl rfl ?_
  refine LW_callV (As := []) (b := 217) (st := []) (ci := 11) (r := (RX11, TX11, 44)) (r_nx hT) YX11_next rfl dX11_readLine_144 mlX11_234 (hY.lt (k := 217) (by decide)) (ly217 hY) ⟨rfl, rfl⟩ (by decide) ⟨Nat.le_of_ble_eq_true rfl, Nat.le_of_ble_eq_true rfl⟩ (Nat.le_of_ble_eq_true rfl) rfl (fun r144 Λc144 Ic144 Lc144 Rc144 hq144 => ?_)
  obtain ⟨rfl, rfl, rfl, hl144, hT, hr144⟩ := hq144
  have hW := hW.lx hl144
  refine LW_aloadn 0 dX11_readLine_147 rfl rfl ?_
  refine LW_iconst (v := 0) dX11_readLine_148 (by decide) ?_
  refine LW_iloadn 1 dX11_readLine_149 rfl rfl ?_
  refine LW_bif_eq (tgt := 157) dX11_readLine_150 (by decide) (fun c150 => ?_) (fun c150 => absurd (c150.symm.trans rfl) (by decide))
  refine LW_iloadn 2 dX11_readLine_157 rfl rfl ?_
  refine LW_bif_eq (tgt := 167) dX11_readLine_158 (by decide) (fun c158 => absurd (c158.symm.trans rfl) (by decide)) (fun c158 => ?_)
  refine LW_sipush (v := 999) dX11_readLine_161 (by decide) ?_
  refine LW_goto (tgt := 204) dX11_readLine_164 (by decide) ?_
  refine LW_callV (As := [.int 0, .int 999]) (b := 217) (st := []) (ci := 11) (r := (RX11, TX11, 44)) (r_num hT (lo := 0) (hi := 999) (by decide) (by decide)) YX11_readNumber rfl dX11_readLine_204 mlX11_250 (hY.lt (k := 217) (by decide)) (ly217 hY) ⟨rfl, rfl⟩ (by decide) ⟨Nat.le_of_ble_eq_true rfl, Nat.le_of_ble_eq_true rfl⟩ (Nat.le_of_ble_eq_true rfl) rfl (fun r204 Λc204 Ic204 Lc204 Rc204 hq204 => ?_)
  obtain ⟨rfl, rfl, rfl, hl204, hTt204, hFf204⟩ := hq204
  have hW := hW.lx hl204
  refine LW_bif_ne (tgt := 212) dX11_readLine_207 (by decide) (fun c207 => ?_) (fun c207 => ?_)
  · have p204 := of_decide_eq_true c207
    have hx := hx.trans (pNums_s p204)
    obtain ⟨hT, h31⟩ := hTt204 c207
    replace h31 : Ic204 217 31 = _ := h31
    have hk204 := pNum_0 p204
    refine LW_aloadn 0 dX11_readLine_212 rfl rfl ?_
    refine gX11_31 dX11_readLine_213 flX11_237 (hY.lt (k := 217) (by decide)) (ly217 hY) ?_
    rw [show Ic204 217 31 = nI (vl B n (i + 1)) from h31]
    refine LW_istore (ls' := [(0, .ref 217), (1, .int (hc_b false)), (2, .int (hc_b true)), (3, .int (hc_b false)), (4, .int (hc_b false)), (5, .int (hc_b false)), (6, .int (hc_b false)), (7, .int (nI (vl B n (i + 1))))]) dX11_readLine_216 (by decide) rfl ?_
    refine LW_iloadn 1 dX11_readLine_218 rfl rfl ?_
    refine LW_bif_ne (tgt := 227) dX11_readLine_219 (by decide) (fun c219 => absurd (c219.symm.trans rfl) (by decide)) (fun c219 => ?_)
    refine LW_iload 5 dX11_readLine_222 rfl ?_
    refine LW_bif_eq (tgt := 279) dX11_readLine_224 (by decide) (fun c224 => ?_) (fun c224 => absurd (c224.symm.trans rfl) (by decide))
    refine LW_iload 5 dX11_readLine_279 rfl ?_
    refine LW_bif_eq (tgt := 292) dX11_readLine_281 (by decide) (fun c281 => ?_) (fun c281 => absurd (c281.symm.trans rfl) (by decide))
    refine LW_iloadn 2 dX11_readLine_292 rfl rfl ?_
    refine LW_bif_eq (tgt := 305) dX11_readLine_293 (by decide) (fun c293 => absurd (c293.symm.trans rfl) (by decide)) (fun c293 => ?_)
    refine LW_aloadn 0 dX11_readLine_296 rfl rfl ?_
    refine LW_iload 7 dX11_readLine_297 rfl ?_
    refine pX11_14 dX11_readLine_299 flX11_100 (hY.lt (k := 217) (by decide)) (ly217 hY) ?_
    generalize hI299 : hc_u Ic204 217 14 (nI (vl B n (i + 1))) = I299
    refine LW_goto (tgt := 363) dX11_readLine_302 (by decide) ?_
    refine LW_iconst (v := 1) dX11_readLine_363 (by decide) ?_
    refine LW_zret dX11_readLine_364 rfl (Nat.le_of_ble_eq_true rfl) (Nat.le_of_ble_eq_true rfl) (Or.inr rfl) ?_
    have hT2 : TK I0 L0 n B Λ I299 Lc204 (i + 1 + 1) := by rw [← hI299]; exact hT.uI (by unfold rfZ; omega) (by unfold rfJ; omega) (by unfold LxJ; omega)
    have hW2 : TD I299 Lc204 (aSRu A 0 (lN (vl B n (i + 1)))) P := by rw [← hI299]; exact hW.ru (k := 0) (by omega) (Or.inl rfl)
    exact TPost.yes (q := (i + 1 + 1, aSRu A 0 (lN (vl B n (i + 1))), P)) (show pLine (kd B n) (vl B n) i A P = .inr (i + 1 + 1, aSRu A 0 (lN (vl B n (i + 1))), P) by unfold pLine; rw [if_neg (by rw [hk]; decide), if_neg (by rw [hk]; decide), if_neg (by rw [hk]; decide), if_neg (by rw [hk]; decide), if_neg (by rw [hk]; decide), if_neg (by rw [hk]; decide), if_pos (by omega), hk]; show pDo (kd B n) (vl B n) [(0, 999)] (i + 1) (aSRu A 0 (lN (vl B n (i + 1)))) P = _; unfold pDo; rw [hx]; rfl) ⟨hT2, hW2, by show P.1 ≤ _; omega⟩
  · have p := of_decide_eq_false c207
    have hx := hx.trans (pNums_e p)
    have hF := hFf204 c207
    refine LW_iconst (v := 0) dX11_readLine_210 (by decide) ?_
    refine LW_zret dX11_readLine_211 rfl (Nat.le_of_ble_eq_true rfl) (Nat.le_of_ble_eq_true rfl) (Or.inl rfl) ?_
    exact TPost.no (show pLine (kd B n) (vl B n) i A P = .inl _ by unfold pLine; rw [if_neg (by rw [hk]; decide), if_neg (by rw [hk]; decide), if_neg (by rw [hk]; decide), if_neg (by rw [hk]; decide), if_neg (by rw [hk]; decide), if_neg (by rw [hk]; decide), if_pos (by omega), hk]; show pDo (kd B n) (vl B n) [(0, 999)] (i + 1) (aSRu A 0 (lN (vl B n (i + 1)))) P = _; unfold pDo; rw [hx]) hF
set_option maxRecDepth 100000 in
theorem rl_1005 {Λ : hc_L} {I : hc_I} {L : hc_J} {R : hc_R} {I0 : hc_I} {L0 : hc_J} {n i : Nat} {B : Nat → Nat} {A : AS} {P : LwP} (hw : TW I0 L0 n B Λ I L i A P) (hk : kd B n i = 1005) : Run xX11_readLine [.ref 217] Λ I L R (TPost I0 L0 n B (pLine (kd B n) (vl B n) i A P) Λ R) := by
  refine Run.of (by decide +kernel) (Nat.le_of_ble_eq_true rfl) ?_
  show LW _ _ _ [(0, .ref 217)] _ _ _ _ _ _
  have hY := hw.1.y
  obtain ⟨hT, hW, hPi⟩ := hw
  have hB := hT.b
  have hx : pNums (kd B n) (vl B n) [(0, 99999999)] (i + 1) = pNums (kd B n) (vl B n) [(0, 99999999)] (i + 1) := rfl
  refine LW_aloadn 0 dX11_readLine_0 rfl rfl ?_
  refine LW_ldcS (i := 1) dX11_readLine_1 rfl ?_
  refine LW_callV (As := [.ref (1000000 + 1)]) (b := 217) (st := []) (ci := 11) (r := (RX11, TX11, 44)) (r_isW hT (j := 1) (k := 1000) (by decide) (by decide) rfl) YX11_isWord rfl dX11_readLine_3 mlX11_183 (hY.lt (k := 217) (by decide)) (ly217 hY) ⟨rfl, rfl⟩ (by decide) ⟨Nat.le_of_ble_eq_true rfl, Nat.le_of_ble_eq_true rfl⟩ (Nat.le_of_ble_eq_true rfl) rfl (fun r3 Λc3 Ic3 Lc3 Rc3 hq3 => ?_)
  obtain ⟨rfl, rfl, rfl, rfl, rfl⟩ := hq3
  rw [show decide (kd B n i = 1000) = false from decide_eq_false (by rw [hk]; decide)]
  refine LW_bif_eq (tgt := 14) dX11_readLine_6 (by decide) (fun c6 => ?_) (fun c6 => absurd (c6.symm.trans rfl) (by decide))
  refine LW_aloadn 0 dX11_readLine_14 rfl rfl ?_
  refine LW_ldcS (i := 6) dX11_readLine_15 rfl ?_
  refine LW_callV (As := [.ref (1000000 + 6)]) (b := 217) (st := []) (ci := 11) (r := (RX11, TX11, 44)) (r_isW hT (j := 6) (k := 1001) (by decide) (by decide) rfl) YX11_isWord rfl dX11_readLine_17 mlX11_183 (hY.lt (k := 217) (by decide)) (ly217 hY) ⟨rfl, rfl⟩ (by decide) ⟨Nat.le_of_ble_eq_true rfl, Nat.le_of_ble_eq_true rfl⟩ (Nat.le_of_ble_eq_true rfl) rfl (fun r17 Λc17 Ic17 Lc17 Rc17 hq17 => ?_)
  obtain ⟨rfl, rfl, rfl, rfl, rfl⟩ := hq17
  rw [show decide (kd B n i = 1001) = false from decide_eq_false (by rw [hk]; decide)]
  refine LW_bif_eq (tgt := 28) dX11_readLine_20 (by decide) (fun c20 => ?_) (fun c20 => absurd (c20.symm.trans rfl) (by decide))
  refine LW_aloadn 0 dX11_readLine_28 rfl rfl ?_
  refine LW_ldcS (i := 3) dX11_readLine_29 rfl ?_
  refine LW_callV (As := [.ref (1000000 + 3)]) (b := 217) (st := []) (ci := 11) (r := (RX11, TX11, 44)) (r_isW hT (j := 3) (k := 1002) (by decide) (by decide) rfl) YX11_isWord rfl dX11_readLine_31 mlX11_183 (hY.lt (k := 217) (by decide)) (ly217 hY) ⟨rfl, rfl⟩ (by decide) ⟨Nat.le_of_ble_eq_true rfl, Nat.le_of_ble_eq_true rfl⟩ (Nat.le_of_ble_eq_true rfl) rfl (fun r31 Λc31 Ic31 Lc31 Rc31 hq31 => ?_)
  obtain ⟨rfl, rfl, rfl, rfl, rfl⟩ := hq31
  rw [show decide (kd B n i = 1002) = false from decide_eq_false (by rw [hk]; decide)]
  refine LW_bif_eq (tgt := 42) dX11_readLine_34 (by decide) (fun c34 => ?_) (fun c34 => absurd (c34.symm.trans rfl) (by decide))
  refine LW_aloadn 0 dX11_readLine_42 rfl rfl ?_
  refine LW_ldcS (i := 13) dX11_readLine_43 rfl ?_
  refine LW_callV (As := [.ref (1000000 + 13)]) (b := 217) (st := []) (ci := 11) (r := (RX11, TX11, 44)) (r_isW hT (j := 13) (k := 1010) (by decide) (by decide) rfl) YX11_isWord rfl dX11_readLine_45 mlX11_183 (hY.lt (k := 217) (by decide)) (ly217 hY) ⟨rfl, rfl⟩ (by decide) ⟨Nat.le_of_ble_eq_true rfl, Nat.le_of_ble_eq_true rfl⟩ (Nat.le_of_ble_eq_true rfl) rfl (fun r45 Λc45 Ic45 Lc45 Rc45 hq45 => ?_)
  obtain ⟨rfl, rfl, rfl, rfl, rfl⟩ := hq45
  rw [show decide (kd B n i = 1010) = false from decide_eq_false (by rw [hk]; decide)]
  refine LW_bif_eq (tgt := 56) dX11_readLine_48 (by decide) (fun c48 => ?_) (fun c48 => absurd (c48.symm.trans rfl) (by decide))
  refine LW_aloadn 0 dX11_readLine_56 rfl rfl ?_
  refine LW_ldcS (i := 5) dX11_readLine_57 rfl ?_
  refine LW_callV (As := [.ref (1000000 + 5)]) (b := 217) (st := []) (ci := 11) (r := (RX11, TX11, 44)) (r_isW hT (j := 5) (k := 1003) (by decide) (by decide) rfl) YX11_isWord rfl dX11_readLine_59 mlX11_183 (hY.lt (k := 217) (by decide)) (ly217 hY) ⟨rfl, rfl⟩ (by decide) ⟨Nat.le_of_ble_eq_true rfl, Nat.le_of_ble_eq_true rfl⟩ (Nat.le_of_ble_eq_true rfl) rfl (fun r59 Λc59 Ic59 Lc59 Rc59 hq59 => ?_)
  obtain ⟨rfl, rfl, rfl, rfl, rfl⟩ := hq59
  rw [show decide (kd B n i = 1003) = false from decide_eq_false (by rw [hk]; decide)]
  refine LW_istoren (ls' := [(0, .ref 217), (1, .int (hc_b false))]) dX11_readLine_62 rfl (by decide) rfl ?_
  refine LW_aloadn 0 dX11_readLine_63 rfl rfl ?_
  refine LW_ldcS (i := 7) dX11_readLine_64 rfl ?_
  refine LW_callV (As := [.ref (1000000 + 7)]) (b := 217) (st := []) (ci := 11) (r := (RX11, TX11, 44)) (r_isW hT (j := 7) (k := 1004) (by decide) (by decide) rfl) YX11_isWord rfl dX11_readLine_66 mlX11_183 (hY.lt (k := 217) (by decide)) (ly217 hY) ⟨rfl, rfl⟩ (by decide) ⟨Nat.le_of_ble_eq_true rfl, Nat.le_of_ble_eq_true rfl⟩ (Nat.le_of_ble_eq_true rfl) rfl (fun r66 Λc66 Ic66 Lc66 Rc66 hq66 => ?_)
  obtain ⟨rfl, rfl, rfl, rfl, rfl⟩ := hq66
  rw [show decide (kd B n i = 1004) = false from decide_eq_false (by rw [hk]; decide)]
  refine LW_istoren (ls' := [(0, .ref 217), (1, .int (hc_b false)), (2, .int (hc_b false))]) dX11_readLine_69 rfl (by decide) rfl ?_
  refine LW_aloadn 0 dX11_readLine_70 rfl rfl ?_
  refine LW_ldcS (i := 8) dX11_readLine_71 rfl ?_
  refine LW_callV (As := [.ref (1000000 + 8)]) (b := 217) (st := []) (ci := 11) (r := (RX11, TX11, 44)) (r_isW hT (j := 8) (k := 1005) (by decide) (by decide) rfl) YX11_isWord rfl dX11_readLine_73 mlX11_183 (hY.lt (k := 217) (by decide)) (ly217 hY) ⟨rfl, rfl⟩ (by decide) ⟨Nat.le_of_ble_eq_true rfl, Nat.le_of_ble_eq_true rfl⟩ (Nat.le_of_ble_eq_true rfl) rfl (fun r73 Λc73 Ic73 Lc73 Rc73 hq73 => ?_)
  obtain ⟨rfl, rfl, rfl, rfl, rfl⟩ := hq73
  rw [show decide (kd B n i = 1005) = true from decide_eq_true hk]
  refine LW_istoren (ls' := [(0, .ref 217), (1, .int (hc_b false)), (2, .int (hc_b false)), (3, .int (hc_b true))]) dX11_readLine_76 rfl (by decide) rfl ?_
  refine LW_aloadn 0 dX11_readLine_77 rfl rfl ?_
  refine LW_ldcS (i := 9) dX11_readLine_78 rfl ?_
  refine LW_callV (As := [.ref (1000000 + 9)]) (b := 217) (st := []) (ci := 11) (r := (RX11, TX11, 44)) (r_isW hT (j := 9) (k := 1006) (by decide) (by decide) rfl) YX11_isWord rfl dX11_readLine_80 mlX11_183 (hY.lt (k := 217) (by decide)) (ly217 hY) ⟨rfl, rfl⟩ (by decide) ⟨Nat.le_of_ble_eq_true rfl, Nat.le_of_ble_eq_true rfl⟩ (Nat.le_of_ble_eq_true rfl) rfl (fun r80 Λc80 Ic80 Lc80 Rc80 hq80 => ?_)
  obtain ⟨rfl, rfl, rfl, rfl, rfl⟩ := hq80
  rw [show decide (kd B n i = 1006) = false from decide_eq_false (by rw [hk]; decide)]
  refine LW_istore (ls' := [(0, .ref 217), (1, .int (hc_b false)), (2, .int (hc_b false)), (3, .int (hc_b true)), (4, .int (hc_b false))]) dX11_readLine_83 (by decide) rfl ?_
  refine LW_aloadn 0 dX11_readLine_85 rfl rfl ?_
  refine LW_ldcS (i := 10) dX11_readLine_86 rfl ?_
  refine LW_callV (As := [.ref (1000000 + 10)]) (b := 217) (st := []) (ci := 11) (r := (RX11, TX11, 44)) (r_isW hT (j := 10) (k := 1007) (by decide) (by decide) rfl) YX11_isWord rfl dX11_readLine_88 mlX11_183 (hY.lt (k := 217) (by decide)) (ly217 hY) ⟨rfl, rfl⟩ (by decide) ⟨Nat.le_of_ble_eq_true rfl, Nat.le_of_ble_eq_true rfl⟩ (Nat.le_of_ble_eq_true rfl) rfl (fun r88 Λc88 Ic88 Lc88 Rc88 hq88 => ?_)
  obtain ⟨rfl, rfl, rfl, rfl, rfl⟩ := hq88
  rw [show decide (kd B n i = 1007) = false from decide_eq_false (by rw [hk]; decide)]
  refine LW_istore (ls' := [(0, .ref 217), (1, .int (hc_b false)), (2, .int (hc_b false)), (3, .int (hc_b true)), (4, .int (hc_b false)), (5, .int (hc_b false))]) dX11_readLine_91 (by decide) rfl ?_
  refine LW_aloadn 0 dX11_readLine_93 rfl rfl ?_
  refine LW_ldcS (i := 11) dX11_readLine_94 rfl ?_
  refine LW_callV (As := [.ref (1000000 + 11)]) (b := 217) (st := []) (ci := 11) (r := (RX11, TX11, 44)) (r_isW hT (j := 11) (k := 1008) (by decide) (by decide) rfl) YX11_isWord rfl dX11_readLine_96 mlX11_183 (hY.lt (k := 217) (by decide)) (ly217 hY) ⟨rfl, rfl⟩ (by decide) ⟨Nat.le_of_ble_eq_true rfl, Nat.le_of_ble_eq_true rfl⟩ (Nat.le_of_ble_eq_true rfl) rfl (fun r96 Λc96 Ic96 Lc96 Rc96 hq96 => ?_)
  obtain ⟨rfl, rfl, rfl, rfl, rfl⟩ := hq96
  rw [show decide (kd B n i = 1008) = false from decide_eq_false (by rw [hk]; decide)]
  refine LW_istore (ls' := [(0, .ref 217), (1, .int (hc_b false)), (2, .int (hc_b false)), (3, .int (hc_b true)), (4, .int (hc_b false)), (5, .int (hc_b false)), (6, .int (hc_b false))]) dX11_readLine_99 (by decide) rfl ?_
  refine LW_iloadn 1 dX11_readLine_101 rfl rfl ?_
  refine LW_bif_ne (tgt := 143) dX11_readLine_102 (by decide) (fun c102 => absurd (c102.symm.trans rfl) (by decide)) (fun c102 => ?_)
  refine LW_iloadn 2 dX11_readLine_105 rfl rfl ?_
  refine LW_bif_ne (tgt := 143) dX11_readLine_106 (by decide) (fun c106 => absurd (c106.symm.trans rfl) (by decide)) (fun c106 => ?_)
  refine LW_iloadn 3 dX11_readLine_109 rfl rfl ?_
  refine LW_bif_ne (tgt := 143) dX11_readLine_110 (by decide) (fun c110 => ?_) (fun c110 => absurd (c110.symm.trans rfl) (by decide))
  refine LW_aloadn 0 dX11_readLine_143 rfl rfl ?_
  refine LW_callV (As := []) (b := 217) (st := []) (ci := 11) (r := (RX11, TX11, 44)) (r_nx hT) YX11_next rfl dX11_readLine_144 mlX11_234 (hY.lt (k := 217) (by decide)) (ly217 hY) ⟨rfl, rfl⟩ (by decide) ⟨Nat.le_of_ble_eq_true rfl, Nat.le_of_ble_eq_true rfl⟩ (Nat.le_of_ble_eq_true rfl) rfl (fun r144 Λc144 Ic144 Lc144 Rc144 hq144 => ?_)
  obtain ⟨rfl, rfl, rfl, hl144, hT, hr144⟩ := hq144
  have hW := hW.lx hl144
  refine LW_aloadn 0 dX11_readLine_147 rfl rfl ?_
  refine LW_iconst (v := 0) dX11_readLine_148 (by decide) ?_
  refine LW_iloadn 1 dX11_readLine_149 rfl rfl ?_
  refine LW_bif_eq (tgt := 157) dX11_readLine_150 (by decide) (fun c150 => ?_) (fun c150 => absurd (c150.symm.trans rfl) (by decide))
  refine LW_iloadn 2 dX11_readLine_157 rfl rfl ?_
  refine LW_bif_eq (tgt := 167) dX11_readLine_158 (by decide) (fun c158 => ?_) (fun c158 => absurd (c158.symm.trans rfl) (by decide))
  refine LW_iloadn 3 dX11_readLine_167 rfl rfl ?_
  refine LW_bif_eq (tgt := 177) dX11_readLine_168 (by decide) (fun c168 => absurd (c168.symm.trans rfl) (by decide)) (fun c168 => ?_)
  refine LW_ldcw dX11_readLine_171 klX11_269 ?_
  refine LW_goto (tgt := 204) dX11_readLine_174 (by decide) ?_
  refine LW_callV (As := [.int 0, .int 99999999]) (b := 217) (st := []) (ci := 11) (r := (RX11, TX11, 44)) (r_num hT (lo := 0) (hi := 99999999) (by decide) (by decide)) YX11_readNumber rfl dX11_readLine_204 mlX11_250 (hY.lt (k := 217) (by decide)) (ly217 hY) ⟨rfl, rfl⟩ (by decide) ⟨Nat.le_of_ble_eq_true rfl, Nat.le_of_ble_eq_true rfl⟩ (Nat.le_of_ble_eq_true rfl) rfl (fun r204 Λc204 Ic204 Lc204 Rc204 hq204 => ?_)
  obtain ⟨rfl, rfl, rfl, hl204, hTt204, hFf204⟩ := hq204
  have hW := hW.lx hl204
  refine LW_bif_ne (tgt := 212) dX11_readLine_207 (by decide) (fun c207 => ?_) (fun c207 => ?_)
  · have p204 := of_decide_eq_true c207
    have hx := hx.trans (pNums_s p204)
    obtain ⟨hT, h31⟩ := hTt204 c207
    replace h31 : Ic204 217 31 = _ := h31
    have hk204 := pNum_0 p204
    refine LW_aloadn 0 dX11_readLine_212 rfl rfl ?_
    refine gX11_31 dX11_readLine_213 flX11_237 (hY.lt (k := 217) (by decide)) (ly217 hY) ?_
    rw [show Ic204 217 31 = nI (vl B n (i + 1)) from h31]
    refine LW_istore (ls' := [(0, .ref 217), (1, .int (hc_b false)), (2, .int (hc_b false)), (3, .int (hc_b true)), (4, .int (hc_b false)), (5, .int (hc_b false)), (6, .int (hc_b false)), (7, .int (nI (vl B n (i + 1))))]) dX11_readLine_216 (by decide) rfl ?_
    refine LW_iloadn 1 dX11_readLine_218 rfl rfl ?_
    refine LW_bif_ne (tgt := 227) dX11_readLine_219 (by decide) (fun c219 => absurd (c219.symm.trans rfl) (by decide)) (fun c219 => ?_)
    refine LW_iload 5 dX11_readLine_222 rfl ?_
    refine LW_bif_eq (tgt := 279) dX11_readLine_224 (by decide) (fun c224 => ?_) (fun c224 => absurd (c224.symm.trans rfl) (by decide))
    refine LW_iload 5 dX11_readLine_279 rfl ?_
    refine LW_bif_eq (tgt := 292) dX11_readLine_281 (by decide) (fun c281 => ?_) (fun c281 => absurd (c281.symm.trans rfl) (by decide))
    refine LW_iloadn 2 dX11_readLine_292 rfl rfl ?_
    refine LW_bif_eq (tgt := 305) dX11_readLine_293 (by decide) (fun c293 => ?_) (fun c293 => absurd (c293.symm.trans rfl) (by decide))
    refine LW_iloadn 3 dX11_readLine_305 rfl rfl ?_
    refine LW_bif_eq (tgt := 318) dX11_readLine_306 (by decide) (fun c306 => absurd (c306.symm.trans rfl) (by decide)) (fun c306 => ?_)
    refine LW_aloadn 0 dX11_readLine_309 rfl rfl ?_
    refine LW_iload 7 dX11_readLine_310 rfl ?_
    refine pX11_15 dX11_readLine_312 flX11_103 (hY.lt (k := 217) (by decide)) (ly217 hY) ?_
    generalize hI312 : hc_u Ic204 217 15 (nI (vl B n (i + 1))) = I312
    refine LW_goto (tgt := 363) dX11_readLine_315 (by decide) ?_
    refine LW_iconst (v := 1) dX11_readLine_363 (by decide) ?_
    refine LW_zret dX11_readLine_364 rfl (Nat.le_of_ble_eq_true rfl) (Nat.le_of_ble_eq_true rfl) (Or.inr rfl) ?_
    have hT2 : TK I0 L0 n B Λ I312 Lc204 (i + 1 + 1) := by rw [← hI312]; exact hT.uI (by unfold rfZ; omega) (by unfold rfJ; omega) (by unfold LxJ; omega)
    have hW2 : TD I312 Lc204 (aSRu A 1 (lN (vl B n (i + 1)))) P := by rw [← hI312]; exact hW.ru (k := 1) (by omega) (Or.inr (Or.inl rfl))
    exact TPost.yes (q := (i + 1 + 1, aSRu A 1 (lN (vl B n (i + 1))), P)) (show pLine (kd B n) (vl B n) i A P = .inr (i + 1 + 1, aSRu A 1 (lN (vl B n (i + 1))), P) by unfold pLine; rw [if_neg (by rw [hk]; decide), if_neg (by rw [hk]; decide), if_neg (by rw [hk]; decide), if_neg (by rw [hk]; decide), if_neg (by rw [hk]; decide), if_neg (by rw [hk]; decide), if_pos (by omega), hk]; show pDo (kd B n) (vl B n) [(0, 99999999)] (i + 1) (aSRu A 1 (lN (vl B n (i + 1)))) P = _; unfold pDo; rw [hx]; rfl) ⟨hT2, hW2, by show P.1 ≤ _; omega⟩
  · have p := of_decide_eq_false c207
    have hx := hx.trans (pNums_e p)
    have hF := hFf204 c207
    refine LW_iconst (v := 0) dX11_readLine_210 (by decide) ?_
    refine LW_zret dX11_readLine_211 rfl (Nat.le_of_ble_eq_true rfl) (Nat.le_of_ble_eq_true rfl) (Or.inl rfl) ?_
    exact TPost.no (show pLine (kd B n) (vl B n) i A P = .inl _ by unfold pLine; rw [if_neg (by rw [hk]; decide), if_neg (by rw [hk]; decide), if_neg (by rw [hk]; decide), if_neg (by rw [hk]; decide), if_neg (by rw [hk]; decide), if_neg (by rw [hk]; decide), if_pos (by omega), hk]; show pDo (kd B n) (vl B n) [(0, 99999999)] (i + 1) (aSRu A 1 (lN (vl B n (i + 1)))) P = _; unfold pDo; rw [hx]) hF
set_option maxRecDepth 100000 in
theorem rl_1006 {Λ : hc_L} {I : hc_I} {L : hc_J} {R : hc_R} {I0 : hc_I} {L0 : hc_J} {n i : Nat} {B : Nat → Nat} {A : AS} {P : LwP} (hw : TW I0 L0 n B Λ I L i A P) (hk : kd B n i = 1006) : Run xX11_readLine [.ref 217] Λ I L R (TPost I0 L0 n B (pLine (kd B n) (vl B n) i A P) Λ R) := by
  refine Run.of (by decide +kernel) (Nat.le_of_ble_eq_true rfl) ?_
  show LW _ _ _ [(0, .ref 217)] _ _ _ _ _ _
  have hY := hw.1.y
  obtain ⟨hT, hW, hPi⟩ := hw
  have hB := hT.b
  have hx : pNums (kd B n) (vl B n) [(0, 9999999)] (i + 1) = pNums (kd B n) (vl B n) [(0, 9999999)] (i + 1) := rfl
  refine LW_aloadn 0 dX11_readLine_0 rfl rfl ?_
  refine LW_ldcS (i := 1) dX11_readLine_1 rfl ?_
  refine LW_callV (As := [.ref (1000000 + 1)]) (b := 217) (st := []) (ci := 11) (r := (RX11, TX11, 44)) (r_isW hT (j := 1) (k := 1000) (by decide) (by decide) rfl) YX11_isWord rfl dX11_readLine_3 mlX11_183 (hY.lt (k := 217) (by decide)) (ly217 hY) ⟨rfl, rfl⟩ (by decide) ⟨Nat.le_of_ble_eq_true rfl, Nat.le_of_ble_eq_true rfl⟩ (Nat.le_of_ble_eq_true rfl) rfl (fun r3 Λc3 Ic3 Lc3 Rc3 hq3 => ?_)
  obtain ⟨rfl, rfl, rfl, rfl, rfl⟩ := hq3
  rw [show decide (kd B n i = 1000) = false from decide_eq_false (by rw [hk]; decide)]
  refine LW_bif_eq (tgt := 14) dX11_readLine_6 (by decide) (fun c6 => ?_) (fun c6 => absurd (c6.symm.trans rfl) (by decide))
  refine LW_aloadn 0 dX11_readLine_14 rfl rfl ?_
  refine LW_ldcS (i := 6) dX11_readLine_15 rfl ?_
  refine LW_callV (As := [.ref (1000000 + 6)]) (b := 217) (st := []) (ci := 11) (r := (RX11, TX11, 44)) (r_isW hT (j := 6) (k := 1001) (by decide) (by decide) rfl) YX11_isWord rfl dX11_readLine_17 mlX11_183 (hY.lt (k := 217) (by decide)) (ly217 hY) ⟨rfl, rfl⟩ (by decide) ⟨Nat.le_of_ble_eq_true rfl, Nat.le_of_ble_eq_true rfl⟩ (Nat.le_of_ble_eq_true rfl) rfl (fun r17 Λc17 Ic17 Lc17 Rc17 hq17 => ?_)
  obtain ⟨rfl, rfl, rfl, rfl, rfl⟩ := hq17
  rw [show decide (kd B n i = 1001) = false from decide_eq_false (by rw [hk]; decide)]
  refine LW_bif_eq (tgt := 28) dX11_readLine_20 (by decide) (fun c20 => ?_) (fun c20 => absurd (c20.symm.trans rfl) (by decide))
  refine LW_aloadn 0 dX11_readLine_28 rfl rfl ?_
  refine LW_ldcS (i := 3) dX11_readLine_29 rfl ?_
  refine LW_callV (As := [.ref (1000000 + 3)]) (b := 217) (st := []) (ci := 11) (r := (RX11, TX11, 44)) (r_isW hT (j := 3) (k := 1002) (by decide) (by decide) rfl) YX11_isWord rfl dX11_readLine_31 mlX11_183 (hY.lt (k := 217) (by decide)) (ly217 hY) ⟨rfl, rfl⟩ (by decide) ⟨Nat.le_of_ble_eq_true rfl, Nat.le_of_ble_eq_true rfl⟩ (Nat.le_of_ble_eq_true rfl) rfl (fun r31 Λc31 Ic31 Lc31 Rc31 hq31 => ?_)
  obtain ⟨rfl, rfl, rfl, rfl, rfl⟩ := hq31
  rw [show decide (kd B n i = 1002) = false from decide_eq_false (by rw [hk]; decide)]
  refine LW_bif_eq (tgt := 42) dX11_readLine_34 (by decide) (fun c34 => ?_) (fun c34 => absurd (c34.symm.trans rfl) (by decide))
  refine LW_aloadn 0 dX11_readLine_42 rfl rfl ?_
  refine LW_ldcS (i := 13) dX11_readLine_43 rfl ?_
  refine LW_callV (As := [.ref (1000000 + 13)]) (b := 217) (st := []) (ci := 11) (r := (RX11, TX11, 44)) (r_isW hT (j := 13) (k := 1010) (by decide) (by decide) rfl) YX11_isWord rfl dX11_readLine_45 mlX11_183 (hY.lt (k := 217) (by decide)) (ly217 hY) ⟨rfl, rfl⟩ (by decide) ⟨Nat.le_of_ble_eq_true rfl, Nat.le_of_ble_eq_true rfl⟩ (Nat.le_of_ble_eq_true rfl) rfl (fun r45 Λc45 Ic45 Lc45 Rc45 hq45 => ?_)
  obtain ⟨rfl, rfl, rfl, rfl, rfl⟩ := hq45
  rw [show decide (kd B n i = 1010) = false from decide_eq_false (by rw [hk]; decide)]
  refine LW_bif_eq (tgt := 56) dX11_readLine_48 (by decide) (fun c48 => ?_) (fun c48 => absurd (c48.symm.trans rfl) (by decide))
  refine LW_aloadn 0 dX11_readLine_56 rfl rfl ?_
  refine LW_ldcS (i := 5) dX11_readLine_57 rfl ?_
  refine LW_callV (As := [.ref (1000000 + 5)]) (b := 217) (st := []) (ci := 11) (r := (RX11, TX11, 44)) (r_isW hT (j := 5) (k := 1003) (by decide) (by decide) rfl) YX11_isWord rfl dX11_readLine_59 mlX11_183 (hY.lt (k := 217) (by decide)) (ly217 hY) ⟨rfl, rfl⟩ (by decide) ⟨Nat.le_of_ble_eq_true rfl, Nat.le_of_ble_eq_true rfl⟩ (Nat.le_of_ble_eq_true rfl) rfl (fun r59 Λc59 Ic59 Lc59 Rc59 hq59 => ?_)
  obtain ⟨rfl, rfl, rfl, rfl, rfl⟩ := hq59
  rw [show decide (kd B n i = 1003) = false from decide_eq_false (by rw [hk]; decide)]
  refine LW_istoren (ls' := [(0, .ref 217), (1, .int (hc_b false))]) dX11_readLine_62 rfl (by decide) rfl ?_
  refine LW_aloadn 0 dX11_readLine_63 rfl rfl ?_
  refine LW_ldcS (i := 7) dX11_readLine_64 rfl ?_
  refine LW_callV (As := [.ref (1000000 + 7)]) (b := 217) (st := []) (ci := 11) (r := (RX11, TX11, 44)) (r_isW hT (j := 7) (k := 1004) (by decide) (by decide) rfl) YX11_isWord rfl dX11_readLine_66 mlX11_183 (hY.lt (k := 217) (by decide)) (ly217 hY) ⟨rfl, rfl⟩ (by decide) ⟨Nat.le_of_ble_eq_true rfl, Nat.le_of_ble_eq_true rfl⟩ (Nat.le_of_ble_eq_true rfl) rfl (fun r66 Λc66 Ic66 Lc66 Rc66 hq66 => ?_)
  obtain ⟨rfl, rfl, rfl, rfl, rfl⟩ := hq66
  rw [show decide (kd B n i = 1004) = false from decide_eq_false (by rw [hk]; decide)]
  refine LW_istoren (ls' := [(0, .ref 217), (1, .int (hc_b false)), (2, .int (hc_b false))]) dX11_readLine_69 rfl (by decide) rfl ?_
  refine LW_aloadn 0 dX11_readLine_70 rfl rfl ?_
  refine LW_ldcS (i := 8) dX11_readLine_71 rfl ?_
  refine LW_callV (As := [.ref (1000000 + 8)]) (b := 217) (st := []) (ci := 11) (r := (RX11, TX11, 44)) (r_isW hT (j := 8) (k := 1005) (by decide) (by decide) rfl) YX11_isWord rfl dX11_readLine_73 mlX11_183 (hY.lt (k := 217) (by decide)) (ly217 hY) ⟨rfl, rfl⟩ (by decide) ⟨Nat.le_of_ble_eq_true rfl, Nat.le_of_ble_eq_true rfl⟩ (Nat.le_of_ble_eq_true rfl) rfl (fun r73 Λc73 Ic73 Lc73 Rc73 hq73 => ?_)
  obtain ⟨rfl, rfl, rfl, rfl, rfl⟩ := hq73
  rw [show decide (kd B n i = 1005) = false from decide_eq_false (by rw [hk]; decide)]
  refine LW_istoren (ls' := [(0, .ref 217), (1, .int (hc_b false)), (2, .int (hc_b false)), (3, .int (hc_b false))]) dX11_readLine_76 rfl (by decide) rfl ?_
  refine LW_aloadn 0 dX11_readLine_77 rfl rfl ?_
  refine LW_ldcS (i := 9) dX11_readLine_78 rfl ?_
  refine LW_callV (As := [.ref (1000000 + 9)]) (b := 217) (st := []) (ci := 11) (r := (RX11, TX11, 44)) (r_isW hT (j := 9) (k := 1006) (by decide) (by decide) rfl) YX11_isWord rfl dX11_readLine_80 mlX11_183 (hY.lt (k := 217) (by decide)) (ly217 hY) ⟨rfl, rfl⟩ (by decide) ⟨Nat.le_of_ble_eq_true rfl, Nat.le_of_ble_eq_true rfl⟩ (Nat.le_of_ble_eq_true rfl) rfl (fun r80 Λc80 Ic80 Lc80 Rc80 hq80 => ?_)
  obtain ⟨rfl, rfl, rfl, rfl, rfl⟩ := hq80
  rw [show decide (kd B n i = 1006) = true from decide_eq_true hk]
  refine LW_istore (ls' := [(0, .ref 217), (1, .int (hc_b false)), (2, .int (hc_b false)), (3, .int (hc_b false)), (4, .int (hc_b true))]) dX11_readLine_83 (by decide) rfl ?_
  refine LW_aloadn 0 dX11_readLine_85 rfl rfl ?_
  refine LW_ldcS (i := 10) dX11_readLine_86 rfl ?_
  refine LW_callV (As := [.ref (1000000 + 10)]) (b := 217) (st := []) (ci := 11) (r := (RX11, TX11, 44)) (r_isW hT (j := 10) (k := 1007) (by decide) (by decide) rfl) YX11_isWord rfl dX11_readLine_88 mlX11_183 (hY.lt (k := 217) (by decide)) (ly217 hY) ⟨rfl, rfl⟩ (by decide) ⟨Nat.le_of_ble_eq_true rfl, Nat.le_of_ble_eq_true rfl⟩ (Nat.le_of_ble_eq_true rfl) rfl (fun r88 Λc88 Ic88 Lc88 Rc88 hq88 => ?_)
  obtain ⟨rfl, rfl, rfl, rfl, rfl⟩ := hq88
  rw [show decide (kd B n i = 1007) = false from decide_eq_false (by rw [hk]; decide)]
  refine LW_istore (ls' := [(0, .ref 217), (1, .int (hc_b false)), (2, .int (hc_b false)), (3, .int (hc_b false)), (4, .int (hc_b true)), (5, .int (hc_b false))]) dX11_readLine_91 (by decide) rfl ?_
  refine LW_aloadn 0 dX11_readLine_93 rfl rfl ?_
  refine LW_ldcS (i := 11) dX11_readLine_94 rfl ?_
  refine LW_callV (As := [.ref (1000000 + 11)]) (b := 217) (st := []) (ci := 11) (r := (RX11, TX11, 44)) (r_isW hT (j := 11) (k := 1008) (by decide) (by decide) rfl) YX11_isWord rfl dX11_readLine_96 mlX11_183 (hY.lt (k := 217) (by decide)) (ly217 hY) ⟨rfl, rfl⟩ (by decide) ⟨Nat.le_of_ble_eq_true rfl, Nat.le_of_ble_eq_true rfl⟩ (Nat.le_of_ble_eq_true rfl) rfl (fun r96 Λc96 Ic96 Lc96 Rc96 hq96 => ?_)
  obtain ⟨rfl, rfl, rfl, rfl, rfl⟩ := hq96
  rw [show decide (kd B n i = 1008) = false from decide_eq_false (by rw [hk]; decide)]
  refine LW_istore (ls' := [(0, .ref 217), (1, .int (hc_b false)), (2, .int (hc_b false)), (3, .int (hc_b false)), (4, .int (hc_b true)), (5, .int (hc_b false)), (6, .int (hc_b false))]) dX11_readLine_99 (by decide) rfl ?_
  refine LW_iloadn 1 dX11_readLine_101 rfl rfl ?_
  refine LW_bif_ne (tgt := 143) dX11_readLine_102 (by decide) (fun c102 => absurd (c102.symm.trans rfl) (by decide)) (fun c102 => ?_)
  refine LW_iloadn 2 dX11_readLine_105 rfl rfl ?_
  refine LW_bif_ne (tgt := 143) dX11_readLine_106 (by decide) (fun c106 => absurd (c106.symm.trans rfl) (by decide)) (fun c106 => ?_)
  refine LW_iloadn 3 dX11_readLine_109 rfl rfl ?_
  refine LW_bif_ne (tgt := 143) dX11_readLine_110 (by decide) (fun c110 => absurd (c110.symm.trans rfl) (by decide)) (fun c110 => ?_)
  refine LW_iload 4 dX11_readLine_113 rfl ?_
  refine LW_bif_ne (tgt := 143) dX11_readLine_115 (by decide) (fun c115 => ?_) (fun c115 => absurd (c115.symm.trans rfl) (by decide))
  refine LW_aloadn 0 dX11_readLine_143 rfl rfl ?_
  refine LW_callV (As := []) (b := 217) (st := []) (ci := 11) (r := (RX11, TX11, 44)) (r_nx hT) YX11_next rfl dX11_readLine_144 mlX11_234 (hY.lt (k := 217) (by decide)) (ly217 hY) ⟨rfl, rfl⟩ (by decide) ⟨Nat.le_of_ble_eq_true rfl, Nat.le_of_ble_eq_true rfl⟩ (Nat.le_of_ble_eq_true rfl) rfl (fun r144 Λc144 Ic144 Lc144 Rc144 hq144 => ?_)
  obtain ⟨rfl, rfl, rfl, hl144, hT, hr144⟩ := hq144
  have hW := hW.lx hl144
  refine LW_aloadn 0 dX11_readLine_147 rfl rfl ?_
  refine LW_iconst (v := 0) dX11_readLine_148 (by decide) ?_
  refine LW_iloadn 1 dX11_readLine_149 rfl rfl ?_
  refine LW_bif_eq (tgt := 157) dX11_readLine_150 (by decide) (fun c150 => ?_) (fun c150 => absurd (c150.symm.trans rfl) (by decide))
  refine LW_iloadn 2 dX11_readLine_157 rfl rfl ?_
  refine LW_bif_eq (tgt := 167) dX11_readLine_158 (by decide) (fun c158 => ?_) (fun c158 => absurd (c158.symm.trans rfl) (by decide))
  refine LW_iloadn 3 dX11_readLine_167 rfl rfl ?_
  refine LW_bif_eq (tgt := 177) dX11_readLine_168 (by decide) (fun c168 => ?_) (fun c168 => absurd (c168.symm.trans rfl) (by decide))
  refine LW_iload 4 dX11_readLine_177 rfl ?_
  refine LW_bif_ne (tgt := 187) dX11_readLine_179 (by decide) (fun c179 => ?_) (fun c179 => absurd (c179.symm.trans rfl) (by decide))
  refine LW_ldc dX11_readLine_187 klX11_90 ?_
  refine LW_goto (tgt := 204) dX11_readLine_189 (by decide) ?_
  refine LW_callV (As := [.int 0, .int 9999999]) (b := 217) (st := []) (ci := 11) (r := (RX11, TX11, 44)) (r_num hT (lo := 0) (hi := 9999999) (by decide) (by decide)) YX11_readNumber rfl dX11_readLine_204 mlX11_250 (hY.lt (k := 217) (by decide)) (ly217 hY) ⟨rfl, rfl⟩ (by decide) ⟨Nat.le_of_ble_eq_true rfl, Nat.le_of_ble_eq_true rfl⟩ (Nat.le_of_ble_eq_true rfl) rfl (fun r204 Λc204 Ic204 Lc204 Rc204 hq204 => ?_)
  obtain ⟨rfl, rfl, rfl, hl204, hTt204, hFf204⟩ := hq204
  have hW := hW.lx hl204
  refine LW_bif_ne (tgt := 212) dX11_readLine_207 (by decide) (fun c207 => ?_) (fun c207 => ?_)
  · have p204 := of_decide_eq_true c207
    have hx := hx.trans (pNums_s p204)
    obtain ⟨hT, h31⟩ := hTt204 c207
    replace h31 : Ic204 217 31 = _ := h31
    have hk204 := pNum_0 p204
    refine LW_aloadn 0 dX11_readLine_212 rfl rfl ?_
    refine gX11_31 dX11_readLine_213 flX11_237 (hY.lt (k := 217) (by decide)) (ly217 hY) ?_
    rw [show Ic204 217 31 = nI (vl B n (i + 1)) from h31]
    refine LW_istore (ls' := [(0, .ref 217), (1, .int (hc_b false)), (2, .int (hc_b false)), (3, .int (hc_b false)), (4, .int (hc_b true)), (5, .int (hc_b false)), (6, .int (hc_b false)), (7, .int (nI (vl B n (i + 1))))]) dX11_readLine_216 (by decide) rfl ?_
    refine LW_iloadn 1 dX11_readLine_218 rfl rfl ?_
    refine LW_bif_ne (tgt := 227) dX11_readLine_219 (by decide) (fun c219 => absurd (c219.symm.trans rfl) (by decide)) (fun c219 => ?_)
    refine LW_iload 5 dX11_readLine_222 rfl ?_
    refine LW_bif_eq (tgt := 279) dX11_readLine_224 (by decide) (fun c224 => ?_) (fun c224 => absurd (c224.symm.trans rfl) (by decide))
    refine LW_iload 5 dX11_readLine_279 rfl ?_
    refine LW_bif_eq (tgt := 292) dX11_readLine_281 (by decide) (fun c281 => ?_) (fun c281 => absurd (c281.symm.trans rfl) (by decide))
    refine LW_iloadn 2 dX11_readLine_292 rfl rfl ?_
    refine LW_bif_eq (tgt := 305) dX11_readLine_293 (by decide) (fun c293 => ?_) (fun c293 => absurd (c293.symm.trans rfl) (by decide))
    refine LW_iloadn 3 dX11_readLine_305 rfl rfl ?_
    refine LW_bif_eq (tgt := 318) dX11_readLine_306 (by decide) (fun c306 => ?_) (fun c306 => absurd (c306.symm.trans rfl) (by decide))
    refine LW_iload 4 dX11_readLine_318 rfl ?_
    refine LW_bif_eq (tgt := 334) dX11_readLine_320 (by decide) (fun c320 => absurd (c320.symm.trans rfl) (by decide)) (fun c320 => ?_)
    refine LW_aloadn 0 dX11_readLine_323 rfl rfl ?_
    refine gX11_7 dX11_readLine_324 flX11_31 (hY.lt (k := 217) (by decide)) (ly217 hY) (lf217_7 hY) ?_
    refine LW_iconst (v := 3) dX11_readLine_327 (by decide) ?_
    refine LW_iload 7 dX11_readLine_328 rfl ?_
    refine LW_iast dX11_readLine_330 (hY.lt (k := 224) (by decide)) (ly224 hY) rfl (by decide) (Nat.le_of_ble_eq_true rfl) ?_
    generalize hI330 : hc_u Ic204 224 3 (nI (vl B n (i + 1))) = I330
    refine LW_goto (tgt := 363) dX11_readLine_331 (by decide) ?_
    refine LW_iconst (v := 1) dX11_readLine_363 (by decide) ?_
    refine LW_zret dX11_readLine_364 rfl (Nat.le_of_ble_eq_true rfl) (Nat.le_of_ble_eq_true rfl) (Or.inr rfl) ?_
    have hT2 : TK I0 L0 n B Λ I330 Lc204 (i + 1 + 1) := by rw [← hI330]; exact hT.uI (by unfold rfZ; omega) (by unfold rfJ; omega) (by unfold LxJ; omega)
    have hW2 : TD I330 Lc204 (aSRu A 2 (lN (vl B n (i + 1)))) P := by rw [← hI330]; exact hW.rest (k := 2) (by omega) (Or.inl rfl)
    exact TPost.yes (q := (i + 1 + 1, aSRu A 2 (lN (vl B n (i + 1))), P)) (show pLine (kd B n) (vl B n) i A P = .inr (i + 1 + 1, aSRu A 2 (lN (vl B n (i + 1))), P) by unfold pLine; rw [if_neg (by rw [hk]; decide), if_neg (by rw [hk]; decide), if_neg (by rw [hk]; decide), if_neg (by rw [hk]; decide), if_neg (by rw [hk]; decide), if_neg (by rw [hk]; decide), if_pos (by omega), hk]; show pDo (kd B n) (vl B n) [(0, 9999999)] (i + 1) (aSRu A 2 (lN (vl B n (i + 1)))) P = _; unfold pDo; rw [hx]; rfl) ⟨hT2, hW2, by show P.1 ≤ _; omega⟩
  · have p := of_decide_eq_false c207
    have hx := hx.trans (pNums_e p)
    have hF := hFf204 c207
    refine LW_iconst (v := 0) dX11_readLine_210 (by decide) ?_
    refine LW_zret dX11_readLine_211 rfl (Nat.le_of_ble_eq_true rfl) (Nat.le_of_ble_eq_true rfl) (Or.inl rfl) ?_
    exact TPost.no (show pLine (kd B n) (vl B n) i A P = .inl _ by unfold pLine; rw [if_neg (by rw [hk]; decide), if_neg (by rw [hk]; decide), if_neg (by rw [hk]; decide), if_neg (by rw [hk]; decide), if_neg (by rw [hk]; decide), if_neg (by rw [hk]; decide), if_pos (by omega), hk]; show pDo (kd B n) (vl B n) [(0, 9999999)] (i + 1) (aSRu A 2 (lN (vl B n (i + 1)))) P = _; unfold pDo; rw [hx]) hF
set_option maxRecDepth 100000 in
theorem rl_1008 {Λ : hc_L} {I : hc_I} {L : hc_J} {R : hc_R} {I0 : hc_I} {L0 : hc_J} {n i : Nat} {B : Nat → Nat} {A : AS} {P : LwP} (hw : TW I0 L0 n B Λ I L i A P) (hk : kd B n i = 1008) : Run xX11_readLine [.ref 217] Λ I L R (TPost I0 L0 n B (pLine (kd B n) (vl B n) i A P) Λ R) := by
  refine Run.of (by decide +kernel) (Nat.le_of_ble_eq_true rfl) ?_
  show LW _ _ _ [(0, .ref 217)] _ _ _ _ _ _
  have hY := hw.1.y
  obtain ⟨hT, hW, hPi⟩ := hw
  have hB := hT.b
  have hx : pNums (kd B n) (vl B n) [(0, 99)] (i + 1) = pNums (kd B n) (vl B n) [(0, 99)] (i + 1) := rfl
  refine LW_aloadn 0 dX11_readLine_0 rfl rfl ?_
  refine LW_ldcS (i := 1) dX11_readLine_1 rfl ?_
  refine LW_callV (As := [.ref (1000000 + 1)]) (b := 217) (st := []) (ci := 11) (r := (RX11, TX11, 44)) (r_isW hT (j := 1) (k := 1000) (by decide) (by decide) rfl) YX11_isWord rfl dX11_readLine_3 mlX11_183 (hY.lt (k := 217) (by decide)) (ly217 hY) ⟨rfl, rfl⟩ (by decide) ⟨Nat.le_of_ble_eq_true rfl, Nat.le_of_ble_eq_true rfl⟩ (Nat.le_of_ble_eq_true rfl) rfl (fun r3 Λc3 Ic3 Lc3 Rc3 hq3 => ?_)
  obtain ⟨rfl, rfl, rfl, rfl, rfl⟩ := hq3
  rw [show decide (kd B n i = 1000) = false from decide_eq_false (by rw [hk]; decide)]
  refine LW_bif_eq (tgt := 14) dX11_readLine_6 (by decide) (fun c6 => ?_) (fun c6 => absurd (c6.symm.trans rfl) (by decide))
  refine LW_aloadn 0 dX11_readLine_14 rfl rfl ?_
  refine LW_ldcS (i := 6) dX11_readLine_15 rfl ?_
  refine LW_callV (As := [.ref (1000000 + 6)]) (b := 217) (st := []) (ci := 11) (r := (RX11, TX11, 44)) (r_isW hT (j := 6) (k := 1001) (by decide) (by decide) rfl) YX11_isWord rfl dX11_readLine_17 mlX11_183 (hY.lt (k := 217) (by decide)) (ly217 hY) ⟨rfl, rfl⟩ (by decide) ⟨Nat.le_of_ble_eq_true rfl, Nat.le_of_ble_eq_true rfl⟩ (Nat.le_of_ble_eq_true rfl) rfl (fun r17 Λc17 Ic17 Lc17 Rc17 hq17 => ?_)
  obtain ⟨rfl, rfl, rfl, rfl, rfl⟩ := hq17
  rw [show decide (kd B n i = 1001) = false from decide_eq_false (by rw [hk]; decide)]
  refine LW_bif_eq (tgt := 28) dX11_readLine_20 (by decide) (fun c20 => ?_) (fun c20 => absurd (c20.symm.trans rfl) (by decide))
  refine LW_aloadn 0 dX11_readLine_28 rfl rfl ?_
  refine LW_ldcS (i := 3) dX11_readLine_29 rfl ?_
  refine LW_callV (As := [.ref (1000000 + 3)]) (b := 217) (st := []) (ci := 11) (r := (RX11, TX11, 44)) (r_isW hT (j := 3) (k := 1002) (by decide) (by decide) rfl) YX11_isWord rfl dX11_readLine_31 mlX11_183 (hY.lt (k := 217) (by decide)) (ly217 hY) ⟨rfl, rfl⟩ (by decide) ⟨Nat.le_of_ble_eq_true rfl, Nat.le_of_ble_eq_true rfl⟩ (Nat.le_of_ble_eq_true rfl) rfl (fun r31 Λc31 Ic31 Lc31 Rc31 hq31 => ?_)
  obtain ⟨rfl, rfl, rfl, rfl, rfl⟩ := hq31
  rw [show decide (kd B n i = 1002) = false from decide_eq_false (by rw [hk]; decide)]
  refine LW_bif_eq (tgt := 42) dX11_readLine_34 (by decide) (fun c34 => ?_) (fun c34 => absurd (c34.symm.trans rfl) (by decide))
  refine LW_aloadn 0 dX11_readLine_42 rfl rfl ?_
  refine LW_ldcS (i := 13) dX11_readLine_43 rfl ?_
  refine LW_callV (As := [.ref (1000000 + 13)]) (b := 217) (st := []) (ci := 11) (r := (RX11, TX11, 44)) (r_isW hT (j := 13) (k := 1010) (by decide) (by decide) rfl) YX11_isWord rfl dX11_readLine_45 mlX11_183 (hY.lt (k := 217) (by decide)) (ly217 hY) ⟨rfl, rfl⟩ (by decide) ⟨Nat.le_of_ble_eq_true rfl, Nat.le_of_ble_eq_true rfl⟩ (Nat.le_of_ble_eq_true rfl) rfl (fun r45 Λc45 Ic45 Lc45 Rc45 hq45 => ?_)
  obtain ⟨rfl, rfl, rfl, rfl, rfl⟩ := hq45
  rw [show decide (kd B n i = 1010) = false from decide_eq_false (by rw [hk]; decide)]
  refine LW_bif_eq (tgt := 56) dX11_readLine_48 (by decide) (fun c48 => ?_) (fun c48 => absurd (c48.symm.trans rfl) (by decide))
  refine LW_aloadn 0 dX11_readLine_56 rfl rfl ?_
  refine LW_ldcS (i := 5) dX11_readLine_57 rfl ?_
  refine LW_callV (As := [.ref (1000000 + 5)]) (b := 217) (st := []) (ci := 11) (r := (RX11, TX11, 44)) (r_isW hT (j := 5) (k := 1003) (by decide) (by decide) rfl) YX11_isWord rfl dX11_readLine_59 mlX11_183 (hY.lt (k := 217) (by decide)) (ly217 hY) ⟨rfl, rfl⟩ (by decide) ⟨Nat.le_of_ble_eq_true rfl, Nat.le_of_ble_eq_true rfl⟩ (Nat.le_of_ble_eq_true rfl) rfl (fun r59 Λc59 Ic59 Lc59 Rc59 hq59 => ?_)
  obtain ⟨rfl, rfl, rfl, rfl, rfl⟩ := hq59
  rw [show decide (kd B n i = 1003) = false from decide_eq_false (by rw [hk]; decide)]
  refine LW_istoren (ls' := [(0, .ref 217), (1, .int (hc_b false))]) dX11_readLine_62 rfl (by decide) rfl ?_
  refine LW_aloadn 0 dX11_readLine_63 rfl rfl ?_
  refine LW_ldcS (i := 7) dX11_readLine_64 rfl ?_
  refine LW_callV (As := [.ref (1000000 + 7)]) (b := 217) (st := []) (ci := 11) (r := (RX11, TX11, 44)) (r_isW hT (j := 7) (k := 1004) (by decide) (by decide) rfl) YX11_isWord rfl dX11_readLine_66 mlX11_183 (hY.lt (k := 217) (by decide)) (ly217 hY) ⟨rfl, rfl⟩ (by decide) ⟨Nat.le_of_ble_eq_true rfl, Nat.le_of_ble_eq_true rfl⟩ (Nat.le_of_ble_eq_true rfl) rfl (fun r66 Λc66 Ic66 Lc66 Rc66 hq66 => ?_)
  obtain ⟨rfl, rfl, rfl, rfl, rfl⟩ := hq66
  rw [show decide (kd B n i = 1004) = false from decide_eq_false (by rw [hk]; decide)]
  refine LW_istoren (ls' := [(0, .ref 217), (1, .int (hc_b false)), (2, .int (hc_b false))]) dX11_readLine_69 rfl (by decide) rfl ?_
  refine LW_aloadn 0 dX11_readLine_70 rfl rfl ?_
  refine LW_ldcS (i := 8) dX11_readLine_71 rfl ?_
  refine LW_callV (As := [.ref (1000000 + 8)]) (b := 217) (st := []) (ci := 11) (r := (RX11, TX11, 44)) (r_isW hT (j := 8) (k := 1005) (by decide) (by decide) rfl) YX11_isWord rfl dX11_readLine_73 mlX11_183 (hY.lt (k := 217) (by decide)) (ly217 hY) ⟨rfl, rfl⟩ (by decide) ⟨Nat.le_of_ble_eq_true rfl, Nat.le_of_ble_eq_true rfl⟩ (Nat.le_of_ble_eq_true rfl) rfl (fun r73 Λc73 Ic73 Lc73 Rc73 hq73 => ?_)
  obtain ⟨rfl, rfl, rfl, rfl, rfl⟩ := hq73
  rw [show decide (kd B n i = 1005) = false from decide_eq_false (by rw [hk]; decide)]
  refine LW_istoren (ls' := [(0, .ref 217), (1, .int (hc_b false)), (2, .int (hc_b false)), (3, .int (hc_b false))]) dX11_readLine_76 rfl (by decide) rfl ?_
  refine LW_aloadn 0 dX11_readLine_77 rfl rfl ?_
  refine LW_ldcS (i := 9) dX11_readLine_78 rfl ?_
  refine LW_callV (As := [.ref (1000000 + 9)]) (b := 217) (st := []) (ci := 11) (r := (RX11, TX11, 44)) (r_isW hT (j := 9) (k := 1006) (by decide) (by decide) rfl) YX11_isWord rfl dX11_readLine_80 mlX11_183 (hY.lt (k := 217) (by decide)) (ly217 hY) ⟨rfl, rfl⟩ (by decide) ⟨Nat.le_of_ble_eq_true rfl, Nat.le_of_ble_eq_true rfl⟩ (Nat.le_of_ble_eq_true rfl) rfl (fun r80 Λc80 Ic80 Lc80 Rc80 hq80 => ?_)
  obtain ⟨rfl, rfl, rfl, rfl, rfl⟩ := hq80
  rw [show decide (kd B n i = 1006) = false from decide_eq_false (by rw [hk]; decide)]
  refine LW_istore (ls' := [(0, .ref 217), (1, .int (hc_b false)), (2, .int (hc_b false)), (3, .int (hc_b false)), (4, .int (hc_b false))]) dX11_readLine_83 (by decide) rfl ?_
  refine LW_aloadn 0 dX11_readLine_85 rfl rfl ?_
  refine LW_ldcS (i := 10) dX11_readLine_86 rfl ?_
  refine LW_callV (As := [.ref (1000000 + 10)]) (b := 217) (st := []) (ci := 11) (r := (RX11, TX11, 44)) (r_isW hT (j := 10) (k := 1007) (by decide) (by decide) rfl) YX11_isWord rfl dX11_readLine_88 mlX11_183 (hY.lt (k := 217) (by decide)) (ly217 hY) ⟨rfl, rfl⟩ (by decide) ⟨Nat.le_of_ble_eq_true rfl, Nat.le_of_ble_eq_true rfl⟩ (Nat.le_of_ble_eq_true rfl) rfl (fun r88 Λc88 Ic88 Lc88 Rc88 hq88 => ?_)
  obtain ⟨rfl, rfl, rfl, rfl, rfl⟩ := hq88
  rw [show decide (kd B n i = 1007) = false from decide_eq_false (by rw [hk]; decide)]
  refine LW_istore (ls' := [(0, .ref 217), (1, .int (hc_b false)), (2, .int (hc_b false)), (3, .int (hc_b false)), (4, .int (hc_b false)), (5, .int (hc_b false))]) dX11_readLine_91 (by decide) rfl ?_
  refine LW_aloadn 0 dX11_readLine_93 rfl rfl ?_
  refine LW_ldcS (i := 11) dX11_readLine_94 rfl ?_
  refine LW_callV (As := [.ref (1000000 + 11)]) (b := 217) (st := []) (ci := 11) (r := (RX11, TX11, 44)) (r_isW hT (j := 11) (k := 1008) (by decide) (by decide) rfl) YX11_isWord rfl dX11_readLine_96 mlX11_183 (hY.lt (k := 217) (by decide)) (ly217 hY) ⟨rfl, rfl⟩ (by decide) ⟨Nat.le_of_ble_eq_true rfl, Nat.le_of_ble_eq_true rfl⟩ (Nat.le_of_ble_eq_true rfl) rfl (fun r96 Λc96 Ic96 Lc96 Rc96 hq96 => ?_)
  obtain ⟨rfl, rfl, rfl, rfl, rfl⟩ := hq96
  rw [show decide (kd B n i = 1008) = true from decide_eq_true hk]
  refine LW_istore (ls' := [(0, .ref 217), (1, .int (hc_b false)), (2, .int (hc_b false)), (3, .int (hc_b false)), (4, .int (hc_b false)), (5, .int (hc_b false)), (6, .int (hc_b true))]) dX11_readLine_99 (by decide) rfl ?_
  refine LW_iloadn 1 dX11_readLine_101 rfl rfl ?_
  refine LW_bif_ne (tgt := 143) dX11_readLine_102 (by decide) (fun c102 => absurd (c102.symm.trans rfl) (by decide)) (fun c102 => ?_)
  refine LW_iloadn 2 dX11_readLine_105 rfl rfl ?_
  refine LW_bif_ne (tgt := 143) dX11_readLine_106 (by decide) (fun c106 => absurd (c106.symm.trans rfl) (by decide)) (fun c106 => ?_)
  refine LW_iloadn 3 dX11_readLine_109 rfl rfl ?_
  refine LW_bif_ne (tgt := 143) dX11_readLine_110 (by decide) (fun c110 => absurd (c110.symm.trans rfl) (by decide)) (fun c110 => ?_)
  refine LW_iload 4 dX11_readLine_113 rfl ?_
  refine LW_bif_ne (tgt := 143) dX11_readLine_115 (by decide) (fun c115 => absurd (c115.symm.trans rfl) (by decide)) (fun c115 => ?_)
  refine LW_iload 5 dX11_readLine_118 rfl ?_
  refine LW_bif_ne (tgt := 143) dX11_readLine_120 (by decide) (fun c120 => absurd (c120.symm.trans rfl) (by decide)) (fun c120 => ?_)
  refine LW_iload 6 dX11_readLine_123 rfl ?_
  refine LW_bif_ne (tgt := 143) dX11_readLine_125 (by decide) (fun c125 => ?_) (fun c125 => absurd (c125.symm.trans rfl) (by decide))
  refine LW_aloadn 0 dX11_readLine_143 rfl rfl ?_
  refine LW_callV (As := []) (b := 217) (st := []) (ci := 11) (r := (RX11, TX11, 44)) (r_nx hT) YX11_next rfl dX11_readLine_144 mlX11_234 (hY.lt (k := 217) (by decide)) (ly217 hY) ⟨rfl, rfl⟩ (by decide) ⟨Nat.le_of_ble_eq_true rfl, Nat.le_of_ble_eq_true rfl⟩ (Nat.le_of_ble_eq_true rfl) rfl (fun r144 Λc144 Ic144 Lc144 Rc144 hq144 => ?_)
  obtain ⟨rfl, rfl, rfl, hl144, hT, hr144⟩ := hq144
  have hW := hW.lx hl144
  refine LW_aloadn 0 dX11_readLine_147 rfl rfl ?_
  refine LW_iconst (v := 0) dX11_readLine_148 (by decide) ?_
  refine LW_iloadn 1 dX11_readLine_149 rfl rfl ?_
  refine LW_bif_eq (tgt := 157) dX11_readLine_150 (by decide) (fun c150 => ?_) (fun c150 => absurd (c150.symm.trans rfl) (by decide))
  refine LW_iloadn 2 dX11_readLine_157 rfl rfl ?_
  refine LW_bif_eq (tgt := 167) dX11_readLine_158 (by decide) (fun c158 => ?_) (fun c158 => absurd (c158.symm.trans rfl) (by decide))
  refine LW_iloadn 3 dX11_readLine_167 rfl rfl ?_
  refine LW_bif_eq (tgt := 177) dX11_readLine_168 (by decide) (fun c168 => ?_) (fun c168 => absurd (c168.symm.trans rfl) (by decide))
  refine LW_iload 4 dX11_readLine_177 rfl ?_
  refine LW_bif_ne (tgt := 187) dX11_readLine_179 (by decide) (fun c179 => absurd (c179.symm.trans rfl) (by decide)) (fun c179 => ?_)
  refine LW_iload 5 dX11_readLine_182 rfl ?_
  refine LW_bif_eq (tgt := 192) dX11_readLine_184 (by decide) (fun c184 => ?_) (fun c184 => absurd (c184.symm.trans rfl) (by decide))
  refine LW_iload 6 dX11_readLine_192 rfl ?_
  refine LW_bif_eq (tgt := 202) dX11_readLine_194 (by decide) (fun c194 => absurd (c194.symm.trans rfl) (by decide)) (fun c194 => ?_)
  refine LW_bipush (v := 99) dX11_readLine_197 (by decide) ?_
  refine LW_goto (tgt := 204) dX11_readLine_199 (by decide) ?_
  refine LW_callV (As := [.int 0, .int 99]) (b := 217) (st := []) (ci := 11) (r := (RX11, TX11, 44)) (r_num hT (lo := 0) (hi := 99) (by decide) (by decide)) YX11_readNumber rfl dX11_readLine_204 mlX11_250 (hY.lt (k := 217) (by decide)) (ly217 hY) ⟨rfl, rfl⟩ (by decide) ⟨Nat.le_of_ble_eq_true rfl, Nat.le_of_ble_eq_true rfl⟩ (Nat.le_of_ble_eq_true rfl) rfl (fun r204 Λc204 Ic204 Lc204 Rc204 hq204 => ?_)
  obtain ⟨rfl, rfl, rfl, hl204, hTt204, hFf204⟩ := hq204
  have hW := hW.lx hl204
  refine LW_bif_ne (tgt := 212) dX11_readLine_207 (by decide) (fun c207 => ?_) (fun c207 => ?_)
  · have p204 := of_decide_eq_true c207
    have hx := hx.trans (pNums_s p204)
    obtain ⟨hT, h31⟩ := hTt204 c207
    replace h31 : Ic204 217 31 = _ := h31
    have hk204 := pNum_0 p204
    refine LW_aloadn 0 dX11_readLine_212 rfl rfl ?_
    refine gX11_31 dX11_readLine_213 flX11_237 (hY.lt (k := 217) (by decide)) (ly217 hY) ?_
    rw [show Ic204 217 31 = nI (vl B n (i + 1)) from h31]
    refine LW_istore (ls' := [(0, .ref 217), (1, .int (hc_b false)), (2, .int (hc_b false)), (3, .int (hc_b false)), (4, .int (hc_b false)), (5, .int (hc_b false)), (6, .int (hc_b true)), (7, .int (nI (vl B n (i + 1))))]) dX11_readLine_216 (by decide) rfl ?_
    refine LW_iloadn 1 dX11_readLine_218 rfl rfl ?_
    refine LW_bif_ne (tgt := 227) dX11_readLine_219 (by decide) (fun c219 => absurd (c219.symm.trans rfl) (by decide)) (fun c219 => ?_)
    refine LW_iload 5 dX11_readLine_222 rfl ?_
    refine LW_bif_eq (tgt := 279) dX11_readLine_224 (by decide) (fun c224 => ?_) (fun c224 => absurd (c224.symm.trans rfl) (by decide))
    refine LW_iload 5 dX11_readLine_279 rfl ?_
    refine LW_bif_eq (tgt := 292) dX11_readLine_281 (by decide) (fun c281 => ?_) (fun c281 => absurd (c281.symm.trans rfl) (by decide))
    refine LW_iloadn 2 dX11_readLine_292 rfl rfl ?_
    refine LW_bif_eq (tgt := 305) dX11_readLine_293 (by decide) (fun c293 => ?_) (fun c293 => absurd (c293.symm.trans rfl) (by decide))
    refine LW_iloadn 3 dX11_readLine_305 rfl rfl ?_
    refine LW_bif_eq (tgt := 318) dX11_readLine_306 (by decide) (fun c306 => ?_) (fun c306 => absurd (c306.symm.trans rfl) (by decide))
    refine LW_iload 4 dX11_readLine_318 rfl ?_
    refine LW_bif_eq (tgt := 334) dX11_readLine_320 (by decide) (fun c320 => ?_) (fun c320 => absurd (c320.symm.trans rfl) (by decide))
    refine LW_iload 6 dX11_readLine_334 rfl ?_
    refine LW_bif_eq (tgt := 348) dX11_readLine_336 (by decide) (fun c336 => absurd (c336.symm.trans rfl) (by decide)) (fun c336 => ?_)
    refine LW_aloadn 0 dX11_readLine_339 rfl rfl ?_
    refine LW_iload 7 dX11_readLine_340 rfl ?_
    refine pX11_16 dX11_readLine_342 flX11_106 (hY.lt (k := 217) (by decide)) (ly217 hY) ?_
    generalize hI342 : hc_u Ic204 217 16 (nI (vl B n (i + 1))) = I342
    refine LW_goto (tgt := 363) dX11_readLine_345 (by decide) ?_
    refine LW_iconst (v := 1) dX11_readLine_363 (by decide) ?_
    refine LW_zret dX11_readLine_364 rfl (Nat.le_of_ble_eq_true rfl) (Nat.le_of_ble_eq_true rfl) (Or.inr rfl) ?_
    have hT2 : TK I0 L0 n B Λ I342 Lc204 (i + 1 + 1) := by rw [← hI342]; exact hT.uI (by unfold rfZ; omega) (by unfold rfJ; omega) (by unfold LxJ; omega)
    have hW2 : TD I342 Lc204 (aSRu A 5 (lN (vl B n (i + 1)))) P := by rw [← hI342]; exact hW.ru (k := 5) (by omega) (Or.inr (Or.inr (Or.inl rfl)))
    exact TPost.yes (q := (i + 1 + 1, aSRu A 5 (lN (vl B n (i + 1))), P)) (show pLine (kd B n) (vl B n) i A P = .inr (i + 1 + 1, aSRu A 5 (lN (vl B n (i + 1))), P) by unfold pLine; rw [if_neg (by rw [hk]; decide), if_neg (by rw [hk]; decide), if_neg (by rw [hk]; decide), if_neg (by rw [hk]; decide), if_neg (by rw [hk]; decide), if_neg (by rw [hk]; decide), if_pos (by omega), hk]; show pDo (kd B n) (vl B n) [(0, 99)] (i + 1) (aSRu A 5 (lN (vl B n (i + 1)))) P = _; unfold pDo; rw [hx]; rfl) ⟨hT2, hW2, by show P.1 ≤ _; omega⟩
  · have p := of_decide_eq_false c207
    have hx := hx.trans (pNums_e p)
    have hF := hFf204 c207
    refine LW_iconst (v := 0) dX11_readLine_210 (by decide) ?_
    refine LW_zret dX11_readLine_211 rfl (Nat.le_of_ble_eq_true rfl) (Nat.le_of_ble_eq_true rfl) (Or.inl rfl) ?_
    exact TPost.no (show pLine (kd B n) (vl B n) i A P = .inl _ by unfold pLine; rw [if_neg (by rw [hk]; decide), if_neg (by rw [hk]; decide), if_neg (by rw [hk]; decide), if_neg (by rw [hk]; decide), if_neg (by rw [hk]; decide), if_neg (by rw [hk]; decide), if_pos (by omega), hk]; show pDo (kd B n) (vl B n) [(0, 99)] (i + 1) (aSRu A 5 (lN (vl B n (i + 1)))) P = _; unfold pDo; rw [hx]) hF
set_option maxRecDepth 100000 in
theorem rl_1009 {Λ : hc_L} {I : hc_I} {L : hc_J} {R : hc_R} {I0 : hc_I} {L0 : hc_J} {n i : Nat} {B : Nat → Nat} {A : AS} {P : LwP} (hw : TW I0 L0 n B Λ I L i A P) (hk : kd B n i = 1009) : Run xX11_readLine [.ref 217] Λ I L R (TPost I0 L0 n B (pLine (kd B n) (vl B n) i A P) Λ R) := by
  refine Run.of (by decide +kernel) (Nat.le_of_ble_eq_true rfl) ?_
  show LW _ _ _ [(0, .ref 217)] _ _ _ _ _ _
  have hY := hw.1.y
  obtain ⟨hT, hW, hPi⟩ := hw
  have hB := hT.b
  have hx : pNums (kd B n) (vl B n) [(0, 100)] (i + 1) = pNums (kd B n) (vl B n) [(0, 100)] (i + 1) := rfl
  refine LW_aloadn 0 dX11_readLine_0 rfl rfl ?_
  refine LW_ldcS (i := 1) dX11_readLine_1 rfl ?_
  refine LW_callV (As := [.ref (1000000 + 1)]) (b := 217) (st := []) (ci := 11) (r := (RX11, TX11, 44)) (r_isW hT (j := 1) (k := 1000) (by decide) (by decide) rfl) YX11_isWord rfl dX11_readLine_3 mlX11_183 (hY.lt (k := 217) (by decide)) (ly217 hY) ⟨rfl, rfl⟩ (by decide) ⟨Nat.le_of_ble_eq_true rfl, Nat.le_of_ble_eq_true rfl⟩ (Nat.le_of_ble_eq_true rfl) rfl (fun r3 Λc3 Ic3 Lc3 Rc3 hq3 => ?_)
  obtain ⟨rfl, rfl, rfl, rfl, rfl⟩ := hq3
  rw [show decide (kd B n i = 1000) = false from decide_eq_false (by rw [hk]; decide)]
  refine LW_bif_eq (tgt := 14) dX11_readLine_6 (by decide) (fun c6 => ?_) (fun c6 => absurd (c6.symm.trans rfl) (by decide))
  refine LW_aloadn 0 dX11_readLine_14 rfl rfl ?_
  refine LW_ldcS (i := 6) dX11_readLine_15 rfl ?_
  refine LW_callV (As := [.ref (1000000 + 6)]) (b := 217) (st := []) (ci := 11) (r := (RX11, TX11, 44)) (r_isW hT (j := 6) (k := 1001) (by decide) (by decide) rfl) YX11_isWord rfl dX11_readLine_17 mlX11_183 (hY.lt (k := 217) (by decide)) (ly217 hY) ⟨rfl, rfl⟩ (by decide) ⟨Nat.le_of_ble_eq_true rfl, Nat.le_of_ble_eq_true rfl⟩ (Nat.le_of_ble_eq_true rfl) rfl (fun r17 Λc17 Ic17 Lc17 Rc17 hq17 => ?_)
  obtain ⟨rfl, rfl, rfl, rfl, rfl⟩ := hq17
  rw [show decide (kd B n i = 1001) = false from decide_eq_false (by rw [hk]; decide)]
  refine LW_bif_eq (tgt := 28) dX11_readLine_20 (by decide) (fun c20 => ?_) (fun c20 => absurd (c20.symm.trans rfl) (by decide))
  refine LW_aloadn 0 dX11_readLine_28 rfl rfl ?_
  refine LW_ldcS (i := 3) dX11_readLine_29 rfl ?_
  refine LW_callV (As := [.ref (1000000 + 3)]) (b := 217) (st := []) (ci := 11) (r := (RX11, TX11, 44)) (r_isW hT (j := 3) (k := 1002) (by decide) (by decide) rfl) YX11_isWord rfl dX11_readLine_31 mlX11_183 (hY.lt (k := 217) (by decide)) (ly217 hY) ⟨rfl, rfl⟩ (by decide) ⟨Nat.le_of_ble_eq_true rfl, Nat.le_of_ble_eq_true rfl⟩ (Nat.le_of_ble_eq_true rfl) rfl (fun r31 Λc31 Ic31 Lc31 Rc31 hq31 => ?_)
  obtain ⟨rfl, rfl, rfl, rfl, rfl⟩ := hq31
  rw [show decide (kd B n i = 1002) = false from decide_eq_false (by rw [hk]; decide)]
  refine LW_bif_eq (tgt := 42) dX11_readLine_34 (by decide) (fun c34 => ?_) (fun c34 => absurd (c34.symm.trans rfl) (by decide))
  refine LW_aloadn 0 dX11_readLine_42 rfl rfl ?_
  refine LW_ldcS (i := 13) dX11_readLine_43 rfl ?_
  refine LW_callV (As := [.ref (1000000 + 13)]) (b := 217) (st := []) (ci := 11) (r := (RX11, TX11, 44)) (r_isW hT (j := 13) (k := 1010) (by decide) (by decide) rfl) YX11_isWord rfl dX11_readLine_45 mlX11_183 (hY.lt (k := 217) (by decide)) (ly217 hY) ⟨rfl, rfl⟩ (by decide) ⟨Nat.le_of_ble_eq_true rfl, Nat.le_of_ble_eq_true rfl⟩ (Nat.le_of_ble_eq_true rfl) rfl (fun r45 Λc45 Ic45 Lc45 Rc45 hq45 => ?_)
  obtain ⟨rfl, rfl, rfl, rfl, rfl⟩ := hq45
  rw [show decide (kd B n i = 1010) = false from decide_eq_false (by rw [hk]; decide)]
  refine LW_bif_eq (tgt := 56) dX11_readLine_48 (by decide) (fun c48 => ?_) (fun c48 => absurd (c48.symm.trans rfl) (by decide))
  refine LW_aloadn 0 dX11_readLine_56 rfl rfl ?_
  refine LW_ldcS (i := 5) dX11_readLine_57 rfl ?_
  refine LW_callV (As := [.ref (1000000 + 5)]) (b := 217) (st := []) (ci := 11) (r := (RX11, TX11, 44)) (r_isW hT (j := 5) (k := 1003) (by decide) (by decide) rfl) YX11_isWord rfl dX11_readLine_59 mlX11_183 (hY.lt (k := 217) (by decide)) (ly217 hY) ⟨rfl, rfl⟩ (by decide) ⟨Nat.le_of_ble_eq_true rfl, Nat.le_of_ble_eq_true rfl⟩ (Nat.le_of_ble_eq_true rfl) rfl (fun r59 Λc59 Ic59 Lc59 Rc59 hq59 => ?_)
  obtain ⟨rfl, rfl, rfl, rfl, rfl⟩ := hq59
  rw [show decide (kd B n i = 1003) = false from decide_eq_false (by rw [hk]; decide)]
  refine LW_istoren (ls' := [(0, .ref 217), (1, .int (hc_b false))]) dX11_readLine_62 rfl (by decide) rfl ?_
  refine LW_aloadn 0 dX11_readLine_63 rfl rfl ?_
  refine LW_ldcS (i := 7) dX11_readLine_64 rfl ?_
  refine LW_callV (As := [.ref (1000000 + 7)]) (b := 217) (st := []) (ci := 11) (r := (RX11, TX11, 44)) (r_isW hT (j := 7) (k := 1004) (by decide) (by decide) rfl) YX11_isWord rfl dX11_readLine_66 mlX11_183 (hY.lt (k := 217) (by decide)) (ly217 hY) ⟨rfl, rfl⟩ (by decide) ⟨Nat.le_of_ble_eq_true rfl, Nat.le_of_ble_eq_true rfl⟩ (Nat.le_of_ble_eq_true rfl) rfl (fun r66 Λc66 Ic66 Lc66 Rc66 hq66 => ?_)
  obtain ⟨rfl, rfl, rfl, rfl, rfl⟩ := hq66
  rw [show decide (kd B n i = 1004) = false from decide_eq_false (by rw [hk]; decide)]
  refine LW_istoren (ls' := [(0, .ref 217), (1, .int (hc_b false)), (2, .int (hc_b false))]) dX11_readLine_69 rfl (by decide) rfl ?_
  refine LW_aloadn 0 dX11_readLine_70 rfl rfl ?_
  refine LW_ldcS (i := 8) dX11_readLine_71 rfl ?_
  refine LW_callV (As := [.ref (1000000 + 8)]) (b := 217) (st := []) (ci := 11) (r := (RX11, TX11, 44)) (r_isW hT (j := 8) (k := 1005) (by decide) (by decide) rfl) YX11_isWord rfl dX11_readLine_73 mlX11_183 (hY.lt (k := 217) (by decide)) (ly217 hY) ⟨rfl, rfl⟩ (by decide) ⟨Nat.le_of_ble_eq_true rfl, Nat.le_of_ble_eq_true rfl⟩ (Nat.le_of_ble_eq_true rfl) rfl (fun r73 Λc73 Ic73 Lc73 Rc73 hq73 => ?_)
  obtain ⟨rfl, rfl, rfl, rfl, rfl⟩ := hq73
  rw [show decide (kd B n i = 1005) = false from decide_eq_false (by rw [hk]; decide)]
  refine LW_istoren (ls' := [(0, .ref 217), (1, .int (hc_b false)), (2, .int (hc_b false)), (3, .int (hc_b false))]) dX11_readLine_76 rfl (by decide) rfl ?_
  refine LW_aloadn 0 dX11_readLine_77 rfl rfl ?_
  refine LW_ldcS (i := 9) dX11_readLine_78 rfl ?_
  refine LW_callV (As := [.ref (1000000 + 9)]) (b := 217) (st := []) (ci := 11) (r := (RX11, TX11, 44)) (r_isW hT (j := 9) (k := 1006) (by decide) (by decide) rfl) YX11_isWord rfl dX11_readLine_80 mlX11_183 (hY.lt (k := 217) (by decide)) (ly217 hY) ⟨rfl, rfl⟩ (by decide) ⟨Nat.le_of_ble_eq_true rfl, Nat.le_of_ble_eq_true rfl⟩ (Nat.le_of_ble_eq_true rfl) rfl (fun r80 Λc80 Ic80 Lc80 Rc80 hq80 => ?_)
  obtain ⟨rfl, rfl, rfl, rfl, rfl⟩ := hq80
  rw [show decide (kd B n i = 1006) = false from decide_eq_false (by rw [hk]; decide)]
  refine LW_istore (ls' := [(0, .ref 217), (1, .int (hc_b false)), (2, .int (hc_b false)), (3, .int (hc_b false)), (4, .int (hc_b false))]) dX11_readLine_83 (by decide) rfl ?_
  refine LW_aloadn 0 dX11_readLine_85 rfl rfl ?_
  refine LW_ldcS (i := 10) dX11_readLine_86 rfl ?_
  refine LW_callV (As := [.ref (1000000 + 10)]) (b := 217) (st := []) (ci := 11) (r := (RX11, TX11, 44)) (r_isW hT (j := 10) (k := 1007) (by decide) (by decide) rfl) YX11_isWord rfl dX11_readLine_88 mlX11_183 (hY.lt (k := 217) (by decide)) (ly217 hY) ⟨rfl, rfl⟩ (by decide) ⟨Nat.le_of_ble_eq_true rfl, Nat.le_of_ble_eq_true rfl⟩ (Nat.le_of_ble_eq_true rfl) rfl (fun r88 Λc88 Ic88 Lc88 Rc88 hq88 => ?_)
  obtain ⟨rfl, rfl, rfl, rfl, rfl⟩ := hq88
  rw [show decide (kd B n i = 1007) = false from decide_eq_false (by rw [hk]; decide)]
  refine LW_istore (ls' := [(0, .ref 217), (1, .int (hc_b false)), (2, .int (hc_b false)), (3, .int (hc_b false)), (4, .int (hc_b false)), (5, .int (hc_b false))]) dX11_readLine_91 (by decide) rfl ?_
  refine LW_aloadn 0 dX11_readLine_93 rfl rfl ?_
  refine LW_ldcS (i := 11) dX11_readLine_94 rfl ?_
  refine LW_callV (As := [.ref (1000000 + 11)]) (b := 217) (st := []) (ci := 11) (r := (RX11, TX11, 44)) (r_isW hT (j := 11) (k := 1008) (by decide) (by decide) rfl) YX11_isWord rfl dX11_readLine_96 mlX11_183 (hY.lt (k := 217) (by decide)) (ly217 hY) ⟨rfl, rfl⟩ (by decide) ⟨Nat.le_of_ble_eq_true rfl, Nat.le_of_ble_eq_true rfl⟩ (Nat.le_of_ble_eq_true rfl) rfl (fun r96 Λc96 Ic96 Lc96 Rc96 hq96 => ?_)
  obtain ⟨rfl, rfl, rfl, rfl, rfl⟩ := hq96
  rw [show decide (kd B n i = 1008) = false from decide_eq_false (by rw [hk]; decide)]
  refine LW_istore (ls' := [(0, .ref 217), (1, .int (hc_b false)), (2, .int (hc_b false)), (3, .int (hc_b false)), (4, .int (hc_b false)), (5, .int (hc_b false)), (6, .int (hc_b false))]) dX11_readLine_99 (by decide) rfl ?_
  refine LW_iloadn 1 dX11_readLine_101 rfl rfl ?_
  refine LW_bif_ne (tgt := 143) dX11_readLine_102 (by decide) (fun c102 => absurd (c102.symm.trans rfl) (by decide)) (fun c102 => ?_)
  refine LW_iloadn 2 dX11_readLine_105 rfl rfl ?_
  refine LW_bif_ne (tgt := 143) dX11_readLine_106 (by decide) (fun c106 => absurd (c106.symm.trans rfl) (by decide)) (fun c106 => ?_)
  refine LW_iloadn 3 dX11_readLine_109 rfl rfl ?_
  refine LW_bif_ne (tgt := 143) dX11_readLine_110 (by decide) (fun c110 => absurd (c110.symm.trans rfl) (by decide)) (fun c110 => ?_)
  refine LW_iload 4 dX11_readLine_113 rfl ?_
  refine LW_bif_ne (tgt := 143) dX11_readLine_115 (by decide) (fun c115 => absurd (c115.symm.trans rfl) (by decide)) (fun c115 => ?_)
  refine LW_iload 5 dX11_readLine_118 rfl ?_
  refine LW_bif_ne (tgt := 143) dX11_readLine_120 (by decide) (fun c120 => absurd (c120.symm.trans rfl) (by decide)) (fun c120 => ?_)
  refine LW_iload 6 dX11_readLine_123 rfl ?_
  refine LW_bif_ne (tgt := 143) dX11_readLine_125 (by decide) (fun c125 => absurd (c125.symm.trans rfl) (by decide)) (fun c125 => ?_)
  refine LW_aloadn 0 dX11_readLine_128 rfl rfl ?_
  refine LW_ldcS (i := 12) dX11_readLine_129 rfl ?_
  refine LW_callV (As := [.ref (1000000 + 12)]) (b := 217) (st := []) (ci := 11) (r := (RX11, TX11, 44)) (r_isW hT (j := 12) (k := 1009) (by decide) (by decide) rfl) YX11_isWord rfl dX11_readLine_131 mlX11_183 (hY.lt (k := 217) (by decide)) (ly217 hY) ⟨rfl, rfl⟩ (by decide) ⟨Nat.le_of_ble_eq_true rfl, Nat.le_of_ble_eq_true rfl⟩ (Nat.le_of_ble_eq_true rfl) rfl (fun r131 Λc131 Ic131 Lc131 Rc131 hq131 => ?_)
  obtain ⟨rfl, rfl, rfl, rfl, rfl⟩ := hq131
  rw [show decide (kd B n i = 1009) = true from decide_eq_true hk]
  refine LW_bif_ne (tgt := 143) dX11_readLine_134 (by decide) (fun c134 => ?_) (fun c134 => absurd (c134.symm.trans rfl) (by decide))
  refine LW_aloadn 0 dX11_readLine_143 rfl rfl ?_
  refine LW_callV (As := []) (b := 217) (st := []) (ci := 11) (r := (RX11, TX11, 44)) (r_nx hT) YX11_next rfl dX11_readLine_144 mlX11_234 (hY.lt (k := 217) (by decide)) (ly217 hY) ⟨rfl, rfl⟩ (by decide) ⟨Nat.le_of_ble_eq_true rfl, Nat.le_of_ble_eq_true rfl⟩ (Nat.le_of_ble_eq_true rfl) rfl (fun r144 Λc144 Ic144 Lc144 Rc144 hq144 => ?_)
  obtain ⟨rfl, rfl, rfl, hl144, hT, hr144⟩ := hq144
  have hW := hW.lx hl144
  refine LW_aloadn 0 dX11_readLine_147 rfl rfl ?_
  refine LW_iconst (v := 0) dX11_readLine_148 (by decide) ?_
  refine LW_iloadn 1 dX11_readLine_149 rfl rfl ?_
  refine LW_bif_eq (tgt := 157) dX11_readLine_150 (by decide) (fun c150 => ?_) (fun c150 => absurd (c150.symm.trans rfl) (by decide))
  refine LW_iloadn 2 dX11_readLine_157 rfl rfl ?_
  refine LW_bif_eq (tgt := 167) dX11_readLine_158 (by decide) (fun c158 => ?_) (fun c158 => absurd (c158.symm.trans rfl) (by decide))
  refine LW_iloadn 3 dX11_readLine_167 rfl rfl ?_
  refine LW_bif_eq (tgt := 177) dX11_readLine_168 (by decide) (fun c168 => ?_) (fun c168 => absurd (c168.symm.trans rfl) (by decide))
  refine LW_iload 4 dX11_readLine_177 rfl ?_
  refine LW_bif_ne (tgt := 187) dX11_readLine_179 (by decide) (fun c179 => absurd (c179.symm.trans rfl) (by decide)) (fun c179 => ?_)
  refine LW_iload 5 dX11_readLine_182 rfl ?_
  refine LW_bif_eq (tgt := 192) dX11_readLine_184 (by decide) (fun c184 => ?_) (fun c184 => absurd (c184.symm.trans rfl) (by decide))
  refine LW_iload 6 dX11_readLine_192 rfl ?_
  refine LW_bif_eq (tgt := 202) dX11_readLine_194 (by decide) (fun c194 => ?_) (fun c194 => absurd (c194.symm.trans rfl) (by decide))
  refine LW_bipush (v := 100) dX11_readLine_202 (by decide) ?_
  refine LW_callV (As := [.int 0, .int 100]) (b := 217) (st := []) (ci := 11) (r := (RX11, TX11, 44)) (r_num hT (lo := 0) (hi := 100) (by decide) (by decide)) YX11_readNumber rfl dX11_readLine_204 mlX11_250 (hY.lt (k := 217) (by decide)) (ly217 hY) ⟨rfl, rfl⟩ (by decide) ⟨Nat.le_of_ble_eq_true rfl, Nat.le_of_ble_eq_true rfl⟩ (Nat.le_of_ble_eq_true rfl) rfl (fun r204 Λc204 Ic204 Lc204 Rc204 hq204 => ?_)
  obtain ⟨rfl, rfl, rfl, hl204, hTt204, hFf204⟩ := hq204
  have hW := hW.lx hl204
  refine LW_bif_ne (tgt := 212) dX11_readLine_207 (by decide) (fun c207 => ?_) (fun c207 => ?_)
  · have p204 := of_decide_eq_true c207
    have hx := hx.trans (pNums_s p204)
    obtain ⟨hT, h31⟩ := hTt204 c207
    replace h31 : Ic204 217 31 = _ := h31
    have hk204 := pNum_0 p204
    refine LW_aloadn 0 dX11_readLine_212 rfl rfl ?_
    refine gX11_31 dX11_readLine_213 flX11_237 (hY.lt (k := 217) (by decide)) (ly217 hY) ?_
    rw [show Ic204 217 31 = nI (vl B n (i + 1)) from h31]
    refine LW_istore (ls' := [(0, .ref 217), (1, .int (hc_b false)), (2, .int (hc_b false)), (3, .int (hc_b false)), (4, .int (hc_b false)), (5, .int (hc_b false)), (6, .int (hc_b false)), (7, .int (nI (vl B n (i + 1))))]) dX11_readLine_216 (by decide) rfl ?_
    refine LW_iloadn 1 dX11_readLine_218 rfl rfl ?_
    refine LW_bif_ne (tgt := 227) dX11_readLine_219 (by decide) (fun c219 => absurd (c219.symm.trans rfl) (by decide)) (fun c219 => ?_)
    refine LW_iload 5 dX11_readLine_222 rfl ?_
    refine LW_bif_eq (tgt := 279) dX11_readLine_224 (by decide) (fun c224 => ?_) (fun c224 => absurd (c224.symm.trans rfl) (by decide))
    refine LW_iload 5 dX11_readLine_279 rfl ?_
    refine LW_bif_eq (tgt := 292) dX11_readLine_281 (by decide) (fun c281 => ?_) (fun c281 => absurd (c281.symm.trans rfl) (by decide))
    refine LW_iloadn 2 dX11_readLine_292 rfl rfl ?_
    refine LW_bif_eq (tgt := 305) dX11_readLine_293 (by decide) (fun c293 => ?_) (fun c293 => absurd (c293.symm.trans rfl) (by decide))
    refine LW_iloadn 3 dX11_readLine_305 rfl rfl ?_
    refine LW_bif_eq (tgt := 318) dX11_readLine_306 (by decide) (fun c306 => ?_) (fun c306 => absurd (c306.symm.trans rfl) (by decide))
    refine LW_iload 4 dX11_readLine_318 rfl ?_
    refine LW_bif_eq (tgt := 334) dX11_readLine_320 (by decide) (fun c320 => ?_) (fun c320 => absurd (c320.symm.trans rfl) (by decide))
    refine LW_iload 6 dX11_readLine_334 rfl ?_
    refine LW_bif_eq (tgt := 348) dX11_readLine_336 (by decide) (fun c336 => ?_) (fun c336 => absurd (c336.symm.trans rfl) (by decide))
    refine LW_iloadn 1 dX11_readLine_348 rfl rfl ?_
    refine LW_bif_ne (tgt := 363) dX11_readLine_349 (by decide) (fun c349 => absurd (c349.symm.trans rfl) (by decide)) (fun c349 => ?_)
    refine LW_iload 5 dX11_readLine_352 rfl ?_
    refine LW_bif_ne (tgt := 363) dX11_readLine_354 (by decide) (fun c354 => absurd (c354.symm.trans rfl) (by decide)) (fun c354 => ?_)
    refine LW_aloadn 0 dX11_readLine_357 rfl rfl ?_
    refine LW_iload 7 dX11_readLine_358 rfl ?_
    refine pX11_17 dX11_readLine_360 flX11_109 (hY.lt (k := 217) (by decide)) (ly217 hY) ?_
    generalize hI360 : hc_u Ic204 217 17 (nI (vl B n (i + 1))) = I360
    refine LW_iconst (v := 1) dX11_readLine_363 (by decide) ?_
    refine LW_zret dX11_readLine_364 rfl (Nat.le_of_ble_eq_true rfl) (Nat.le_of_ble_eq_true rfl) (Or.inr rfl) ?_
    have hT2 : TK I0 L0 n B Λ I360 Lc204 (i + 1 + 1) := by rw [← hI360]; exact hT.uI (by unfold rfZ; omega) (by unfold rfJ; omega) (by unfold LxJ; omega)
    have hW2 : TD I360 Lc204 (aSRu A 6 (lN (vl B n (i + 1)))) P := by rw [← hI360]; exact hW.ru (k := 6) (by omega) (Or.inr (Or.inr (Or.inr rfl)))
    exact TPost.yes (q := (i + 1 + 1, aSRu A 6 (lN (vl B n (i + 1))), P)) (show pLine (kd B n) (vl B n) i A P = .inr (i + 1 + 1, aSRu A 6 (lN (vl B n (i + 1))), P) by unfold pLine; rw [if_neg (by rw [hk]; decide), if_neg (by rw [hk]; decide), if_neg (by rw [hk]; decide), if_neg (by rw [hk]; decide), if_neg (by rw [hk]; decide), if_neg (by rw [hk]; decide), if_pos (by omega), hk]; show pDo (kd B n) (vl B n) [(0, 100)] (i + 1) (aSRu A 6 (lN (vl B n (i + 1)))) P = _; unfold pDo; rw [hx]; rfl) ⟨hT2, hW2, by show P.1 ≤ _; omega⟩
  · have p := of_decide_eq_false c207
    have hx := hx.trans (pNums_e p)
    have hF := hFf204 c207
    refine LW_iconst (v := 0) dX11_readLine_210 (by decide) ?_
    refine LW_zret dX11_readLine_211 rfl (Nat.le_of_ble_eq_true rfl) (Nat.le_of_ble_eq_true rfl) (Or.inl rfl) ?_
    exact TPost.no (show pLine (kd B n) (vl B n) i A P = .inl _ by unfold pLine; rw [if_neg (by rw [hk]; decide), if_neg (by rw [hk]; decide), if_neg (by rw [hk]; decide), if_neg (by rw [hk]; decide), if_neg (by rw [hk]; decide), if_neg (by rw [hk]; decide), if_pos (by omega), hk]; show pDo (kd B n) (vl B n) [(0, 100)] (i + 1) (aSRu A 6 (lN (vl B n (i + 1)))) P = _; unfold pDo; rw [hx]) hF
set_option maxRecDepth 100000 in
theorem rl_1000 {Λ : hc_L} {I : hc_I} {L : hc_J} {R : hc_R} {I0 : hc_I} {L0 : hc_J} {n i : Nat} {B : Nat → Nat} {A : AS} {P : LwP} (hw : TW I0 L0 n B Λ I L i A P) (hk : kd B n i = 1000) : Run xX11_readLine [.ref 217] Λ I L R (TPost I0 L0 n B (pLine (kd B n) (vl B n) i A P) Λ R) := by
  refine Run.of (by decide +kernel) (Nat.le_of_ble_eq_true rfl) ?_
  show LW _ _ _ [(0, .ref 217)] _ _ _ _ _ _
  have hw0 := hw
  have hY := hw.1.y
  obtain ⟨hT, hW, hPi⟩ := hw0
  have hB := hT.b
  refine LW_aloadn 0 dX11_readLine_0 rfl rfl ?_
  refine LW_ldcS (i := 1) dX11_readLine_1 rfl ?_
  refine LW_callV (As := [.ref (1000000 + 1)]) (b := 217) (st := []) (ci := 11) (r := (RX11, TX11, 44)) (r_isW hT (j := 1) (k := 1000) (by decide) (by decide) rfl) YX11_isWord rfl dX11_readLine_3 mlX11_183 (hY.lt (k := 217) (by decide)) (ly217 hY) ⟨rfl, rfl⟩ (by decide) ⟨Nat.le_of_ble_eq_true rfl, Nat.le_of_ble_eq_true rfl⟩ (Nat.le_of_ble_eq_true rfl) rfl (fun r3 Λc3 Ic3 Lc3 Rc3 hq3 => ?_)
  obtain ⟨rfl, rfl, rfl, rfl, rfl⟩ := hq3
  rw [show decide (kd B n i = 1000) = true from decide_eq_true hk]
  refine LW_bif_eq (tgt := 14) dX11_readLine_6 (by decide) (fun c6 => absurd (c6.symm.trans rfl) (by decide)) (fun c6 => ?_)
  refine LW_aloadn 0 dX11_readLine_9 rfl rfl ?_
  refine LW_callV (As := []) (b := 217) (st := []) (ci := 11) (r := (RX11, TX11, 44)) (rm_member hw) YX11_readMember rfl dX11_readLine_10 mlX11_257 (hY.lt (k := 217) (by decide)) (ly217 hY) ⟨rfl, rfl⟩ (by decide) ⟨Nat.le_of_ble_eq_true rfl, Nat.le_of_ble_eq_true rfl⟩ (Nat.le_of_ble_eq_true rfl) rfl (fun r10 Λc10 Ic10 Lc10 Rc10 hq10 => ?_)
  obtain ⟨rfl, hq210⟩ := hq10
  refine LW_zret dX11_readLine_13 rfl (Nat.le_of_ble_eq_true rfl) (Nat.le_of_ble_eq_true rfl) (hc_b01 _) ?_
  have hx : pLine (kd B n) (vl B n) i A P = pMember (kd B n) (vl B n) i A P := by unfold pLine; rw [if_pos hk]
  rw [hx]
  exact ⟨rfl, hq210⟩
set_option maxRecDepth 100000 in
theorem rl_1001 {Λ : hc_L} {I : hc_I} {L : hc_J} {R : hc_R} {I0 : hc_I} {L0 : hc_J} {n i : Nat} {B : Nat → Nat} {A : AS} {P : LwP} (hw : TW I0 L0 n B Λ I L i A P) (hk : kd B n i = 1001) : Run xX11_readLine [.ref 217] Λ I L R (TPost I0 L0 n B (pLine (kd B n) (vl B n) i A P) Λ R) := by
  refine Run.of (by decide +kernel) (Nat.le_of_ble_eq_true rfl) ?_
  show LW _ _ _ [(0, .ref 217)] _ _ _ _ _ _
  have hw0 := hw
  have hY := hw.1.y
  obtain ⟨hT, hW, hPi⟩ := hw0
  have hB := hT.b
  refine LW_aloadn 0 dX11_readLine_0 rfl rfl ?_
  refine LW_ldcS (i := 1) dX11_readLine_1 rfl ?_
  refine LW_callV (As := [.ref (1000000 + 1)]) (b := 217) (st := []) (ci := 11) (r := (RX11, TX11, 44)) (r_isW hT (j := 1) (k := 1000) (by decide) (by decide) rfl) YX11_isWord rfl dX11_readLine_3 mlX11_183 (hY.lt (k := 217) (by decide)) (ly217 hY) ⟨rfl, rfl⟩ (by decide) ⟨Nat.le_of_ble_eq_true rfl, Nat.le_of_ble_eq_true rfl⟩ (Nat.le_of_ble_eq_true rfl) rfl (fun r3 Λc3 Ic3 Lc3 Rc3 hq3 => ?_)
  obtain ⟨rfl, rfl, rfl, rfl, rfl⟩ := hq3
  rw [show decide (kd B n i = 1000) = false from decide_eq_false (by rw [hk]; decide)]
  refine LW_bif_eq (tgt := 14) dX11_readLine_6 (by decide) (fun c6 => ?_) (fun c6 => absurd (c6.symm.trans rfl) (by decide))
  refine LW_aloadn 0 dX11_readLine_14 rfl rfl ?_
  refine LW_ldcS (i := 6) dX11_readLine_15 rfl ?_
  refine LW_callV (As := [.ref (1000000 + 6)]) (b := 217) (st := []) (ci := 11) (r := (RX11, TX11, 44)) (r_isW hT (j := 6) (k := 1001) (by decide) (by decide) rfl) YX11_isWord rfl dX11_readLine_17 mlX11_183 (hY.lt (k := 217) (by decide)) (ly217 hY) ⟨rfl, rfl⟩ (by decide) ⟨Nat.le_of_ble_eq_true rfl, Nat.le_of_ble_eq_true rfl⟩ (Nat.le_of_ble_eq_true rfl) rfl (fun r17 Λc17 Ic17 Lc17 Rc17 hq17 => ?_)
  obtain ⟨rfl, rfl, rfl, rfl, rfl⟩ := hq17
  rw [show decide (kd B n i = 1001) = true from decide_eq_true hk]
  refine LW_bif_eq (tgt := 28) dX11_readLine_20 (by decide) (fun c20 => absurd (c20.symm.trans rfl) (by decide)) (fun c20 => ?_)
  refine LW_aloadn 0 dX11_readLine_23 rfl rfl ?_
  refine LW_callV (As := []) (b := 217) (st := []) (ci := 11) (r := (RX11, TX11, 44)) (rm_field hw) YX11_readField rfl dX11_readLine_24 mlX11_260 (hY.lt (k := 217) (by decide)) (ly217 hY) ⟨rfl, rfl⟩ (by decide) ⟨Nat.le_of_ble_eq_true rfl, Nat.le_of_ble_eq_true rfl⟩ (Nat.le_of_ble_eq_true rfl) rfl (fun r24 Λc24 Ic24 Lc24 Rc24 hq24 => ?_)
  obtain ⟨rfl, hq224⟩ := hq24
  refine LW_zret dX11_readLine_27 rfl (Nat.le_of_ble_eq_true rfl) (Nat.le_of_ble_eq_true rfl) (hc_b01 _) ?_
  have hx : pLine (kd B n) (vl B n) i A P = pField (kd B n) (vl B n) i A P := by unfold pLine; rw [if_neg (by rw [hk]; decide), if_pos hk]
  rw [hx]
  exact ⟨rfl, hq224⟩
set_option maxRecDepth 100000 in
theorem rl_1002 {Λ : hc_L} {I : hc_I} {L : hc_J} {R : hc_R} {I0 : hc_I} {L0 : hc_J} {n i : Nat} {B : Nat → Nat} {A : AS} {P : LwP} (hw : TW I0 L0 n B Λ I L i A P) (hk : kd B n i = 1002) : Run xX11_readLine [.ref 217] Λ I L R (TPost I0 L0 n B (pLine (kd B n) (vl B n) i A P) Λ R) := by
  refine Run.of (by decide +kernel) (Nat.le_of_ble_eq_true rfl) ?_
  show LW _ _ _ [(0, .ref 217)] _ _ _ _ _ _
  have hw0 := hw
  have hY := hw.1.y
  obtain ⟨hT, hW, hPi⟩ := hw0
  have hB := hT.b
  refine LW_aloadn 0 dX11_readLine_0 rfl rfl ?_
  refine LW_ldcS (i := 1) dX11_readLine_1 rfl ?_
  refine LW_callV (As := [.ref (1000000 + 1)]) (b := 217) (st := []) (ci := 11) (r := (RX11, TX11, 44)) (r_isW hT (j := 1) (k := 1000) (by decide) (by decide) rfl) YX11_isWord rfl dX11_readLine_3 mlX11_183 (hY.lt (k := 217) (by decide)) (ly217 hY) ⟨rfl, rfl⟩ (by decide) ⟨Nat.le_of_ble_eq_true rfl, Nat.le_of_ble_eq_true rfl⟩ (Nat.le_of_ble_eq_true rfl) rfl (fun r3 Λc3 Ic3 Lc3 Rc3 hq3 => ?_)
  obtain ⟨rfl, rfl, rfl, rfl, rfl⟩ := hq3
  rw [show decide (kd B n i = 1000) = false from decide_eq_false (by rw [hk]; decide)]
  refine LW_bif_eq (tgt := 14) dX11_readLine_6 (by decide) (fun c6 => ?_) (fun c6 => absurd (c6.symm.trans rfl) (by decide))
  refine LW_aloadn 0 dX11_readLine_14 rfl rfl ?_
  refine LW_ldcS (i := 6) dX11_readLine_15 rfl ?_
  refine LW_callV (As := [.ref (1000000 + 6)]) (b := 217) (st := []) (ci := 11) (r := (RX11, TX11, 44)) (r_isW hT (j := 6) (k := 1001) (by decide) (by decide) rfl) YX11_isWord rfl dX11_readLine_17 mlX11_183 (hY.lt (k := 217) (by decide)) (ly217 hY) ⟨rfl, rfl⟩ (by decide) ⟨Nat.le_of_ble_eq_true rfl, Nat.le_of_ble_eq_true rfl⟩ (Nat.le_of_ble_eq_true rfl) rfl (fun r17 Λc17 Ic17 Lc17 Rc17 hq17 => ?_)
  obtain ⟨rfl, rfl, rfl, rfl, rfl⟩ := hq17
  rw [show decide (kd B n i = 1001) = false from decide_eq_false (by rw [hk]; decide)]
  refine LW_bif_eq (tgt := 28) dX11_readLine_20 (by decide) (fun c20 => ?_) (fun c20 => absurd (c20.symm.trans rfl) (by decide))
  refine LW_aloadn 0 dX11_readLine_28 rfl rfl ?_
  refine LW_ldcS (i := 3) dX11_readLine_29 rfl ?_
  refine LW_callV (As := [.ref (1000000 + 3)]) (b := 217) (st := []) (ci := 11) (r := (RX11, TX11, 44)) (r_isW hT (j := 3) (k := 1002) (by decide) (by decide) rfl) YX11_isWord rfl dX11_readLine_31 mlX11_183 (hY.lt (k := 217) (by decide)) (ly217 hY) ⟨rfl, rfl⟩ (by decide) ⟨Nat.le_of_ble_eq_true rfl, Nat.le_of_ble_eq_true rfl⟩ (Nat.le_of_ble_eq_true rfl) rfl (fun r31 Λc31 Ic31 Lc31 Rc31 hq31 => ?_)
  obtain ⟨rfl, rfl, rfl, rfl, rfl⟩ := hq31
  rw [show decide (kd B n i = 1002) = true from decide_eq_true hk]
  refine LW_bif_eq (tgt := 42) dX11_readLine_34 (by decide) (fun c34 => absurd (c34.symm.trans rfl) (by decide)) (fun c34 => ?_)
  refine LW_aloadn 0 dX11_readLine_37 rfl rfl ?_
  refine LW_callV (As := []) (b := 217) (st := []) (ci := 11) (r := (RX11, TX11, 44)) (rm_hazard hw) YX11_readHazard rfl dX11_readLine_38 mlX11_263 (hY.lt (k := 217) (by decide)) (ly217 hY) ⟨rfl, rfl⟩ (by decide) ⟨Nat.le_of_ble_eq_true rfl, Nat.le_of_ble_eq_true rfl⟩ (Nat.le_of_ble_eq_true rfl) rfl (fun r38 Λc38 Ic38 Lc38 Rc38 hq38 => ?_)
  obtain ⟨rfl, hq238⟩ := hq38
  refine LW_zret dX11_readLine_41 rfl (Nat.le_of_ble_eq_true rfl) (Nat.le_of_ble_eq_true rfl) (hc_b01 _) ?_
  have hx : pLine (kd B n) (vl B n) i A P = pHazard (kd B n) (vl B n) i A P := by unfold pLine; rw [if_neg (by rw [hk]; decide), if_neg (by rw [hk]; decide), if_pos hk]
  rw [hx]
  exact ⟨rfl, hq238⟩
set_option maxRecDepth 100000 in
theorem rl_else {Λ : hc_L} {I : hc_I} {L : hc_J} {R : hc_R} {I0 : hc_I} {L0 : hc_J} {n i : Nat} {B : Nat → Nat} {A : AS} {P : LwP} (hw : TW I0 L0 n B Λ I L i A P) (hk : ¬ (1000 ≤ kd B n i ∧ kd B n i ≤ 1010)) : Run xX11_readLine [.ref 217] Λ I L R (TPost I0 L0 n B (pLine (kd B n) (vl B n) i A P) Λ R) := by
  refine Run.of (by decide +kernel) (Nat.le_of_ble_eq_true rfl) ?_
  show LW _ _ _ [(0, .ref 217)] _ _ _ _ _ _
  have hY := hw.1.y
  obtain ⟨hT, hW, hPi⟩ := hw
  have hB := hT.b
  refine LW_aloadn 0 dX11_readLine_0 rfl rfl ?_
  refine LW_ldcS (i := 1) dX11_readLine_1 rfl ?_
  refine LW_callV (As := [.ref (1000000 + 1)]) (b := 217) (st := []) (ci := 11) (r := (RX11, TX11, 44)) (r_isW hT (j := 1) (k := 1000) (by decide) (by decide) rfl) YX11_isWord rfl dX11_readLine_3 mlX11_183 (hY.lt (k := 217) (by decide)) (ly217 hY) ⟨rfl, rfl⟩ (by decide) ⟨Nat.le_of_ble_eq_true rfl, Nat.le_of_ble_eq_true rfl⟩ (Nat.le_of_ble_eq_true rfl) rfl (fun r3 Λc3 Ic3 Lc3 Rc3 hq3 => ?_)
  obtain ⟨rfl, rfl, rfl, rfl, rfl⟩ := hq3
  rw [show decide (kd B n i = 1000) = false from decide_eq_false (by omega)]
  refine LW_bif_eq (tgt := 14) dX11_readLine_6 (by decide) (fun c6 => ?_) (fun c6 => absurd (c6.symm.trans rfl) (by decide))
  refine LW_aloadn 0 dX11_readLine_14 rfl rfl ?_
  refine LW_ldcS (i := 6) dX11_readLine_15 rfl ?_
  refine LW_callV (As := [.ref (1000000 + 6)]) (b := 217) (st := []) (ci := 11) (r := (RX11, TX11, 44)) (r_isW hT (j := 6) (k := 1001) (by decide) (by decide) rfl) YX11_isWord rfl dX11_readLine_17 mlX11_183 (hY.lt (k := 217) (by decide)) (ly217 hY) ⟨rfl, rfl⟩ (by decide) ⟨Nat.le_of_ble_eq_true rfl, Nat.le_of_ble_eq_true rfl⟩ (Nat.le_of_ble_eq_true rfl) rfl (fun r17 Λc17 Ic17 Lc17 Rc17 hq17 => ?_)
  obtain ⟨rfl, rfl, rfl, rfl, rfl⟩ := hq17
  rw [show decide (kd B n i = 1001) = false from decide_eq_false (by omega)]
  refine LW_bif_eq (tgt := 28) dX11_readLine_20 (by decide) (fun c20 => ?_) (fun c20 => absurd (c20.symm.trans rfl) (by decide))
  refine LW_aloadn 0 dX11_readLine_28 rfl rfl ?_
  refine LW_ldcS (i := 3) dX11_readLine_29 rfl ?_
  refine LW_callV (As := [.ref (1000000 + 3)]) (b := 217) (st := []) (ci := 11) (r := (RX11, TX11, 44)) (r_isW hT (j := 3) (k := 1002) (by decide) (by decide) rfl) YX11_isWord rfl dX11_readLine_31 mlX11_183 (hY.lt (k := 217) (by decide)) (ly217 hY) ⟨rfl, rfl⟩ (by decide) ⟨Nat.le_of_ble_eq_true rfl, Nat.le_of_ble_eq_true rfl⟩ (Nat.le_of_ble_eq_true rfl) rfl (fun r31 Λc31 Ic31 Lc31 Rc31 hq31 => ?_)
  obtain ⟨rfl, rfl, rfl, rfl, rfl⟩ := hq31
  rw [show decide (kd B n i = 1002) = false from decide_eq_false (by omega)]
  refine LW_bif_eq (tgt := 42) dX11_readLine_34 (by decide) (fun c34 => ?_) (fun c34 => absurd (c34.symm.trans rfl) (by decide))
  refine LW_aloadn 0 dX11_readLine_42 rfl rfl ?_
  refine LW_ldcS (i := 13) dX11_readLine_43 rfl ?_
  refine LW_callV (As := [.ref (1000000 + 13)]) (b := 217) (st := []) (ci := 11) (r := (RX11, TX11, 44)) (r_isW hT (j := 13) (k := 1010) (by decide) (by decide) rfl) YX11_isWord rfl dX11_readLine_45 mlX11_183 (hY.lt (k := 217) (by decide)) (ly217 hY) ⟨rfl, rfl⟩ (by decide) ⟨Nat.le_of_ble_eq_true rfl, Nat.le_of_ble_eq_true rfl⟩ (Nat.le_of_ble_eq_true rfl) rfl (fun r45 Λc45 Ic45 Lc45 Rc45 hq45 => ?_)
  obtain ⟨rfl, rfl, rfl, rfl, rfl⟩ := hq45
  rw [show decide (kd B n i = 1010) = false from decide_eq_false (by omega)]
  refine LW_bif_eq (tgt := 56) dX11_readLine_48 (by decide) (fun c48 => ?_) (fun c48 => absurd (c48.symm.trans rfl) (by decide))
  refine LW_aloadn 0 dX11_readLine_56 rfl rfl ?_
  refine LW_ldcS (i := 5) dX11_readLine_57 rfl ?_
  refine LW_callV (As := [.ref (1000000 + 5)]) (b := 217) (st := []) (ci := 11) (r := (RX11, TX11, 44)) (r_isW hT (j := 5) (k := 1003) (by decide) (by decide) rfl) YX11_isWord rfl dX11_readLine_59 mlX11_183 (hY.lt (k := 217) (by decide)) (ly217 hY) ⟨rfl, rfl⟩ (by decide) ⟨Nat.le_of_ble_eq_true rfl, Nat.le_of_ble_eq_true rfl⟩ (Nat.le_of_ble_eq_true rfl) rfl (fun r59 Λc59 Ic59 Lc59 Rc59 hq59 => ?_)
  obtain ⟨rfl, rfl, rfl, rfl, rfl⟩ := hq59
  rw [show decide (kd B n i = 1003) = false from decide_eq_false (by omega)]
  refine LW_istoren (ls' := [(0, .ref 217), (1, .int (hc_b false))]) dX11_readLine_62 rfl (by decide) rfl ?_
  refine LW_aloadn 0 dX11_readLine_63 rfl rfl ?_
  refine LW_ldcS (i := 7) dX11_readLine_64 rfl ?_
  refine LW_callV (As := [.ref (1000000 + 7)]) (b := 217) (st := []) (ci := 11) (r := (RX11, TX11, 44)) (r_isW hT (j := 7) (k := 1004) (by decide) (by decide) rfl) YX11_isWord rfl dX11_readLine_66 mlX11_183 (hY.lt (k := 217) (by decide)) (ly217 hY) ⟨rfl, rfl⟩ (by decide) ⟨Nat.le_of_ble_eq_true rfl, Nat.le_of_ble_eq_true rfl⟩ (Nat.le_of_ble_eq_true rfl) rfl (fun r66 Λc66 Ic66 Lc66 Rc66 hq66 => ?_)
  obtain ⟨rfl, rfl, rfl, rfl, rfl⟩ := hq66
  rw [show decide (kd B n i = 1004) = false from decide_eq_false (by omega)]
  refine LW_istoren (ls' := [(0, .ref 217), (1, .int (hc_b false)), (2, .int (hc_b false))]) dX11_readLine_69 rfl (by decide) rfl ?_
  refine LW_aloadn 0 dX11_readLine_70 rfl rfl ?_
  refine LW_ldcS (i := 8) dX11_readLine_71 rfl ?_
  refine LW_callV (As := [.ref (1000000 + 8)]) (b := 217) (st := []) (ci := 11) (r := (RX11, TX11, 44)) (r_isW hT (j := 8) (k := 1005) (by decide) (by decide) rfl) YX11_isWord rfl dX11_readLine_73 mlX11_183 (hY.lt (k := 217) (by decide)) (ly217 hY) ⟨rfl, rfl⟩ (by decide) ⟨Nat.le_of_ble_eq_true rfl, Nat.le_of_ble_eq_true rfl⟩ (Nat.le_of_ble_eq_true rfl) rfl (fun r73 Λc73 Ic73 Lc73 Rc73 hq73 => ?_)
  obtain ⟨rfl, rfl, rfl, rfl, rfl⟩ := hq73
  rw [show decide (kd B n i = 1005) = false from decide_eq_false (by omega)]
  refine LW_istoren (ls' := [(0, .ref 217), (1, .int (hc_b false)), (2, .int (hc_b false)), (3, .int (hc_b false))]) dX11_readLine_76 rfl (by decide) rfl ?_
  refine LW_aloadn 0 dX11_readLine_77 rfl rfl ?_
  refine LW_ldcS (i := 9) dX11_readLine_78 rfl ?_
  refine LW_callV (As := [.ref (1000000 + 9)]) (b := 217) (st := []) (ci := 11) (r := (RX11, TX11, 44)) (r_isW hT (j := 9) (k := 1006) (by decide) (by decide) rfl) YX11_isWord rfl dX11_readLine_80 mlX11_183 (hY.lt (k := 217) (by decide)) (ly217 hY) ⟨rfl, rfl⟩ (by decide) ⟨Nat.le_of_ble_eq_true rfl, Nat.le_of_ble_eq_true rfl⟩ (Nat.le_of_ble_eq_true rfl) rfl (fun r80 Λc80 Ic80 Lc80 Rc80 hq80 => ?_)
  obtain ⟨rfl, rfl, rfl, rfl, rfl⟩ := hq80
  rw [show decide (kd B n i = 1006) = false from decide_eq_false (by omega)]
  refine LW_istore (ls' := [(0, .ref 217), (1, .int (hc_b false)), (2, .int (hc_b false)), (3, .int (hc_b false)), (4, .int (hc_b false))]) dX11_readLine_83 (by decide) rfl ?_
  refine LW_aloadn 0 dX11_readLine_85 rfl rfl ?_
  refine LW_ldcS (i := 10) dX11_readLine_86 rfl ?_
  refine LW_callV (As := [.ref (1000000 + 10)]) (b := 217) (st := []) (ci := 11) (r := (RX11, TX11, 44)) (r_isW hT (j := 10) (k := 1007) (by decide) (by decide) rfl) YX11_isWord rfl dX11_readLine_88 mlX11_183 (hY.lt (k := 217) (by decide)) (ly217 hY) ⟨rfl, rfl⟩ (by decide) ⟨Nat.le_of_ble_eq_true rfl, Nat.le_of_ble_eq_true rfl⟩ (Nat.le_of_ble_eq_true rfl) rfl (fun r88 Λc88 Ic88 Lc88 Rc88 hq88 => ?_)
  obtain ⟨rfl, rfl, rfl, rfl, rfl⟩ := hq88
  rw [show decide (kd B n i = 1007) = false from decide_eq_false (by omega)]
  refine LW_istore (ls' := [(0, .ref 217), (1, .int (hc_b false)), (2, .int (hc_b false)), (3, .int (hc_b false)), (4, .int (hc_b false)), (5, .int (hc_b false))]) dX11_readLine_91 (by decide) rfl ?_
  refine LW_aloadn 0 dX11_readLine_93 rfl rfl ?_
  refine LW_ldcS (i := 11) dX11_readLine_94 rfl ?_
  refine LW_callV (As := [.ref (1000000 + 11)]) (b := 217) (st := []) (ci := 11) (r := (RX11, TX11, 44)) (r_isW hT (j := 11) (k := 1008) (by decide) (by decide) rfl) YX11_isWord rfl dX11_readLine_96 mlX11_183 (hY.lt (k := 217) (by decide)) (ly217 hY) ⟨rfl, rfl⟩ (by decide) ⟨Nat.le_of_ble_eq_true rfl, Nat.le_of_ble_eq_true rfl⟩ (Nat.le_of_ble_eq_true rfl) rfl (fun r96 Λc96 Ic96 Lc96 Rc96 hq96 => ?_)
  obtain ⟨rfl, rfl, rfl, rfl, rfl⟩ := hq96
  rw [show decide (kd B n i = 1008) = false from decide_eq_false (by omega)]
  refine LW_istore (ls' := [(0, .ref 217), (1, .int (hc_b false)), (2, .int (hc_b false)), (3, .int (hc_b false)), (4, .int (hc_b false)), (5, .int (hc_b false)), (6, .int (hc_b false))]) dX11_readLine_99 (by decide) rfl ?_
  refine LW_iloadn 1 dX11_readLine_101 rfl rfl ?_
  refine LW_bif_ne (tgt := 143) dX11_readLine_102 (by decide) (fun c102 => absurd (c102.symm.trans rfl) (by decide)) (fun c102 => ?_)
  refine LW_iloadn 2 dX11_readLine_105 rfl rfl ?_
  refine LW_bif_ne (tgt := 143) dX11_readLine_106 (by decide) (fun c106 => absurd (c106.symm.trans rfl) (by decide)) (fun c106 => ?_)
  refine LW_iloadn 3 dX11_readLine_109 rfl rfl ?_
  refine LW_bif_ne (tgt := 143) dX11_readLine_110 (by decide) (fun c110 => absurd (c110.symm.trans rfl) (by decide)) (fun c110 => ?_)
  refine LW_iload 4 dX11_readLine_113 rfl ?_
  refine LW_bif_ne (tgt := 143) dX11_readLine_115 (by decide) (fun c115 => absurd (c115.symm.trans rfl) (by decide)) (fun c115 => ?_)
  refine LW_iload 5 dX11_readLine_118 rfl ?_
  refine LW_bif_ne (tgt := 143) dX11_readLine_120 (by decide) (fun c120 => absurd (c120.symm.trans rfl) (by decide)) (fun c120 => ?_)
  refine LW_iload 6 dX11_readLine_123 rfl ?_
  refine LW_bif_ne (tgt := 143) dX11_readLine_125 (by decide) (fun c125 => absurd (c125.symm.trans rfl) (by decide)) (fun c125 => ?_)
  refine LW_aloadn 0 dX11_readLine_128 rfl rfl ?_
  refine LW_ldcS (i := 12) dX11_readLine_129 rfl ?_
  refine LW_callV (As := [.ref (1000000 + 12)]) (b := 217) (st := []) (ci := 11) (r := (RX11, TX11, 44)) (r_isW hT (j := 12) (k := 1009) (by decide) (by decide) rfl) YX11_isWord rfl dX11_readLine_131 mlX11_183 (hY.lt (k := 217) (by decide)) (ly217 hY) ⟨rfl, rfl⟩ (by decide) ⟨Nat.le_of_ble_eq_true rfl, Nat.le_of_ble_eq_true rfl⟩ (Nat.le_of_ble_eq_true rfl) rfl (fun r131 Λc131 Ic131 Lc131 Rc131 hq131 => ?_)
  obtain ⟨rfl, rfl, rfl, rfl, rfl⟩ := hq131
  rw [show decide (kd B n i = 1009) = false from decide_eq_false (by omega)]
  refine LW_bif_ne (tgt := 143) dX11_readLine_134 (by decide) (fun c134 => absurd (c134.symm.trans rfl) (by decide)) (fun c134 => ?_)
  refine LW_aloadn 0 dX11_readLine_137 rfl rfl ?_
  refine LW_iconst (v := 1) dX11_readLine_138 (by decide) ?_
  refine LW_callV (As := [.int 1]) (b := 217) (st := []) (ci := 11) (r := (RX11, TX11, 44)) (r_fl hT (c := 1) (by decide) (by decide)) YX11_fails rfl dX11_readLine_139 mlX11_231 (hY.lt (k := 217) (by decide)) (ly217 hY) ⟨rfl, rfl⟩ (by decide) ⟨Nat.le_of_ble_eq_true rfl, Nat.le_of_ble_eq_true rfl⟩ (Nat.le_of_ble_eq_true rfl) rfl (fun r139 Λc139 Ic139 Lc139 Rc139 hq139 => ?_)
  obtain ⟨rfl, rfl, rfl, hl139, hF139⟩ := hq139
  refine LW_zret dX11_readLine_142 rfl (Nat.le_of_ble_eq_true rfl) (Nat.le_of_ble_eq_true rfl) (hc_b01 _) ?_
  exact TPost.no (show pLine (kd B n) (vl B n) i A P = .inl (1, i) by unfold pLine; rw [if_neg (by omega), if_neg (by omega), if_neg (by omega), if_neg (by omega), if_neg (by omega), if_neg (by omega), if_neg (by omega)]) hF139
