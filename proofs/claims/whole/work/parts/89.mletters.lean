/-! the reference reads: letters -/
theorem nI_sb {p q : Nat} (h : q ≤ p) : nI p - nI q = nI (p - q) := by
  obtain ⟨k, rfl⟩ := Nat.exists_eq_add_of_le h
  rw [← nI_add q k, Int32.add_comm, Int32.add_sub_cancel, show q + k - q = k by omega]
theorem seeV_L {B : Nat → Nat} {n p : Nat} (hB : ∀ j, j < n → B j < 256) : lIn (seeV B n p).toInt64 97 122 = (decide (p < n) && isL (B p)) := by
  unfold seeV
  by_cases h : p < n
  · have hb := hB p h
    rw [if_pos h, nI_l (by omega), decide_eq_true h, Bool.true_and]
    exact lIn_n (a := B p) (b := 97) (c := 122) (by omega) (by decide) (by decide)
  · rw [if_neg h, decide_eq_false h, Bool.false_and]; decide
set_option maxRecDepth 100000 in
theorem nx_L {Λ : hc_L} {I : hc_I} {L : hc_J} {R : hc_R} {n q e : Nat} {B : Nat → Nat} {c : Int32} {Q : hc_Q} (hY : LY Λ) (hb : TpB I n B) (hf : I 217 26 = nI q) (he : e ≤ n) (hin : ∀ r, q ≤ r → r < e → isL (B r) = true) (hout : e < n → isL (B e) = false) (hend : ∀ (I3 : hc_I) (L3 : hc_J), (∀ z, z ≠ 217 → I3 z = I z) → (∀ j, j ≠ 27 → I3 217 j = I 217 j) → (∀ z, z ≠ 217 → L3 z = L z) → (∀ j, j ≠ 28 → L3 217 j = L 217 j) → I3 217 27 = nI e → L3 217 28 = lN (wdV B q (min 7 (e - q))) → Q none Λ I3 L3 R) : ∀ d p, p + d = e → q ≤ p → ∀ (I2 : hc_I) (L2 : hc_J), (∀ z, z ≠ 217 → I2 z = I z) → (∀ j, j ≠ 27 → I2 217 j = I 217 j) → (∀ z, z ≠ 217 → L2 z = L z) → (∀ j, j ≠ 28 → L2 217 j = L 217 j) → I2 217 27 = nI p → L2 217 28 = lN (wdV B q (min 7 (p - q))) → LW xX11_next (0, 0) 103 [(0, .ref 217), (1, .int c)] [] Λ I2 L2 R Q := by
  have hn := hb.2.1
  have hB : ∀ j, j < n → B j < 256 := fun j hj => (hb.2.2 j hj).2
  intro d
  induction d with
  | zero =>
    intro p hp hqp I2 L2 q1 q2 q3 q4 q5 q6
    have hb2 : TpB I2 n B := ⟨(q2 20 (by decide)).trans hb.1, hn, fun j hj => by rw [q1 227 (by decide)]; exact hb.2.2 j hj⟩
    have hns : lIn (seeV B n p).toInt64 97 122 = false := by
      rw [seeV_L hB]
      by_cases h : p < n
      · rw [show p = e by omega, hout (by omega), Bool.and_false]
      · rw [decide_eq_false h, Bool.false_and]
    refine LW_aloadn 0 dX11_next_103 rfl rfl ?_
    refine LW_aloadn 0 dX11_next_104 rfl rfl ?_
    refine gX11_27 dX11_next_105 flX11_130 (hY.lt (k := 217) (by decide)) (ly217 hY) ?_
    rw [show I2 217 27 = nI p from q5]
    refine LW_callV (As := [.int (nI p)]) (b := 217) (st := []) (ci := 11) (r := (RX11, TX11, 44)) (r_see hY hb2 (p := p) (by omega)) YX11_see rfl dX11_next_108 mlX11_133 (hY.lt (k := 217) (by decide)) (ly217 hY) ⟨rfl, rfl⟩ (by decide) ⟨Nat.le_of_ble_eq_true rfl, Nat.le_of_ble_eq_true rfl⟩ (Nat.le_of_ble_eq_true rfl) rfl (fun r108 Λc108 Ic108 Lc108 Rc108 hq108 => ?_)
    obtain ⟨rfl, rfl, rfl, rfl, rfl⟩ := hq108
    refine LW_i2l dX11_next_111 ?_
    refine LW_ldc2 dX11_next_112 klX11_153 ?_
    refine LW_ldc2 dX11_next_115 klX11_155 ?_
    refine LW_callS (As := [.long ((seeV B n p).toInt64), .long 97, .long 122]) (st := []) (r_isIn ((seeV B n p).toInt64) 97 122) YX11_isIn rfl dX11_next_118 mlX11_126 (by decide) ⟨Nat.le_of_ble_eq_true rfl, Nat.le_of_ble_eq_true rfl⟩ (Nat.le_of_ble_eq_true rfl) rfl (fun r118 Λc118 Ic118 Lc118 Rc118 hq118 => ?_)
    obtain ⟨rfl, rfl, rfl, rfl, rfl⟩ := hq118
    refine LW_bif_eq (tgt := 284) dX11_next_121 (by decide) (fun c121 => ?_) (fun c121 => absurd (c121.symm.trans hns) (by decide))
    refine LW_vret dX11_next_284 rfl (Nat.le_of_ble_eq_true rfl) (Nat.le_of_ble_eq_true rfl) ?_
    exact hend I2 L2 q1 q2 q3 q4 (by rw [q5, show p = e by omega]) (by rw [q6, show p = e by omega])
  | succ d ih =>
    intro p hp hqp I2 L2 q1 q2 q3 q4 q5 q6
    have hb2 : TpB I2 n B := ⟨(q2 20 (by decide)).trans hb.1, hn, fun j hj => by rw [q1 227 (by decide)]; exact hb.2.2 j hj⟩
    have hc := hin p hqp (by omega)
    have hpn : p < n := by omega
    have hs : lIn (seeV B n p).toInt64 97 122 = true := by rw [seeV_L hB, decide_eq_true hpn, hc]; rfl
    have hc2 : 97 ≤ B p ∧ B p ≤ 122 := by unfold isL at hc; rw [Bool.and_eq_true, decide_eq_true_eq, decide_eq_true_eq] at hc; exact hc
    refine LW_aloadn 0 dX11_next_103 rfl rfl ?_
    refine LW_aloadn 0 dX11_next_104 rfl rfl ?_
    refine gX11_27 dX11_next_105 flX11_130 (hY.lt (k := 217) (by decide)) (ly217 hY) ?_
    rw [show I2 217 27 = nI p from q5]
    refine LW_callV (As := [.int (nI p)]) (b := 217) (st := []) (ci := 11) (r := (RX11, TX11, 44)) (r_see hY hb2 (p := p) (by omega)) YX11_see rfl dX11_next_108 mlX11_133 (hY.lt (k := 217) (by decide)) (ly217 hY) ⟨rfl, rfl⟩ (by decide) ⟨Nat.le_of_ble_eq_true rfl, Nat.le_of_ble_eq_true rfl⟩ (Nat.le_of_ble_eq_true rfl) rfl (fun r108 Λc108 Ic108 Lc108 Rc108 hq108 => ?_)
    obtain ⟨rfl, rfl, rfl, rfl, rfl⟩ := hq108
    refine LW_i2l dX11_next_111 ?_
    refine LW_ldc2 dX11_next_112 klX11_153 ?_
    refine LW_ldc2 dX11_next_115 klX11_155 ?_
    refine LW_callS (As := [.long ((seeV B n p).toInt64), .long 97, .long 122]) (st := []) (r_isIn ((seeV B n p).toInt64) 97 122) YX11_isIn rfl dX11_next_118 mlX11_126 (by decide) ⟨Nat.le_of_ble_eq_true rfl, Nat.le_of_ble_eq_true rfl⟩ (Nat.le_of_ble_eq_true rfl) rfl (fun r118 Λc118 Ic118 Lc118 Rc118 hq118 => ?_)
    obtain ⟨rfl, rfl, rfl, rfl, rfl⟩ := hq118
    refine LW_bif_eq (tgt := 284) dX11_next_121 (by decide) (fun c121 => absurd (c121.symm.trans hs) (by decide)) (fun c121 => ?_)
    refine LW_aloadn 0 dX11_next_124 rfl rfl ?_
    refine gX11_27 dX11_next_125 flX11_130 (hY.lt (k := 217) (by decide)) (ly217 hY) ?_
    rw [show I2 217 27 = nI p from q5]
    refine LW_aloadn 0 dX11_next_128 rfl rfl ?_
    refine gX11_26 dX11_next_129 flX11_137 (hY.lt (k := 217) (by decide)) (ly217 hY) ?_
    rw [show I2 217 26 = nI q from ((q2 26 (by decide)).trans hf)]
    refine LW_isub dX11_next_132 ?_
    rw [show ((nI p) - (nI q)) = nI (p - q) from (nI_sb hqp)]
    refine LW_bipush (v := 7) dX11_next_133 (by decide) ?_
    refine LW_icmp_ge (tgt := 161) dX11_next_135 (by decide) (fun c135 => ?_) (fun c135 => ?_)
    · refine LW_aloadn 0 dX11_next_161 rfl rfl ?_
      refine LW_dup dX11_next_162 rfl ?_
      refine gX11_27 dX11_next_163 flX11_130 (hY.lt (k := 217) (by decide)) (ly217 hY) ?_
      rw [show I2 217 27 = nI p from q5]
      refine LW_iconst (v := 1) dX11_next_166 (by decide) ?_
      refine LW_iadd dX11_next_167 ?_
      rw [show ((nI p) + 1) = nI (p + 1) from (nI_add p 1)]
      refine pX11_27 dX11_next_168 flX11_130 (hY.lt (k := 217) (by decide)) (ly217 hY) ?_
      generalize hI168 : hc_u I2 217 27 (nI (p + 1)) = I168
      refine LW_goto (tgt := 103) dX11_next_171 (by decide) ?_
      have h7 : 7 ≤ p - q := (hc_le (a := 7) (b := p - q) (by decide) (by omega)).mp c135
      exact ih (p + 1) (by omega) (by omega) I168 L2 (fun z hz => by rw [← hI168, hc_u_row _ _ _ _ hz]; exact q1 z hz) (fun j hj => by rw [← hI168, hc_u_at, if_neg hj]; exact q2 j hj) (q3) (q4) (by rw [← hI168, hc_u_at, if_pos rfl]) (by rw [q6, show min 7 (p + 1 - q) = min 7 (p - q) by omega])
    · have h7 : p - q < 7 := Nat.lt_of_not_le (fun z => c135 ((hc_le (a := 7) (b := p - q) (by decide) (by omega)).mpr z))
      have hw40 : wdV B q (min 7 (p - q)) < 2 ^ 40 := Nat.lt_of_lt_of_le (wdV_lt (B := B) (q := q) (min 7 (p - q)) (fun j hj => hin _ (by omega) (by omega))) (Nat.le_trans (Nat.pow_le_pow_right (by decide) (show min 7 (p - q) ≤ 6 by omega)) (by decide))
      refine LW_aloadn 0 dX11_next_138 rfl rfl ?_
      refine LW_aloadn 0 dX11_next_139 rfl rfl ?_
      refine gX11_28 dX11_next_140 flX11_140 (hY.lt (k := 217) (by decide)) (ly217 hY) ?_
      rw [show L2 217 28 = lN (wdV B q (min 7 (p - q))) from q6]
      refine LW_iconst (v := 5) dX11_next_143 (by decide) ?_
      refine LW_lshl dX11_next_144 ?_
      refine LW_aloadn 0 dX11_next_145 rfl rfl ?_
      refine LW_aloadn 0 dX11_next_146 rfl rfl ?_
      refine gX11_27 dX11_next_147 flX11_130 (hY.lt (k := 217) (by decide)) (ly217 hY) ?_
      rw [show I2 217 27 = nI p from q5]
      refine LW_callV (As := [.int (nI p)]) (b := 217) (st := [.long ((lN (wdV B q (min 7 (p - q)))) <<< ((5 : Int32).toInt64 &&& 63)), .ref 217]) (ci := 11) (r := (RX11, TX11, 44)) (r_see hY hb2 (p := p) (by omega)) YX11_see rfl dX11_next_150 mlX11_133 (hY.lt (k := 217) (by decide)) (ly217 hY) ⟨rfl, rfl⟩ (by decide) ⟨Nat.le_of_ble_eq_true rfl, Nat.le_of_ble_eq_true rfl⟩ (Nat.le_of_ble_eq_true rfl) rfl (fun r150 Λc150 Ic150 Lc150 Rc150 hq150 => ?_)
      obtain ⟨rfl, rfl, rfl, rfl, rfl⟩ := hq150
      refine LW_bipush (v := 96) dX11_next_153 (by decide) ?_
      refine LW_isub dX11_next_155 ?_
      refine LW_i2l dX11_next_156 ?_
      rw [show ((seeV B n p) - 96).toInt64 = lN (B p - 96) from (by unfold seeV; rw [if_pos hpn, show nI (B p) - 96 = nI (B p - 96) from nI_sb (q := 96) (by omega), nI_l (by omega)])]
      refine LW_lor dX11_next_157 ?_
      rw [show (((lN (wdV B q (min 7 (p - q)))) <<< ((5 : Int32).toInt64 &&& 63)) ||| (lN (B p - 96))) = lN (wdV B q (min 7 (p - q)) * 32 + (B p - 96)) from (shl_or hw40 (by omega))]
      refine pX11_28 dX11_next_158 flX11_140 (hY.lt (k := 217) (by decide)) (ly217 hY) ?_
      generalize hL158 : hc_u L2 217 28 (lN (wdV B q (min 7 (p - q)) * 32 + (B p - 96))) = L158
      refine LW_aloadn 0 dX11_next_161 rfl rfl ?_
      refine LW_dup dX11_next_162 rfl ?_
      refine gX11_27 dX11_next_163 flX11_130 (hY.lt (k := 217) (by decide)) (ly217 hY) ?_
      rw [show I2 217 27 = nI p from q5]
      refine LW_iconst (v := 1) dX11_next_166 (by decide) ?_
      refine LW_iadd dX11_next_167 ?_
      rw [show ((nI p) + 1) = nI (p + 1) from (nI_add p 1)]
      refine pX11_27 dX11_next_168 flX11_130 (hY.lt (k := 217) (by decide)) (ly217 hY) ?_
      generalize hI168 : hc_u I2 217 27 (nI (p + 1)) = I168
      refine LW_goto (tgt := 103) dX11_next_171 (by decide) ?_
      exact ih (p + 1) (by omega) (by omega) I168 L158 (fun z hz => by rw [← hI168, hc_u_row _ _ _ _ hz]; exact q1 z hz) (fun j hj => by rw [← hI168, hc_u_at, if_neg hj]; exact q2 j hj) (fun z hz => by rw [← hL158, hc_u_row _ _ _ _ hz]; exact q3 z hz) (fun j hj => by rw [← hL158, hc_u_at, if_neg hj]; exact q4 j hj) (by rw [← hI168, hc_u_at, if_pos rfl]) (by rw [← hL158, hc_u_at, if_pos rfl, show min 7 (p + 1 - q) = p - q + 1 by omega, show min 7 (p - q) = p - q by omega]; show _ = lN (wdV B q (p - q) * 32 + (B (q + (p - q)) - 96)); rw [show q + (p - q) = p by omega])
