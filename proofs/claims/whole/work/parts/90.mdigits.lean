/-! the reference reads: digits -/
theorem seeV_D {B : Nat → Nat} {n p : Nat} (hB : ∀ j, j < n → B j < 256) : lIn (seeV B n p).toInt64 48 57 = (decide (p < n) && isD (B p)) := by
  unfold seeV
  by_cases h : p < n
  · have hb := hB p h
    rw [if_pos h, nI_l (by omega), decide_eq_true h, Bool.true_and]
    exact lIn_n (a := B p) (b := 48) (c := 57) (by omega) (by decide) (by decide)
  · rw [if_neg h, decide_eq_false h, Bool.false_and]; decide
set_option maxRecDepth 100000 in
theorem nx_D {Λ : hc_L} {I : hc_I} {L : hc_J} {R : hc_R} {n q e : Nat} {B : Nat → Nat} {c : Int32} {Q : hc_Q} (hY : LY Λ) (hb : TpB I n B) (hf : I 217 26 = nI q) (he : e ≤ n) (hin : ∀ r, q ≤ r → r < e → isD (B r) = true) (hout : e < n → isD (B e) = false) (hend : ∀ (I3 : hc_I), (∀ z, z ≠ 217 → I3 z = I z) → (∀ j, j ≠ 27 → j ≠ 29 → I3 217 j = I 217 j) → I3 217 27 = nI e → I3 217 29 = nI (nmV B q (min 8 (e - q))) → Q none Λ I3 L R) : ∀ d p, p + d = e → q ≤ p → ∀ (I2 : hc_I), (∀ z, z ≠ 217 → I2 z = I z) → (∀ j, j ≠ 27 → j ≠ 29 → I2 217 j = I 217 j) → I2 217 27 = nI p → I2 217 29 = nI (nmV B q (min 8 (p - q))) → LW xX11_next (0, 0) 193 [(0, .ref 217), (1, .int c)] [] Λ I2 L R Q := by
  have hn := hb.2.1
  have hB : ∀ j, j < n → B j < 256 := fun j hj => (hb.2.2 j hj).2
  intro d
  induction d with
  | zero =>
    intro p hp hqp I2 q1 q2 q5 q6
    have hb2 : TpB I2 n B := ⟨(q2 20 (by decide) (by decide)).trans hb.1, hn, fun j hj => by rw [q1 227 (by decide)]; exact hb.2.2 j hj⟩
    have hns : lIn (seeV B n p).toInt64 48 57 = false := by
      rw [seeV_D hB]
      by_cases h : p < n
      · rw [show p = e by omega, hout (by omega), Bool.and_false]
      · rw [decide_eq_false h, Bool.false_and]
    refine LW_aloadn 0 dX11_next_193 rfl rfl ?_
    refine LW_aloadn 0 dX11_next_194 rfl rfl ?_
    refine gX11_27 dX11_next_195 flX11_130 (hY.lt (k := 217) (by decide)) (ly217 hY) ?_
    rw [show I2 217 27 = nI p from q5]
    refine LW_callV (As := [.int (nI p)]) (b := 217) (st := []) (ci := 11) (r := (RX11, TX11, 44)) (r_see hY hb2 (p := p) (by omega)) YX11_see rfl dX11_next_198 mlX11_133 (hY.lt (k := 217) (by decide)) (ly217 hY) ⟨rfl, rfl⟩ (by decide) ⟨Nat.le_of_ble_eq_true rfl, Nat.le_of_ble_eq_true rfl⟩ (Nat.le_of_ble_eq_true rfl) rfl (fun r198 Λc198 Ic198 Lc198 Rc198 hq198 => ?_)
    obtain ⟨rfl, rfl, rfl, rfl, rfl⟩ := hq198
    refine LW_i2l dX11_next_201 ?_
    refine LW_ldc2 dX11_next_202 klX11_157 ?_
    refine LW_ldc2 dX11_next_205 klX11_159 ?_
    refine LW_callS (As := [.long ((seeV B n p).toInt64), .long 48, .long 57]) (st := []) (r_isIn ((seeV B n p).toInt64) 48 57) YX11_isIn rfl dX11_next_208 mlX11_126 (by decide) ⟨Nat.le_of_ble_eq_true rfl, Nat.le_of_ble_eq_true rfl⟩ (Nat.le_of_ble_eq_true rfl) rfl (fun r208 Λc208 Ic208 Lc208 Rc208 hq208 => ?_)
    obtain ⟨rfl, rfl, rfl, rfl, rfl⟩ := hq208
    refine LW_bif_eq (tgt := 284) dX11_next_211 (by decide) (fun c211 => ?_) (fun c211 => absurd (c211.symm.trans hns) (by decide))
    refine LW_vret dX11_next_284 rfl (Nat.le_of_ble_eq_true rfl) (Nat.le_of_ble_eq_true rfl) ?_
    exact hend I2 q1 q2 (by rw [q5, show p = e by omega]) (by rw [q6, show p = e by omega])
  | succ d ih =>
    intro p hp hqp I2 q1 q2 q5 q6
    have hb2 : TpB I2 n B := ⟨(q2 20 (by decide) (by decide)).trans hb.1, hn, fun j hj => by rw [q1 227 (by decide)]; exact hb.2.2 j hj⟩
    have hc := hin p hqp (by omega)
    have hpn : p < n := by omega
    have hs : lIn (seeV B n p).toInt64 48 57 = true := by rw [seeV_D hB, decide_eq_true hpn, hc]; rfl
    have hc2 : 48 ≤ B p ∧ B p ≤ 57 := by unfold isD at hc; rw [Bool.and_eq_true, decide_eq_true_eq, decide_eq_true_eq] at hc; exact hc
    have hsv : seeV B n p = nI (B p) := if_pos hpn
    refine LW_aloadn 0 dX11_next_193 rfl rfl ?_
    refine LW_aloadn 0 dX11_next_194 rfl rfl ?_
    refine gX11_27 dX11_next_195 flX11_130 (hY.lt (k := 217) (by decide)) (ly217 hY) ?_
    rw [show I2 217 27 = nI p from q5]
    refine LW_callV (As := [.int (nI p)]) (b := 217) (st := []) (ci := 11) (r := (RX11, TX11, 44)) (r_see hY hb2 (p := p) (by omega)) YX11_see rfl dX11_next_198 mlX11_133 (hY.lt (k := 217) (by decide)) (ly217 hY) ⟨rfl, rfl⟩ (by decide) ⟨Nat.le_of_ble_eq_true rfl, Nat.le_of_ble_eq_true rfl⟩ (Nat.le_of_ble_eq_true rfl) rfl (fun r198 Λc198 Ic198 Lc198 Rc198 hq198 => ?_)
    obtain ⟨rfl, rfl, rfl, rfl, rfl⟩ := hq198
    refine LW_i2l dX11_next_201 ?_
    refine LW_ldc2 dX11_next_202 klX11_157 ?_
    refine LW_ldc2 dX11_next_205 klX11_159 ?_
    refine LW_callS (As := [.long ((seeV B n p).toInt64), .long 48, .long 57]) (st := []) (r_isIn ((seeV B n p).toInt64) 48 57) YX11_isIn rfl dX11_next_208 mlX11_126 (by decide) ⟨Nat.le_of_ble_eq_true rfl, Nat.le_of_ble_eq_true rfl⟩ (Nat.le_of_ble_eq_true rfl) rfl (fun r208 Λc208 Ic208 Lc208 Rc208 hq208 => ?_)
    obtain ⟨rfl, rfl, rfl, rfl, rfl⟩ := hq208
    refine LW_bif_eq (tgt := 284) dX11_next_211 (by decide) (fun c211 => absurd (c211.symm.trans hs) (by decide)) (fun c211 => ?_)
    refine LW_aloadn 0 dX11_next_214 rfl rfl ?_
    refine gX11_27 dX11_next_215 flX11_130 (hY.lt (k := 217) (by decide)) (ly217 hY) ?_
    rw [show I2 217 27 = nI p from q5]
    refine LW_aloadn 0 dX11_next_218 rfl rfl ?_
    refine gX11_26 dX11_next_219 flX11_137 (hY.lt (k := 217) (by decide)) (ly217 hY) ?_
    rw [show I2 217 26 = nI q from ((q2 26 (by decide) (by decide)).trans hf)]
    refine LW_isub dX11_next_222 ?_
    rw [show ((nI p) - (nI q)) = nI (p - q) from (nI_sb hqp)]
    refine LW_bipush (v := 8) dX11_next_223 (by decide) ?_
    refine LW_icmp_ge (tgt := 251) dX11_next_225 (by decide) (fun c225 => ?_) (fun c225 => ?_)
    · refine LW_aloadn 0 dX11_next_251 rfl rfl ?_
      refine LW_dup dX11_next_252 rfl ?_
      refine gX11_27 dX11_next_253 flX11_130 (hY.lt (k := 217) (by decide)) (ly217 hY) ?_
      rw [show I2 217 27 = nI p from q5]
      refine LW_iconst (v := 1) dX11_next_256 (by decide) ?_
      refine LW_iadd dX11_next_257 ?_
      rw [show ((nI p) + 1) = nI (p + 1) from (nI_add p 1)]
      refine pX11_27 dX11_next_258 flX11_130 (hY.lt (k := 217) (by decide)) (ly217 hY) ?_
      generalize hI258 : hc_u I2 217 27 (nI (p + 1)) = I258
      refine LW_goto (tgt := 193) dX11_next_261 (by decide) ?_
      have h7 : 8 ≤ p - q := (hc_le (a := 8) (b := p - q) (by decide) (by omega)).mp c225
      exact ih (p + 1) (by omega) (by omega) I258 (fun z hz => by rw [← hI258, hc_u_row _ _ _ _ hz]; exact q1 z hz) (fun j h1 h2 => by rw [← hI258, hc_u_at, if_neg h1]; exact q2 j h1 h2) (by rw [← hI258, hc_u_at, if_pos rfl]) (by rw [← hI258, hc_u_at, if_neg (by decide), q6, show min 8 (p + 1 - q) = min 8 (p - q) by omega])
    · have h7 : p - q < 8 := Nat.lt_of_not_le (fun z => c225 ((hc_le (a := 8) (b := p - q) (by decide) (by omega)).mpr z))
      refine LW_aloadn 0 dX11_next_228 rfl rfl ?_
      refine LW_bipush (v := 10) dX11_next_229 (by decide) ?_
      refine LW_aloadn 0 dX11_next_231 rfl rfl ?_
      refine gX11_29 dX11_next_232 flX11_144 (hY.lt (k := 217) (by decide)) (ly217 hY) ?_
      rw [show I2 217 29 = nI (nmV B q (min 8 (p - q))) from q6]
      refine LW_imul dX11_next_235 ?_
      rw [show (10 * (nI (nmV B q (min 8 (p - q))))) = nI (10 * nmV B q (min 8 (p - q))) from (nI_mul 10 _)]
      refine LW_aloadn 0 dX11_next_236 rfl rfl ?_
      refine LW_aloadn 0 dX11_next_237 rfl rfl ?_
      refine gX11_27 dX11_next_238 flX11_130 (hY.lt (k := 217) (by decide)) (ly217 hY) ?_
      rw [show I2 217 27 = nI p from q5]
      refine LW_callV (As := [.int (nI p)]) (b := 217) (st := [.int (nI (10 * nmV B q (min 8 (p - q)))), .ref 217]) (ci := 11) (r := (RX11, TX11, 44)) (r_see hY hb2 (p := p) (by omega)) YX11_see rfl dX11_next_241 mlX11_133 (hY.lt (k := 217) (by decide)) (ly217 hY) ⟨rfl, rfl⟩ (by decide) ⟨Nat.le_of_ble_eq_true rfl, Nat.le_of_ble_eq_true rfl⟩ (Nat.le_of_ble_eq_true rfl) rfl (fun r241 Λc241 Ic241 Lc241 Rc241 hq241 => ?_)
      obtain ⟨rfl, rfl, rfl, rfl, rfl⟩ := hq241
      refine LW_iadd dX11_next_244 ?_
      rw [show ((nI (10 * nmV B q (min 8 (p - q)))) + (seeV B n p)) = nI (10 * nmV B q (min 8 (p - q)) + B p) from (by rw [hsv]; exact nI_add _ _)]
      refine LW_bipush (v := 48) dX11_next_245 (by decide) ?_
      refine LW_isub dX11_next_247 ?_
      rw [show ((nI (10 * nmV B q (min 8 (p - q)) + B p)) - 48) = nI (10 * nmV B q (min 8 (p - q)) + B p - 48) from (nI_sb (q := 48) (by omega))]
      refine pX11_29 dX11_next_248 flX11_144 (hY.lt (k := 217) (by decide)) (ly217 hY) ?_
      generalize hI248 : hc_u I2 217 29 (nI (10 * nmV B q (min 8 (p - q)) + B p - 48)) = I248
      refine LW_aloadn 0 dX11_next_251 rfl rfl ?_
      refine LW_dup dX11_next_252 rfl ?_
      refine gX11_27 dX11_next_253 flX11_130 (hY.lt (k := 217) (by decide)) (ly217 hY) ?_
      rw [show I248 217 27 = nI p from (by rw [← hI248, hc_u_at, if_neg (by decide)]; exact q5)]
      refine LW_iconst (v := 1) dX11_next_256 (by decide) ?_
      refine LW_iadd dX11_next_257 ?_
      rw [show ((nI p) + 1) = nI (p + 1) from (nI_add p 1)]
      refine pX11_27 dX11_next_258 flX11_130 (hY.lt (k := 217) (by decide)) (ly217 hY) ?_
      generalize hI258 : hc_u I248 217 27 (nI (p + 1)) = I258
      refine LW_goto (tgt := 193) dX11_next_261 (by decide) ?_
      exact ih (p + 1) (by omega) (by omega) I258 (fun z hz => by rw [← hI258, hc_u_row _ _ _ _ hz, ← hI248, hc_u_row _ _ _ _ hz]; exact q1 z hz) (fun j h1 h2 => by rw [← hI258, hc_u_at, if_neg h1, ← hI248, hc_u_at, if_neg h2]; exact q2 j h1 h2) (by rw [← hI258, hc_u_at, if_pos rfl]) (by rw [← hI258, hc_u_at, if_neg (by decide), ← hI248, hc_u_at, if_pos rfl, show min 8 (p + 1 - q) = p - q + 1 by omega, show min 8 (p - q) = p - q by omega]; show _ = nI (nmV B q (p - q) * 10 + (B (q + (p - q)) - 48)); rw [show q + (p - q) = p by omega, show 10 * nmV B q (p - q) + B p - 48 = nmV B q (p - q) * 10 + (B p - 48) by omega])
