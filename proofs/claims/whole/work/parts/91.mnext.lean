/-! the reference reads: next -/
def srt (B : Nat → Nat) (n q : Nat) : Nat := if q < n then (if isL (B q) = true then 1 else if isD (B q) = true then 2 else 3) else 0
/-- the token at q is the one that stands -/
def LxAt (I : hc_I) (L : hc_J) (n : Nat) (B : Nat → Nat) (q : Nat) : Prop := I 217 26 = nI q ∧ I 217 27 = nI (tkE B n q) ∧ I 217 25 = nI (srt B n q) ∧ L 217 28 = lN (if srt B n q = 1 then wdV B q (min 7 (tkE B n q - q)) else 0) ∧ I 217 29 = nI (if srt B n q = 2 then nmV B q (min 8 (tkE B n q - q)) else 0) ∧ I 217 30 = nI (if srt B n q = 3 then B q else 0)
def LxI (j : Nat) : Prop := (25 ≤ j ∧ j ≤ 27) ∨ j = 29 ∨ j = 30
def NX (n : Nat) (B : Nat → Nat) (q : Nat) (Λ : hc_L) (I : hc_I) (L : hc_J) (R : hc_R) : hc_Q := fun r Λ' I' L' R' => r = none ∧ Λ = Λ' ∧ R = R' ∧ (∀ z, z ≠ 217 → I' z = I z) ∧ (∀ j, ¬ LxI j → I' 217 j = I 217 j) ∧ (∀ z, z ≠ 217 → L' z = L z) ∧ (∀ j, j ≠ 28 → L' 217 j = L 217 j) ∧ LxAt I' L' n B q
theorem seeV_end {B : Nat → Nat} {n p : Nat} (hB : ∀ j, j < n → B j < 256) : seeV B n p = -1 ↔ ¬ p < n := by
  unfold seeV
  by_cases h : p < n
  · rw [if_pos h]; have := hB p h; exact ⟨fun z => absurd z (nI_ne (by omega)), fun z => absurd h z⟩
  · rw [if_neg h]; exact ⟨fun _ => h, fun _ => rfl⟩
-- the token at q, from 39 on
set_option maxRecDepth 100000 in
theorem nx_39 {Λ : hc_L} {I I3 : hc_I} {L : hc_J} {R : hc_R} {n q : Nat} {B : Nat → Nat} (hY : LY Λ) (hb : TpB I n B) (hqn : q ≤ n) (q1 : ∀ z, z ≠ 217 → I3 z = I z) (q2 : ∀ j, j ≠ 27 → I3 217 j = I 217 j) (q3 : I3 217 27 = nI q) : LW xX11_next (0, 0) 39 [(0, .ref 217)] [] Λ I3 L R (NX n B q Λ I L R) := by
  have hn := hb.2.1
  have hB : ∀ j, j < n → B j < 256 := fun j hj => (hb.2.2 j hj).2
  refine LW_aloadn 0 dX11_next_39 rfl rfl ?_
  refine LW_aloadn 0 dX11_next_40 rfl rfl ?_
  refine gX11_27 dX11_next_41 flX11_130 (hY.lt (k := 217) (by decide)) (ly217 hY) ?_
  rw [show I3 217 27 = nI q from q3]
  refine pX11_26 dX11_next_44 flX11_137 (hY.lt (k := 217) (by decide)) (ly217 hY) ?_
  generalize hI44 : hc_u I3 217 26 (nI q) = I44
  have hb3 : TpB I44 n B := ⟨by rw [← hI44, hc_u_at, if_neg (by decide)]; exact (q2 20 (by decide)).trans hb.1, hn, fun j hj => by rw [← hI44, hc_u_row _ _ _ _ (by decide), q1 227 (by decide)]; exact hb.2.2 j hj⟩
  refine LW_aloadn 0 dX11_next_47 rfl rfl ?_
  refine LW_aloadn 0 dX11_next_48 rfl rfl ?_
  refine gX11_27 dX11_next_49 flX11_130 (hY.lt (k := 217) (by decide)) (ly217 hY) ?_
  rw [show I44 217 27 = nI q from (by rw [← hI44, hc_u_at, if_neg (by decide)]; exact q3)]
  refine LW_callV (As := [.int (nI q)]) (b := 217) (st := []) (ci := 11) (r := (RX11, TX11, 44)) (r_see hY hb3 (p := q) (by omega)) YX11_see rfl dX11_next_52 mlX11_133 (hY.lt (k := 217) (by decide)) (ly217 hY) ⟨rfl, rfl⟩ (by decide) ⟨Nat.le_of_ble_eq_true rfl, Nat.le_of_ble_eq_true rfl⟩ (Nat.le_of_ble_eq_true rfl) rfl (fun r52 Λc52 Ic52 Lc52 Rc52 hq52 => ?_)
  obtain ⟨rfl, rfl, rfl, rfl, rfl⟩ := hq52
  refine LW_istoren (ls' := [(0, .ref 217), (1, .int (seeV B n q))]) dX11_next_55 rfl (by decide) rfl ?_
  refine LW_aloadn 0 dX11_next_56 rfl rfl ?_
  refine LW_lconst (v := 0) dX11_next_57 (by decide) ?_
  refine pX11_28 dX11_next_58 flX11_140 (hY.lt (k := 217) (by decide)) (ly217 hY) ?_
  generalize hL58 : hc_u L 217 28 0 = L58
  refine LW_aloadn 0 dX11_next_61 rfl rfl ?_
  refine LW_iconst (v := 0) dX11_next_62 (by decide) ?_
  refine pX11_29 dX11_next_63 flX11_144 (hY.lt (k := 217) (by decide)) (ly217 hY) ?_
  generalize hI63 : hc_u I44 217 29 0 = I63
  refine LW_aloadn 0 dX11_next_66 rfl rfl ?_
  refine LW_iconst (v := 0) dX11_next_67 (by decide) ?_
  refine pX11_30 dX11_next_68 flX11_147 (hY.lt (k := 217) (by decide)) (ly217 hY) ?_
  generalize hI68 : hc_u I63 217 30 0 = I68
  refine LW_iloadn 1 dX11_next_71 rfl rfl ?_
  refine LW_iconst (v := -1) dX11_next_72 (by decide) ?_
  refine LW_icmp_ne (tgt := 84) dX11_next_73 (by decide) (fun c73 => ?_) (fun c73 => ?_)
  · refine LW_iloadn 1 dX11_next_84 rfl rfl ?_
    refine LW_i2l dX11_next_85 ?_
    refine LW_ldc2 dX11_next_86 klX11_153 ?_
    refine LW_ldc2 dX11_next_89 klX11_155 ?_
    refine LW_callS (As := [.long ((seeV B n q).toInt64), .long 97, .long 122]) (st := []) (r_isIn ((seeV B n q).toInt64) 97 122) YX11_isIn rfl dX11_next_92 mlX11_126 (by decide) ⟨Nat.le_of_ble_eq_true rfl, Nat.le_of_ble_eq_true rfl⟩ (Nat.le_of_ble_eq_true rfl) rfl (fun r92 Λc92 Ic92 Lc92 Rc92 hq92 => ?_)
    obtain ⟨rfl, rfl, rfl, rfl, rfl⟩ := hq92
    refine LW_bif_eq (tgt := 174) dX11_next_95 (by decide) (fun c95 => ?_) (fun c95 => ?_)
    · refine LW_iloadn 1 dX11_next_174 rfl rfl ?_
      refine LW_i2l dX11_next_175 ?_
      refine LW_ldc2 dX11_next_176 klX11_157 ?_
      refine LW_ldc2 dX11_next_179 klX11_159 ?_
      refine LW_callS (As := [.long ((seeV B n q).toInt64), .long 48, .long 57]) (st := []) (r_isIn ((seeV B n q).toInt64) 48 57) YX11_isIn rfl dX11_next_182 mlX11_126 (by decide) ⟨Nat.le_of_ble_eq_true rfl, Nat.le_of_ble_eq_true rfl⟩ (Nat.le_of_ble_eq_true rfl) rfl (fun r182 Λc182 Ic182 Lc182 Rc182 hq182 => ?_)
      obtain ⟨rfl, rfl, rfl, rfl, rfl⟩ := hq182
      refine LW_bif_eq (tgt := 264) dX11_next_185 (by decide) (fun c185 => ?_) (fun c185 => ?_)
      · refine LW_aloadn 0 dX11_next_264 rfl rfl ?_
        refine LW_iconst (v := 3) dX11_next_265 (by decide) ?_
        refine pX11_25 dX11_next_266 flX11_150 (hY.lt (k := 217) (by decide)) (ly217 hY) ?_
        generalize hI266 : hc_u I68 217 25 3 = I266
        refine LW_aloadn 0 dX11_next_269 rfl rfl ?_
        refine LW_iloadn 1 dX11_next_270 rfl rfl ?_
        refine pX11_30 dX11_next_271 flX11_147 (hY.lt (k := 217) (by decide)) (ly217 hY) ?_
        generalize hI271 : hc_u I266 217 30 (seeV B n q) = I271
        refine LW_aloadn 0 dX11_next_274 rfl rfl ?_
        refine LW_dup dX11_next_275 rfl ?_
        refine gX11_27 dX11_next_276 flX11_130 (hY.lt (k := 217) (by decide)) (ly217 hY) ?_
        rw [show I271 217 27 = nI q from (by rw [← hI271, hc_u_at, if_neg (by decide), ← hI266, hc_u_at, if_neg (by decide), ← hI68, hc_u_at, if_neg (by decide), ← hI63, hc_u_at, if_neg (by decide), ← hI44, hc_u_at, if_neg (by decide)]; exact q3)]
        refine LW_iconst (v := 1) dX11_next_279 (by decide) ?_
        refine LW_iadd dX11_next_280 ?_
        rw [show ((nI q) + 1) = nI (q + 1) from (nI_add q 1)]
        refine pX11_27 dX11_next_281 flX11_130 (hY.lt (k := 217) (by decide)) (ly217 hY) ?_
        generalize hI281 : hc_u I271 217 27 (nI (q + 1)) = I281
        refine LW_vret dX11_next_284 rfl (Nat.le_of_ble_eq_true rfl) (Nat.le_of_ble_eq_true rfl) ?_
        have hq : q < n := Classical.not_not.mp (fun z => c73 ((seeV_end hB).mpr z))
        have hcL : isL (B q) = false := by
          have := (seeV_L (p := q) hB).symm.trans c95
          rw [decide_eq_true hq, Bool.true_and] at this; exact this
        have hcD : isD (B q) = false := by
          have := (seeV_D (p := q) hB).symm.trans c185
          rw [decide_eq_true hq, Bool.true_and] at this; exact this
        have es : srt B n q = 3 := by unfold srt; rw [if_pos hq, if_neg (by rw [hcL]; decide), if_neg (by rw [hcD]; decide)]
        have ee := tkE_S hq hcL hcD
        have hv : seeV B n q = nI (B q) := if_pos hq
        refine ⟨rfl, rfl, rfl, fun z hz => ?_, fun j hj => ?_, fun z hz => by rw [← hL58, hc_u_row _ _ _ _ hz], fun j hj => by rw [← hL58, hc_u_at, if_neg hj], ?_⟩
        · rw [← hI281, hc_u_row _ _ _ _ hz, ← hI271, hc_u_row _ _ _ _ hz, ← hI266, hc_u_row _ _ _ _ hz, ← hI68, hc_u_row _ _ _ _ hz, ← hI63, hc_u_row _ _ _ _ hz, ← hI44, hc_u_row _ _ _ _ hz]; exact q1 z hz
        · unfold LxI at hj
          rw [← hI281, hc_u_at, if_neg (by omega), ← hI271, hc_u_at, if_neg (by omega), ← hI266, hc_u_at, if_neg (by omega), ← hI68, hc_u_at, if_neg (by omega), ← hI63, hc_u_at, if_neg (by omega), ← hI44, hc_u_at, if_neg (by omega)]; exact q2 j (by omega)
        · unfold LxAt
          rw [es, ee]
          refine ⟨?_, ?_, ?_, ?_, ?_, ?_⟩
          · rw [← hI281, hc_u_at, if_neg (by decide), ← hI271, hc_u_at, if_neg (by decide), ← hI266, hc_u_at, if_neg (by decide), ← hI68, hc_u_at, if_neg (by decide), ← hI63, hc_u_at, if_neg (by decide), ← hI44, hc_u_at, if_pos rfl]
          · rw [← hI281, hc_u_at, if_pos rfl]
          · rw [← hI281, hc_u_at, if_neg (by decide), ← hI271, hc_u_at, if_neg (by decide), ← hI266, hc_u_at, if_pos rfl]; rfl
          · rw [← hL58, hc_u_at, if_pos rfl]; rfl
          · rw [← hI281, hc_u_at, if_neg (by decide), ← hI271, hc_u_at, if_neg (by decide), ← hI266, hc_u_at, if_neg (by decide), ← hI68, hc_u_at, if_neg (by decide), ← hI63, hc_u_at, if_pos rfl]; rfl
          · rw [← hI281, hc_u_at, if_neg (by decide), ← hI271, hc_u_at, if_pos rfl]; exact hv
      · refine LW_aloadn 0 dX11_next_188 rfl rfl ?_
        refine LW_iconst (v := 2) dX11_next_189 (by decide) ?_
        refine pX11_25 dX11_next_190 flX11_150 (hY.lt (k := 217) (by decide)) (ly217 hY) ?_
        generalize hI190 : hc_u I68 217 25 2 = I190
        have hcL : (decide (q < n) && isL (B q)) = false := (seeV_L hB).symm.trans c95
        have hc : (decide (q < n) && isD (B q)) = true := (seeV_D hB).symm.trans c185
        rw [Bool.and_eq_true, decide_eq_true_eq] at hc
        rw [decide_eq_true hc.1, Bool.true_and] at hcL
        obtain ⟨a1, a2, a3, a4⟩ := scan_spec (fun j => isD (B j)) (n - q) q
        have ee := tkE_D hc.1 hc.2
        rw [← ee] at a1 a2 a3 a4
        have es : srt B n q = 2 := by unfold srt; rw [if_pos hc.1, if_neg (by rw [hcL]; decide), if_pos hc.2]
        have kI : ∀ j, j ≠ 25 → j ≠ 26 → j ≠ 29 → j ≠ 30 → I190 217 j = I3 217 j := fun j h1 h2 h3 h4 => by rw [← hI190, hc_u_at, if_neg h1, ← hI68, hc_u_at, if_neg h4, ← hI63, hc_u_at, if_neg h3, ← hI44, hc_u_at, if_neg h2]
        have kZ : ∀ z, z ≠ 217 → I190 z = I z := fun z hz => by rw [← hI190, hc_u_row _ _ _ _ hz, ← hI68, hc_u_row _ _ _ _ hz, ← hI63, hc_u_row _ _ _ _ hz, ← hI44, hc_u_row _ _ _ _ hz]; exact q1 z hz
        have k26 : I190 217 26 = nI q := by rw [← hI190, hc_u_at, if_neg (by decide), ← hI68, hc_u_at, if_neg (by decide), ← hI63, hc_u_at, if_neg (by decide), ← hI44, hc_u_at, if_pos rfl]
        have k25 : I190 217 25 = 2 := by rw [← hI190, hc_u_at, if_pos rfl]
        have k29 : I190 217 29 = 0 := by rw [← hI190, hc_u_at, if_neg (by decide), ← hI68, hc_u_at, if_neg (by decide), ← hI63, hc_u_at, if_pos rfl]
        have k30 : I190 217 30 = 0 := by rw [← hI190, hc_u_at, if_neg (by decide), ← hI68, hc_u_at, if_pos rfl]
        refine nx_D hY (I := I190) (e := tkE B n q) ⟨(kI 20 (by decide) (by decide) (by decide) (by decide)).trans ((q2 20 (by decide)).trans hb.1), hn, fun j hj => by rw [kZ 227 (by decide)]; exact hb.2.2 j hj⟩ k26 (by omega) a3 (fun h => a4 (by omega)) (fun I4 r1 r2 r5 r6 => ?_) (tkE B n q - q) q (by omega) (Nat.le_refl _) I190 (fun _ _ => rfl) (fun _ _ _ => rfl) ((kI 27 (by decide) (by decide) (by decide) (by decide)).trans q3) (by rw [k29, Nat.sub_self]; rfl)
        refine ⟨rfl, rfl, rfl, fun z hz => by rw [r1 z hz]; exact kZ z hz, fun j hj => ?_, fun z hz => by rw [← hL58, hc_u_row _ _ _ _ hz], fun j hj => by rw [← hL58, hc_u_at, if_neg hj], ?_⟩
        · unfold LxI at hj
          rw [r2 j (by omega) (by omega), kI j (by omega) (by omega) (by omega) (by omega)]; exact q2 j (by omega)
        · unfold LxAt
          rw [es]
          exact ⟨(r2 26 (by decide) (by decide)).trans k26, r5, (r2 25 (by decide) (by decide)).trans k25, by rw [← hL58, hc_u_at, if_pos rfl]; rfl, r6, (r2 30 (by decide) (by decide)).trans k30⟩
    · refine LW_aloadn 0 dX11_next_98 rfl rfl ?_
      refine LW_iconst (v := 1) dX11_next_99 (by decide) ?_
      refine pX11_25 dX11_next_100 flX11_150 (hY.lt (k := 217) (by decide)) (ly217 hY) ?_
      generalize hI100 : hc_u I68 217 25 1 = I100
      have hc : (decide (q < n) && isL (B q)) = true := (seeV_L hB).symm.trans c95
      rw [Bool.and_eq_true, decide_eq_true_eq] at hc
      obtain ⟨a1, a2, a3, a4⟩ := scan_spec (fun j => isL (B j)) (n - q) q
      have ee := tkE_L hc.1 hc.2
      rw [← ee] at a1 a2 a3 a4
      have es : srt B n q = 1 := by unfold srt; rw [if_pos hc.1, if_pos hc.2]
      have kI : ∀ j, j ≠ 25 → j ≠ 26 → j ≠ 29 → j ≠ 30 → I100 217 j = I3 217 j := fun j h1 h2 h3 h4 => by rw [← hI100, hc_u_at, if_neg h1, ← hI68, hc_u_at, if_neg h4, ← hI63, hc_u_at, if_neg h3, ← hI44, hc_u_at, if_neg h2]
      have kZ : ∀ z, z ≠ 217 → I100 z = I z := fun z hz => by rw [← hI100, hc_u_row _ _ _ _ hz, ← hI68, hc_u_row _ _ _ _ hz, ← hI63, hc_u_row _ _ _ _ hz, ← hI44, hc_u_row _ _ _ _ hz]; exact q1 z hz
      have k26 : I100 217 26 = nI q := by rw [← hI100, hc_u_at, if_neg (by decide), ← hI68, hc_u_at, if_neg (by decide), ← hI63, hc_u_at, if_neg (by decide), ← hI44, hc_u_at, if_pos rfl]
      have k25 : I100 217 25 = 1 := by rw [← hI100, hc_u_at, if_pos rfl]
      have k29 : I100 217 29 = 0 := by rw [← hI100, hc_u_at, if_neg (by decide), ← hI68, hc_u_at, if_neg (by decide), ← hI63, hc_u_at, if_pos rfl]
      have k30 : I100 217 30 = 0 := by rw [← hI100, hc_u_at, if_neg (by decide), ← hI68, hc_u_at, if_pos rfl]
      refine nx_L hY (I := I100) (L := L58) (e := tkE B n q) ⟨(kI 20 (by decide) (by decide) (by decide) (by decide)).trans ((q2 20 (by decide)).trans hb.1), hn, fun j hj => by rw [kZ 227 (by decide)]; exact hb.2.2 j hj⟩ k26 (by omega) a3 (fun h => a4 (by omega)) (fun I4 L4 r1 r2 r3 r4 r5 r6 => ?_) (tkE B n q - q) q (by omega) (Nat.le_refl _) I100 L58 (fun _ _ => rfl) (fun _ _ => rfl) (fun _ _ => rfl) (fun _ _ => rfl) ((kI 27 (by decide) (by decide) (by decide) (by decide)).trans q3) (by rw [← hL58, hc_u_at, if_pos rfl, Nat.sub_self]; rfl)
      refine ⟨rfl, rfl, rfl, fun z hz => by rw [r1 z hz]; exact kZ z hz, fun j hj => ?_, fun z hz => by rw [r3 z hz, ← hL58, hc_u_row _ _ _ _ hz], fun j hj => by rw [r4 j hj, ← hL58, hc_u_at, if_neg hj], ?_⟩
      · unfold LxI at hj
        rw [r2 j (by omega), kI j (by omega) (by omega) (by omega) (by omega)]; exact q2 j (by omega)
      · unfold LxAt
        rw [es]
        exact ⟨(r2 26 (by decide)).trans k26, r5, (r2 25 (by decide)).trans k25, r6, (r2 29 (by decide)).trans k29, (r2 30 (by decide)).trans k30⟩
  · refine LW_aloadn 0 dX11_next_76 rfl rfl ?_
    refine LW_iconst (v := 0) dX11_next_77 (by decide) ?_
    refine pX11_25 dX11_next_78 flX11_150 (hY.lt (k := 217) (by decide)) (ly217 hY) ?_
    generalize hI78 : hc_u I68 217 25 0 = I78
    refine LW_goto (tgt := 284) dX11_next_81 (by decide) ?_
    refine LW_vret dX11_next_284 rfl (Nat.le_of_ble_eq_true rfl) (Nat.le_of_ble_eq_true rfl) ?_
    have hq : ¬ q < n := (seeV_end hB).mp (Classical.not_not.mp c73)
    have es : srt B n q = 0 := if_neg hq
    have ee : tkE B n q = q := if_neg hq
    refine ⟨rfl, rfl, rfl, fun z hz => ?_, fun j hj => ?_, fun z hz => by rw [← hL58, hc_u_row _ _ _ _ hz], fun j hj => by rw [← hL58, hc_u_at, if_neg hj], ?_⟩
    · rw [← hI78, hc_u_row _ _ _ _ hz, ← hI68, hc_u_row _ _ _ _ hz, ← hI63, hc_u_row _ _ _ _ hz, ← hI44, hc_u_row _ _ _ _ hz]; exact q1 z hz
    · unfold LxI at hj
      rw [← hI78, hc_u_at, if_neg (by omega), ← hI68, hc_u_at, if_neg (by omega), ← hI63, hc_u_at, if_neg (by omega), ← hI44, hc_u_at, if_neg (by omega)]; exact q2 j (by omega)
    · unfold LxAt
      rw [es, ee]
      refine ⟨?_, ?_, ?_, ?_, ?_, ?_⟩
      · rw [← hI78, hc_u_at, if_neg (by decide), ← hI68, hc_u_at, if_neg (by decide), ← hI63, hc_u_at, if_neg (by decide), ← hI44, hc_u_at, if_pos rfl]
      · rw [← hI78, hc_u_at, if_neg (by decide), ← hI68, hc_u_at, if_neg (by decide), ← hI63, hc_u_at, if_neg (by decide), ← hI44, hc_u_at, if_neg (by decide)]; exact q3
      · rw [← hI78, hc_u_at, if_pos rfl]; rfl
      · rw [← hL58, hc_u_at, if_pos rfl]; rfl
      · rw [← hI78, hc_u_at, if_neg (by decide), ← hI68, hc_u_at, if_neg (by decide), ← hI63, hc_u_at, if_pos rfl]; rfl
      · rw [← hI78, hc_u_at, if_neg (by decide), ← hI68, hc_u_at, if_pos rfl]; rfl
