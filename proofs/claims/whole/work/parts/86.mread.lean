/-! the reference reads: see, fails, isSign, placeOf -/
def seeV (B : Nat → Nat) (n p : Nat) : Int32 := if p < n then nI (B p) else -1
def TpB (I : hc_I) (n : Nat) (B : Nat → Nat) : Prop := I 217 20 = nI n ∧ n ≤ 700 ∧ ∀ j, j < n → I 227 j = nI (B j) ∧ B j < 256
set_option maxRecDepth 100000 in
theorem r_see {Λ : hc_L} {I : hc_I} {L : hc_J} {R : hc_R} (hY : LY Λ) {n p : Nat} {B : Nat → Nat} (hb : TpB I n B) (hp : p < 2 ^ 31) : Run xX11_see [.ref 217, .int (nI p)] Λ I L R (Qr (some (.int (seeV B n p))) Λ I L R) := by
  refine Run.of (by decide +kernel) (Nat.le_of_ble_eq_true rfl) ?_
  show LW _ _ _ [(0, .ref 217), (1, .int (nI p))] _ _ _ _ _ _
  have hn := hb.2.1
  refine LW_iloadn 1 dX11_see_0 rfl rfl ?_
  refine LW_aloadn 0 dX11_see_1 rfl rfl ?_
  refine gX11_20 dX11_see_2 flX11_119 (hY.lt (k := 217) (by decide)) (ly217 hY) ?_
  rw [show I 217 20 = nI n from hb.1]
  refine LW_icmp_ge (tgt := 17) dX11_see_5 (by decide) (fun c5 => ?_) (fun c5 => ?_)
  · refine LW_iconst (v := -1) dX11_see_17 (by decide) ?_
    refine LW_iret dX11_see_18 rfl (Nat.le_of_ble_eq_true rfl) (Nat.le_of_ble_eq_true rfl) ?_
    exact Qr.mk (by unfold seeV; rw [if_neg (fun z => absurd ((hc_le (a := n) (b := p) (by omega) hp).mp c5) (by omega))])
  · have hpn : p < n := Nat.lt_of_not_le (fun z => c5 ((hc_le (a := n) (b := p) (by omega) hp).mpr z))
    refine LW_aloadn 0 dX11_see_8 rfl rfl ?_
    refine gX11_19 dX11_see_9 flX11_40 (hY.lt (k := 217) (by decide)) (ly217 hY) (lf217_19 hY) ?_
    refine LW_iloadn 1 dX11_see_12 rfl rfl ?_
    refine LW_iald dX11_see_13 (hY.lt (k := 227) (by decide)) (ly227 hY) rfl (by omega) (Nat.le_of_ble_eq_true rfl) ?_
    rw [show I 227 p = nI (B p) from (hb.2.2 p hpn).1]
    refine LW_goto (tgt := 18) dX11_see_14 (by decide) ?_
    refine LW_iret dX11_see_18 rfl (Nat.le_of_ble_eq_true rfl) (Nat.le_of_ble_eq_true rfl) ?_
    exact Qr.mk (by unfold seeV; rw [if_pos hpn])
set_option maxRecDepth 100000 in
theorem r_isSign {Λ : hc_L} {I : hc_I} {L : hc_J} {R : hc_R} (hY : LY Λ) (k : Int32) : Run xX11_isSign [.ref 217, .int k] Λ I L R (Qr (some (.int (hc_b (decide (I 217 25 = 3) && decide (I 217 30 = k))))) Λ I L R) := by
  refine Run.of (by decide +kernel) (Nat.le_of_ble_eq_true rfl) ?_
  show LW _ _ _ [(0, .ref 217), (1, .int k)] _ _ _ _ _ _
  refine LW_aloadn 0 dX11_isSign_0 rfl rfl ?_
  refine gX11_25 dX11_isSign_1 flX11_150 (hY.lt (k := 217) (by decide)) (ly217 hY) ?_
  refine LW_iconst (v := 3) dX11_isSign_4 (by decide) ?_
  refine LW_icmp_ne (tgt := 20) dX11_isSign_5 (by decide) (fun c5 => ?_) (fun c5 => ?_)
  · refine LW_iconst (v := 0) dX11_isSign_20 (by decide) ?_
    refine LW_zret dX11_isSign_21 rfl (Nat.le_of_ble_eq_true rfl) (Nat.le_of_ble_eq_true rfl) (Or.inl rfl) ?_
    refine Qr.mk ?_
    first | (rw [decide_eq_true (Classical.not_not.mp c5), decide_eq_true (Classical.not_not.mp c13)]; rfl) | (rw [decide_eq_true (Classical.not_not.mp c5), decide_eq_false c13]; rfl) | (rw [decide_eq_false c5]; rfl)
  · refine LW_aloadn 0 dX11_isSign_8 rfl rfl ?_
    refine gX11_30 dX11_isSign_9 flX11_147 (hY.lt (k := 217) (by decide)) (ly217 hY) ?_
    refine LW_iloadn 1 dX11_isSign_12 rfl rfl ?_
    refine LW_icmp_ne (tgt := 20) dX11_isSign_13 (by decide) (fun c13 => ?_) (fun c13 => ?_)
    · refine LW_iconst (v := 0) dX11_isSign_20 (by decide) ?_
      refine LW_zret dX11_isSign_21 rfl (Nat.le_of_ble_eq_true rfl) (Nat.le_of_ble_eq_true rfl) (Or.inl rfl) ?_
      refine Qr.mk ?_
      first | (rw [decide_eq_true (Classical.not_not.mp c5), decide_eq_true (Classical.not_not.mp c13)]; rfl) | (rw [decide_eq_true (Classical.not_not.mp c5), decide_eq_false c13]; rfl) | (rw [decide_eq_false c5]; rfl)
    · refine LW_iconst (v := 1) dX11_isSign_16 (by decide) ?_
      refine LW_goto (tgt := 21) dX11_isSign_17 (by decide) ?_
      refine LW_zret dX11_isSign_21 rfl (Nat.le_of_ble_eq_true rfl) (Nat.le_of_ble_eq_true rfl) (Or.inr rfl) ?_
      refine Qr.mk ?_
      first | (rw [decide_eq_true (Classical.not_not.mp c5), decide_eq_true (Classical.not_not.mp c13)]; rfl) | (rw [decide_eq_true (Classical.not_not.mp c5), decide_eq_false c13]; rfl) | (rw [decide_eq_false c5]; rfl)
set_option maxRecDepth 100000 in
theorem r_failsT {Λ : hc_L} {I : hc_I} {L : hc_J} {R : hc_R} (hY : LY Λ) (hz : I 217 23 = 0) (c : Int32) : Run xX11_fails [.ref 217, .int c] Λ I L R (fun r Λ' I' L' R' => r = some (.int 0) ∧ Λ = Λ' ∧ L = L' ∧ R = R' ∧ (∀ z, z ≠ 217 → I' z = I z) ∧ ∀ j, I' 217 j = if j = 23 then c else if j = 24 then I 217 26 else I 217 j) := by
  refine Run.of (by decide +kernel) (Nat.le_of_ble_eq_true rfl) ?_
  show LW _ _ _ [(0, .ref 217), (1, .int c)] _ _ _ _ _ _
  refine LW_aloadn 0 dX11_fails_0 rfl rfl ?_
  refine gX11_23 dX11_fails_1 flX11_161 (hY.lt (k := 217) (by decide)) (ly217 hY) ?_
  refine LW_if_ne (tgt := 20) dX11_fails_4 (by decide) (fun c4 => absurd c4 (fun z => z hz)) (fun c4 => ?_)
  refine LW_aloadn 0 dX11_fails_7 rfl rfl ?_
  refine LW_iloadn 1 dX11_fails_8 rfl rfl ?_
  refine pX11_23 dX11_fails_9 flX11_161 (hY.lt (k := 217) (by decide)) (ly217 hY) ?_
  generalize hI9 : hc_u I 217 23 c = I9
  refine LW_aloadn 0 dX11_fails_12 rfl rfl ?_
  refine LW_aloadn 0 dX11_fails_13 rfl rfl ?_
  refine gX11_26 dX11_fails_14 flX11_137 (hY.lt (k := 217) (by decide)) (ly217 hY) ?_
  refine pX11_24 dX11_fails_17 flX11_164 (hY.lt (k := 217) (by decide)) (ly217 hY) ?_
  generalize hI17 : hc_u I9 217 24 (I9 217 26) = I17
  refine LW_iconst (v := 0) dX11_fails_20 (by decide) ?_
  refine LW_zret dX11_fails_21 rfl (Nat.le_of_ble_eq_true rfl) (Nat.le_of_ble_eq_true rfl) (Or.inl rfl) ?_
  refine ⟨rfl, rfl, rfl, rfl, fun z hz => ?_, fun j => ?_⟩
  · rw [← hI17, hc_u_row _ _ _ _ hz, ← hI9, hc_u_row _ _ _ _ hz]
  · rw [← hI17, hc_u_at, ← hI9, hc_u_at, hc_u_at]
    by_cases c3 : j = 23
    · rw [if_neg (by omega), if_pos c3, if_pos c3]
    · rw [if_neg c3]
      by_cases c4 : j = 24
      · rw [if_pos c4, if_pos c4, if_neg (by decide), if_neg c3]
      · rw [if_neg c4, if_neg c4, if_neg c3]
set_option maxRecDepth 100000 in
theorem r_placeOf {Λ : hc_L} {I : hc_I} {L : hc_J} {R : hc_R} (hY : LY Λ) (w : Int64) {a c : Nat} (hac : a + c ≤ 24) : Run xX11_placeOf [.ref 217, .long w, .int (nI a), .int (nI c)] Λ I L R (Qr (some (.int (abFind (fun j => decide (L 220 (a + j) = w)) c 0))) Λ I L R) := by
  refine Run.of (by decide +kernel) (Nat.le_of_ble_eq_true rfl) ?_
  show LW _ _ _ [(0, .ref 217), (1, .long w), (3, .int (nI a)), (4, .int (nI c))] _ _ _ _ _ _
  have loop : ∀ i, i ≤ c → LW xX11_placeOf (0, 0) 3 [(0, .ref 217), (1, .long w), (3, .int (nI a)), (4, .int (nI c)), (5, .int (nI i))] [] Λ I L R (Qr (some (.int (abFind (fun j => decide (L 220 (a + j) = w)) (c - i) i))) Λ I L R) := by
    refine hc_down ?_ ?_
    · refine LW_iload 4 dX11_placeOf_3 rfl ?_
      refine LW_iload 3 dX11_placeOf_5 rfl ?_
      refine LW_icmp_ge (tgt := 33) dX11_placeOf_7 (by decide) (fun c7 => ?_) (fun c7 => absurd (Int32.le_refl _) c7)
      refine LW_iconst (v := -1) dX11_placeOf_33 (by decide) ?_
      refine LW_iret dX11_placeOf_34 rfl (Nat.le_of_ble_eq_true rfl) (Nat.le_of_ble_eq_true rfl) ?_
      exact Qr.mk (by rw [Nat.sub_self]; rfl)
    · intro i hi ih
      obtain ⟨d, hd⟩ : ∃ d, c - i = d + 1 := ⟨c - i - 1, by omega⟩
      rw [show c - (i + 1) = d by omega] at ih
      rw [hd]
      refine LW_iload 4 dX11_placeOf_3 rfl ?_
      refine LW_iload 3 dX11_placeOf_5 rfl ?_
      refine LW_icmp_ge (tgt := 33) dX11_placeOf_7 (by decide) (fun c7 => absurd c7 (hc_nle (a := c) (b := i) (by omega) (by omega) hi)) (fun c7 => ?_)
      refine LW_aloadn 0 dX11_placeOf_10 rfl rfl ?_
      refine gX11_3 dX11_placeOf_11 flX11_18 (hY.lt (k := 217) (by decide)) (ly217 hY) (lf217_3 hY) ?_
      refine LW_iloadn 2 dX11_placeOf_14 rfl rfl ?_
      refine LW_iload 4 dX11_placeOf_15 rfl ?_
      refine LW_iadd dX11_placeOf_17 ?_
      rw [show ((nI a) + (nI i)) = nI (a + i) from (nI_add _ _)]
      refine LW_lald dX11_placeOf_18 (hY.lt (k := 220) (by decide)) (ly220 hY) rfl (by omega) (Nat.le_of_ble_eq_true rfl) ?_
      refine LW_lloadn 1 dX11_placeOf_19 rfl rfl ?_
      refine LW_lcmp dX11_placeOf_20 ?_
      refine LW_lif_ne (tgt := 27) dX11_placeOf_21 (by decide) (fun c21 => ?_) (fun c21 => ?_)
      · refine LW_iinc (n := 4) (v := nI (i + 1)) (ls' := [(0, .ref 217), (1, .long w), (3, .int (nI a)), (4, .int (nI c)), (5, .int (nI (i + 1)))]) dX11_placeOf_27 rfl (hc_inc _) (by decide) rfl ?_
        refine LW_goto (tgt := 3) dX11_placeOf_30 (by decide) ?_
        rw [abFind_skip d i (decide_eq_false c21)]
        exact ih
      · refine LW_iload 4 dX11_placeOf_24 rfl ?_
        refine LW_iret dX11_placeOf_26 rfl (Nat.le_of_ble_eq_true rfl) (Nat.le_of_ble_eq_true rfl) ?_
        exact Qr.mk (by rw [abFind_hit' (decide_eq_true (Classical.not_not.mp c21))])
  refine LW_iconst (v := 0) dX11_placeOf_0 (by decide) ?_
  refine LW_istore (ls' := [(0, .ref 217), (1, .long w), (3, .int (nI a)), (4, .int (nI c)), (5, .int 0)]) dX11_placeOf_1 (by decide) rfl ?_
  exact loop 0 (Nat.zero_le _)
