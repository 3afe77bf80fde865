/-! the reference reads: behind the blanks -/
theorem seeV_sp {B : Nat → Nat} {n p : Nat} (hB : ∀ j, j < n → B j < 256) : (seeV B n p = 32 ∨ seeV B n p = 10) ↔ (p < n ∧ isSp (B p) = true) := by
  unfold seeV
  by_cases h : p < n
  · rw [if_pos h]
    have hb := hB p h
    have e1 := hc_eq (a := B p) (b := 32) (by omega) (by decide)
    have e2 := hc_eq (a := B p) (b := 10) (by omega) (by decide)
    unfold isSp
    rw [Bool.or_eq_true, decide_eq_true_eq, decide_eq_true_eq]
    exact ⟨fun q => ⟨h, q.imp e1.mp e2.mp⟩, fun q => q.2.imp e1.mpr e2.mpr⟩
  · rw [if_neg h]
    exact ⟨fun q => by rcases q with q | q <;> exact absurd q (by decide), fun q => absurd q.1 h⟩
set_option maxRecDepth 100000 in
theorem nx_sp {Λ : hc_L} {I : hc_I} {L : hc_J} {R : hc_R} {n : Nat} {B : Nat → Nat} {Q : hc_Q} (hY : LY Λ) (hb : TpB I n B) {q : Nat} (hend : ∀ I3 : hc_I, (∀ z, z ≠ 217 → I3 z = I z) → (∀ j, j ≠ 27 → I3 217 j = I 217 j) → I3 217 27 = nI q → LW xX11_next (0, 0) 39 [(0, .ref 217)] [] Λ I3 L R Q) : ∀ d p, tkF B n p = q → p + d = q → p ≤ n → ∀ I2 : hc_I, (∀ z, z ≠ 217 → I2 z = I z) → (∀ j, j ≠ 27 → I2 217 j = I 217 j) → I2 217 27 = nI p → LW xX11_next (0, 0) 0 [(0, .ref 217)] [] Λ I2 L R Q := by
  have hn := hb.2.1
  have hB : ∀ j, j < n → B j < 256 := fun j hj => (hb.2.2 j hj).2
  intro d
  induction d with
  | zero =>
    intro p ht hq hp I2 q1 q2 q3
    have hb2 : TpB I2 n B := ⟨(q2 20 (by decide)).trans hb.1, hn, fun j hj => by rw [q1 227 (by decide)]; exact hb.2.2 j hj⟩
    have hns : ¬ (p < n ∧ isSp (B p) = true) := fun z => by
      have e := tkF_s z.1 z.2
      have e2 := (tkF_le (B := B) (n := n) (p := p + 1) (by omega)).1
      omega
    refine LW_aloadn 0 dX11_next_0 rfl rfl ?_
    refine LW_aloadn 0 dX11_next_1 rfl rfl ?_
    refine gX11_27 dX11_next_2 flX11_130 (hY.lt (k := 217) (by decide)) (ly217 hY) ?_
    rw [show I2 217 27 = nI p from q3]
    refine LW_callV (As := [.int (nI p)]) (b := 217) (st := []) (ci := 11) (r := (RX11, TX11, 44)) (r_see hY hb2 (p := p) (by omega)) YX11_see rfl dX11_next_5 mlX11_133 (hY.lt (k := 217) (by decide)) (ly217 hY) ⟨rfl, rfl⟩ (by decide) ⟨Nat.le_of_ble_eq_true rfl, Nat.le_of_ble_eq_true rfl⟩ (Nat.le_of_ble_eq_true rfl) rfl (fun r5 Λc5 Ic5 Lc5 Rc5 hq5 => ?_)
    obtain ⟨rfl, rfl, rfl, rfl, rfl⟩ := hq5
    refine LW_bipush (v := 32) dX11_next_8 (by decide) ?_
    refine LW_icmp_eq (tgt := 26) dX11_next_10 (by decide) (fun c10 => absurd c10 (fun z => hns ((seeV_sp hB).mp (Or.inl z)))) (fun c10 => ?_)
    refine LW_aloadn 0 dX11_next_13 rfl rfl ?_
    refine LW_aloadn 0 dX11_next_14 rfl rfl ?_
    refine gX11_27 dX11_next_15 flX11_130 (hY.lt (k := 217) (by decide)) (ly217 hY) ?_
    rw [show I2 217 27 = nI p from q3]
    refine LW_callV (As := [.int (nI p)]) (b := 217) (st := []) (ci := 11) (r := (RX11, TX11, 44)) (r_see hY hb2 (p := p) (by omega)) YX11_see rfl dX11_next_18 mlX11_133 (hY.lt (k := 217) (by decide)) (ly217 hY) ⟨rfl, rfl⟩ (by decide) ⟨Nat.le_of_ble_eq_true rfl, Nat.le_of_ble_eq_true rfl⟩ (Nat.le_of_ble_eq_true rfl) rfl (fun r18 Λc18 Ic18 Lc18 Rc18 hq18 => ?_)
    obtain ⟨rfl, rfl, rfl, rfl, rfl⟩ := hq18
    refine LW_bipush (v := 10) dX11_next_21 (by decide) ?_
    refine LW_icmp_ne (tgt := 39) dX11_next_23 (by decide) (fun c23 => ?_) (fun c23 => absurd (fun z => hns ((seeV_sp hB).mp (Or.inr z))) c23)
    exact hend I2 q1 q2 (by rw [q3]; congr 1)
  | succ d ih =>
    intro p ht hq hp I2 q1 q2 q3
    have hb2 : TpB I2 n B := ⟨(q2 20 (by decide)).trans hb.1, hn, fun j hj => by rw [q1 227 (by decide)]; exact hb.2.2 j hj⟩
    have hs : p < n ∧ isSp (B p) = true := by
      have h1 : p < n := Nat.lt_of_not_le (fun z => by have := tkF_end (B := B) (n := n) (p := p) z; omega)
      refine ⟨h1, ?_⟩
      cases c : isSp (B p) with
      | true => rfl
      | false => have := tkF_n h1 c; omega
    refine LW_aloadn 0 dX11_next_0 rfl rfl ?_
    refine LW_aloadn 0 dX11_next_1 rfl rfl ?_
    refine gX11_27 dX11_next_2 flX11_130 (hY.lt (k := 217) (by decide)) (ly217 hY) ?_
    rw [show I2 217 27 = nI p from q3]
    refine LW_callV (As := [.int (nI p)]) (b := 217) (st := []) (ci := 11) (r := (RX11, TX11, 44)) (r_see hY hb2 (p := p) (by omega)) YX11_see rfl dX11_next_5 mlX11_133 (hY.lt (k := 217) (by decide)) (ly217 hY) ⟨rfl, rfl⟩ (by decide) ⟨Nat.le_of_ble_eq_true rfl, Nat.le_of_ble_eq_true rfl⟩ (Nat.le_of_ble_eq_true rfl) rfl (fun r5 Λc5 Ic5 Lc5 Rc5 hq5 => ?_)
    obtain ⟨rfl, rfl, rfl, rfl, rfl⟩ := hq5
    refine LW_bipush (v := 32) dX11_next_8 (by decide) ?_
    refine LW_icmp_eq (tgt := 26) dX11_next_10 (by decide) (fun c10 => ?_) (fun c10 => ?_)
    · refine LW_aloadn 0 dX11_next_26 rfl rfl ?_
      refine LW_dup dX11_next_27 rfl ?_
      refine gX11_27 dX11_next_28 flX11_130 (hY.lt (k := 217) (by decide)) (ly217 hY) ?_
      rw [show I2 217 27 = nI p from q3]
      refine LW_iconst (v := 1) dX11_next_31 (by decide) ?_
      refine LW_iadd dX11_next_32 ?_
      rw [show ((nI p) + 1) = nI (p + 1) from (nI_add p 1)]
      refine pX11_27 dX11_next_33 flX11_130 (hY.lt (k := 217) (by decide)) (ly217 hY) ?_
      generalize hI33 : hc_u I2 217 27 (nI (p + 1)) = I33
      refine LW_goto (tgt := 0) dX11_next_36 (by decide) ?_
      exact ih (p + 1) ((tkF_s hs.1 hs.2).symm.trans ht) (by omega) hs.1 I33 (fun z hz => by rw [← hI33, hc_u_row _ _ _ _ hz]; exact q1 z hz) (fun j hj => by rw [← hI33, hc_u_at, if_neg hj]; exact q2 j hj) (by rw [← hI33, hc_u_at, if_pos rfl])
    · refine LW_aloadn 0 dX11_next_13 rfl rfl ?_
      refine LW_aloadn 0 dX11_next_14 rfl rfl ?_
      refine gX11_27 dX11_next_15 flX11_130 (hY.lt (k := 217) (by decide)) (ly217 hY) ?_
      rw [show I2 217 27 = nI p from q3]
      refine LW_callV (As := [.int (nI p)]) (b := 217) (st := []) (ci := 11) (r := (RX11, TX11, 44)) (r_see hY hb2 (p := p) (by omega)) YX11_see rfl dX11_next_18 mlX11_133 (hY.lt (k := 217) (by decide)) (ly217 hY) ⟨rfl, rfl⟩ (by decide) ⟨Nat.le_of_ble_eq_true rfl, Nat.le_of_ble_eq_true rfl⟩ (Nat.le_of_ble_eq_true rfl) rfl (fun r18 Λc18 Ic18 Lc18 Rc18 hq18 => ?_)
      obtain ⟨rfl, rfl, rfl, rfl, rfl⟩ := hq18
      refine LW_bipush (v := 10) dX11_next_21 (by decide) ?_
      refine LW_icmp_ne (tgt := 39) dX11_next_23 (by decide) (fun c23 => ?_) (fun c23 => ?_)
      · exact absurd ((seeV_sp hB).mpr hs) (fun z => by rcases z with z | z; exact c10 z; exact c23 z)
      · refine LW_aloadn 0 dX11_next_26 rfl rfl ?_
        refine LW_dup dX11_next_27 rfl ?_
        refine gX11_27 dX11_next_28 flX11_130 (hY.lt (k := 217) (by decide)) (ly217 hY) ?_
        rw [show I2 217 27 = nI p from q3]
        refine LW_iconst (v := 1) dX11_next_31 (by decide) ?_
        refine LW_iadd dX11_next_32 ?_
        rw [show ((nI p) + 1) = nI (p + 1) from (nI_add p 1)]
        refine pX11_27 dX11_next_33 flX11_130 (hY.lt (k := 217) (by decide)) (ly217 hY) ?_
        generalize hI33 : hc_u I2 217 27 (nI (p + 1)) = I33
        refine LW_goto (tgt := 0) dX11_next_36 (by decide) ?_
        exact ih (p + 1) ((tkF_s hs.1 hs.2).symm.trans ht) (by omega) hs.1 I33 (fun z hz => by rw [← hI33, hc_u_row _ _ _ _ hz]; exact q1 z hz) (fun j hj => by rw [← hI33, hc_u_at, if_neg hj]; exact q2 j hj) (by rw [← hI33, hc_u_at, if_pos rfl])
