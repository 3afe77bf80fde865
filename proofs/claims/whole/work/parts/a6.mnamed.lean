/-! the reference: named; who joins is read -/
theorem wd_pos {B : Nat → Nat} {n i : Nat} (hB : ∀ j, j < n → B j < 256) (h : kd B n i = 2000) : 0 < vl B n i ∧ vl B n i < 2 ^ 40 := by
  obtain ⟨s, l, -⟩ := (kd_1 hB).mp h
  obtain ⟨s1, s2⟩ := srt_1.mp s
  rw [vl_1 s]
  obtain ⟨a1, a2, a3, a4⟩ := scan_spec (fun j => isL (B j)) (n - tp B n i) (tp B n i)
  rw [← tkE_L s1 s2] at a1 a2 a3 a4
  have hpos := tkE_lt (B := B) s1
  obtain ⟨k, hk⟩ : ∃ k, tkE B n (tp B n i) - tp B n i = k + 1 := ⟨tkE B n (tp B n i) - tp B n i - 1, by omega⟩
  have l1 := wdV_lt (B := B) (q := tp B n i) (k + 1) (fun j hj => a3 _ (by omega) (by omega))
  have l2 := wdV_ge (B := B) (q := tp B n i) k (fun j hj => a3 _ (by omega) (by omega))
  have l3 : 32 ^ (k + 1) ≤ 32 ^ 7 := Nat.pow_le_pow_right (by decide) (by omega)
  have l4 : 0 < 32 ^ k := Nat.pow_pos (by decide)
  rw [hk]
  exact ⟨by omega, Nat.lt_of_lt_of_le l1 (Nat.le_trans l3 (by decide))⟩
theorem MW.nmd {Λ : hc_L} {I : hc_I} {L L1 : hc_J} {S : HS} (h : MW Λ I L S) (e : L1 220 = L 220) (w : Int64) : abFind (fun j => decide (L1 220 (0 + j) = w)) (aM (sA S)) 0 = abNamed (sA S) w :=
  abFind_cg _ _ (fun j _ hj => by rw [e, Nat.zero_add, h.nm (by omega)])
theorem aIsX_m1 (A : AS) : ¬ aIsX A (-1) = true := by
  unfold aIsX
  rw [decide_eq_false (by decide), Bool.false_and]
  decide
theorem abNamed_0 {A : AS} (h : ∀ m, m < aM A → aNm A m ≠ 0) : abNamed A (lN 0) = -1 :=
  abFind_no _ _ (fun m _ hm => decide_eq_false (h m (by omega)))
theorem named_end {Λ : hc_L} {I I1 I2 : hc_I} {L L1 : hc_J} {R : hc_R} {S : HS} {v : Option Value} (hW : MW Λ I L S) (hl : LxFr I I1 L L1) (h2 : hc_u I1 217 20 0 = I2) (hv : v = some (.int (qNamed S))) : MPost (some (.int (qNamed S))) (sTape S 0 (sB S)) Λ I L R v Λ I2 L1 R := by
  have k7 : ∀ j, (j = 2 ∨ j = 10 ∨ j = 21 ∨ j = 22 ∨ j = 35) → I2 217 j = I 217 j := fun j hj => by rw [← h2, hc_u_at, if_neg (by omega)]; exact hl.2.1 j (by unfold LxJ; omega)
  have kz : ∀ z, z ≠ 217 → I2 z = I z := fun z hz => by rw [← h2, hc_u_row _ _ _ _ hz]; exact hl.1 z hz
  obtain ⟨m, l, r, nm, ⟨c1, c2, c3⟩, -, f1, f2⟩ := hW
  refine ⟨hv, rfl, rfl, fun z hz => kz z (mj_z hz).2.2, fun z hz => hl.2.2 z (mj_z hz).2.2, m.kp (hl.2.2 218 (by decide)) (kz 221 (by decide)) (kz 222 (by decide)) (kz 223 (by decide)) (k7 35 (by omega)), l.kp (k7 10 (by omega)) (kz 226 (by decide)) (hl.2.2 225 (by decide)), by rw [kz 224 (by decide)]; exact r, by rw [hl.2.2 220 (by decide)]; exact nm, ⟨(k7 2 (by omega)).trans c1, c2, by rw [hl.2.2 219 (by decide)]; exact c3⟩, ⟨by rw [← h2, hc_u_at, if_pos rfl]; rfl, Nat.zero_le _, fun j hj => absurd hj (Nat.not_lt_zero j)⟩, (k7 21 (by omega)).trans f1, (k7 22 (by omega)).trans f2⟩
set_option maxRecDepth 100000 in
theorem m_named {Λ : hc_L} {I : hc_I} {L : hc_J} {R : hc_R} {S : HS} (hW : MW Λ I L S) (hnm : ∀ m, m < aM (sA S) → aNm (sA S) m ≠ 0) : Run xX11_named [.ref 217] Λ I L R (MPost (some (.int (qNamed S))) (sTape S 0 (sB S)) Λ I L R) := by
  refine Run.of (by decide +kernel) (Nat.le_of_ble_eq_true rfl) ?_
  show LW _ _ _ [(0, .ref 217)] _ _ _ _ _ _
  have hY := hW.m.y
  have hM := hW.m
  have hm12 := hM.w.m
  have hloneY : kd (sB S) (sN S) 0 = 2000 → kd (sB S) (sN S) 1 = 2003 → nmdV S = abNamed (sA S) (lN (vl (sB S) (sN S) 0)) := fun a b => by unfold nmdV loneV; rw [if_pos ⟨a, b⟩]
  have hloneN : ¬ (kd (sB S) (sN S) 0 = 2000 ∧ kd (sB S) (sN S) 1 = 2003) → qNamed S = -1 := fun a => by
    unfold qNamed nmdV loneV
    rw [if_neg a, abNamed_0 hnm]
    exact if_neg (aIsX_m1 _)
  refine LW_aloadn 0 dX11_named_0 rfl rfl ?_
  refine LW_callV (As := []) (b := 217) (st := []) (ci := 11) (r := (RX11, TX11, 44)) (r_begins (I0 := I) (L0 := L) (n := sN S) (B := sB S) hY RFr.rf hW.2.2.2.2.2.1) YX11_begins rfl dX11_named_1 mlX11_270 (hY.lt (k := 217) (by decide)) (ly217 hY) ⟨rfl, rfl⟩ (by decide) ⟨Nat.le_of_ble_eq_true rfl, Nat.le_of_ble_eq_true rfl⟩ (Nat.le_of_ble_eq_true rfl) rfl (fun r1 Λc1 Ic1 Lc1 Rc1 hq1 => ?_)
  obtain ⟨rfl, rfl, rfl, hl1, hT⟩ := hq1
  refine LW_aloadn 0 dX11_named_4 rfl rfl ?_
  refine LW_callV (As := []) (b := 217) (st := []) (ci := 11) (r := (RX11, TX11, 44)) (r_isName hT) YX11_isName rfl dX11_named_5 mlX11_243 (hY.lt (k := 217) (by decide)) (ly217 hY) ⟨rfl, rfl⟩ (by decide) ⟨Nat.le_of_ble_eq_true rfl, Nat.le_of_ble_eq_true rfl⟩ (Nat.le_of_ble_eq_true rfl) rfl (fun r5 Λc5 Ic5 Lc5 Rc5 hq5 => ?_)
  obtain ⟨rfl, rfl, rfl, rfl, rfl⟩ := hq5
  refine LW_bif_eq (tgt := 30) dX11_named_8 (by decide) (fun c8 => ?_) (fun c8 => ?_)
  · refine LW_iconst (v := -1) dX11_named_30 (by decide) ?_
    refine LW_istoren (ls' := [(0, .ref 217), (1, .int (-1))]) dX11_named_31 rfl (by decide) rfl ?_
    refine LW_aloadn 0 dX11_named_32 rfl rfl ?_
    refine LW_callV (As := []) (b := 217) (st := []) (ci := 11) (r := (RX11, TX11, 44)) (r_nx hT) YX11_next rfl dX11_named_33 mlX11_234 (hY.lt (k := 217) (by decide)) (ly217 hY) ⟨rfl, rfl⟩ (by decide) ⟨Nat.le_of_ble_eq_true rfl, Nat.le_of_ble_eq_true rfl⟩ (Nat.le_of_ble_eq_true rfl) rfl (fun r33 Λc33 Ic33 Lc33 Rc33 hq33 => ?_)
    obtain ⟨rfl, rfl, rfl, hl33, hT, hr33⟩ := hq33
    refine LW_aloadn 0 dX11_named_36 rfl rfl ?_
    refine gX11_25 dX11_named_37 flX11_150 (hY.lt (k := 217) (by decide)) (ly217 hY) ?_
    rw [show Ic33 217 25 = nI (srt (sB S) (sN S) (tp (sB S) (sN S) 1)) from hT.srt]
    refine LW_if_ne (tgt := 47) dX11_named_40 (by decide) (fun c40 => ?_) (fun c40 => ?_)
    · refine LW_iconst (v := 0) dX11_named_47 (by decide) ?_
      refine LW_istoren (ls' := [(0, .ref 217), (1, .int (-1)), (2, .int 0)]) dX11_named_48 rfl (by decide) rfl ?_
      refine LW_aloadn 0 dX11_named_49 rfl rfl ?_
      refine LW_iconst (v := 0) dX11_named_50 (by decide) ?_
      refine pX11_20 dX11_named_51 flX11_119 (hY.lt (k := 217) (by decide)) (ly217 hY) ?_
      generalize hI51 : hc_u Ic33 217 20 0 = I51
      refine LW_iloadn 2 dX11_named_54 rfl rfl ?_
      refine LW_if_eq (tgt := 81) dX11_named_55 (by decide) (fun c55 => ?_) (fun c55 => absurd (by decide) c55)
      refine LW_iconst (v := -1) dX11_named_81 (by decide) ?_
      refine LW_iret dX11_named_82 rfl (Nat.le_of_ble_eq_true rfl) (Nat.le_of_ble_eq_true rfl) ?_
      have hv : qNamed S = -1 := by
        first
          | exact hloneN (fun z => (of_decide_eq_false c8) z.1)
          | exact hloneN (fun z => c40 (by rw [(kd_0 hT.b).mp z.2]; rfl))
          | (unfold qNamed; rw [hloneY (of_decide_eq_true c8) hk1, Classical.not_not.mp c60]; exact if_neg (aIsX_m1 _))
          | (unfold qNamed; rw [hloneY (of_decide_eq_true c8) hk1, c60]; exact if_neg (aIsX_m1 _))
          | (unfold qNamed; rw [hloneY (of_decide_eq_true c8) hk1, hme, aIsX_n (by omega), if_neg]; unfold aIs; rw [decide_eq_true hm, Bool.true_and]; exact fun z => c74 (by rw [(lB_1 _).mpr z]))
      exact named_end hW (hl1.trans hl33) hI51 (by rw [hv])
    · have hk1 : kd (sB S) (sN S) 1 = 2003 := (kd_0 hT.b).mpr ((hc_eq (a := srt (sB S) (sN S) (tp (sB S) (sN S) 1)) (b := 0) (by have := srt_le (sB S) (sN S) (tp (sB S) (sN S) 1); omega) (by decide)).mp (Classical.not_not.mp c40))
      refine LW_iconst (v := 1) dX11_named_43 (by decide) ?_
      refine LW_goto (tgt := 48) dX11_named_44 (by decide) ?_
      refine LW_istoren (ls' := [(0, .ref 217), (1, .int (-1)), (2, .int 1)]) dX11_named_48 rfl (by decide) rfl ?_
      refine LW_aloadn 0 dX11_named_49 rfl rfl ?_
      refine LW_iconst (v := 0) dX11_named_50 (by decide) ?_
      refine pX11_20 dX11_named_51 flX11_119 (hY.lt (k := 217) (by decide)) (ly217 hY) ?_
      generalize hI51 : hc_u Ic33 217 20 0 = I51
      refine LW_iloadn 2 dX11_named_54 rfl rfl ?_
      refine LW_if_eq (tgt := 81) dX11_named_55 (by decide) (fun c55 => absurd c55 (by decide)) (fun c55 => ?_)
      refine LW_iloadn 1 dX11_named_58 rfl rfl ?_
      refine LW_iconst (v := -1) dX11_named_59 (by decide) ?_
      refine LW_icmp_eq (tgt := 81) dX11_named_60 (by decide) (fun c60 => ?_) (fun c60 => absurd (by decide) c60)
      refine LW_iconst (v := -1) dX11_named_81 (by decide) ?_
      refine LW_iret dX11_named_82 rfl (Nat.le_of_ble_eq_true rfl) (Nat.le_of_ble_eq_true rfl) ?_
      have hv : qNamed S = -1 := by
        first
          | exact hloneN (fun z => (of_decide_eq_false c8) z.1)
          | exact hloneN (fun z => c40 (by rw [(kd_0 hT.b).mp z.2]; rfl))
          | (unfold qNamed; rw [hloneY (of_decide_eq_true c8) hk1, Classical.not_not.mp c60]; exact if_neg (aIsX_m1 _))
          | (unfold qNamed; rw [hloneY (of_decide_eq_true c8) hk1, c60]; exact if_neg (aIsX_m1 _))
          | (unfold qNamed; rw [hloneY (of_decide_eq_true c8) hk1, hme, aIsX_n (by omega), if_neg]; unfold aIs; rw [decide_eq_true hm, Bool.true_and]; exact fun z => c74 (by rw [(lB_1 _).mpr z]))
      exact named_end hW (hl1.trans hl33) hI51 (by rw [hv])
  · have hk := of_decide_eq_true c8
    refine LW_aloadn 0 dX11_named_11 rfl rfl ?_
    refine LW_aloadn 0 dX11_named_12 rfl rfl ?_
    refine gX11_28 dX11_named_13 flX11_140 (hY.lt (k := 217) (by decide)) (ly217 hY) ?_
    rw [show Lc1 217 28 = lN (vl (sB S) (sN S) 0) from (hT.wd hk)]
    refine LW_iconst (v := 0) dX11_named_16 (by decide) ?_
    refine LW_aloadn 0 dX11_named_17 rfl rfl ?_
    refine gX11_0 dX11_named_18 flX11_9 (hY.lt (k := 217) (by decide)) (ly217 hY) (lf217_0 hY) ?_
    refine LW_iconst (v := 5) dX11_named_21 (by decide) ?_
    refine LW_lald dX11_named_22 (hY.lt (k := 218) (by decide)) (ly218 hY) rfl (by decide) (Nat.le_of_ble_eq_true rfl) ?_
    rw [show Lc1 218 5 = lN (aM (sA S)) from (by rw [(hl1.2.2 218 (by decide))]; exact hM.nM)]
    refine LW_l2i dX11_named_23 ?_
    rw [show (lN (aM (sA S))).toInt32 = nI (aM (sA S)) from (lN_i _)]
    refine LW_callV (As := [.long (lN (vl (sB S) (sN S) 0)), .int 0, .int (nI (aM (sA S)))]) (b := 217) (st := []) (ci := 11) (r := (RX11, TX11, 44)) (r_placeOf hY (lN (vl (sB S) (sN S) 0)) (a := 0) (c := aM (sA S)) (by omega)) YX11_placeOf rfl dX11_named_24 mlX11_246 (hY.lt (k := 217) (by decide)) (ly217 hY) ⟨rfl, rfl⟩ (by decide) ⟨Nat.le_of_ble_eq_true rfl, Nat.le_of_ble_eq_true rfl⟩ (Nat.le_of_ble_eq_true rfl) rfl (fun r24 Λc24 Ic24 Lc24 Rc24 hq24 => ?_)
    obtain ⟨rfl, rfl, rfl, rfl, rfl⟩ := hq24
    rw [hW.nmd (hl1.2.2 220 (by decide)) (lN (vl (sB S) (sN S) 0))]
    refine LW_goto (tgt := 31) dX11_named_27 (by decide) ?_
    refine LW_istoren (ls' := [(0, .ref 217), (1, .int (abNamed (sA S) (lN (vl (sB S) (sN S) 0))))]) dX11_named_31 rfl (by decide) rfl ?_
    refine LW_aloadn 0 dX11_named_32 rfl rfl ?_
    refine LW_callV (As := []) (b := 217) (st := []) (ci := 11) (r := (RX11, TX11, 44)) (r_nx hT) YX11_next rfl dX11_named_33 mlX11_234 (hY.lt (k := 217) (by decide)) (ly217 hY) ⟨rfl, rfl⟩ (by decide) ⟨Nat.le_of_ble_eq_true rfl, Nat.le_of_ble_eq_true rfl⟩ (Nat.le_of_ble_eq_true rfl) rfl (fun r33 Λc33 Ic33 Lc33 Rc33 hq33 => ?_)
    obtain ⟨rfl, rfl, rfl, hl33, hT, hr33⟩ := hq33
    refine LW_aloadn 0 dX11_named_36 rfl rfl ?_
    refine gX11_25 dX11_named_37 flX11_150 (hY.lt (k := 217) (by decide)) (ly217 hY) ?_
    rw [show Ic33 217 25 = nI (srt (sB S) (sN S) (tp (sB S) (sN S) 1)) from hT.srt]
    refine LW_if_ne (tgt := 47) dX11_named_40 (by decide) (fun c40 => ?_) (fun c40 => ?_)
    · refine LW_iconst (v := 0) dX11_named_47 (by decide) ?_
      refine LW_istoren (ls' := [(0, .ref 217), (1, .int (abNamed (sA S) (lN (vl (sB S) (sN S) 0)))), (2, .int 0)]) dX11_named_48 rfl (by decide) rfl ?_
      refine LW_aloadn 0 dX11_named_49 rfl rfl ?_
      refine LW_iconst (v := 0) dX11_named_50 (by decide) ?_
      refine pX11_20 dX11_named_51 flX11_119 (hY.lt (k := 217) (by decide)) (ly217 hY) ?_
      generalize hI51 : hc_u Ic33 217 20 0 = I51
      refine LW_iloadn 2 dX11_named_54 rfl rfl ?_
      refine LW_if_eq (tgt := 81) dX11_named_55 (by decide) (fun c55 => ?_) (fun c55 => absurd (by decide) c55)
      refine LW_iconst (v := -1) dX11_named_81 (by decide) ?_
      refine LW_iret dX11_named_82 rfl (Nat.le_of_ble_eq_true rfl) (Nat.le_of_ble_eq_true rfl) ?_
      have hv : qNamed S = -1 := by
        first
          | exact hloneN (fun z => (of_decide_eq_false c8) z.1)
          | exact hloneN (fun z => c40 (by rw [(kd_0 hT.b).mp z.2]; rfl))
          | (unfold qNamed; rw [hloneY (of_decide_eq_true c8) hk1, Classical.not_not.mp c60]; exact if_neg (aIsX_m1 _))
          | (unfold qNamed; rw [hloneY (of_decide_eq_true c8) hk1, c60]; exact if_neg (aIsX_m1 _))
          | (unfold qNamed; rw [hloneY (of_decide_eq_true c8) hk1, hme, aIsX_n (by omega), if_neg]; unfold aIs; rw [decide_eq_true hm, Bool.true_and]; exact fun z => c74 (by rw [(lB_1 _).mpr z]))
      exact named_end hW (hl1.trans hl33) hI51 (by rw [hv])
    · have hk1 : kd (sB S) (sN S) 1 = 2003 := (kd_0 hT.b).mpr ((hc_eq (a := srt (sB S) (sN S) (tp (sB S) (sN S) 1)) (b := 0) (by have := srt_le (sB S) (sN S) (tp (sB S) (sN S) 1); omega) (by decide)).mp (Classical.not_not.mp c40))
      refine LW_iconst (v := 1) dX11_named_43 (by decide) ?_
      refine LW_goto (tgt := 48) dX11_named_44 (by decide) ?_
      refine LW_istoren (ls' := [(0, .ref 217), (1, .int (abNamed (sA S) (lN (vl (sB S) (sN S) 0)))), (2, .int 1)]) dX11_named_48 rfl (by decide) rfl ?_
      refine LW_aloadn 0 dX11_named_49 rfl rfl ?_
      refine LW_iconst (v := 0) dX11_named_50 (by decide) ?_
      refine pX11_20 dX11_named_51 flX11_119 (hY.lt (k := 217) (by decide)) (ly217 hY) ?_
      generalize hI51 : hc_u Ic33 217 20 0 = I51
      refine LW_iloadn 2 dX11_named_54 rfl rfl ?_
      refine LW_if_eq (tgt := 81) dX11_named_55 (by decide) (fun c55 => absurd c55 (by decide)) (fun c55 => ?_)
      refine LW_iloadn 1 dX11_named_58 rfl rfl ?_
      refine LW_iconst (v := -1) dX11_named_59 (by decide) ?_
      refine LW_icmp_eq (tgt := 81) dX11_named_60 (by decide) (fun c60 => ?_) (fun c60 => ?_)
      · refine LW_iconst (v := -1) dX11_named_81 (by decide) ?_
        refine LW_iret dX11_named_82 rfl (Nat.le_of_ble_eq_true rfl) (Nat.le_of_ble_eq_true rfl) ?_
        have hv : qNamed S = -1 := by
          first
            | exact hloneN (fun z => (of_decide_eq_false c8) z.1)
            | exact hloneN (fun z => c40 (by rw [(kd_0 hT.b).mp z.2]; rfl))
            | (unfold qNamed; rw [hloneY (of_decide_eq_true c8) hk1, Classical.not_not.mp c60]; exact if_neg (aIsX_m1 _))
            | (unfold qNamed; rw [hloneY (of_decide_eq_true c8) hk1, c60]; exact if_neg (aIsX_m1 _))
            | (unfold qNamed; rw [hloneY (of_decide_eq_true c8) hk1, hme, aIsX_n (by omega), if_neg]; unfold aIs; rw [decide_eq_true hm, Bool.true_and]; exact fun z => c74 (by rw [(lB_1 _).mpr z]))
        exact named_end hW (hl1.trans hl33) hI51 (by rw [hv])
      · obtain ⟨m, hm, hme⟩ := (abNamed_r (sA S) hm12 (lN (vl (sB S) (sN S) 0))).resolve_left c60
        rw [hme]
        refine LW_aloadn 0 dX11_named_63 rfl rfl ?_
        refine gX11_0 dX11_named_64 flX11_9 (hY.lt (k := 217) (by decide)) (ly217 hY) (lf217_0 hY) ?_
        refine LW_bipush (v := 10) dX11_named_67 (by decide) ?_
        refine LW_iloadn 1 dX11_named_69 rfl rfl ?_
        refine LW_iadd dX11_named_70 ?_
        rw [show (10 + (nI m)) = nI (10 + m) from (nI_add 10 _)]
        refine LW_lald dX11_named_71 (hY.lt (k := 218) (by decide)) (ly218 hY) rfl (by omega) (Nat.le_of_ble_eq_true rfl) ?_
        rw [show Lc33 218 (10 + m) = lB (aTh (sA S) m) from (by rw [hl33.2.2 218 (by decide), (hl1.2.2 218 (by decide))]; exact hM.th hm)]
        refine LW_lconst (v := 1) dX11_named_72 (by decide) ?_
        refine LW_lcmp dX11_named_73 ?_
        refine LW_lif_ne (tgt := 81) dX11_named_74 (by decide) (fun c74 => ?_) (fun c74 => ?_)
        · refine LW_iconst (v := -1) dX11_named_81 (by decide) ?_
          refine LW_iret dX11_named_82 rfl (Nat.le_of_ble_eq_true rfl) (Nat.le_of_ble_eq_true rfl) ?_
          have hv : qNamed S = -1 := by
            first
              | exact hloneN (fun z => (of_decide_eq_false c8) z.1)
              | exact hloneN (fun z => c40 (by rw [(kd_0 hT.b).mp z.2]; rfl))
              | (unfold qNamed; rw [hloneY (of_decide_eq_true c8) hk1, Classical.not_not.mp c60]; exact if_neg (aIsX_m1 _))
              | (unfold qNamed; rw [hloneY (of_decide_eq_true c8) hk1, c60]; exact if_neg (aIsX_m1 _))
              | (unfold qNamed; rw [hloneY (of_decide_eq_true c8) hk1, hme, aIsX_n (by omega), if_neg]; unfold aIs; rw [decide_eq_true hm, Bool.true_and]; exact fun z => c74 (by rw [(lB_1 _).mpr z]))
          exact named_end hW (hl1.trans hl33) hI51 (by rw [hv])
        · refine LW_iloadn 1 dX11_named_77 rfl rfl ?_
          refine LW_goto (tgt := 82) dX11_named_78 (by decide) ?_
          refine LW_iret dX11_named_82 rfl (Nat.le_of_ble_eq_true rfl) (Nat.le_of_ble_eq_true rfl) ?_
          have hv : qNamed S = nI m := by
            unfold qNamed
            rw [hloneY (of_decide_eq_true c8) hk1, hme, aIsX_n (by omega), if_pos]
            unfold aIs
            rw [decide_eq_true hm, Bool.true_and]
            exact (lB_1 _).mp (Classical.not_not.mp c74)
          exact named_end hW (hl1.trans hl33) hI51 (by rw [hv])
