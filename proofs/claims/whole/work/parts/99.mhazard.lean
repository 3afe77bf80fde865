/-! the reference reads: hazards, crops, rules -/
section TDU
variable {I : hc_I} {L : hc_J} {A : AS} {P : LwP}
theorem TD.haz {I' : hc_I} (h : TD I L A P) {x y tx ty g : Nat} (e : ∀ z, z ≠ 222 → I' z = I z) (hh : ∀ c, c < 64 → I' 222 (64 + c) = if hzIn x y tx ty c = true then nI g else I 222 (64 + c)) : TD I' L (aSHz A x y tx ty g) P := by
  obtain ⟨⟨g0, ⟨h2, h3⟩, ⟨⟨h4, h5, h6, h7⟩, h8⟩, h11, h12, h13, h14⟩, hp, h18⟩ := h
  have e7 := e 217 (by decide)
  refine ⟨⟨g0, by rw [e7]; exact ⟨h2, h3⟩, by rw [e7, e 224 (by decide)]; exact ⟨⟨h4, h5, h6, h7⟩, h8⟩, fun c hc => ?_, by rw [e 223 (by decide)]; exact h12, h13, by rw [e 221 (by decide)]; exact h14⟩, hp.kp (by rw [e7]) (e 226 (by decide)) rfl, by rw [e7]; exact h18⟩
  rw [hh c hc]
  show _ = nI (if hzIn x y tx ty c = true then g else aHz A c)
  split
  · rfl
  · exact h11 c hc
theorem TD.soft (h : TD I L A P) {c v : Nat} (hc : c < 4) : TD (hc_u I 223 (4 + c) (nI v)) L (aSSo A c v) P := by
  have e : ∀ z, z ≠ 223 → hc_u I 223 (4 + c) (nI v) z = I z := fun z hz => hc_u_row _ _ _ _ hz
  obtain ⟨⟨g0, ⟨h2, h3⟩, ⟨⟨h4, h5, h6, h7⟩, h8⟩, h11, h12, h13, h14⟩, hp, h18⟩ := h
  have e7 := e 217 (by decide)
  refine ⟨⟨g0, by rw [e7]; exact ⟨h2, h3⟩, by rw [e7, e 224 (by decide)]; exact ⟨⟨h4, h5, h6, h7⟩, h8⟩, by rw [e 222 (by decide)]; exact h11, fun d hd => ?_, h13, by rw [e 221 (by decide)]; exact h14⟩, hp.kp (by rw [e7]) (e 226 (by decide)) rfl, by rw [e7]; exact h18⟩
  show _ = nI (lpUp (aSo A) c v d)
  unfold lpUp
  rw [hc_u_at]
  by_cases q : d = c
  · rw [if_pos q, if_pos (by omega)]
  · rw [if_neg q, if_neg (by omega)]; exact h12 d hd
/-- a rule of the object, a rule of the row -/
theorem TD.ru {j k v : Nat} (h : TD I L A P) (hv : v < 2 ^ 31) (hj : (j, k) = (14, 0) ∨ (j, k) = (15, 1) ∨ (j, k) = (16, 5) ∨ (j, k) = (17, 6)) : TD (hc_u I 217 j (nI v)) L (aSRu A k (lN v)) P := by
  have eZ : ∀ z, z ≠ 217 → hc_u I 217 j (nI v) z = I z := fun z hz => hc_u_row _ _ _ _ hz
  have hj4 : 14 ≤ j ∧ j ≤ 17 := by rcases hj with e | e | e | e <;> cases e <;> decide
  have e : ∀ q, q ≠ j → hc_u I 217 j (nI v) 217 q = I 217 q := fun q hq => by rw [hc_u_at, if_neg hq]
  have ev : hc_u I 217 j (nI v) 217 j = nI v := by rw [hc_u_at, if_pos rfl]
  have hl : (nI v).toInt64 = lN v := nI_l hv
  obtain ⟨⟨g0, ⟨h2, h3⟩, ⟨⟨h4, h5, h6, h7⟩, h8⟩, h11, h12, h13, h14⟩, hp, h18⟩ := h
  refine ⟨⟨g0, ⟨by rw [e 12 (by omega)]; exact h2, by rw [e 13 (by omega)]; exact h3⟩, ⟨?_, ?_⟩, by rw [eZ 222 (by decide)]; exact h11, by rw [eZ 223 (by decide)]; exact h12, h13, by rw [eZ 221 (by decide)]; exact h14⟩, hp.kp (e 11 (by omega)) (eZ 226 (by decide)) rfl, by rw [e 18 (by omega)]; exact h18⟩
  · rcases hj with q | q | q | q <;> cases q
    · exact ⟨by rw [ev, hl]; rfl, by rw [e 15 (by decide)]; exact h5, by rw [e 16 (by decide)]; exact h6, by rw [e 17 (by decide)]; exact h7⟩
    · exact ⟨by rw [e 14 (by decide)]; exact h4, by rw [ev, hl]; rfl, by rw [e 16 (by decide)]; exact h6, by rw [e 17 (by decide)]; exact h7⟩
    · exact ⟨by rw [e 14 (by decide)]; exact h4, by rw [e 15 (by decide)]; exact h5, by rw [ev, hl]; rfl, by rw [e 17 (by decide)]; exact h7⟩
    · exact ⟨by rw [e 14 (by decide)]; exact h4, by rw [e 15 (by decide)]; exact h5, by rw [e 16 (by decide)]; exact h6, by rw [ev, hl]; rfl⟩
  · rw [eZ 224 (by decide)]
    rcases hj with q | q | q | q <;> cases q <;> exact h8
theorem TD.rest {j k v : Nat} (h : TD I L A P) (hv : v < 2 ^ 31) (hj : (j, k) = (3, 2) ∨ (j, k) = (4, 3) ∨ (j, k) = (5, 4)) : TD (hc_u I 224 j (nI v)) L (aSRu A k (lN v)) P := by
  have eZ : ∀ z, z ≠ 224 → hc_u I 224 j (nI v) z = I z := fun z hz => hc_u_row _ _ _ _ hz
  have e : ∀ q, q ≠ j → hc_u I 224 j (nI v) 224 q = I 224 q := fun q hq => by rw [hc_u_at, if_neg hq]
  have ev : hc_u I 224 j (nI v) 224 j = nI v := by rw [hc_u_at, if_pos rfl]
  have hl : (nI v).toInt64 = lN v := nI_l hv
  have e7 := eZ 217 (by decide)
  obtain ⟨⟨g0, ⟨h2, h3⟩, ⟨⟨h4, h5, h6, h7⟩, ⟨h8, h9, h10⟩⟩, h11, h12, h13, h14⟩, hp, h18⟩ := h
  refine ⟨⟨g0, by rw [e7]; exact ⟨h2, h3⟩, ⟨?_, ?_⟩, by rw [eZ 222 (by decide)]; exact h11, by rw [eZ 223 (by decide)]; exact h12, h13, by rw [eZ 221 (by decide)]; exact h14⟩, hp.kp (by rw [e7]) (eZ 226 (by decide)) rfl, by rw [e7]; exact h18⟩
  · rw [e7]
    rcases hj with q | q | q <;> cases q <;> exact ⟨h4, h5, h6, h7⟩
  · rcases hj with q | q | q <;> cases q
    · exact ⟨by rw [ev, hl]; rfl, by rw [e 4 (by decide)]; exact h9, by rw [e 5 (by decide)]; exact h10⟩
    · exact ⟨by rw [e 3 (by decide)]; exact h8, by rw [ev, hl]; rfl, by rw [e 5 (by decide)]; exact h10⟩
    · exact ⟨by rw [e 3 (by decide)]; exact h8, by rw [e 4 (by decide)]; exact h9, by rw [ev, hl]; rfl⟩
end TDU
set_option maxRecDepth 100000 in
theorem hz_loop {Λ : hc_L} {I : hc_I} {L : hc_J} {R : hc_R} {Q : hc_Q} {x y tx ty g : Nat} (hY : LY Λ) (hx : x ≤ tx) (hy : y ≤ ty) (htx : tx < 8) (hty : ty < 8) (hg : I 217 31 = nI g) (hend : ∀ I' : hc_I, (∀ z, z ≠ 222 → I' z = I z) → (∀ c, c < 64 → I' 222 c = I 222 c) → (∀ c, c < 64 → I' 222 (64 + c) = if hzIn x y tx ty c = true then nI g else I 222 (64 + c)) → Q (some (.int 1)) Λ I' L R) : LW xX11_readHazard (0, 0) 85 [(0, .ref 217), (1, .int (nI x)), (2, .int (nI y)), (3, .int (nI tx)), (4, .int (nI ty))] [] Λ I L R Q := by
  have outer : ∀ v, v ≤ ty + 1 → y ≤ v → ∀ I1 : hc_I, (∀ z, z ≠ 222 → I1 z = I z) → (∀ c, c < 64 → I1 222 c = I 222 c) → (∀ c, c < 64 → I1 222 (64 + c) = if hzIn x y tx ty c = true ∧ c / 8 < v then nI g else I 222 (64 + c)) → LW xX11_readHazard (0, 0) 88 [(0, .ref 217), (1, .int (nI x)), (2, .int (nI y)), (3, .int (nI tx)), (4, .int (nI ty)), (5, .int (nI v))] [] Λ I1 L R Q := by
    refine hc_down ?_ ?_
    · intro hv0 I1 hI1 hl hk
      refine LW_iload 5 dX11_readHazard_88 rfl ?_
      refine LW_iload 4 dX11_readHazard_90 rfl ?_
      refine LW_icmp_gt (tgt := 136) dX11_readHazard_92 (by decide) (fun c92 => ?_) (fun c92 => absurd ((hc_lt (a := ty) (b := ty + 1) (by omega) (by omega)).mpr (by omega)) c92)
      refine LW_iconst (v := 1) dX11_readHazard_136 (by decide) ?_
      refine LW_zret dX11_readHazard_137 rfl (Nat.le_of_ble_eq_true rfl) (Nat.le_of_ble_eq_true rfl) (Or.inr rfl) ?_
      refine hend I1 hI1 hl (fun c hc => ?_)
      rw [hk c hc]
      by_cases q : hzIn x y tx ty c = true
      · have q2 : hzIn x y tx ty c = true ∧ c / 8 < ty + 1 := ⟨q, by simp only [hzIn, Bool.and_eq_true, decide_eq_true_eq] at q; omega⟩
        rw [if_pos q, if_pos q2]
      · rw [if_neg q, if_neg (fun w => q w.1)]
    · intro v hv0 ih hyv I1 hI1 hl hk
      have inner : ∀ u, u ≤ tx + 1 → x ≤ u → ∀ I2 : hc_I, (∀ z, z ≠ 222 → I2 z = I z) → (∀ c, c < 64 → I2 222 c = I 222 c) → (∀ c, c < 64 → I2 222 (64 + c) = if hzB x tx v u c = true then nI g else I1 222 (64 + c)) → LW xX11_readHazard (0, 0) 98 [(0, .ref 217), (1, .int (nI x)), (2, .int (nI y)), (3, .int (nI tx)), (4, .int (nI ty)), (5, .int (nI v)), (6, .int (nI u))] [] Λ I2 L R Q := by
        refine hc_down ?_ ?_
        · intro hu0 I2 hI2 hl2 hk2
          refine LW_iload 6 dX11_readHazard_98 rfl ?_
          refine LW_iloadn 3 dX11_readHazard_100 rfl rfl ?_
          refine LW_icmp_gt (tgt := 130) dX11_readHazard_101 (by decide) (fun c101 => ?_) (fun c101 => absurd ((hc_lt (a := tx) (b := tx + 1) (by omega) (by omega)).mpr (by omega)) c101)
          refine LW_iinc (n := 5) (v := nI (v + 1)) (ls' := [(0, .ref 217), (1, .int (nI x)), (2, .int (nI y)), (3, .int (nI tx)), (4, .int (nI ty)), (5, .int (nI (v + 1))), (6, .int (nI (tx + 1)))]) dX11_readHazard_130 rfl (hc_inc _) (by decide) rfl ?_
          refine LW_goto (tgt := 88) dX11_readHazard_133 (by decide) ?_
          exact LW_ls [0, 1, 2, 3, 4, 5] rfl (ih (by omega) I2 hI2 hl2 (fun c hc => by
            rw [hk2 c hc]
            by_cases q : hzB x tx v (tx + 1) c = true
            · rw [if_pos q, if_pos]
              simp only [hzB, Bool.and_eq_true, decide_eq_true_eq] at q
              simp only [hzIn, Bool.and_eq_true, decide_eq_true_eq]
              omega
            · rw [if_neg q, hk c hc]
              by_cases q2 : hzIn x y tx ty c = true ∧ c / 8 < v
              · rw [if_pos q2, if_pos ⟨q2.1, by omega⟩]
              · rw [if_neg q2, if_neg]
                simp only [hzB, hzIn, Bool.and_eq_true, decide_eq_true_eq] at q q2 ⊢
                omega))
        · intro u hu0 ih2 hxu I2 hI2 hl2 hk2
          refine LW_iload 6 dX11_readHazard_98 rfl ?_
          refine LW_iloadn 3 dX11_readHazard_100 rfl rfl ?_
          refine LW_icmp_gt (tgt := 130) dX11_readHazard_101 (by decide) (fun c101 => absurd c101 (hc_nlt (a := tx) (b := u) (by omega) (by omega) (by omega))) (fun c101 => ?_)
          refine LW_aloadn 0 dX11_readHazard_104 rfl rfl ?_
          refine gX11_5 dX11_readHazard_105 flX11_25 (hY.lt (k := 217) (by decide)) (ly217 hY) (lf217_5 hY) ?_
          refine LW_bipush (v := 64) dX11_readHazard_108 (by decide) ?_
          refine LW_bipush (v := 8) dX11_readHazard_110 (by decide) ?_
          refine LW_iload 5 dX11_readHazard_112 rfl ?_
          refine LW_imul dX11_readHazard_114 ?_
          rw [show (8 * (nI v)) = nI (8 * v) from (nI_mul 8 _)]
          refine LW_iadd dX11_readHazard_115 ?_
          rw [show (64 + (nI (8 * v))) = nI (64 + 8 * v) from (nI_add 64 _)]
          refine LW_iload 6 dX11_readHazard_116 rfl ?_
          refine LW_iadd dX11_readHazard_118 ?_
          rw [show ((nI (64 + 8 * v)) + (nI u)) = nI (64 + 8 * v + u) from (nI_add _ _)]
          refine LW_aloadn 0 dX11_readHazard_119 rfl rfl ?_
          refine gX11_31 dX11_readHazard_120 flX11_237 (hY.lt (k := 217) (by decide)) (ly217 hY) ?_
          rw [show I2 217 31 = nI g from (by rw [hI2 217 (by decide)]; exact hg)]
          refine LW_iast dX11_readHazard_123 (hY.lt (k := 222) (by decide)) (ly222 hY) rfl (by omega) (Nat.le_of_ble_eq_true rfl) ?_
          generalize hI123 : hc_u I2 222 (64 + 8 * v + u) (nI g) = I123
          refine LW_iinc (n := 6) (v := nI (u + 1)) (ls' := [(0, .ref 217), (1, .int (nI x)), (2, .int (nI y)), (3, .int (nI tx)), (4, .int (nI ty)), (5, .int (nI v)), (6, .int (nI (u + 1)))]) dX11_readHazard_124 rfl (hc_inc _) (by decide) rfl ?_
          refine LW_goto (tgt := 98) dX11_readHazard_127 (by decide) ?_
          exact ih2 (by omega) _ (fun z hz => by rw [← hI123, hc_u_row _ _ _ _ hz]; exact hI2 z hz) (fun c hc => by rw [← hI123, hc_u_at, if_neg (by omega)]; exact hl2 c hc) (fun c hc => by
            rw [← hI123, hc_u_at, hzB_s (by omega) (by omega) hxu]
            by_cases q : c = v * 8 + u
            · rw [if_pos (by omega), decide_eq_true q, Bool.true_or, if_pos rfl]
            · rw [if_neg (by omega), decide_eq_false q, Bool.false_or, hk2 c hc])
      refine LW_iload 5 dX11_readHazard_88 rfl ?_
      refine LW_iload 4 dX11_readHazard_90 rfl ?_
      refine LW_icmp_gt (tgt := 136) dX11_readHazard_92 (by decide) (fun c92 => absurd c92 (hc_nlt (a := ty) (b := v) (by omega) (by omega) (by omega))) (fun c92 => ?_)
      refine LW_iloadn 1 dX11_readHazard_95 rfl rfl ?_
      refine LW_istore (ls' := [(0, .ref 217), (1, .int (nI x)), (2, .int (nI y)), (3, .int (nI tx)), (4, .int (nI ty)), (5, .int (nI v)), (6, .int (nI x))]) dX11_readHazard_96 (by decide) rfl ?_
      exact inner x (by omega) (Nat.le_refl _) I1 hI1 hl (fun c hc => by rw [if_neg]; simp only [hzB, Bool.and_eq_true, decide_eq_true_eq]; omega)
  refine LW_iloadn 2 dX11_readHazard_85 rfl rfl ?_
  refine LW_istore (ls' := [(0, .ref 217), (1, .int (nI x)), (2, .int (nI y)), (3, .int (nI tx)), (4, .int (nI ty)), (5, .int (nI y))]) dX11_readHazard_86 (by decide) rfl ?_
  exact outer y (by omega) (Nat.le_refl _) I (fun _ _ => rfl) (fun _ _ => rfl) (fun c hc => by rw [if_neg]; simp only [hzIn, Bool.and_eq_true, decide_eq_true_eq]; omega)
set_option maxRecDepth 100000 in
theorem rm_hazard {Λ : hc_L} {I : hc_I} {L : hc_J} {R : hc_R} {I0 : hc_I} {L0 : hc_J} {n i : Nat} {B : Nat → Nat} {A : AS} {P : LwP} (hw : TW I0 L0 n B Λ I L i A P) : Run xX11_readHazard [.ref 217] Λ I L R (TPost I0 L0 n B (pHazard (kd B n) (vl B n) i A P) Λ R) := by
  refine Run.of (by decide +kernel) (Nat.le_of_ble_eq_true rfl) ?_
  show LW _ _ _ [(0, .ref 217)] _ _ _ _ _ _
  have hY := hw.1.y
  obtain ⟨hT, hW, hPi⟩ := hw
  have hB := hT.b
  have hx : pNums (kd B n) (vl B n) [(0, 7), (0, 7), (vl B n (i + 1), 7), (vl B n (i + 1 + 1), 7), (1, 9)] (i + 1) = pNums (kd B n) (vl B n) [(0, 7), (0, 7), (vl B n (i + 1), 7), (vl B n (i + 1 + 1), 7), (1, 9)] (i + 1) := rfl
  refine LW_aloadn 0 dX11_readHazard_0 rfl rfl ?_
  refine LW_callV (As := []) (b := 217) (st := []) (ci := 11) (r := (RX11, TX11, 44)) (r_nx hT) YX11_next rfl dX11_readHazard_1 mlX11_234 (hY.lt (k := 217) (by decide)) (ly217 hY) ⟨rfl, rfl⟩ (by decide) ⟨Nat.le_of_ble_eq_true rfl, Nat.le_of_ble_eq_true rfl⟩ (Nat.le_of_ble_eq_true rfl) rfl (fun r1 Λc1 Ic1 Lc1 Rc1 hq1 => ?_)
  obtain ⟨rfl, rfl, rfl, hl1, hT, hr1⟩ := hq1
  have hW := hW.lx hl1
  refine LW_aloadn 0 dX11_readHazard_4 rfl rfl ?_
  refine LW_iconst (v := 0) dX11_readHazard_5 (by decide) ?_
  refine LW_bipush (v := 7) dX11_readHazard_6 (by decide) ?_
  refine LW_callV (As := [.int 0, .int 7]) (b := 217) (st := []) (ci := 11) (r := (RX11, TX11, 44)) (r_num hT (lo := 0) (hi := 7) (by decide) (by decide)) YX11_readNumber rfl dX11_readHazard_8 mlX11_250 (hY.lt (k := 217) (by decide)) (ly217 hY) ⟨rfl, rfl⟩ (by decide) ⟨Nat.le_of_ble_eq_true rfl, Nat.le_of_ble_eq_true rfl⟩ (Nat.le_of_ble_eq_true rfl) rfl (fun r8 Λc8 Ic8 Lc8 Rc8 hq8 => ?_)
  obtain ⟨rfl, rfl, rfl, hl8, hTt8, hFf8⟩ := hq8
  have hW := hW.lx hl8
  refine LW_bif_ne (tgt := 16) dX11_readHazard_11 (by decide) (fun c11 => ?_) (fun c11 => ?_)
  · have p8 := of_decide_eq_true c11
    have hx := hx.trans (pNums_s p8)
    obtain ⟨hT, h31⟩ := hTt8 c11
    replace h31 : Ic8 217 31 = _ := h31
    have hk8 := pNum_0 p8
    refine LW_aloadn 0 dX11_readHazard_16 rfl rfl ?_
    refine gX11_31 dX11_readHazard_17 flX11_237 (hY.lt (k := 217) (by decide)) (ly217 hY) ?_
    rw [show Ic8 217 31 = nI (vl B n (i + 1)) from h31]
    refine LW_istoren (ls' := [(0, .ref 217), (1, .int (nI (vl B n (i + 1))))]) dX11_readHazard_20 rfl (by decide) rfl ?_
    refine LW_aloadn 0 dX11_readHazard_21 rfl rfl ?_
    refine LW_iconst (v := 0) dX11_readHazard_22 (by decide) ?_
    refine LW_bipush (v := 7) dX11_readHazard_23 (by decide) ?_
    refine LW_callV (As := [.int 0, .int 7]) (b := 217) (st := []) (ci := 11) (r := (RX11, TX11, 44)) (r_num hT (lo := 0) (hi := 7) (by decide) (by decide)) YX11_readNumber rfl dX11_readHazard_25 mlX11_250 (hY.lt (k := 217) (by decide)) (ly217 hY) ⟨rfl, rfl⟩ (by decide) ⟨Nat.le_of_ble_eq_true rfl, Nat.le_of_ble_eq_true rfl⟩ (Nat.le_of_ble_eq_true rfl) rfl (fun r25 Λc25 Ic25 Lc25 Rc25 hq25 => ?_)
    obtain ⟨rfl, rfl, rfl, hl25, hTt25, hFf25⟩ := hq25
    have hW := hW.lx hl25
    refine LW_bif_ne (tgt := 33) dX11_readHazard_28 (by decide) (fun c28 => ?_) (fun c28 => ?_)
    · have p25 := of_decide_eq_true c28
      have hx := hx.trans (pNums_s p25)
      obtain ⟨hT, h31⟩ := hTt25 c28
      replace h31 : Ic25 217 31 = _ := h31
      have hk25 := pNum_0 p25
      refine LW_aloadn 0 dX11_readHazard_33 rfl rfl ?_
      refine gX11_31 dX11_readHazard_34 flX11_237 (hY.lt (k := 217) (by decide)) (ly217 hY) ?_
      rw [show Ic25 217 31 = nI (vl B n (i + 1 + 1)) from h31]
      refine LW_istoren (ls' := [(0, .ref 217), (1, .int (nI (vl B n (i + 1)))), (2, .int (nI (vl B n (i + 1 + 1))))]) dX11_readHazard_37 rfl (by decide) rfl ?_
      refine LW_aloadn 0 dX11_readHazard_38 rfl rfl ?_
      refine LW_iloadn 1 dX11_readHazard_39 rfl rfl ?_
      refine LW_bipush (v := 7) dX11_readHazard_40 (by decide) ?_
      refine LW_callV (As := [.int (nI (vl B n (i + 1))), .int 7]) (b := 217) (st := []) (ci := 11) (r := (RX11, TX11, 44)) (r_num hT (lo := (vl B n (i + 1))) (hi := 7) (by omega) (by decide)) YX11_readNumber rfl dX11_readHazard_42 mlX11_250 (hY.lt (k := 217) (by decide)) (ly217 hY) ⟨rfl, rfl⟩ (by decide) ⟨Nat.le_of_ble_eq_true rfl, Nat.le_of_ble_eq_true rfl⟩ (Nat.le_of_ble_eq_true rfl) rfl (fun r42 Λc42 Ic42 Lc42 Rc42 hq42 => ?_)
      obtain ⟨rfl, rfl, rfl, hl42, hTt42, hFf42⟩ := hq42
      have hW := hW.lx hl42
      refine LW_bif_ne (tgt := 50) dX11_readHazard_45 (by decide) (fun c45 => ?_) (fun c45 => ?_)
      · have p42 := of_decide_eq_true c45
        have hx := hx.trans (pNums_s p42)
        obtain ⟨hT, h31⟩ := hTt42 c45
        replace h31 : Ic42 217 31 = _ := h31
        have hk42 := pNum_0 p42
        refine LW_aloadn 0 dX11_readHazard_50 rfl rfl ?_
        refine gX11_31 dX11_readHazard_51 flX11_237 (hY.lt (k := 217) (by decide)) (ly217 hY) ?_
        rw [show Ic42 217 31 = nI (vl B n (i + 1 + 1 + 1)) from h31]
        refine LW_istoren (ls' := [(0, .ref 217), (1, .int (nI (vl B n (i + 1)))), (2, .int (nI (vl B n (i + 1 + 1)))), (3, .int (nI (vl B n (i + 1 + 1 + 1))))]) dX11_readHazard_54 rfl (by decide) rfl ?_
        refine LW_aloadn 0 dX11_readHazard_55 rfl rfl ?_
        refine LW_iloadn 2 dX11_readHazard_56 rfl rfl ?_
        refine LW_bipush (v := 7) dX11_readHazard_57 (by decide) ?_
        refine LW_callV (As := [.int (nI (vl B n (i + 1 + 1))), .int 7]) (b := 217) (st := []) (ci := 11) (r := (RX11, TX11, 44)) (r_num hT (lo := (vl B n (i + 1 + 1))) (hi := 7) (by omega) (by decide)) YX11_readNumber rfl dX11_readHazard_59 mlX11_250 (hY.lt (k := 217) (by decide)) (ly217 hY) ⟨rfl, rfl⟩ (by decide) ⟨Nat.le_of_ble_eq_true rfl, Nat.le_of_ble_eq_true rfl⟩ (Nat.le_of_ble_eq_true rfl) rfl (fun r59 Λc59 Ic59 Lc59 Rc59 hq59 => ?_)
        obtain ⟨rfl, rfl, rfl, hl59, hTt59, hFf59⟩ := hq59
        have hW := hW.lx hl59
        refine LW_bif_ne (tgt := 67) dX11_readHazard_62 (by decide) (fun c62 => ?_) (fun c62 => ?_)
        · have p59 := of_decide_eq_true c62
          have hx := hx.trans (pNums_s p59)
          obtain ⟨hT, h31⟩ := hTt59 c62
          replace h31 : Ic59 217 31 = _ := h31
          have hk59 := pNum_0 p59
          refine LW_aloadn 0 dX11_readHazard_67 rfl rfl ?_
          refine gX11_31 dX11_readHazard_68 flX11_237 (hY.lt (k := 217) (by decide)) (ly217 hY) ?_
          rw [show Ic59 217 31 = nI (vl B n (i + 1 + 1 + 1 + 1)) from h31]
          refine LW_istore (ls' := [(0, .ref 217), (1, .int (nI (vl B n (i + 1)))), (2, .int (nI (vl B n (i + 1 + 1)))), (3, .int (nI (vl B n (i + 1 + 1 + 1)))), (4, .int (nI (vl B n (i + 1 + 1 + 1 + 1))))]) dX11_readHazard_71 (by decide) rfl ?_
          refine LW_aloadn 0 dX11_readHazard_73 rfl rfl ?_
          refine LW_iconst (v := 1) dX11_readHazard_74 (by decide) ?_
          refine LW_bipush (v := 9) dX11_readHazard_75 (by decide) ?_
          refine LW_callV (As := [.int 1, .int 9]) (b := 217) (st := []) (ci := 11) (r := (RX11, TX11, 44)) (r_num hT (lo := 1) (hi := 9) (by decide) (by decide)) YX11_readNumber rfl dX11_readHazard_77 mlX11_250 (hY.lt (k := 217) (by decide)) (ly217 hY) ⟨rfl, rfl⟩ (by decide) ⟨Nat.le_of_ble_eq_true rfl, Nat.le_of_ble_eq_true rfl⟩ (Nat.le_of_ble_eq_true rfl) rfl (fun r77 Λc77 Ic77 Lc77 Rc77 hq77 => ?_)
          obtain ⟨rfl, rfl, rfl, hl77, hTt77, hFf77⟩ := hq77
          have hW := hW.lx hl77
          refine LW_bif_ne (tgt := 85) dX11_readHazard_80 (by decide) (fun c80 => ?_) (fun c80 => ?_)
          · have p77 := of_decide_eq_true c80
            have hx := hx.trans (pNums_s p77)
            obtain ⟨hT, h31⟩ := hTt77 c80
            replace h31 : Ic77 217 31 = _ := h31
            have hk77 := pNum_0 p77
            refine hz_loop hY (g := vl B n (i + 1 + 1 + 1 + 1 + 1)) (by omega) (by omega) (by omega) (by omega) h31 (fun I' e1 e2 e3 => ?_)
            have hT2 : TK I0 L0 n B Λ I' Lc77 (i + 1 + 1 + 1 + 1 + 1 + 1) := hT.kp ⟨fun z hz => e1 z (by unfold rfZ at hz; omega), fun z j hj => (by
              by_cases c : z = 222
              · subst c; exact e2 j (by unfold rfJ at hj; omega)
              · rw [e1 z c]), fun _ _ => rfl, fun _ _ _ => rfl⟩ (fun j _ => by rw [e1 217 (by decide)]) rfl
            exact TPost.yes (q := (i + 1 + 1 + 1 + 1 + 1 + 1, aSHz A (vl B n (i + 1)) (vl B n (i + 1 + 1)) (vl B n (i + 1 + 1 + 1)) (vl B n (i + 1 + 1 + 1 + 1)) (vl B n (i + 1 + 1 + 1 + 1 + 1)), P)) (show pHazard (kd B n) (vl B n) i A P = .inr (i + 1 + 1 + 1 + 1 + 1 + 1, aSHz A (vl B n (i + 1)) (vl B n (i + 1 + 1)) (vl B n (i + 1 + 1 + 1)) (vl B n (i + 1 + 1 + 1 + 1)) (vl B n (i + 1 + 1 + 1 + 1 + 1)), P) by show pDo _ _ _ _ _ _ = _; unfold pDo; rw [hx]; rfl) ⟨hT2, hW.haz e1 e3, by show P.1 ≤ _; omega⟩
          · have p := of_decide_eq_false c80
            have hx := hx.trans (pNums_e p)
            have hF := hFf77 c80
            refine LW_iconst (v := 0) dX11_readHazard_83 (by decide) ?_
            refine LW_zret dX11_readHazard_84 rfl (Nat.le_of_ble_eq_true rfl) (Nat.le_of_ble_eq_true rfl) (Or.inl rfl) ?_
            exact TPost.no (show pHazard (kd B n) (vl B n) i A P = .inl _ by show pDo _ _ _ _ _ _ = _; unfold pDo; rw [hx]) hF
        · have p := of_decide_eq_false c62
          have hx := hx.trans (pNums_e p)
          have hF := hFf59 c62
          refine LW_iconst (v := 0) dX11_readHazard_65 (by decide) ?_
          refine LW_zret dX11_readHazard_66 rfl (Nat.le_of_ble_eq_true rfl) (Nat.le_of_ble_eq_true rfl) (Or.inl rfl) ?_
          exact TPost.no (show pHazard (kd B n) (vl B n) i A P = .inl _ by show pDo _ _ _ _ _ _ = _; unfold pDo; rw [hx]) hF
      · have p := of_decide_eq_false c45
        have hx := hx.trans (pNums_e p)
        have hF := hFf42 c45
        refine LW_iconst (v := 0) dX11_readHazard_48 (by decide) ?_
        refine LW_zret dX11_readHazard_49 rfl (Nat.le_of_ble_eq_true rfl) (Nat.le_of_ble_eq_true rfl) (Or.inl rfl) ?_
        exact TPost.no (show pHazard (kd B n) (vl B n) i A P = .inl _ by show pDo _ _ _ _ _ _ = _; unfold pDo; rw [hx]) hF
    · have p := of_decide_eq_false c28
      have hx := hx.trans (pNums_e p)
      have hF := hFf25 c28
      refine LW_iconst (v := 0) dX11_readHazard_31 (by decide) ?_
      refine LW_zret dX11_readHazard_32 rfl (Nat.le_of_ble_eq_true rfl) (Nat.le_of_ble_eq_true rfl) (Or.inl rfl) ?_
      exact TPost.no (show pHazard (kd B n) (vl B n) i A P = .inl _ by show pDo _ _ _ _ _ _ = _; unfold pDo; rw [hx]) hF
  · have p := of_decide_eq_false c11
    have hx := hx.trans (pNums_e p)
    have hF := hFf8 c11
    refine LW_iconst (v := 0) dX11_readHazard_14 (by decide) ?_
    refine LW_zret dX11_readHazard_15 rfl (Nat.le_of_ble_eq_true rfl) (Nat.le_of_ble_eq_true rfl) (Or.inl rfl) ?_
    exact TPost.no (show pHazard (kd B n) (vl B n) i A P = .inl _ by show pDo _ _ _ _ _ _ = _; unfold pDo; rw [hx]) hF
