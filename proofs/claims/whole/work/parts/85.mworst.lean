/-! the reference: worst -/
theorem lIn_1 {x : Int32} {N : Nat} (hN : N < 2 ^ 31) : lIn x.toInt64 1 (lN N) = (decide (1 ≤ x) && decide (x ≤ nI N)) := lIn_x (b := 1) hN
theorem ws_ok {A : AS} {w h s x : Int32} : wsOk A w h s x = (lIn w.toInt64 1 8 && (lIn h.toInt64 1 8 && (lIn s.toInt64 1 100 && (decide (aS A < 16) && lIn x.toInt64 0 2)))) := by
  have e1 : lIn w.toInt64 1 8 = (decide (1 ≤ w) && decide (w ≤ nI 8)) := lIn_1 (by decide)
  have e2 : lIn h.toInt64 1 8 = (decide (1 ≤ h) && decide (h ≤ nI 8)) := lIn_1 (by decide)
  have e3 : lIn s.toInt64 1 100 = (decide (1 ≤ s) && decide (s ≤ nI 100)) := lIn_1 (by decide)
  have e4 : lIn x.toInt64 0 2 = (decide (0 ≤ x) && decide (x ≤ nI 2)) := lIn_i (by decide)
  rw [e1, e2, e3, e4]; rfl
set_option maxRecDepth 100000 in
theorem m_worst {Λ : hc_L} {I : hc_I} {L : hc_J} {R : hc_R} {S : HS} (hW : MW Λ I L S) (w h s x : Int32) : Run xX11_worst [.ref 217, .int w, .int h, .int s, .int x] Λ I L R (MPost (some (.long (qWorst (sA S) (sP S) w h s x 0 0))) S Λ I L R) := by
  refine Run.of (by decide +kernel) (Nat.le_of_ble_eq_true rfl) ?_
  show LW _ _ _ [(0, .ref 217), (1, .int w), (2, .int h), (3, .int s), (4, .int x)] _ _ _ _ _ _
  have hM := hW.m
  have hP := hW.l
  have hY := hM.y
  refine LW_iloadn 1 dX11_worst_0 rfl rfl ?_
  refine LW_i2l dX11_worst_1 ?_
  refine LW_lconst (v := 1) dX11_worst_2 (by decide) ?_
  refine LW_ldc2 dX11_worst_3 klX11_358 ?_
  refine LW_callS (As := [.long w.toInt64, .long 1, .long 8]) (st := []) (r_isIn w.toInt64 1 8) YX11_isIn rfl dX11_worst_6 mlX11_126 (by decide) ⟨Nat.le_of_ble_eq_true rfl, Nat.le_of_ble_eq_true rfl⟩ (Nat.le_of_ble_eq_true rfl) rfl (fun r6 Λc6 Ic6 Lc6 Rc6 hq6 => ?_)
  obtain ⟨rfl, rfl, rfl, rfl, rfl⟩ := hq6
  refine LW_bif_eq (tgt := 63) dX11_worst_9 (by decide) (fun c9 => ?_) (fun c9 => ?_)
  · refine LW_ldc2 dX11_worst_63 klX11_402 ?_
    refine LW_lret dX11_worst_66 rfl (Nat.le_of_ble_eq_true rfl) (Nat.le_of_ble_eq_true rfl) ?_
    have hok : wsOk (sA S) w h s x = false := by rw [ws_ok, c9]; rfl
    exact MPost.r hW (by unfold qWorst; rw [if_neg (by rw [hok]; decide)])
  · refine LW_iloadn 2 dX11_worst_12 rfl rfl ?_
    refine LW_i2l dX11_worst_13 ?_
    refine LW_lconst (v := 1) dX11_worst_14 (by decide) ?_
    refine LW_ldc2 dX11_worst_15 klX11_358 ?_
    refine LW_callS (As := [.long h.toInt64, .long 1, .long 8]) (st := []) (r_isIn h.toInt64 1 8) YX11_isIn rfl dX11_worst_18 mlX11_126 (by decide) ⟨Nat.le_of_ble_eq_true rfl, Nat.le_of_ble_eq_true rfl⟩ (Nat.le_of_ble_eq_true rfl) rfl (fun r18 Λc18 Ic18 Lc18 Rc18 hq18 => ?_)
    obtain ⟨rfl, rfl, rfl, rfl, rfl⟩ := hq18
    refine LW_bif_eq (tgt := 63) dX11_worst_21 (by decide) (fun c21 => ?_) (fun c21 => ?_)
    · refine LW_ldc2 dX11_worst_63 klX11_402 ?_
      refine LW_lret dX11_worst_66 rfl (Nat.le_of_ble_eq_true rfl) (Nat.le_of_ble_eq_true rfl) ?_
      have hok : wsOk (sA S) w h s x = false := by rw [ws_ok, c9, c21]; rfl
      exact MPost.r hW (by unfold qWorst; rw [if_neg (by rw [hok]; decide)])
    · refine LW_iloadn 3 dX11_worst_24 rfl rfl ?_
      refine LW_i2l dX11_worst_25 ?_
      refine LW_lconst (v := 1) dX11_worst_26 (by decide) ?_
      refine LW_ldc2 dX11_worst_27 klX11_352 ?_
      refine LW_callS (As := [.long s.toInt64, .long 1, .long 100]) (st := []) (r_isIn s.toInt64 1 100) YX11_isIn rfl dX11_worst_30 mlX11_126 (by decide) ⟨Nat.le_of_ble_eq_true rfl, Nat.le_of_ble_eq_true rfl⟩ (Nat.le_of_ble_eq_true rfl) rfl (fun r30 Λc30 Ic30 Lc30 Rc30 hq30 => ?_)
      obtain ⟨rfl, rfl, rfl, rfl, rfl⟩ := hq30
      refine LW_bif_eq (tgt := 63) dX11_worst_33 (by decide) (fun c33 => ?_) (fun c33 => ?_)
      · refine LW_ldc2 dX11_worst_63 klX11_402 ?_
        refine LW_lret dX11_worst_66 rfl (Nat.le_of_ble_eq_true rfl) (Nat.le_of_ble_eq_true rfl) ?_
        have hok : wsOk (sA S) w h s x = false := by rw [ws_ok, c9, c21, c33]; rfl
        exact MPost.r hW (by unfold qWorst; rw [if_neg (by rw [hok]; decide)])
      · refine LW_aloadn 0 dX11_worst_36 rfl rfl ?_
        refine gX11_0 dX11_worst_37 flX11_9 (hY.lt (k := 217) (by decide)) (ly217 hY) (lf217_0 hY) ?_
        refine LW_bipush (v := 7) dX11_worst_40 (by decide) ?_
        refine LW_lald dX11_worst_42 (hY.lt (k := 218) (by decide)) (ly218 hY) rfl (by decide) (Nat.le_of_ble_eq_true rfl) ?_
        rw [show L 218 7 = lN (aS (sA S)) from hM.nS]
        refine LW_ldc2 dX11_worst_43 klX11_382 ?_
        refine LW_lcmp dX11_worst_46 ?_
        refine LW_lif_eq (tgt := 63) dX11_worst_47 (by decide) (fun c47 => ?_) (fun c47 => ?_)
        · refine LW_ldc2 dX11_worst_63 klX11_402 ?_
          refine LW_lret dX11_worst_66 rfl (Nat.le_of_ble_eq_true rfl) (Nat.le_of_ble_eq_true rfl) ?_
          have e16 := (lN_eq (a := aS (sA S)) (b := 16) (by have := hM.w.s; omega) (by decide)).mp c47
          have hok : wsOk (sA S) w h s x = false := by rw [ws_ok, c9, c21, c33, decide_eq_false (show ¬ aS (sA S) < 16 by omega)]; rfl
          exact MPost.r hW (by unfold qWorst; rw [if_neg (by rw [hok]; decide)])
        · refine LW_iload 4 dX11_worst_50 rfl ?_
          refine LW_i2l dX11_worst_52 ?_
          refine LW_lconst (v := 0) dX11_worst_53 (by decide) ?_
          refine LW_ldc2 dX11_worst_54 klX11_417 ?_
          refine LW_callS (As := [.long x.toInt64, .long 0, .long 2]) (st := []) (r_isIn x.toInt64 0 2) YX11_isIn rfl dX11_worst_57 mlX11_126 (by decide) ⟨Nat.le_of_ble_eq_true rfl, Nat.le_of_ble_eq_true rfl⟩ (Nat.le_of_ble_eq_true rfl) rfl (fun r57 Λc57 Ic57 Lc57 Rc57 hq57 => ?_)
          obtain ⟨rfl, rfl, rfl, rfl, rfl⟩ := hq57
          refine LW_bif_ne (tgt := 67) dX11_worst_60 (by decide) (fun c60 => ?_) (fun c60 => ?_)
          · have hs16 : aS (sA S) < 16 := Nat.lt_of_le_of_ne hM.w.s (fun e => c47 (by rw [e]; rfl))
            have hok : wsOk (sA S) w h s x = true := by rw [ws_ok, c9, c21, c33, c60, decide_eq_true hs16]; rfl
            have k1 : (decide (1 ≤ w) && decide (w ≤ nI 8)) = true := (lIn_1 (by decide)).symm.trans c9
            have k2 : (decide (1 ≤ h) && decide (h ≤ nI 8)) = true := (lIn_1 (by decide)).symm.trans c21
            have k3 : (decide (1 ≤ s) && decide (s ≤ nI 100)) = true := (lIn_1 (by decide)).symm.trans c33
            rw [Bool.and_eq_true, decide_eq_true_eq, decide_eq_true_eq] at k1 k2 k3
            obtain ⟨w', rfl, w1, w2⟩ := aRan_k (N := 8) (by decide) k1.1 k1.2
            obtain ⟨h', rfl, h1, h2⟩ := aRan_k (N := 8) (by decide) k2.1 k2.2
            obtain ⟨s', rfl, s1, s2⟩ := aRan_k (N := 100) (by decide) k3.1 k3.2
            have ewb : wsB (sA S) (sP S) (nI w').toNatClampNeg (nI h').toNatClampNeg (nI s').toNatClampNeg 0 0 = bAll (wW (sA S) (sP S) s' w' h') (9 - w') (9 - h') (-1, 0, 0) := by
              rw [hc_cl (by omega), hc_cl (by omega), hc_cl (by omega)]; rfl
            refine LW_iconst (v := 0) dX11_worst_67 (by decide) ?_
            refine LW_istore (ls' := [(0, .ref 217), (1, .int (nI w')), (2, .int (nI h')), (3, .int (nI s')), (4, .int x), (5, .int 0)]) dX11_worst_68 (by decide) rfl ?_
            refine LW_iconst (v := 0) dX11_worst_70 (by decide) ?_
            refine LW_istore (ls' := [(0, .ref 217), (1, .int (nI w')), (2, .int (nI h')), (3, .int (nI s')), (4, .int x), (5, .int 0), (6, .int 0)]) dX11_worst_71 (by decide) rfl ?_
            refine LW_ldc2 dX11_worst_73 klX11_402 ?_
            refine LW_lstore (ls' := [(0, .ref 217), (1, .int (nI w')), (2, .int (nI h')), (3, .int (nI s')), (4, .int x), (5, .int 0), (6, .int 0), (7, .long (-1))]) dX11_worst_76 (by decide) rfl ?_
            refine LW_iconst (v := 0) dX11_worst_78 (by decide) ?_
            refine LW_istore (ls' := [(0, .ref 217), (1, .int (nI w')), (2, .int (nI h')), (3, .int (nI s')), (4, .int x), (5, .int 0), (6, .int 0), (7, .long (-1)), (9, .int 0)]) dX11_worst_79 (by decide) rfl ?_
            refine LW_ls (ls' := [(0, .ref 217), (1, .int (nI w')), (2, .int (nI h')), (3, .int (nI s')), (4, .int x), (5, .int ((bAll (wW (sA S) (sP S) s' w' h') (9 - w') 0 (-1, 0, 0)).2.1)), (6, .int ((bAll (wW (sA S) (sP S) s' w' h') (9 - w') 0 (-1, 0, 0)).2.2)), (7, .long ((bAll (wW (sA S) (sP S) s' w' h') (9 - w') 0 (-1, 0, 0)).1)), (9, .int (nI 0))]) [0, 1, 2, 3, 4, 5, 6, 7, 8] rfl ?_
            refine mws_out hW hs16 ⟨w1, w2⟩ ⟨h1, h2⟩ ⟨s1, s2⟩ (fun L2 q => ?_) 0 (Nat.zero_le _) L ⟨fun _ _ _ _ => rfl, fun _ _ => rfl⟩
            refine LW_iload 4 dX11_worst_175 rfl ?_
            refine LW_if_ne (tgt := 186) dX11_worst_177 (by decide) (fun c177 => ?_) (fun c177 => ?_)
            · refine LW_iload 4 dX11_worst_186 rfl ?_
              refine LW_iconst (v := 1) dX11_worst_188 (by decide) ?_
              refine LW_icmp_ne (tgt := 198) dX11_worst_189 (by decide) (fun c189 => ?_) (fun c189 => ?_)
              · refine LW_lload 7 dX11_worst_198 rfl ?_
                refine LW_lret dX11_worst_200 rfl (Nat.le_of_ble_eq_true rfl) (Nat.le_of_ble_eq_true rfl) ?_
                exact ⟨by unfold qWorst; rw [if_pos hok, ewb, if_neg c177, if_neg c189], rfl, rfl, fun _ _ => rfl, fun z hz => q.1 z (fun e => hz ⟨by omega, by omega⟩) (fun e => hz ⟨by omega, by omega⟩) (fun e => hz ⟨by omega, by omega⟩), hW.ws q hs16⟩
              · refine LW_iload 6 dX11_worst_192 rfl ?_
                refine LW_i2l dX11_worst_194 ?_
                refine LW_goto (tgt := 200) dX11_worst_195 (by decide) ?_
                refine LW_lret dX11_worst_200 rfl (Nat.le_of_ble_eq_true rfl) (Nat.le_of_ble_eq_true rfl) ?_
                exact ⟨by unfold qWorst; rw [if_pos hok, ewb, if_neg c177, if_pos (Classical.not_not.mp c189)], rfl, rfl, fun _ _ => rfl, fun z hz => q.1 z (fun e => hz ⟨by omega, by omega⟩) (fun e => hz ⟨by omega, by omega⟩) (fun e => hz ⟨by omega, by omega⟩), hW.ws q hs16⟩
            · refine LW_iload 5 dX11_worst_180 rfl ?_
              refine LW_i2l dX11_worst_182 ?_
              refine LW_goto (tgt := 200) dX11_worst_183 (by decide) ?_
              refine LW_lret dX11_worst_200 rfl (Nat.le_of_ble_eq_true rfl) (Nat.le_of_ble_eq_true rfl) ?_
              exact ⟨by unfold qWorst; rw [if_pos hok, ewb, if_pos (Classical.not_not.mp c177)], rfl, rfl, fun _ _ => rfl, fun z hz => q.1 z (fun e => hz ⟨by omega, by omega⟩) (fun e => hz ⟨by omega, by omega⟩) (fun e => hz ⟨by omega, by omega⟩), hW.ws q hs16⟩
          · refine LW_ldc2 dX11_worst_63 klX11_402 ?_
            refine LW_lret dX11_worst_66 rfl (Nat.le_of_ble_eq_true rfl) (Nat.le_of_ble_eq_true rfl) ?_
            have e16 : aS (sA S) < 16 := Nat.lt_of_le_of_ne hM.w.s (fun e => c47 (by rw [e]; rfl))
            have hok : wsOk (sA S) w h s x = false := by rw [ws_ok, c9, c21, c33, decide_eq_true (show aS (sA S) < 16 by omega), c60]; rfl
            exact MPost.r hW (by unfold qWorst; rw [if_neg (by rw [hok]; decide)])
