/-! the reference: rate -/
section RATE
variable {A : AS} {P : LwP} {pr : Nat → Bool}
theorem cut_sum (hA : wf A) {Y : Nat} (hY : Y ≤ 2 ^ 30) : ∃ T, kLo A P pr = lN T ∧ T < 2 ^ 63 ∧ sumJ (dv (lN Y) (gC A P pr) pr) 12 = lN (if T = 0 then 0 else Y) := by
  obtain ⟨⟨h1, h2⟩, -, g, hg, hs⟩ := share2 (X := Y) (W := fun m => nV (gC A P pr m)) (am := pr) (pts := gC A P pr) hY (fun m _ _ => ⟨((bd_C hA m).v (by decide)).1, by have := ((bd_C (P := P) (pr := pr) hA m).v (by decide)).2; omega⟩)
  refine ⟨_, ?_, h2, ?_⟩
  · rw [← h1]
    exact sumJ_congr (fun m _ => by
      show gC A P pr m = if pr m = true then gC A P pr m else 0
      cases q : pr m with
      | true => rw [if_pos rfl]
      | false => rw [if_neg (by decide)]; exact gC_f q)
  · rw [← hs]; exact sumJ_lN (fun m hm => (hg m hm).1)
theorem lo_pos (hA : wf A) (hR : RB A) (h : kAv A pr < kNe A P pr) : ¬ kLo A P pr = 0 := fun q => by
  obtain ⟨ag, e2, h2⟩ := again_n hR (lo := 0) (by decide)
  have e : kNe A P pr = 0 := by
    unfold kNe kAg
    rw [q]
    show lN 0 - cAgain A (lN 0) = 0
    rw [e2, show ag = 0 by omega]; rfl
  rw [e] at h
  exact (bd_Av hA hR).nn (by decide) h
theorem rt_iff (hA : wf A) (hR : RB A) : (kT A P pr 7 = 0 ∧ kT A P pr 8 = 0) ↔ kNe A P pr - kAv A pr ≤ aRu A 1 / 2 := by
  obtain ⟨r, er, hr⟩ := hR 1 (by decide)
  have hr' : r ≤ 219999987 := hr
  have e2 : aRu A 1 / 2 = lN (r / 2) := by rw [er, show (2 : Int64) = lN 2 from rfl, pk_lDiv (by omega) (by decide) (by decide)]
  rcases k_cases (P := P) (pr := pr) hA hR with ⟨h1, h2, X, T, eX, hX, -, -⟩ | ⟨h1, h2, X, B, eX, eX2, hX, hBX, eB⟩
  · refine ⟨fun _ => ?_, fun _ => ⟨if_pos h2, if_pos h2⟩⟩
    have e3 : kNe A P pr - kAv A pr = - kBt A P pr := (Int64.neg_sub (a := kAv A pr) (b := kNe A P pr)).symm
    rw [e3, eX, e2, Int64.le_iff_toInt_le, Int64.toInt_neg, pk_lT (by omega), pk_lT (by omega), Int.bmod_eq_of_le (by omega) (by omega)]
    omega
  · rw [eX2, e2, pk_lLE (by omega) (by omega)]
    have eB2 : B = min (r / 2) X := by
      have : kBo A P pr = lN (min (r / 2) X) := by unfold kBo cBorne; rw [e2, eX, lN_min (by omega) (by omega)]
      exact (pk_lEQ (by omega) (by omega)).mp (eB.symm.trans this)
    have eD : - kBt A P pr - kBo A P pr = lN (X - B) := by rw [eX, eB, lN_sub hBX]
    obtain ⟨-, ⟨Y, hY, eY⟩, hc, -⟩ := sh_cal (pr := pr) hA hR eD (by omega) (cl := fun _ => 0) (fun _ _ => rfl)
    have ek : kCal A P pr = cfG (fun m => aRu A 5 * gA A pr m) (gP A pr) 13 pr (fun _ => 0) (-kBt A P pr - kBo A P pr) (fun _ => 0) := rfl
    rw [← ek] at eY hc
    obtain ⟨T, eT, hT, hcs⟩ := cut_sum (P := P) (pr := pr) hA hY
    rw [← eY] at hcs
    have e7 : kT A P pr 7 = sumJ (kCal A P pr) 12 := if_neg h2
    have e8 : kT A P pr 8 = lN (if T = 0 then 0 else Y) := (if_neg h2).trans hcs
    have hT0 : ¬ T = 0 := fun q => lo_pos hA hR h1 (by rw [eT, q]; rfl)
    rw [if_neg hT0] at e8
    rw [e7, e8]
    constructor
    · rintro ⟨q1, q2⟩
      have y0 : Y = 0 := (pk_lEQ (b := 0) (by omega) (by decide)).mp q2
      rw [q1, eD, y0] at eY
      have : X - B = 0 := (pk_lEQ (b := 0) (by omega) (by decide)).mp (by rw [← eY, Int64.sub_zero])
      omega
    · intro q
      have hXB : X - B = 0 := by omega
      have s0 : sumJ (kCal A P pr) 12 = 0 := by
        rw [sumJ_congr (g := fun _ => 0) (fun m hm => ?_)]
        · exact sumJ_z 12
        · rw [← hc m hm, if_neg (by rw [eD, hXB]; exact Int64.lt_irrefl)]
      refine ⟨s0, ?_⟩
      rw [← eY, s0, eD, hXB]; rfl
end RATE
theorem NwAt.rate {N N' : Nat → Int64} {A : AS} (h : NwAt N A) {v : Int64} (h0 : N' 0 = v) (he : ∀ j, j ≠ 0 → N' j = N j) : NwAt N' (aSRu A 0 v) := by
  obtain ⟨⟨a1, a2, a3, a4⟩, ⟨b1, b2, b3, b4⟩, c, d, e, f⟩ := h
  refine ⟨⟨h0, (he 1 (by decide)).trans a2, (he 2 (by decide)).trans a3, (he 3 (by decide)).trans a4⟩, ⟨(he 4 (by decide)).trans b1, (he 5 (by decide)).trans b2, (he 6 (by decide)).trans b3, (he 7 (by decide)).trans b4⟩, fun m hm => ?_, fun s hs a ha => ?_, fun m hm => ?_, fun m hm q => ⟨?_, fun w hw => ?_⟩⟩
  · rw [he _ (by omega), he _ (by omega), he _ (by omega)]; exact c m hm
  · rw [he _ (by omega)]; exact d s hs a ha
  · rw [he _ (by omega)]; exact e m hm
  · rw [he _ (by omega)]; exact (f m hm q).1
  · rw [he _ (by omega)]; exact (f m hm q).2 w hw
theorem RB.rate {A : AS} (h : RB A) {r : Nat} (hr : r ≤ 999) : RB (aSRu A 0 (lN r)) := fun j hj => by
  show bd (rbM j) (if j = 0 then lN r else aRu A j)
  by_cases c : j = 0
  · rw [if_pos c, c]; exact ⟨r, rfl, hr⟩
  · rw [if_neg c]; exact h j hj
section RU
variable {A : AS} {P : LwP} {x : Nat} {v : Int64}
theorem aLostN_ru {i : Nat} : ∀ n, aLostN (aSRu A x v) i n = aLostN A i n
  | 0 => rfl
  | n + 1 => by
    show aLostN (aSRu A x v) i n + (if aOv (aSd (aSRu A x v) n) (aFd (aSRu A x v) i) = true then aHarm (aSRu A x v) (aSd (aSRu A x v) n 4) i else 0) = aLostN A i n + (if aOv (aSd A n) (aFd A i) = true then aHarm A (aSd A n 4) i else 0)
    rw [aLostN_ru n]; rfl
theorem aLost_ru {i : Nat} : aLost (aSRu A x v) i = aLost A i := by
  unfold aLost
  rw [show aS (aSRu A x v) = aS A from rfl, aLostN_ru]
theorem aClaim_ru {i t : Nat} : aClaim (aSRu A x v) P i t = aClaim A P i t := by
  have e1 : aCo (aSRu A x v) i = aCo A i := rfl
  have e2 : aPaid (aSRu A x v) P i t = aPaid A P i t := rfl
  unfold aClaim
  rw [e1, e2]
theorem gC_ru {pr : Nat → Bool} {m : Nat} : gC (aSRu A x v) P pr m = gC A P pr m := by
  unfold gC
  have e : abClaims (aSRu A x v) P m (aF A) = abClaims A P m (aF A) := sumJ_congr (fun i _ => by
    rw [aLost_ru, aClaim_ru, show aSf (aSRu A x v) i m = aSf A i m from rfl])
  rw [show aF (aSRu A x v) = aF A from rfl, e]
end RU
theorem rt_at {A : AS} {P : LwP} (hA : wf A) (hB : RB A) {r : Nat} (hr : r ≤ 999) : (kT (aSRu A 0 (lN r)) P (prX A (-1)) 7 = 0 ∧ kT (aSRu A 0 (lN r)) P (prX A (-1)) 8 = 0) ↔ rtP A P r = true := by
  have h := rt_iff (A := aSRu A 0 (lN r)) (P := P) (pr := prX A (-1)) hA (hB.rate hr)
  have e0 : kLo (aSRu A 0 (lN r)) P (prX A (-1)) = kLo A P (prX A (-1)) := sumJ_congr (fun _ _ => gC_ru)
  have e1 : kNe (aSRu A 0 (lN r)) P (prX A (-1)) = kNe A P (prX A (-1)) := by
    unfold kNe kAg
    rw [e0]; rfl
  have e2 : kAv (aSRu A 0 (lN r)) (prX A (-1)) = abAdv (gP A (prX A (-1))) (lN r) 12 := sumJ_congr (fun _ _ => rfl)
  have e3 : aRu (aSRu A 0 (lN r)) 1 = aRu A 1 := rfl
  rw [e1, e2, e3] at h
  unfold rtP
  rw [decide_eq_true_eq]
  rw [show kT A P (prX A (-1)) 2 = kNe A P (prX A (-1)) from rfl]
  exact h
set_option maxRecDepth 100000 in
theorem mrt_80 {Λ : hc_L} {I I2 : hc_I} {L L2 : hc_J} {R : hc_R} {S : HS} (hW : MW Λ I L S) (f1 : ∀ z, ¬ rkI z → I2 z = I z) (f2 : ∀ z, ¬ rkJ z → z ≠ 218 → L2 z = L z) (f3 : ∀ j, j ≠ 0 → L2 218 j = L 218 j) {f q : Int32} : LW xX11_rate (0, 0) 80 [(0, .ref 217), (1, .long (aRu (sA S) 0)), (3, .int f), (4, .int q)] [] Λ I2 L2 R (MPost (some (.int f)) S Λ I L R) := by
  have hY := hW.m.y
  refine LW_aloadn 0 dX11_rate_80 rfl rfl ?_
  refine gX11_0 dX11_rate_81 flX11_9 (hY.lt (k := 217) (by decide)) (ly217 hY) (lf217_0 hY) ?_
  refine LW_iconst (v := 0) dX11_rate_84 (by decide) ?_
  refine LW_lloadn 1 dX11_rate_85 rfl rfl ?_
  refine LW_last dX11_rate_86 (hY.lt (k := 218) (by decide)) (ly218 hY) rfl (by decide) (Nat.le_of_ble_eq_true rfl) ?_
  generalize hL86 : hc_u L2 218 0 (aRu (sA S) 0) = L86
  refine LW_iloadn 2 dX11_rate_87 rfl rfl ?_
  refine LW_iret dX11_rate_88 rfl (Nat.le_of_ble_eq_true rfl) (Nat.le_of_ble_eq_true rfl) ?_
  refine MPost.q hW (fun z hz => f1 z (by unfold rkI; omega)) (fun z hz => ?_) rfl
  by_cases c : z = 218
  · rw [c]
    funext j
    rw [← hL86, hc_u_at]
    by_cases d : j = 0
    · rw [if_pos d, d]; exact hW.m.n.1.1.symm
    · rw [if_neg d]; exact f3 j d
  · rw [← hL86, hc_u_row _ _ _ _ c]; exact f2 z (by unfold rkJ; omega) c
set_option maxRecDepth 100000 in
theorem mrt_loop {Λ : hc_L} {I : hc_I} {L : hc_J} {R : hc_R} {S : HS} (hW : MW Λ I L S) (hB : RB (sA S)) : ∀ i, i ≤ 1000 → ∀ (I2 : hc_I) (L2 : hc_J) (f1 : ∀ z, ¬ rkI z → I2 z = I z) (f2 : ∀ z, ¬ rkJ z → z ≠ 218 → L2 z = L z) (f3 : ∀ j, j ≠ 0 → L2 218 j = L 218 j), LW xX11_rate (0, 0) 21 [(0, .ref 217), (1, .long (aRu (sA S) 0)), (3, .int (-1)), (4, .int (nI i))] [] Λ I2 L2 R (MPost (some (.int (abFind (rtP (sA S) (sP S)) (1000 - i) i))) S Λ I L R) := by
  have hM := hW.m
  have hP := hW.l
  have hY := hM.y
  refine hc_down ?_ ?_
  · intro I2 L2 f1 f2 f3
    refine LW_iload 3 dX11_rate_21 rfl ?_
    refine LW_sipush (v := 999) dX11_rate_23 (by decide) ?_
    refine LW_icmp_gt (tgt := 80) dX11_rate_26 (by decide) (fun c26 => ?_) (fun c26 => absurd (by decide) c26)
    exact mrt_80 hW f1 f2 f3
  · intro i hi ih I2 L2 f1 f2 f3
    obtain ⟨d, hd⟩ : ∃ d, 1000 - i = d + 1 := ⟨1000 - i - 1, by omega⟩
    rw [show 1000 - (i + 1) = d by omega] at ih
    rw [hd]
    have hrt := rt_at (P := sP S) hM.w hB (r := i) (by omega)
    refine LW_iload 3 dX11_rate_21 rfl ?_
    refine LW_sipush (v := 999) dX11_rate_23 (by decide) ?_
    refine LW_icmp_gt (tgt := 80) dX11_rate_26 (by decide) (fun c26 => absurd c26 (fun z => absurd ((hc_lt (a := 999) (b := i) (by decide) (by omega)).mp z) (by omega))) (fun c26 => ?_)
    refine LW_iloadn 2 dX11_rate_29 rfl rfl ?_
    refine LW_iconst (v := -1) dX11_rate_30 (by decide) ?_
    refine LW_icmp_ne (tgt := 80) dX11_rate_31 (by decide) (fun c31 => absurd c31 (fun z => z rfl)) (fun c31 => ?_)
    refine LW_aloadn 0 dX11_rate_34 rfl rfl ?_
    refine gX11_0 dX11_rate_35 flX11_9 (hY.lt (k := 217) (by decide)) (ly217 hY) (lf217_0 hY) ?_
    refine LW_iconst (v := 0) dX11_rate_38 (by decide) ?_
    refine LW_iload 3 dX11_rate_39 rfl ?_
    refine LW_i2l dX11_rate_41 ?_
    rw [show (nI i).toInt64 = lN i from (nI_l (by omega))]
    refine LW_last dX11_rate_42 (hY.lt (k := 218) (by decide)) (ly218 hY) rfl (by decide) (Nat.le_of_ble_eq_true rfl) ?_
    generalize hL42 : hc_u L2 218 0 (lN i) = L42
    have k218 : ∀ j, L42 218 j = if j = 0 then lN i else L 218 j := fun j => by
      rw [← hL42, hc_u_at]
      by_cases c : j = 0
      · rw [if_pos c, if_pos c]
      · rw [if_neg c, if_neg c]; exact f3 j c
    have e42 : ∀ z, ¬ rkJ z → z ≠ 218 → L42 z = L z := fun z z1 z2 => by rw [← hL42, hc_u_row _ _ _ _ z2]; exact f2 z z1 z2
    have hM2 : MC Λ I2 L42 (aSRu (sA S) 0 (lN i)) (-1) := ⟨hM.1, hM.2.1, hM.n.rate (by rw [k218, if_pos rfl]) (fun j hj => by rw [k218, if_neg hj]), by rw [f1 221 (by unfold rkI; decide)]; exact hM.2.2.2.1, by rw [f1 222 (by unfold rkI; decide)]; exact hM.2.2.2.2.1, by rw [f1 223 (by unfold rkI; decide)]; exact hM.2.2.2.2.2.1, by rw [f1 217 (by unfold rkI; decide)]; exact hM.aw⟩
    have hP2 : ML I2 L42 (sP S) := hP.kp (by rw [f1 217 (by unfold rkI; decide)]) (f1 226 (by unfold rkI; decide)) (e42 225 (by unfold rkJ; decide) (by decide))
    have hR2 : MR I2 (aSRu (sA S) 0 (lN i)) := by
      unfold MR
      rw [f1 224 (by unfold rkI; decide)]
      exact hW.2.2.1
    refine LW_aloadn 0 dX11_rate_43 rfl rfl ?_
    refine LW_callV (As := []) (b := 217) (st := []) (ci := 11) (r := (RX11, TX11, 44)) (r_reckons hM2 hP2 hR2 (hB.rate (by omega))) YX11_reckons rfl dX11_rate_44 mlX11_432 (hY.lt (k := 217) (by decide)) (ly217 hY) ⟨rfl, rfl⟩ (by decide) ⟨Nat.le_of_ble_eq_true rfl, Nat.le_of_ble_eq_true rfl⟩ (Nat.le_of_ble_eq_true rfl) rfl (fun r44 Λc44 Ic44 Lc44 Rc44 hq44 => ?_)
    obtain ⟨rfl, rfl, hI44, hL44, hR44, hG44, hT44, hA44⟩ := hq44
    obtain rfl : R = Rc44 := hR44
    have f1' : ∀ z, ¬ rkI z → Ic44 z = I z := fun z hz => by rw [hI44 z hz]; exact f1 z hz
    have f2' : ∀ z, ¬ rkJ z → z ≠ 218 → Lc44 z = L z := fun z hz z2 => by rw [hL44 z hz]; exact e42 z hz z2
    have f3' : ∀ j, j ≠ 0 → Lc44 218 j = L 218 j := fun j hj => by rw [hL44 218 (by unfold rkJ; decide), k218, if_neg hj]
    refine LW_aloadn 0 dX11_rate_47 rfl rfl ?_
    refine gX11_42 dX11_rate_48 flX11_75 (hY.lt (k := 217) (by decide)) (ly217 hY) (lf217_42 hY) ?_
    refine LW_bipush (v := 7) dX11_rate_51 (by decide) ?_
    refine LW_lald dX11_rate_53 (hY.lt (k := 236) (by decide)) (ly236 hY) rfl (by decide) (Nat.le_of_ble_eq_true rfl) ?_
    rw [show Lc44 236 7 = kT (aSRu (sA S) 0 (lN i)) (sP S) (prX (sA S) (-1)) 7 from hT44 7 (by decide)]
    refine LW_lconst (v := 0) dX11_rate_54 (by decide) ?_
    refine LW_lcmp dX11_rate_55 ?_
    refine LW_lif_ne (tgt := 74) dX11_rate_56 (by decide) (fun c56 => ?_) (fun c56 => ?_)
    · refine LW_iinc (n := 3) (v := nI (i + 1)) (ls' := [(0, .ref 217), (1, .long (aRu (sA S) 0)), (3, .int (-1)), (4, .int (nI (i + 1)))]) dX11_rate_74 rfl (hc_inc _) (by decide) rfl ?_
      refine LW_goto (tgt := 21) dX11_rate_77 (by decide) ?_
      rw [abFind_skip d i (Bool.eq_false_iff.mpr (fun q => c56 (hrt.mpr q).1))]
      exact ih Ic44 Lc44 f1' f2' f3'
    · refine LW_aloadn 0 dX11_rate_59 rfl rfl ?_
      refine gX11_42 dX11_rate_60 flX11_75 (hY.lt (k := 217) (by decide)) (ly217 hY) (lf217_42 hY) ?_
      refine LW_bipush (v := 8) dX11_rate_63 (by decide) ?_
      refine LW_lald dX11_rate_65 (hY.lt (k := 236) (by decide)) (ly236 hY) rfl (by decide) (Nat.le_of_ble_eq_true rfl) ?_
      rw [show Lc44 236 8 = kT (aSRu (sA S) 0 (lN i)) (sP S) (prX (sA S) (-1)) 8 from hT44 8 (by decide)]
      refine LW_lconst (v := 0) dX11_rate_66 (by decide) ?_
      refine LW_lcmp dX11_rate_67 ?_
      refine LW_lif_ne (tgt := 74) dX11_rate_68 (by decide) (fun c68 => ?_) (fun c68 => ?_)
      · refine LW_iinc (n := 3) (v := nI (i + 1)) (ls' := [(0, .ref 217), (1, .long (aRu (sA S) 0)), (3, .int (-1)), (4, .int (nI (i + 1)))]) dX11_rate_74 rfl (hc_inc _) (by decide) rfl ?_
        refine LW_goto (tgt := 21) dX11_rate_77 (by decide) ?_
        rw [abFind_skip d i (Bool.eq_false_iff.mpr (fun q => c68 (hrt.mpr q).2))]
        exact ih Ic44 Lc44 f1' f2' f3'
      · refine LW_iload 3 dX11_rate_71 rfl ?_
        refine LW_istoren (ls' := [(0, .ref 217), (1, .long (aRu (sA S) 0)), (3, .int (nI i)), (4, .int (nI i))]) dX11_rate_73 rfl (by decide) rfl ?_
        refine LW_iinc (n := 3) (v := nI (i + 1)) (ls' := [(0, .ref 217), (1, .long (aRu (sA S) 0)), (3, .int (nI i)), (4, .int (nI (i + 1)))]) dX11_rate_74 rfl (hc_inc _) (by decide) rfl ?_
        refine LW_goto (tgt := 21) dX11_rate_77 (by decide) ?_
        rw [abFind_hit' (hrt.mp ⟨Classical.not_not.mp c56, Classical.not_not.mp c68⟩)]
        refine LW_iload 3 dX11_rate_21 rfl ?_
        refine LW_sipush (v := 999) dX11_rate_23 (by decide) ?_
        refine LW_icmp_gt (tgt := 80) dX11_rate_26 (by decide) (fun c26 => ?_) (fun c26 => ?_)
        · exact mrt_80 hW f1' f2' f3'
        · refine LW_iloadn 2 dX11_rate_29 rfl rfl ?_
          refine LW_iconst (v := -1) dX11_rate_30 (by decide) ?_
          refine LW_icmp_ne (tgt := 80) dX11_rate_31 (by decide) (fun c31 => ?_) (fun c31 => absurd (nI_ne (by omega)) c31)
          exact mrt_80 hW f1' f2' f3'
set_option maxRecDepth 100000 in
theorem m_rate {Λ : hc_L} {I : hc_I} {L : hc_J} {R : hc_R} {S : HS} (hW : MW Λ I L S) (hB : RB (sA S)) : Run xX11_rate [.ref 217] Λ I L R (MPost (some (.int (qRate (sA S) (sP S)))) S Λ I L R) := by
  refine Run.of (by decide +kernel) (Nat.le_of_ble_eq_true rfl) ?_
  show LW _ _ _ [(0, .ref 217)] _ _ _ _ _ _
  have hM := hW.m
  have hP := hW.l
  have hY := hM.y
  refine LW_aloadn 0 dX11_rate_0 rfl rfl ?_
  refine LW_callV (As := []) (b := 217) (st := []) (ci := 11) (r := (RX11, TX11, 44)) (r_mMembersThere hM) YX11_membersThere rfl dX11_rate_1 mlX11_429 (hY.lt (k := 217) (by decide)) (ly217 hY) ⟨rfl, rfl⟩ (by decide) ⟨Nat.le_of_ble_eq_true rfl, Nat.le_of_ble_eq_true rfl⟩ (Nat.le_of_ble_eq_true rfl) rfl (fun r1 Λc1 Ic1 Lc1 Rc1 hq1 => ?_)
  rw [mMt_eq hM.w] at hq1
  obtain ⟨rfl, rfl, rfl, rfl, rfl⟩ := hq1
  refine LW_if_ne (tgt := 9) dX11_rate_4 (by decide) (fun c4 => ?_) (fun c4 => ?_)
  · refine LW_aloadn 0 dX11_rate_9 rfl rfl ?_
    refine gX11_0 dX11_rate_10 flX11_9 (hY.lt (k := 217) (by decide)) (ly217 hY) (lf217_0 hY) ?_
    refine LW_iconst (v := 0) dX11_rate_13 (by decide) ?_
    refine LW_lald dX11_rate_14 (hY.lt (k := 218) (by decide)) (ly218 hY) rfl (by decide) (Nat.le_of_ble_eq_true rfl) ?_
    rw [show L 218 0 = aRu (sA S) 0 from hM.n.1.1]
    refine LW_lstoren (ls' := [(0, .ref 217), (1, .long (aRu (sA S) 0))]) dX11_rate_15 rfl (by decide) rfl ?_
    refine LW_iconst (v := -1) dX11_rate_16 (by decide) ?_
    refine LW_istoren (ls' := [(0, .ref 217), (1, .long (aRu (sA S) 0)), (3, .int (-1))]) dX11_rate_17 rfl (by decide) rfl ?_
    refine LW_iconst (v := 0) dX11_rate_18 (by decide) ?_
    refine LW_istore (ls' := [(0, .ref 217), (1, .long (aRu (sA S) 0)), (3, .int (-1)), (4, .int 0)]) dX11_rate_19 (by decide) rfl ?_
    unfold qRate
    rw [if_neg c4]
    exact mrt_loop hW hB 0 (by decide) I L (fun _ _ => rfl) (fun _ _ _ => rfl) (fun _ _ => rfl)
  · refine LW_iconst (v := -1) dX11_rate_7 (by decide) ?_
    refine LW_iret dX11_rate_8 rfl (Nat.le_of_ble_eq_true rfl) (Nat.le_of_ble_eq_true rfl) ?_
    exact MPost.r hW (by unfold qRate; rw [if_pos (Classical.not_not.mp c4)])
