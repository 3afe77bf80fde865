/-! the reference: the worst storm -/
section ADDS
variable {A : AS} {P : LwP} {g : Nat → Nat}
theorem aLostN_as {i : Nat} : ∀ n, n ≤ aS A → aLostN (aAddS A g) i n = aLostN A i n
  | 0, _ => rfl
  | n + 1, hn => by
    show aLostN (aAddS A g) i n + (if aOv (if n = aS A then g else aSd A n) (aFd A i) = true then aHarm (aAddS A g) ((if n = aS A then g else aSd A n) 4) i else 0) = aLostN A i n + (if aOv (aSd A n) (aFd A i) = true then aHarm A (aSd A n 4) i else 0)
    rw [aLostN_as n (by omega), if_neg (show ¬ n = aS A by omega)]; rfl
theorem aLost_as (i : Nat) : aLost (aAddS A g) i = if aOv g (aFd A i) = true then min 100 (aLost A i + aHarm A (g 4) i) else aLost A i := by
  have e : aLostN (aAddS A g) i (aS A + 1) = aLostN (aAddS A g) i (aS A) + (if aOv (if aS A = aS A then g else aSd A (aS A)) (aFd A i) = true then aHarm A ((if aS A = aS A then g else aSd A (aS A)) 4) i else 0) := rfl
  rw [aLostN_as (aS A) (Nat.le_refl _), if_pos rfl] at e
  unfold aLost
  rw [show aS (aAddS A g) = aS A + 1 from rfl, e]
  by_cases c : aOv g (aFd A i) = true
  · rw [if_pos c, if_pos c]; omega
  · rw [if_neg c, if_neg c, Nat.add_zero]
theorem aClaim_as {i t : Nat} : aClaim (aAddS A g) P i t = aClaim A P i t := by
  have e1 : aCo (aAddS A g) i = aCo A i := rfl
  have e2 : aPaid (aAddS A g) P i t = aPaid A P i t := rfl
  unfold aClaim
  rw [e1, e2]
theorem los_eq (hA : wf (aAddS A g)) : sumJ (gC (aAddS A g) P (prX (aAddS A g) (-1))) (aM (aAddS A g)) = abWith A (wCalm A P) (wHit A P (g 4)) g (aF A) := by
  rw [prX_m1 hA.m, sumJ_congr (fun m _ => gC_is (aAddS A g) P m)]
  refine Eq.trans (own_sum hA (fun i => aClaim (aAddS A g) P i (aLost (aAddS A g) i))) ?_
  refine sumJ_congr (fun i _ => ?_)
  unfold wCalm wHit
  rw [show aSt (aAddS A g) i = aSt A i from rfl, aClaim_as, aLost_as]
  by_cases c : aOv g (aFd A i) = true
  · rw [if_pos c, if_pos c]
  · rw [if_neg c, if_neg c]
theorem wW_is {x y w h s : Nat} (hA : wf (aAddS A (stRow x y (x + w - 1) (y + h - 1) s))) : sumJ (gC (aAddS A (stRow x y (x + w - 1) (y + h - 1) s)) P (prX (aAddS A (stRow x y (x + w - 1) (y + h - 1) s)) (-1))) (aM A) = wW A P s w h x y := (los_eq hA).trans (sumJ_congr (fun _ _ => rfl))
end ADDS
theorem bd_W {A : AS} (hA : wf A) {P : LwP} {s w h x y : Nat} : ¬ wW A P s w h x y < 0 := by
  refine (bd_sum (c := 98901) (n := aF A) (fun j hj => ?_)).nn (by have := hA.f; omega)
  unfold wHit wCalm
  split
  · split
    · exact bd_claim hA hj (Nat.min_le_left _ _)
    · exact bd_0 _
  · split
    · exact bd_claim hA hj (Nat.min_le_left _ _)
    · exact bd_0 _
theorem bRow_2 {W : Nat → Nat → Int64} {y : Nat} {q q' : Int64 × Int32 × Int32} (h1 : q.1 < W 0 y) (h2 : q'.1 < W 0 y) : ∀ x, bRow W y (x + 1) q = bRow W y (x + 1) q'
  | 0 => (bRow_y (show (bRow W y 0 q).1 < W 0 y from h1)).trans (bRow_y (show (bRow W y 0 q').1 < W 0 y from h2)).symm
  | x + 1 => by
    show (if (bRow W y (x + 1) q).1 < W (x + 1) y then (W (x + 1) y, nI (x + 1), nI y) else bRow W y (x + 1) q) = (if (bRow W y (x + 1) q').1 < W (x + 1) y then (W (x + 1) y, nI (x + 1), nI y) else bRow W y (x + 1) q')
    rw [bRow_2 h1 h2 x]
theorem bAll_2 {W : Nat → Nat → Int64} {n : Nat} {q q' : Int64 × Int32 × Int32} (h1 : q.1 < W 0 0) (h2 : q'.1 < W 0 0) : ∀ y, bAll W (n + 1) (y + 1) q = bAll W (n + 1) (y + 1) q'
  | 0 => bRow_2 h1 h2 n
  | y + 1 => by
    show bRow W (y + 1) (n + 1) (bAll W (n + 1) (y + 1) q) = bRow W (y + 1) (n + 1) (bAll W (n + 1) (y + 1) q')
    rw [bAll_2 h1 h2 y]
theorem qWorst_ab {A : AS} (hA : wf A) {P : LwP} {w h s x a b : Int32} : qWorst A P w h s x a b = qWorst A P w h s x 0 0 := by
  unfold qWorst
  by_cases c : wsOk A w h s x = true
  · have hw : aSpan w = true := by unfold wsOk at c; rw [Bool.and_eq_true] at c; exact c.1
    have hh : aSpan h = true := by unfold wsOk at c; rw [Bool.and_eq_true, Bool.and_eq_true] at c; exact c.2.1
    unfold aSpan at hw hh
    rw [Bool.and_eq_true, decide_eq_true_eq, decide_eq_true_eq] at hw hh
    obtain ⟨w', rfl, w1, w2⟩ := aRan_k (N := 8) (by decide) hw.1 hw.2
    obtain ⟨h', rfl, h1, h2⟩ := aRan_k (N := 8) (by decide) hh.1 hh.2
    have e : wsB A P (nI w').toNatClampNeg (nI h').toNatClampNeg s.toNatClampNeg a b = wsB A P (nI w').toNatClampNeg (nI h').toNatClampNeg s.toNatClampNeg 0 0 := by
      rw [hc_cl (by omega), hc_cl (by omega)]
      unfold wsB
      obtain ⟨n, hn⟩ : ∃ n, 9 - w' = n + 1 := ⟨9 - w' - 1, by omega⟩
      obtain ⟨m, hm⟩ : ∃ m, 9 - h' = m + 1 := ⟨9 - h' - 1, by omega⟩
      rw [hn, hm]
      have hW : (-1 : Int64) < wW A P s.toNatClampNeg w' h' 0 0 := by
        obtain ⟨k, hk, e⟩ := pk_lOf (bd_W hA (P := P) (s := s.toNatClampNeg) (w := w') (h := h') (x := 0) (y := 0))
        rw [e]; exact neg1_lt hk
      exact bAll_2 (W := wW A P s.toNatClampNeg w' h') (n := n) (q := (-1, a, b)) (q' := (-1, 0, 0)) hW hW m
    rw [if_pos c, if_pos c, e]
  · rw [if_neg c, if_neg c]
theorem nI_prd {n : Nat} (h : 1 ≤ n) : nI n - 1 = nI (n - 1) := by
  obtain ⟨d, rfl⟩ : ∃ d, n = d + 1 := ⟨n - 1, by omega⟩
  rw [← nI_1, Int32.add_sub_cancel]; rfl
/-- where the storms that aren't have left their marks -/
def WsL (A : AS) (L L2 : hc_J) : Prop := (∀ z, z ≠ 218 → z ≠ 228 → z ≠ 229 → L2 z = L z) ∧ ∀ j, (j < 46 + 5 * aS A ∨ 51 + 5 * aS A ≤ j) → L2 218 j = L 218 j
theorem WsL.n {A : AS} {L L2 : hc_J} (h : WsL A L L2) (hn : NwAt (L 218) A) (hA : wf A) (hs : aS A < 16) : NwAt (L2 218) A := by
  obtain ⟨⟨a1, a2, a3, a4⟩, ⟨b1, b2, b3, b4⟩, c, d, e, f⟩ := hn
  have hm := hA.m
  have g := h.2
  refine ⟨⟨(g 0 (by omega)).trans a1, (g 1 (by omega)).trans a2, (g 2 (by omega)).trans a3, (g 3 (by omega)).trans a4⟩, ⟨(g 4 (by omega)).trans b1, (g 5 (by omega)).trans b2, (g 6 (by omega)).trans b3, (g 7 (by omega)).trans b4⟩, fun m hm => ?_, fun s hs a ha => ?_, fun m hm => ?_, fun m hm q => ⟨?_, fun w hw => ?_⟩⟩
  · rw [g _ (by omega), g _ (by omega), g _ (by omega)]; exact c m hm
  · rw [g _ (by omega)]; exact d s hs a ha
  · rw [g _ (by omega)]; exact e m hm
  · rw [g _ (by omega)]; exact (f m hm q).1
  · rw [g _ (by omega)]; exact (f m hm q).2 w hw
theorem MW.ws {Λ : hc_L} {I : hc_I} {L L2 : hc_J} {S : HS} (h : MW Λ I L S) (hL : WsL (sA S) L L2) (hs : aS (sA S) < 16) : MW Λ I L2 S := by
  have hN := hL.n h.m.n h.m.w hs
  obtain ⟨m, l, r, n, c, t, f⟩ := h
  exact ⟨⟨m.1, m.2.1, hN, m.2.2.2⟩, l.kp rfl rfl (hL.1 225 (by decide) (by decide) (by decide)), r, by rw [hL.1 220 (by decide) (by decide) (by decide)]; exact n, by rw [hL.1 219 (by decide) (by decide) (by decide)]; exact c, t, f⟩
set_option maxRecDepth 100000 in
theorem mws_in {Λ : hc_L} {I : hc_I} {L : hc_J} {R : hc_R} {S : HS} {w h s : Nat} {x0 : Int32} {Q : hc_Q} (hW : MW Λ I L S) (hs16 : aS (sA S) < 16) (hw : 1 ≤ w ∧ w ≤ 8) (hh : 1 ≤ h ∧ h ≤ 8) (hs : 1 ≤ s ∧ s ≤ 100) {y : Nat} (hy : y < 9 - h) (hend : ∀ L2 : hc_J, WsL (sA S) L L2 → LW xX11_worst (0, 0) 169 [(0, .ref 217), (1, .int (nI w)), (2, .int (nI h)), (3, .int (nI s)), (4, .int x0), (5, .int ((bRow (wW (sA S) (sP S) s w h) y (9 - w) (bAll (wW (sA S) (sP S) s w h) (9 - w) y (-1, 0, 0))).2.1)), (6, .int ((bRow (wW (sA S) (sP S) s w h) y (9 - w) (bAll (wW (sA S) (sP S) s w h) (9 - w) y (-1, 0, 0))).2.2)), (7, .long ((bRow (wW (sA S) (sP S) s w h) y (9 - w) (bAll (wW (sA S) (sP S) s w h) (9 - w) y (-1, 0, 0))).1)), (9, .int (nI y)), (10, .int (nI (9 - w)))] [] Λ I L2 R Q) : ∀ i, i ≤ 9 - w → ∀ L2 : hc_J, WsL (sA S) L L2 → LW xX11_worst (0, 0) 93 [(0, .ref 217), (1, .int (nI w)), (2, .int (nI h)), (3, .int (nI s)), (4, .int x0), (5, .int ((bRow (wW (sA S) (sP S) s w h) y i (bAll (wW (sA S) (sP S) s w h) (9 - w) y (-1, 0, 0))).2.1)), (6, .int ((bRow (wW (sA S) (sP S) s w h) y i (bAll (wW (sA S) (sP S) s w h) (9 - w) y (-1, 0, 0))).2.2)), (7, .long ((bRow (wW (sA S) (sP S) s w h) y i (bAll (wW (sA S) (sP S) s w h) (9 - w) y (-1, 0, 0))).1)), (9, .int (nI y)), (10, .int (nI i))] [] Λ I L2 R Q := by
  have hM := hW.m
  have hP := hW.l
  have hY := hM.y
  refine hc_down ?_ ?_
  · intro L2 q1
    refine LW_iload 9 dX11_worst_93 rfl ?_
    refine LW_iloadn 1 dX11_worst_95 rfl rfl ?_
    refine LW_iadd dX11_worst_96 ?_
    rw [show ((nI (9 - w)) + (nI w)) = nI (9 - w + w) from (nI_add _ _)]
    refine LW_bipush (v := 8) dX11_worst_97 (by decide) ?_
    refine LW_icmp_gt (tgt := 169) dX11_worst_99 (by decide) (fun c99 => ?_) (fun c99 => absurd ((hc_lt (a := 8) (b := 9 - w + w) (by decide) (by omega)).mpr (by omega)) c99)
    exact hend L2 q1
  · intro i hi ih L2 q1
    have hN := q1.n hM.n hM.w hs16
    have hM2 : MC Λ I L2 (sA S) (-1) := ⟨hY, hM.w, hN, hM.2.2.2⟩
    have hA3 : wf (aAddS (sA S) (stRow i y (i + w - 1) (y + h - 1) s)) := wf_addS hM.w ⟨by show i ≤ i + w - 1; omega, by show i + w - 1 < 8; omega, by show y ≤ y + h - 1; omega, by show y + h - 1 < 8; omega, hs.1, hs.2⟩ hs16
    refine LW_iload 9 dX11_worst_93 rfl ?_
    refine LW_iloadn 1 dX11_worst_95 rfl rfl ?_
    refine LW_iadd dX11_worst_96 ?_
    rw [show ((nI i) + (nI w)) = nI (i + w) from (nI_add _ _)]
    refine LW_bipush (v := 8) dX11_worst_97 (by decide) ?_
    refine LW_icmp_gt (tgt := 169) dX11_worst_99 (by decide) (fun c99 => absurd c99 (fun z => absurd ((hc_lt (a := 8) (b := i + w) (by decide) (by omega)).mp z) (by omega))) (fun c99 => ?_)
    refine LW_aloadn 0 dX11_worst_102 rfl rfl ?_
    refine LW_iload 9 dX11_worst_103 rfl ?_
    refine LW_iload 8 dX11_worst_105 rfl ?_
    refine LW_iload 9 dX11_worst_107 rfl ?_
    refine LW_iloadn 1 dX11_worst_109 rfl rfl ?_
    refine LW_iadd dX11_worst_110 ?_
    rw [show ((nI i) + (nI w)) = nI (i + w) from (nI_add _ _)]
    refine LW_iconst (v := 1) dX11_worst_111 (by decide) ?_
    refine LW_isub dX11_worst_112 ?_
    rw [show ((nI (i + w)) - 1) = nI (i + w - 1) from (nI_prd (by omega))]
    refine LW_iload 8 dX11_worst_113 rfl ?_
    refine LW_iloadn 2 dX11_worst_115 rfl rfl ?_
    refine LW_iadd dX11_worst_116 ?_
    rw [show ((nI y) + (nI h)) = nI (y + h) from (nI_add _ _)]
    refine LW_iconst (v := 1) dX11_worst_117 (by decide) ?_
    refine LW_isub dX11_worst_118 ?_
    rw [show ((nI (y + h)) - 1) = nI (y + h - 1) from (nI_prd (by omega))]
    refine LW_iloadn 3 dX11_worst_119 rfl rfl ?_
    refine LW_callV (As := [.int (nI i), .int (nI y), .int (nI (i + w - 1)), .int (nI (y + h - 1)), .int (nI s)]) (b := 217) (st := []) (ci := 11) (r := (RX11, TX11, 44)) (r_comes hM2 hs16 (a := i) (b := y) (u := i + w - 1) (v := y + h - 1) (q := s) (by omega) (by omega) (by omega) (by omega) (by omega)) YX11_comes rfl dX11_worst_120 mlX11_384 (hY.lt (k := 217) (by decide)) (ly217 hY) ⟨rfl, rfl⟩ (by decide) ⟨Nat.le_of_ble_eq_true rfl, Nat.le_of_ble_eq_true rfl⟩ (Nat.le_of_ble_eq_true rfl) rfl (fun r120 Λc120 Ic120 Lc120 Rc120 hq120 => ?_)
    obtain ⟨rfl, rfl, hI120, hL120, hR120, hG120⟩ := hq120
    obtain rfl : R = Rc120 := hR120
    have hIe : I = Ic120 := funext fun z => (hI120 z (fun q => q)).symm
    obtain rfl : I = Ic120 := hIe
    have hM3 : MC Λ I Lc120 (aAddS (sA S) (stRow i y (i + w - 1) (y + h - 1) s)) (-1) := ⟨hY, hA3, hM2.n.st hM.w hs16 hG120, hM2.2.2.2⟩
    have hP3 : ML I Lc120 (sP S) := hP.kp rfl rfl (by rw [hL120 225 (by decide), q1.1 225 (by decide) (by decide) (by decide)])
    refine LW_aloadn 0 dX11_worst_123 rfl rfl ?_
    refine LW_callV (As := []) (b := 217) (st := []) (ci := 11) (r := (RX11, TX11, 44)) (r_mLosses hM3 hP3) YX11_losses rfl dX11_worst_124 mlX11_443 (hY.lt (k := 217) (by decide)) (ly217 hY) ⟨rfl, rfl⟩ (by decide) ⟨Nat.le_of_ble_eq_true rfl, Nat.le_of_ble_eq_true rfl⟩ (Nat.le_of_ble_eq_true rfl) rfl (fun r124 Λc124 Ic124 Lc124 Rc124 hq124 => ?_)
    rw [show aM (aAddS (sA S) (stRow i y (i + w - 1) (y + h - 1) s)) = aM (sA S) from rfl, wW_is hA3] at hq124
    obtain ⟨rfl, rfl, rfl, hL124, rfl⟩ := hq124
    refine LW_lstore (ls' := [(0, .ref 217), (1, .int (nI w)), (2, .int (nI h)), (3, .int (nI s)), (4, .int x0), (5, .int ((bRow (wW (sA S) (sP S) s w h) y i (bAll (wW (sA S) (sP S) s w h) (9 - w) y (-1, 0, 0))).2.1)), (6, .int ((bRow (wW (sA S) (sP S) s w h) y i (bAll (wW (sA S) (sP S) s w h) (9 - w) y (-1, 0, 0))).2.2)), (7, .long ((bRow (wW (sA S) (sP S) s w h) y i (bAll (wW (sA S) (sP S) s w h) (9 - w) y (-1, 0, 0))).1)), (9, .int (nI y)), (10, .int (nI i)), (11, .long ((wW (sA S) (sP S) s w h) i y))]) dX11_worst_127 (by decide) rfl ?_
    refine LW_aloadn 0 dX11_worst_129 rfl rfl ?_
    refine gX11_0 dX11_worst_130 flX11_9 (hY.lt (k := 217) (by decide)) (ly217 hY) (lf217_0 hY) ?_
    refine LW_bipush (v := 7) dX11_worst_133 (by decide) ?_
    refine LW_dup2 dX11_worst_135 rfl rfl ?_
    refine LW_lald dX11_worst_136 (hY.lt (k := 218) (by decide)) (ly218 hY) rfl (by decide) (Nat.le_of_ble_eq_true rfl) ?_
    rw [show Lc124 218 7 = lN (aS (sA S) + 1) from (by rw [hL124 218 (by unfold mJ; decide)]; exact hM3.nS)]
    refine LW_lconst (v := 1) dX11_worst_137 (by decide) ?_
    refine LW_lsub dX11_worst_138 ?_
    rw [show ((lN (aS (sA S) + 1)) - 1) = lN (aS (sA S)) from (lN_sub (a := aS (sA S) + 1) (b := 1) (by omega))]
    refine LW_last dX11_worst_139 (hY.lt (k := 218) (by decide)) (ly218 hY) rfl (by decide) (Nat.le_of_ble_eq_true rfl) ?_
    generalize hL139 : hc_u Lc124 218 7 (lN (aS (sA S))) = L139
    refine LW_lload 10 dX11_worst_140 rfl ?_
    refine LW_lload 7 dX11_worst_142 rfl ?_
    refine LW_lcmp dX11_worst_144 ?_
    refine LW_lif_gt (tgt := 151) dX11_worst_145 (by decide) (fun c145 => ?_) (fun c145 => ?_)
    · refine LW_lload 10 dX11_worst_151 rfl ?_
      refine LW_lstore (ls' := [(0, .ref 217), (1, .int (nI w)), (2, .int (nI h)), (3, .int (nI s)), (4, .int x0), (5, .int ((bRow (wW (sA S) (sP S) s w h) y i (bAll (wW (sA S) (sP S) s w h) (9 - w) y (-1, 0, 0))).2.1)), (6, .int ((bRow (wW (sA S) (sP S) s w h) y i (bAll (wW (sA S) (sP S) s w h) (9 - w) y (-1, 0, 0))).2.2)), (7, .long ((wW (sA S) (sP S) s w h) i y)), (9, .int (nI y)), (10, .int (nI i)), (11, .long ((wW (sA S) (sP S) s w h) i y))]) dX11_worst_153 (by decide) rfl ?_
      refine LW_iload 9 dX11_worst_155 rfl ?_
      refine LW_istore (ls' := [(0, .ref 217), (1, .int (nI w)), (2, .int (nI h)), (3, .int (nI s)), (4, .int x0), (5, .int (nI i)), (6, .int ((bRow (wW (sA S) (sP S) s w h) y i (bAll (wW (sA S) (sP S) s w h) (9 - w) y (-1, 0, 0))).2.2)), (7, .long ((wW (sA S) (sP S) s w h) i y)), (9, .int (nI y)), (10, .int (nI i)), (11, .long ((wW (sA S) (sP S) s w h) i y))]) dX11_worst_157 (by decide) rfl ?_
      refine LW_iload 8 dX11_worst_159 rfl ?_
      refine LW_istore (ls' := [(0, .ref 217), (1, .int (nI w)), (2, .int (nI h)), (3, .int (nI s)), (4, .int x0), (5, .int (nI i)), (6, .int (nI y)), (7, .long ((wW (sA S) (sP S) s w h) i y)), (9, .int (nI y)), (10, .int (nI i)), (11, .long ((wW (sA S) (sP S) s w h) i y))]) dX11_worst_161 (by decide) rfl ?_
      refine LW_iinc (n := 9) (v := nI (i + 1)) (ls' := [(0, .ref 217), (1, .int (nI w)), (2, .int (nI h)), (3, .int (nI s)), (4, .int x0), (5, .int (nI i)), (6, .int (nI y)), (7, .long ((wW (sA S) (sP S) s w h) i y)), (9, .int (nI y)), (10, .int (nI (i + 1))), (11, .long ((wW (sA S) (sP S) s w h) i y))]) dX11_worst_163 rfl (hc_inc _) (by decide) rfl ?_
      refine LW_goto (tgt := 93) dX11_worst_166 (by decide) ?_
      rw [show bRow (wW (sA S) (sP S) s w h) y (i + 1) (bAll (wW (sA S) (sP S) s w h) (9 - w) y (-1, 0, 0)) = ((wW (sA S) (sP S) s w h) i y, nI i, nI y) from bRow_y (Int64.not_le.mp (fun z => absurd c145 (Int64.not_lt.mpr z)))] at ih
      refine LW_ls (ls' := [(0, .ref 217), (1, .int (nI w)), (2, .int (nI h)), (3, .int (nI s)), (4, .int x0), (5, .int (((wW (sA S) (sP S) s w h) i y, nI i, nI y).2.1)), (6, .int (((wW (sA S) (sP S) s w h) i y, nI i, nI y).2.2)), (7, .long (((wW (sA S) (sP S) s w h) i y, nI i, nI y).1)), (9, .int (nI y)), (10, .int (nI (i + 1)))]) [0, 1, 2, 3, 4, 5, 6, 7, 8, 9] rfl ?_
      exact ih L139 ⟨fun z z1 z2 z3 => by rw [← hL139, hc_u_row _ _ _ _ z1, hL124 z (fun e => by rcases e with e | e; exact z2 e; exact z3 e), hL120 z z1]; exact q1.1 z z1 z2 z3, fun j hj => by
        rw [← hL139, hc_u_at]
        by_cases c : j = 7
        · rw [if_pos c, c]; exact hM.nS.symm
        · rw [if_neg c, hL124 218 (by unfold mJ; decide), hG120, if_neg c, if_neg (by omega)]; exact q1.2 j hj⟩
    · refine LW_goto (tgt := 163) dX11_worst_148 (by decide) ?_
      refine LW_iinc (n := 9) (v := nI (i + 1)) (ls' := [(0, .ref 217), (1, .int (nI w)), (2, .int (nI h)), (3, .int (nI s)), (4, .int x0), (5, .int ((bRow (wW (sA S) (sP S) s w h) y i (bAll (wW (sA S) (sP S) s w h) (9 - w) y (-1, 0, 0))).2.1)), (6, .int ((bRow (wW (sA S) (sP S) s w h) y i (bAll (wW (sA S) (sP S) s w h) (9 - w) y (-1, 0, 0))).2.2)), (7, .long ((bRow (wW (sA S) (sP S) s w h) y i (bAll (wW (sA S) (sP S) s w h) (9 - w) y (-1, 0, 0))).1)), (9, .int (nI y)), (10, .int (nI (i + 1))), (11, .long ((wW (sA S) (sP S) s w h) i y))]) dX11_worst_163 rfl (hc_inc _) (by decide) rfl ?_
      refine LW_goto (tgt := 93) dX11_worst_166 (by decide) ?_
      rw [show bRow (wW (sA S) (sP S) s w h) y (i + 1) (bAll (wW (sA S) (sP S) s w h) (9 - w) y (-1, 0, 0)) = (bRow (wW (sA S) (sP S) s w h) y i (bAll (wW (sA S) (sP S) s w h) (9 - w) y (-1, 0, 0))) from bRow_n c145] at ih
      refine LW_ls (ls' := [(0, .ref 217), (1, .int (nI w)), (2, .int (nI h)), (3, .int (nI s)), (4, .int x0), (5, .int ((bRow (wW (sA S) (sP S) s w h) y i (bAll (wW (sA S) (sP S) s w h) (9 - w) y (-1, 0, 0))).2.1)), (6, .int ((bRow (wW (sA S) (sP S) s w h) y i (bAll (wW (sA S) (sP S) s w h) (9 - w) y (-1, 0, 0))).2.2)), (7, .long ((bRow (wW (sA S) (sP S) s w h) y i (bAll (wW (sA S) (sP S) s w h) (9 - w) y (-1, 0, 0))).1)), (9, .int (nI y)), (10, .int (nI (i + 1)))]) [0, 1, 2, 3, 4, 5, 6, 7, 8, 9] rfl ?_
      exact ih L139 ⟨fun z z1 z2 z3 => by rw [← hL139, hc_u_row _ _ _ _ z1, hL124 z (fun e => by rcases e with e | e; exact z2 e; exact z3 e), hL120 z z1]; exact q1.1 z z1 z2 z3, fun j hj => by
        rw [← hL139, hc_u_at]
        by_cases c : j = 7
        · rw [if_pos c, c]; exact hM.nS.symm
        · rw [if_neg c, hL124 218 (by unfold mJ; decide), hG120, if_neg c, if_neg (by omega)]; exact q1.2 j hj⟩
set_option maxRecDepth 100000 in
theorem mws_out {Λ : hc_L} {I : hc_I} {L : hc_J} {R : hc_R} {S : HS} {w h s : Nat} {x0 : Int32} {Q : hc_Q} (hW : MW Λ I L S) (hs16 : aS (sA S) < 16) (hw : 1 ≤ w ∧ w ≤ 8) (hh : 1 ≤ h ∧ h ≤ 8) (hs : 1 ≤ s ∧ s ≤ 100) (hend : ∀ L2 : hc_J, WsL (sA S) L L2 → LW xX11_worst (0, 0) 175 [(0, .ref 217), (1, .int (nI w)), (2, .int (nI h)), (3, .int (nI s)), (4, .int x0), (5, .int ((bAll (wW (sA S) (sP S) s w h) (9 - w) (9 - h) (-1, 0, 0)).2.1)), (6, .int ((bAll (wW (sA S) (sP S) s w h) (9 - w) (9 - h) (-1, 0, 0)).2.2)), (7, .long ((bAll (wW (sA S) (sP S) s w h) (9 - w) (9 - h) (-1, 0, 0)).1))] [] Λ I L2 R Q) : ∀ y, y ≤ 9 - h → ∀ L2 : hc_J, WsL (sA S) L L2 → LW xX11_worst (0, 0) 81 [(0, .ref 217), (1, .int (nI w)), (2, .int (nI h)), (3, .int (nI s)), (4, .int x0), (5, .int ((bAll (wW (sA S) (sP S) s w h) (9 - w) y (-1, 0, 0)).2.1)), (6, .int ((bAll (wW (sA S) (sP S) s w h) (9 - w) y (-1, 0, 0)).2.2)), (7, .long ((bAll (wW (sA S) (sP S) s w h) (9 - w) y (-1, 0, 0)).1)), (9, .int (nI y))] [] Λ I L2 R Q := by
  have hM := hW.m
  have hY := hM.y
  refine hc_down ?_ ?_
  · intro L2 q1
    refine LW_iload 8 dX11_worst_81 rfl ?_
    refine LW_iloadn 2 dX11_worst_83 rfl rfl ?_
    refine LW_iadd dX11_worst_84 ?_
    rw [show ((nI (9 - h)) + (nI h)) = nI (9 - h + h) from (nI_add _ _)]
    refine LW_bipush (v := 8) dX11_worst_85 (by decide) ?_
    refine LW_icmp_gt (tgt := 175) dX11_worst_87 (by decide) (fun c87 => ?_) (fun c87 => absurd ((hc_lt (a := 8) (b := 9 - h + h) (by decide) (by omega)).mpr (by omega)) c87)
    refine LW_ls (ls' := [(0, .ref 217), (1, .int (nI w)), (2, .int (nI h)), (3, .int (nI s)), (4, .int x0), (5, .int ((bAll (wW (sA S) (sP S) s w h) (9 - w) (9 - h) (-1, 0, 0)).2.1)), (6, .int ((bAll (wW (sA S) (sP S) s w h) (9 - w) (9 - h) (-1, 0, 0)).2.2)), (7, .long ((bAll (wW (sA S) (sP S) s w h) (9 - w) (9 - h) (-1, 0, 0)).1))]) [0, 1, 2, 3, 4, 5, 6, 7] rfl ?_
    exact hend L2 q1
  · intro y hy ih L2 q1
    refine LW_iload 8 dX11_worst_81 rfl ?_
    refine LW_iloadn 2 dX11_worst_83 rfl rfl ?_
    refine LW_iadd dX11_worst_84 ?_
    rw [show ((nI y) + (nI h)) = nI (y + h) from (nI_add _ _)]
    refine LW_bipush (v := 8) dX11_worst_85 (by decide) ?_
    refine LW_icmp_gt (tgt := 175) dX11_worst_87 (by decide) (fun c87 => absurd c87 (fun z => absurd ((hc_lt (a := 8) (b := y + h) (by decide) (by omega)).mp z) (by omega))) (fun c87 => ?_)
    refine LW_iconst (v := 0) dX11_worst_90 (by decide) ?_
    refine LW_istore (ls' := [(0, .ref 217), (1, .int (nI w)), (2, .int (nI h)), (3, .int (nI s)), (4, .int x0), (5, .int ((bAll (wW (sA S) (sP S) s w h) (9 - w) y (-1, 0, 0)).2.1)), (6, .int ((bAll (wW (sA S) (sP S) s w h) (9 - w) y (-1, 0, 0)).2.2)), (7, .long ((bAll (wW (sA S) (sP S) s w h) (9 - w) y (-1, 0, 0)).1)), (9, .int (nI y)), (10, .int 0)]) dX11_worst_91 (by decide) rfl ?_
    refine LW_ls (ls' := [(0, .ref 217), (1, .int (nI w)), (2, .int (nI h)), (3, .int (nI s)), (4, .int x0), (5, .int ((bRow (wW (sA S) (sP S) s w h) y 0 (bAll (wW (sA S) (sP S) s w h) (9 - w) y (-1, 0, 0))).2.1)), (6, .int ((bRow (wW (sA S) (sP S) s w h) y 0 (bAll (wW (sA S) (sP S) s w h) (9 - w) y (-1, 0, 0))).2.2)), (7, .long ((bRow (wW (sA S) (sP S) s w h) y 0 (bAll (wW (sA S) (sP S) s w h) (9 - w) y (-1, 0, 0))).1)), (9, .int (nI y)), (10, .int (nI 0))]) [0, 1, 2, 3, 4, 5, 6, 7, 8, 9] rfl ?_
    refine mws_in hW hs16 hw hh hs hy (fun L3 q3 => ?_) 0 (Nat.zero_le _) L2 q1
    refine LW_iinc (n := 8) (v := nI (y + 1)) (ls' := [(0, .ref 217), (1, .int (nI w)), (2, .int (nI h)), (3, .int (nI s)), (4, .int x0), (5, .int ((bRow (wW (sA S) (sP S) s w h) y (9 - w) (bAll (wW (sA S) (sP S) s w h) (9 - w) y (-1, 0, 0))).2.1)), (6, .int ((bRow (wW (sA S) (sP S) s w h) y (9 - w) (bAll (wW (sA S) (sP S) s w h) (9 - w) y (-1, 0, 0))).2.2)), (7, .long ((bRow (wW (sA S) (sP S) s w h) y (9 - w) (bAll (wW (sA S) (sP S) s w h) (9 - w) y (-1, 0, 0))).1)), (9, .int (nI (y + 1))), (10, .int (nI (9 - w)))]) dX11_worst_169 rfl (hc_inc _) (by decide) rfl ?_
    refine LW_goto (tgt := 81) dX11_worst_172 (by decide) ?_
    refine LW_ls (ls' := [(0, .ref 217), (1, .int (nI w)), (2, .int (nI h)), (3, .int (nI s)), (4, .int x0), (5, .int ((bAll (wW (sA S) (sP S) s w h) (9 - w) (y + 1) (-1, 0, 0)).2.1)), (6, .int ((bAll (wW (sA S) (sP S) s w h) (9 - w) (y + 1) (-1, 0, 0)).2.2)), (7, .long ((bAll (wW (sA S) (sP S) s w h) (9 - w) (y + 1) (-1, 0, 0)).1)), (9, .int (nI (y + 1)))]) [0, 1, 2, 3, 4, 5, 6, 7, 8] rfl ?_
    exact ih L3 q3
