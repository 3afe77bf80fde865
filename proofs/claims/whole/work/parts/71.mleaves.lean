/-! the reference: those that leave -/
def gnB (A : AS) (pr : Nat → Bool) (i o : Nat) : Bool := decide (o < i) && (pr o && aLv A o)
theorem sumJ_ext {f : Nat → Int64} {n : Nat} (h : ∀ j, n ≤ j → f j = 0) : ∀ {m : Nat}, n ≤ m → sumJ f m = sumJ f n
  | 0, hm => by rw [Nat.le_zero.mp hm]
  | m + 1, hm => by
    by_cases c : n = m + 1
    · rw [c]
    · show sumJ f m + f m = sumJ f n
      rw [sumJ_ext h (m := m) (by omega), h m (by omega), Int64.add_zero]
theorem sumJ_del {f : Nat → Int64} {i : Nat} : ∀ {n : Nat}, i < n → sumJ f n - f i = sumJ (fun o => if o = i then 0 else f o) n
  | 0, h => absurd h (Nat.not_lt_zero _)
  | n + 1, h => by
    show sumJ f n + f n - f i = sumJ (fun o => if o = i then 0 else f o) n + (if n = i then 0 else f n)
    by_cases c : n = i
    · rw [if_pos c, c, Int64.add_sub_cancel, Int64.add_zero]
      exact sumJ_congr (fun j hj => (if_neg (by omega)).symm)
    · rw [if_neg c, ← sumJ_del (n := n) (by omega)]
      rw [Int64.sub_eq_add_neg, Int64.sub_eq_add_neg, Int64.add_assoc, Int64.add_assoc, Int64.add_comm (f n)]
theorem gS_no {A : AS} {pr : Nat → Bool} {m : Nat} (h : pr m = false) : gS A pr m = 0 := if_neg (by rw [h]; decide)
theorem gP_no {A : AS} {pr : Nat → Bool} {m : Nat} (h : pr m = false) : gP A pr m = 0 := if_neg (by rw [h]; decide)
theorem td_rem {A : AS} {w : Int32} (hA : wf A) {du : Nat → Int64} {d r : Int64} (f : Nat → Int64) (hf : ∀ m, prX A w m = false → f m = 0) : ∀ i, i ≤ aM A → (sumJ (fun o => if gnB A (prX A w) i o = true then 0 else f o) (aM A)) = (if i = 0 then sumJ f (aM A) else sumJ (fun o => if gnB A (prX A w) i o = true then 0 else f o) (aM A))
  | 0, _ => by
    rw [if_pos rfl]
    exact sumJ_congr (fun o _ => if_neg (by unfold gnB; rw [decide_eq_false (Nat.not_lt_zero o), Bool.false_and]; decide))
  | i + 1, _ => by rw [if_neg (Nat.succ_ne_zero i)]
theorem gnB_y {A : AS} {pr : Nat → Bool} {i : Nat} (h : (pr i && aLv A i) = true) (f : Nat → Int64) (o : Nat) : (if gnB A pr (i + 1) o = true then 0 else f o) = if o = i then 0 else (if gnB A pr i o = true then 0 else f o) := by
  by_cases c : o = i
  · rw [if_pos c, c]
    unfold gnB
    rw [h, decide_eq_true (Nat.lt_succ_self i)]; rfl
  · rw [if_neg c]
    have : gnB A pr (i + 1) o = gnB A pr i o := by unfold gnB; rw [decide_eq_decide.mpr (show o < i + 1 ↔ o < i by omega)]
    rw [this]
theorem gnB_n {A : AS} {pr : Nat → Bool} {i : Nat} (h : (pr i && aLv A i) = false) (o : Nat) : gnB A pr (i + 1) o = gnB A pr i o := by
  by_cases c : o = i
  · rw [c]; unfold gnB; rw [h, Bool.and_false, Bool.and_false]
  · unfold gnB; rw [decide_eq_decide.mpr (show o < i + 1 ↔ o < i by omega)]
theorem gnB_0 {A : AS} {pr : Nat → Bool} (o : Nat) : gnB A pr 0 o = false := by unfold gnB; rw [decide_eq_false (Nat.not_lt_zero o), Bool.false_and]
/-- what those bring that are there yet -/
theorem td_SP {A : AS} {w : Int32} (hA : wf A) {du : Nat → Int64} {d r : Int64} : ∀ i, i ≤ aM A → (td A (prX A w) (gS A (prX A w)) (gP A (prX A w)) du d r i).1 = sumJ (fun o => if gnB A (prX A w) i o = true then 0 else gS A (prX A w) o) (aM A) ∧ (td A (prX A w) (gS A (prX A w)) (gP A (prX A w)) du d r i).2.1 = sumJ (fun o => if gnB A (prX A w) i o = true then 0 else gP A (prX A w) o) (aM A)
  | 0, _ => by
    have e : ∀ f : Nat → Int64, (fun o => if gnB A (prX A w) 0 o = true then 0 else f o) = f := fun f => by
      funext o
      rw [if_neg (by rw [gnB_0]; decide)]
    rw [e, e]
    exact ⟨sumJ_ext (fun j hj => gS_no (prX_no hj)) hA.m, sumJ_ext (fun j hj => gP_no (prX_no hj)) hA.m⟩
  | i + 1, hi => by
    obtain ⟨h1, h2⟩ := td_SP hA (du := du) (d := d) (r := r) i (by omega)
    cases c : (prX A w i && aLv A i) with
    | true =>
      rw [td_y c]
      show _ - _ = _ ∧ _ - _ = _
      rw [h1, h2]
      have hg : gnB A (prX A w) i i = false := by unfold gnB; rw [decide_eq_false (Nat.lt_irrefl i), Bool.false_and]
      have k := fun f : Nat → Int64 => sumJ_del (f := fun o => if gnB A (prX A w) i o = true then 0 else f o) (i := i) (n := aM A) (by omega)
      have kS := k (gS A (prX A w))
      have kP := k (gP A (prX A w))
      simp only [hg] at kS kP
      rw [if_neg (by decide)] at kS kP
      exact ⟨kS.trans (sumJ_congr (fun o _ => (gnB_y c _ o).symm)), kP.trans (sumJ_congr (fun o _ => (gnB_y c _ o).symm))⟩
    | false =>
      rw [td_n c, h1, h2]
      exact ⟨sumJ_congr (fun o _ => by rw [gnB_n c]), sumJ_congr (fun o _ => by rw [gnB_n c])⟩
theorem td_end {A : AS} {w : Int32} {sm pt du : Nat → Int64} {d r : Int64} : ∀ k, td A (prX A w) sm pt du d r (aM A + k) = td A (prX A w) sm pt du d r (aM A)
  | 0 => rfl
  | k + 1 => by
    show td A (prX A w) sm pt du d r (aM A + k + 1) = _
    rw [td_n (by rw [prX_no (by omega), Bool.false_and]), td_end k]
theorem tdM_n {A : AS} {m : Nat} (h : aYs A m ≤ 600) : tdM A m = (if 4 - lN (aYs A m) < 0 then 0 else 4 - lN (aYs A m)) := by
  unfold tdM
  generalize aYs A m = y at h
  by_cases c : y ≤ 4
  · have e : ∀ y, y ≤ 4 → (if (0 : Int32) < 5 - (nI y + 1) then 5 - (nI y + 1) else 0).toInt64 = (if 4 - lN y < 0 then 0 else 4 - lN y) := by decide +kernel
    exact e y c
  · have h1 : ¬ (0 : Int32) < 5 - (nI y + 1) := by
      rw [nI_1]
      intro q
      have q2 : nI (y + 1) < 5 := by
        have := Int32.lt_iff_toInt_lt.mp q
        rw [Int32.toInt_sub, nI_toInt (show y + 1 < 2 ^ 31 by omega), show (5 : Int32).toInt = 5 from rfl, show (0 : Int32).toInt = 0 from rfl, Int.bmod_eq_of_le (by omega) (by omega)] at this
        rw [Int32.lt_iff_toInt_lt, nI_toInt (show y + 1 < 2 ^ 31 by omega)]
        show (y + 1 : Nat) < (5 : Int)
        omega
      have := (hc_lt (a := y + 1) (b := 5) (by omega) (by decide)).mp q2
      omega
    have h2 : 4 - lN y < 0 := by
      rw [Int64.lt_iff_toInt_lt, Int64.toInt_sub, lN_toInt (by omega), show (4 : Int64).toInt = 4 from rfl, show (0 : Int64).toInt = 0 from rfl, Int.bmod_eq_of_le (by omega) (by omega)]
      omega
    rw [if_neg h1, if_pos h2]; rfl
set_option maxRecDepth 100000 in
theorem lv_loop {Λ : hc_L} {I : hc_I} {L : hc_J} {R : hc_R} {A : AS} {w : Int32} (hM : MC Λ I L A w) {r : Int64} {du : Nat → Int64} (hdu : ∀ m, m < 12 → L 234 (6 * m + 4) = du m) (hpos : ∀ i, i ≤ aM A → ¬ (td A (prX A w) (gS A (prX A w)) (gP A (prX A w)) du 0 r i).2.1 < 0) : ∀ i, i ≤ aM A → ∀ (I1 : hc_I) (L1 : hc_J), (∀ z, z ≠ 237 → I1 z = I z) → (∀ z, z ≠ 234 → L1 z = L z) → (∀ j, j < 12 → I1 237 j = hc_b (gnB A (prX A w) i j)) → (∀ m, m < 12 → L1 234 (6 * m + 4) = (td A (prX A w) (gS A (prX A w)) (gP A (prX A w)) du 0 r i).2.2.2.2 m) → (∀ j, j < 72 → j % 6 ≠ 4 → L1 234 j = L 234 j) → LW xX11_leaves (0, 0) 29 [(0, .ref 217), (1, .long r), (3, .long ((td A (prX A w) (gS A (prX A w)) (gP A (prX A w)) du 0 r i).2.2.2.1)), (5, .int (nI i))] [] Λ I1 L1 R (Qvi (fun z => z = 237) (fun z => z = 234) (some (.long (td A (prX A w) (gS A (prX A w)) (gP A (prX A w)) du 0 r 12).2.2.2.1)) (fun _ L' => (∀ m, m < 12 → L' 234 (6 * m + 4) = (td A (prX A w) (gS A (prX A w)) (gP A (prX A w)) du 0 r 12).2.2.2.2 m) ∧ ∀ j, j < 72 → j % 6 ≠ 4 → L' 234 j = L 234 j) Λ I L R) := by
  have hY := hM.y
  have hm12 := hM.w.m
  refine hc_down ?_ ?_
  · intro I1 L1 p1 p2 p3 p4 p5
    have hM1 : MC Λ I1 L1 A w := hM.kp (p2 218 (by decide)) (p1 221 (by decide)) (p1 222 (by decide)) (p1 223 (by decide)) (by rw [p1 217 (by decide)])
    refine LW_iload 3 dX11_leaves_29 rfl ?_
    refine LW_i2l dX11_leaves_31 ?_
    rw [show (nI (aM A)).toInt64 = lN (aM A) from (nI_l (by omega))]
    refine LW_aloadn 0 dX11_leaves_32 rfl rfl ?_
    refine gX11_0 dX11_leaves_33 flX11_9 (hY.lt (k := 217) (by decide)) (ly217 hY) (lf217_0 hY) ?_
    refine LW_iconst (v := 5) dX11_leaves_36 (by decide) ?_
    refine LW_lald dX11_leaves_37 (hY.lt (k := 218) (by decide)) (ly218 hY) rfl (by decide) (Nat.le_of_ble_eq_true rfl) ?_
    rw [show L1 218 5 = lN (aM A) from hM1.nM]
    refine LW_lcmp dX11_leaves_38 ?_
    refine LW_lif_ge (tgt := 243) dX11_leaves_39 (by decide) (fun c39 => ?_) (fun c39 => absurd (Int64.le_refl _) c39)
    refine LW_lloadn 2 dX11_leaves_243 rfl rfl ?_
    refine LW_lret dX11_leaves_244 rfl (Nat.le_of_ble_eq_true rfl) (Nat.le_of_ble_eq_true rfl) ?_
    have e := td_end (A := A) (w := w) (sm := gS A (prX A w)) (pt := gP A (prX A w)) (du := du) (d := 0) (r := r) (12 - aM A)
    rw [show aM A + (12 - aM A) = 12 by omega] at e
    rw [e]
    exact ⟨rfl, rfl, fun z hz => p1 z hz, fun z hz => p2 z hz, rfl, p4, p5⟩
  · intro i hi ih I1 L1 p1 p2 p3 p4 p5
    have hM1 : MC Λ I1 L1 A w := hM.kp (p2 218 (by decide)) (p1 221 (by decide)) (p1 222 (by decide)) (p1 223 (by decide)) (by rw [p1 217 (by decide)])
    have hys := hM.w.2.2.2.2.2.2.1 i hi
    refine LW_iload 3 dX11_leaves_29 rfl ?_
    refine LW_i2l dX11_leaves_31 ?_
    rw [show (nI i).toInt64 = lN i from (nI_l (by omega))]
    refine LW_aloadn 0 dX11_leaves_32 rfl rfl ?_
    refine gX11_0 dX11_leaves_33 flX11_9 (hY.lt (k := 217) (by decide)) (ly217 hY) (lf217_0 hY) ?_
    refine LW_iconst (v := 5) dX11_leaves_36 (by decide) ?_
    refine LW_lald dX11_leaves_37 (hY.lt (k := 218) (by decide)) (ly218 hY) rfl (by decide) (Nat.le_of_ble_eq_true rfl) ?_
    rw [show L1 218 5 = lN (aM A) from hM1.nM]
    refine LW_lcmp dX11_leaves_38 ?_
    refine LW_lif_ge (tgt := 243) dX11_leaves_39 (by decide) (fun c39 => absurd c39 (lN_nle (by omega) (by omega) hi)) (fun c39 => ?_)
    refine LW_aloadn 0 dX11_leaves_42 rfl rfl ?_
    refine LW_iload 3 dX11_leaves_43 rfl ?_
    refine LW_callV (As := [.int (nI i)]) (b := 217) (st := []) (ci := 11) (r := (RX11, TX11, 44)) (r_mIsThere hM1 hi) YX11_isThere rfl dX11_leaves_45 mlX11_331 (hY.lt (k := 217) (by decide)) (ly217 hY) ⟨rfl, rfl⟩ (by decide) ⟨Nat.le_of_ble_eq_true rfl, Nat.le_of_ble_eq_true rfl⟩ (Nat.le_of_ble_eq_true rfl) rfl (fun r45 Λc45 Ic45 Lc45 Rc45 hq45 => ?_)
    obtain ⟨rfl, rfl, rfl, rfl, rfl⟩ := hq45
    refine LW_bif_eq (tgt := 237) dX11_leaves_48 (by decide) (fun c48 => ?_) (fun c48 => ?_)
    · refine LW_iinc (n := 3) (v := nI (i + 1)) (ls' := [(0, .ref 217), (1, .long r), (3, .long ((td A (prX A w) (gS A (prX A w)) (gP A (prX A w)) du 0 r i).2.2.2.1)), (5, .int (nI (i + 1)))]) dX11_leaves_237 rfl (hc_inc _) (by decide) rfl ?_
      refine LW_goto (tgt := 29) dX11_leaves_240 (by decide) ?_
      have ec : (prX A w i && aLv A i) = false := (by rw [c48, Bool.false_and])
      rw [td_n ec] at ih
      exact ih I1 L1 p1 p2 (fun j hj => by rw [p3 j hj, gnB_n ec]) p4 p5
    · refine LW_aloadn 0 dX11_leaves_51 rfl rfl ?_
      refine gX11_0 dX11_leaves_52 flX11_9 (hY.lt (k := 217) (by decide)) (ly217 hY) (lf217_0 hY) ?_
      refine LW_bipush (v := 22) dX11_leaves_55 (by decide) ?_
      refine LW_iload 3 dX11_leaves_57 rfl ?_
      refine LW_iadd dX11_leaves_59 ?_
      rw [show (22 + (nI i)) = nI (22 + i) from (nI_add 22 _)]
      refine LW_lald dX11_leaves_60 (hY.lt (k := 218) (by decide)) (ly218 hY) rfl (by omega) (Nat.le_of_ble_eq_true rfl) ?_
      rw [show L1 218 (22 + i) = lB (aLv A i) from hM1.lv hi]
      refine LW_lconst (v := 0) dX11_leaves_61 (by decide) ?_
      refine LW_lcmp dX11_leaves_62 ?_
      refine LW_lif_ne (tgt := 69) dX11_leaves_63 (by decide) (fun c63 => ?_) (fun c63 => ?_)
      · have hlv : aLv A i = true := by
          cases q : aLv A i with
          | true => rfl
          | false => exact absurd ((lB_0 _).mpr q) c63
        refine LW_lconst (v := 0) dX11_leaves_69 (by decide) ?_
        refine LW_lstore (ls' := [(0, .ref 217), (1, .long r), (3, .long ((td A (prX A w) (gS A (prX A w)) (gP A (prX A w)) du 0 r i).2.2.2.1)), (5, .int (nI i)), (6, .long 0)]) dX11_leaves_70 (by decide) rfl ?_
        refine LW_lconst (v := 0) dX11_leaves_72 (by decide) ?_
        refine LW_lstore (ls' := [(0, .ref 217), (1, .long r), (3, .long ((td A (prX A w) (gS A (prX A w)) (gP A (prX A w)) du 0 r i).2.2.2.1)), (5, .int (nI i)), (6, .long 0), (8, .long 0)]) dX11_leaves_73 (by decide) rfl ?_
        refine LW_iconst (v := 0) dX11_leaves_75 (by decide) ?_
        refine LW_istore (ls' := [(0, .ref 217), (1, .long r), (3, .long ((td A (prX A w) (gS A (prX A w)) (gP A (prX A w)) du 0 r i).2.2.2.1)), (5, .int (nI i)), (6, .long 0), (8, .long 0), (10, .int 0)]) dX11_leaves_76 (by decide) rfl ?_
        have inn : ∀ k, k ≤ aM A → LW xX11_leaves (0, 0) 78 [(0, .ref 217), (1, .long r), (3, .long ((td A (prX A w) (gS A (prX A w)) (gP A (prX A w)) du 0 r i).2.2.2.1)), (5, .int (nI i)), (6, .long (sumJ (fun o => if gnB A (prX A w) i o = true then 0 else gS A (prX A w) o) k)), (8, .long (sumJ (fun o => if gnB A (prX A w) i o = true then 0 else gP A (prX A w) o) k)), (10, .int (nI k))] [] Λ I1 L1 R (Qvi (fun z => z = 237) (fun z => z = 234) (some (.long (td A (prX A w) (gS A (prX A w)) (gP A (prX A w)) du 0 r 12).2.2.2.1)) (fun _ L' => (∀ m, m < 12 → L' 234 (6 * m + 4) = (td A (prX A w) (gS A (prX A w)) (gP A (prX A w)) du 0 r 12).2.2.2.2 m) ∧ ∀ j, j < 72 → j % 6 ≠ 4 → L' 234 j = L 234 j) Λ I L R) := by
          refine hc_down ?_ ?_
          · refine LW_iload 6 dX11_leaves_78 rfl ?_
            refine LW_i2l dX11_leaves_80 ?_
            rw [show (nI (aM A)).toInt64 = lN (aM A) from (nI_l (by omega))]
            refine LW_aloadn 0 dX11_leaves_81 rfl rfl ?_
            refine gX11_0 dX11_leaves_82 flX11_9 (hY.lt (k := 217) (by decide)) (ly217 hY) (lf217_0 hY) ?_
            refine LW_iconst (v := 5) dX11_leaves_85 (by decide) ?_
            refine LW_lald dX11_leaves_86 (hY.lt (k := 218) (by decide)) (ly218 hY) rfl (by decide) (Nat.le_of_ble_eq_true rfl) ?_
            rw [show L1 218 5 = lN (aM A) from hM1.nM]
            refine LW_lcmp dX11_leaves_87 ?_
            refine LW_lif_ge (tgt := 141) dX11_leaves_88 (by decide) (fun c88 => ?_) (fun c88 => absurd (Int64.le_refl _) c88)
            obtain ⟨eS, eP⟩ := td_SP hM.w (w := w) (du := du) (d := 0) (r := r) i (Nat.le_of_lt hi)
            rw [← eS, ← eP]
            refine LW_lconst (v := 0) dX11_leaves_141 (by decide) ?_
            refine LW_aloadn 0 dX11_leaves_142 rfl rfl ?_
            refine gX11_0 dX11_leaves_143 flX11_9 (hY.lt (k := 217) (by decide)) (ly217 hY) (lf217_0 hY) ?_
            refine LW_iconst (v := 3) dX11_leaves_146 (by decide) ?_
            refine LW_lald dX11_leaves_147 (hY.lt (k := 218) (by decide)) (ly218 hY) rfl (by decide) (Nat.le_of_ble_eq_true rfl) ?_
            rw [show L1 218 3 = aRu A 6 from hM1.n.1.2.2.2]
            refine LW_lload 4 dX11_leaves_148 rfl ?_
            refine LW_lmul dX11_leaves_150 ?_
            refine LW_ldc2 dX11_leaves_151 klX11_352 ?_
            refine LW_ldiv dX11_leaves_154 (by decide) ?_
            refine LW_lloadn 2 dX11_leaves_155 rfl rfl ?_
            refine LW_lsub dX11_leaves_156 ?_
            refine LW_lmax dX11_leaves_157 mlX11_313 (by decide) ⟨Nat.le_refl _, Nat.le_refl _⟩ (Nat.le_of_ble_eq_true rfl) ?_
            rw [show (if ((((aRu A 6) * ((td A (prX A w) (gS A (prX A w)) (gP A (prX A w)) du 0 r i).1)) / 100) - ((td A (prX A w) (gS A (prX A w)) (gP A (prX A w)) du 0 r i).2.2.2.1)) < 0 then 0 else ((((aRu A 6) * ((td A (prX A w) (gS A (prX A w)) (gP A (prX A w)) du 0 r i).1)) / 100) - ((td A (prX A w) (gS A (prX A w)) (gP A (prX A w)) du 0 r i).2.2.2.1))) = tdL A (td A (prX A w) (gS A (prX A w)) (gP A (prX A w)) du 0 r i).1 (td A (prX A w) (gS A (prX A w)) (gP A (prX A w)) du 0 r i).2.2.2.1 from rfl]
            refine LW_lstore (ls' := [(0, .ref 217), (1, .long r), (3, .long ((td A (prX A w) (gS A (prX A w)) (gP A (prX A w)) du 0 r i).2.2.2.1)), (5, .int (nI i)), (6, .long ((td A (prX A w) (gS A (prX A w)) (gP A (prX A w)) du 0 r i).1)), (8, .long ((td A (prX A w) (gS A (prX A w)) (gP A (prX A w)) du 0 r i).2.1)), (10, .long (tdL A (td A (prX A w) (gS A (prX A w)) (gP A (prX A w)) du 0 r i).1 (td A (prX A w) (gS A (prX A w)) (gP A (prX A w)) du 0 r i).2.2.2.1))]) dX11_leaves_160 (by decide) rfl ?_
            refine LW_lload 5 dX11_leaves_162 rfl ?_
            refine LW_lconst (v := 0) dX11_leaves_164 (by decide) ?_
            refine LW_lcmp dX11_leaves_165 ?_
            refine LW_lif_ne (tgt := 173) dX11_leaves_166 (by decide) (fun c166 => ?_) (fun c166 => ?_)
            · have hq0 : 0 < (td A (prX A w) (gS A (prX A w)) (gP A (prX A w)) du 0 r i).2.1 := by
                rcases Int64.lt_or_eq_of_le (Int64.not_lt.mp (hpos i (Nat.le_of_lt hi))) with q | q
                · exact q
                · exact absurd q.symm c166
              refine LW_lload 6 dX11_leaves_173 rfl ?_
              refine LW_aloadn 0 dX11_leaves_175 rfl rfl ?_
              refine LW_iload 3 dX11_leaves_176 rfl ?_
              refine LW_callV (As := [.int (nI i)]) (b := 217) (st := [.long (tdL A (td A (prX A w) (gS A (prX A w)) (gP A (prX A w)) du 0 r i).1 (td A (prX A w) (gS A (prX A w)) (gP A (prX A w)) du 0 r i).2.2.2.1)]) (ci := 11) (r := (RX11, TX11, 44)) (r_mPointsOf hM1 hi) YX11_pointsOf rfl dX11_leaves_178 mlX11_315 (hY.lt (k := 217) (by decide)) (ly217 hY) ⟨rfl, rfl⟩ (by decide) ⟨Nat.le_of_ble_eq_true rfl, Nat.le_of_ble_eq_true rfl⟩ (Nat.le_of_ble_eq_true rfl) rfl (fun r178 Λc178 Ic178 Lc178 Rc178 hq178 => ?_)
              obtain ⟨rfl, rfl, rfl, rfl, rfl⟩ := hq178
              refine LW_lmul dX11_leaves_181 ?_
              refine LW_lload 5 dX11_leaves_182 rfl ?_
              refine LW_ldiv dX11_leaves_184 c166 ?_
              refine LW_lconst (v := 0) dX11_leaves_185 (by decide) ?_
              refine LW_ldc2 dX11_leaves_186 klX11_425 ?_
              refine LW_aloadn 0 dX11_leaves_189 rfl rfl ?_
              refine gX11_0 dX11_leaves_190 flX11_9 (hY.lt (k := 217) (by decide)) (ly217 hY) (lf217_0 hY) ?_
              refine LW_bipush (v := 34) dX11_leaves_193 (by decide) ?_
              refine LW_iload 3 dX11_leaves_195 rfl ?_
              refine LW_iadd dX11_leaves_197 ?_
              rw [show (34 + (nI i)) = nI (34 + i) from (nI_add 34 _)]
              refine LW_lald dX11_leaves_198 (hY.lt (k := 218) (by decide)) (ly218 hY) rfl (by omega) (Nat.le_of_ble_eq_true rfl) ?_
              rw [show L1 218 (34 + i) = lN (aYs A i) from hM1.ys hi]
              refine LW_lsub dX11_leaves_199 ?_
              refine LW_lmax dX11_leaves_200 mlX11_313 (by decide) ⟨Nat.le_refl _, Nat.le_refl _⟩ (Nat.le_of_ble_eq_true rfl) ?_
              rw [show (if (4 - (lN (aYs A i))) < 0 then 0 else (4 - (lN (aYs A i)))) = tdM A i from (tdM_n hys).symm]
              refine LW_lmul dX11_leaves_203 ?_
              refine LW_ldc2 dX11_leaves_204 klX11_427 ?_
              refine LW_ldiv dX11_leaves_207 (by decide) ?_
              rw [show (((((tdL A (td A (prX A w) (gS A (prX A w)) (gP A (prX A w)) du 0 r i).1 (td A (prX A w) (gS A (prX A w)) (gP A (prX A w)) du 0 r i).2.2.2.1) * (gP A (prX A w) i)) / ((td A (prX A w) (gS A (prX A w)) (gP A (prX A w)) du 0 r i).2.1)) * (tdM A i)) / 5) = tdD A (td A (prX A w) (gS A (prX A w)) (gP A (prX A w)) du 0 r i).1 (td A (prX A w) (gS A (prX A w)) (gP A (prX A w)) du 0 r i).2.1 (gP A (prX A w) i) (td A (prX A w) (gS A (prX A w)) (gP A (prX A w)) du 0 r i).2.2.2.1 i from (by unfold tdD; rw [if_pos hq0])]
              refine LW_lstore (ls' := [(0, .ref 217), (1, .long r), (3, .long ((td A (prX A w) (gS A (prX A w)) (gP A (prX A w)) du 0 r i).2.2.2.1)), (5, .int (nI i)), (6, .long ((td A (prX A w) (gS A (prX A w)) (gP A (prX A w)) du 0 r i).1)), (8, .long ((td A (prX A w) (gS A (prX A w)) (gP A (prX A w)) du 0 r i).2.1)), (10, .long (tdL A (td A (prX A w) (gS A (prX A w)) (gP A (prX A w)) du 0 r i).1 (td A (prX A w) (gS A (prX A w)) (gP A (prX A w)) du 0 r i).2.2.2.1)), (12, .long (tdD A (td A (prX A w) (gS A (prX A w)) (gP A (prX A w)) du 0 r i).1 (td A (prX A w) (gS A (prX A w)) (gP A (prX A w)) du 0 r i).2.1 (gP A (prX A w) i) (td A (prX A w) (gS A (prX A w)) (gP A (prX A w)) du 0 r i).2.2.2.1 i))]) dX11_leaves_208 (by decide) rfl ?_
              refine LW_aloadn 0 dX11_leaves_210 rfl rfl ?_
              refine gX11_40 dX11_leaves_211 flX11_69 (hY.lt (k := 217) (by decide)) (ly217 hY) (lf217_40 hY) ?_
              refine LW_bipush (v := 6) dX11_leaves_214 (by decide) ?_
              refine LW_iload 3 dX11_leaves_216 rfl ?_
              refine LW_imul dX11_leaves_218 ?_
              rw [show (6 * (nI i)) = nI (6 * i) from (nI_mul 6 i)]
              refine LW_iconst (v := 4) dX11_leaves_219 (by decide) ?_
              refine LW_iadd dX11_leaves_220 ?_
              rw [show ((nI (6 * i)) + 4) = nI (6 * i + 4) from (nI_add (6 * i) 4)]
              refine LW_lload 7 dX11_leaves_221 rfl ?_
              refine LW_last dX11_leaves_223 (hY.lt (k := 234) (by decide)) (ly234 hY) rfl (by omega) (Nat.le_of_ble_eq_true rfl) ?_
              generalize hL223 : hc_u L1 234 (6 * i + 4) (tdD A (td A (prX A w) (gS A (prX A w)) (gP A (prX A w)) du 0 r i).1 (td A (prX A w) (gS A (prX A w)) (gP A (prX A w)) du 0 r i).2.1 (gP A (prX A w) i) (td A (prX A w) (gS A (prX A w)) (gP A (prX A w)) du 0 r i).2.2.2.1 i) = L223
              refine LW_lloadn 2 dX11_leaves_224 rfl rfl ?_
              refine LW_lload 7 dX11_leaves_225 rfl ?_
              refine LW_ladd dX11_leaves_227 ?_
              refine LW_lstoren (ls' := [(0, .ref 217), (1, .long r), (3, .long (((td A (prX A w) (gS A (prX A w)) (gP A (prX A w)) du 0 r i).2.2.2.1) + (tdD A (td A (prX A w) (gS A (prX A w)) (gP A (prX A w)) du 0 r i).1 (td A (prX A w) (gS A (prX A w)) (gP A (prX A w)) du 0 r i).2.1 (gP A (prX A w) i) (td A (prX A w) (gS A (prX A w)) (gP A (prX A w)) du 0 r i).2.2.2.1 i))), (5, .int (nI i)), (6, .long ((td A (prX A w) (gS A (prX A w)) (gP A (prX A w)) du 0 r i).1)), (8, .long ((td A (prX A w) (gS A (prX A w)) (gP A (prX A w)) du 0 r i).2.1)), (10, .long (tdL A (td A (prX A w) (gS A (prX A w)) (gP A (prX A w)) du 0 r i).1 (td A (prX A w) (gS A (prX A w)) (gP A (prX A w)) du 0 r i).2.2.2.1)), (12, .long (tdD A (td A (prX A w) (gS A (prX A w)) (gP A (prX A w)) du 0 r i).1 (td A (prX A w) (gS A (prX A w)) (gP A (prX A w)) du 0 r i).2.1 (gP A (prX A w) i) (td A (prX A w) (gS A (prX A w)) (gP A (prX A w)) du 0 r i).2.2.2.1 i))]) dX11_leaves_228 rfl (by decide) rfl ?_
              refine LW_aloadn 0 dX11_leaves_229 rfl rfl ?_
              refine gX11_43 dX11_leaves_230 flX11_78 (hY.lt (k := 217) (by decide)) (ly217 hY) (lf217_43 hY) ?_
              refine LW_iload 3 dX11_leaves_233 rfl ?_
              refine LW_iconst (v := 1) dX11_leaves_235 (by decide) ?_
              refine LW_zast dX11_leaves_236 (hY.lt (k := 237) (by decide)) (ly237 hY) rfl (by omega) (Nat.le_of_ble_eq_true rfl) ?_
              generalize hI236 : hc_u I1 237 i (vp_nar .boolean 1) = I236
              refine LW_iinc (n := 3) (v := nI (i + 1)) (ls' := [(0, .ref 217), (1, .long r), (3, .long (((td A (prX A w) (gS A (prX A w)) (gP A (prX A w)) du 0 r i).2.2.2.1) + (tdD A (td A (prX A w) (gS A (prX A w)) (gP A (prX A w)) du 0 r i).1 (td A (prX A w) (gS A (prX A w)) (gP A (prX A w)) du 0 r i).2.1 (gP A (prX A w) i) (td A (prX A w) (gS A (prX A w)) (gP A (prX A w)) du 0 r i).2.2.2.1 i))), (5, .int (nI (i + 1))), (6, .long ((td A (prX A w) (gS A (prX A w)) (gP A (prX A w)) du 0 r i).1)), (8, .long ((td A (prX A w) (gS A (prX A w)) (gP A (prX A w)) du 0 r i).2.1)), (10, .long (tdL A (td A (prX A w) (gS A (prX A w)) (gP A (prX A w)) du 0 r i).1 (td A (prX A w) (gS A (prX A w)) (gP A (prX A w)) du 0 r i).2.2.2.1)), (12, .long (tdD A (td A (prX A w) (gS A (prX A w)) (gP A (prX A w)) du 0 r i).1 (td A (prX A w) (gS A (prX A w)) (gP A (prX A w)) du 0 r i).2.1 (gP A (prX A w) i) (td A (prX A w) (gS A (prX A w)) (gP A (prX A w)) du 0 r i).2.2.2.1 i))]) dX11_leaves_237 rfl (hc_inc _) (by decide) rfl ?_
              refine LW_goto (tgt := 29) dX11_leaves_240 (by decide) ?_
              have ec : (prX A w i && aLv A i) = true := by rw [c48, hlv]; rfl
              rw [td_y ec] at ih
              refine LW_ls (ls' := [(0, .ref 217), (1, .long r), (3, .long (((td A (prX A w) (gS A (prX A w)) (gP A (prX A w)) du 0 r i).2.2.2.1) + (tdD A (td A (prX A w) (gS A (prX A w)) (gP A (prX A w)) du 0 r i).1 (td A (prX A w) (gS A (prX A w)) (gP A (prX A w)) du 0 r i).2.1 (gP A (prX A w) i) (td A (prX A w) (gS A (prX A w)) (gP A (prX A w)) du 0 r i).2.2.2.1 i))), (5, .int (nI (i + 1)))]) [0, 1, 2, 3] rfl ?_
              exact ih I236 L223 (fun z z1 => by rw [← hI236, hc_u_row _ _ _ _ z1]; exact p1 z z1) (fun z z1 => by rw [← hL223, hc_u_row _ _ _ _ z1]; exact p2 z z1) (fun j hj => by
                rw [← hI236, hc_u_at]
                by_cases cj : j = i
                · rw [if_pos cj, cj]; unfold gnB; rw [ec, decide_eq_true (Nat.lt_succ_self i)]; rfl
                · rw [if_neg cj, p3 j hj]; unfold gnB; rw [decide_eq_decide.mpr (show j < i + 1 ↔ j < i by omega)]) (fun m hm => by
                rw [← hL223, hc_u_at]
                show _ = lpUp _ i _ m
                unfold lpUp
                by_cases cm : m = i
                · rw [cm, if_pos rfl, if_pos rfl]
                · rw [if_neg (by omega), if_neg cm]; exact p4 m hm) (fun j hj h4 => by
                rw [← hL223, hc_u_at, if_neg (by omega)]; exact p5 j hj h4)
            · have hq0 : (td A (prX A w) (gS A (prX A w)) (gP A (prX A w)) du 0 r i).2.1 = 0 := Classical.not_not.mp c166
              refine LW_lconst (v := 0) dX11_leaves_169 (by decide) ?_
              refine LW_goto (tgt := 208) dX11_leaves_170 (by decide) ?_
              rw [show [Value.long 0] = [Value.long (tdD A (td A (prX A w) (gS A (prX A w)) (gP A (prX A w)) du 0 r i).1 (td A (prX A w) (gS A (prX A w)) (gP A (prX A w)) du 0 r i).2.1 (gP A (prX A w) i) (td A (prX A w) (gS A (prX A w)) (gP A (prX A w)) du 0 r i).2.2.2.1 i)] from congrArg (fun v => [Value.long v]) (by unfold tdD; rw [if_neg (by rw [hq0]; decide), Int64.zero_mul]; rfl : (0 : Int64) = tdD A (td A (prX A w) (gS A (prX A w)) (gP A (prX A w)) du 0 r i).1 (td A (prX A w) (gS A (prX A w)) (gP A (prX A w)) du 0 r i).2.1 (gP A (prX A w) i) (td A (prX A w) (gS A (prX A w)) (gP A (prX A w)) du 0 r i).2.2.2.1 i)]
              refine LW_lstore (ls' := [(0, .ref 217), (1, .long r), (3, .long ((td A (prX A w) (gS A (prX A w)) (gP A (prX A w)) du 0 r i).2.2.2.1)), (5, .int (nI i)), (6, .long ((td A (prX A w) (gS A (prX A w)) (gP A (prX A w)) du 0 r i).1)), (8, .long ((td A (prX A w) (gS A (prX A w)) (gP A (prX A w)) du 0 r i).2.1)), (10, .long (tdL A (td A (prX A w) (gS A (prX A w)) (gP A (prX A w)) du 0 r i).1 (td A (prX A w) (gS A (prX A w)) (gP A (prX A w)) du 0 r i).2.2.2.1)), (12, .long (tdD A (td A (prX A w) (gS A (prX A w)) (gP A (prX A w)) du 0 r i).1 (td A (prX A w) (gS A (prX A w)) (gP A (prX A w)) du 0 r i).2.1 (gP A (prX A w) i) (td A (prX A w) (gS A (prX A w)) (gP A (prX A w)) du 0 r i).2.2.2.1 i))]) dX11_leaves_208 (by decide) rfl ?_
              refine LW_aloadn 0 dX11_leaves_210 rfl rfl ?_
              refine gX11_40 dX11_leaves_211 flX11_69 (hY.lt (k := 217) (by decide)) (ly217 hY) (lf217_40 hY) ?_
              refine LW_bipush (v := 6) dX11_leaves_214 (by decide) ?_
              refine LW_iload 3 dX11_leaves_216 rfl ?_
              refine LW_imul dX11_leaves_218 ?_
              rw [show (6 * (nI i)) = nI (6 * i) from (nI_mul 6 i)]
              refine LW_iconst (v := 4) dX11_leaves_219 (by decide) ?_
              refine LW_iadd dX11_leaves_220 ?_
              rw [show ((nI (6 * i)) + 4) = nI (6 * i + 4) from (nI_add (6 * i) 4)]
              refine LW_lload 7 dX11_leaves_221 rfl ?_
              refine LW_last dX11_leaves_223 (hY.lt (k := 234) (by decide)) (ly234 hY) rfl (by omega) (Nat.le_of_ble_eq_true rfl) ?_
              generalize hL223 : hc_u L1 234 (6 * i + 4) (tdD A (td A (prX A w) (gS A (prX A w)) (gP A (prX A w)) du 0 r i).1 (td A (prX A w) (gS A (prX A w)) (gP A (prX A w)) du 0 r i).2.1 (gP A (prX A w) i) (td A (prX A w) (gS A (prX A w)) (gP A (prX A w)) du 0 r i).2.2.2.1 i) = L223
              refine LW_lloadn 2 dX11_leaves_224 rfl rfl ?_
              refine LW_lload 7 dX11_leaves_225 rfl ?_
              refine LW_ladd dX11_leaves_227 ?_
              refine LW_lstoren (ls' := [(0, .ref 217), (1, .long r), (3, .long (((td A (prX A w) (gS A (prX A w)) (gP A (prX A w)) du 0 r i).2.2.2.1) + (tdD A (td A (prX A w) (gS A (prX A w)) (gP A (prX A w)) du 0 r i).1 (td A (prX A w) (gS A (prX A w)) (gP A (prX A w)) du 0 r i).2.1 (gP A (prX A w) i) (td A (prX A w) (gS A (prX A w)) (gP A (prX A w)) du 0 r i).2.2.2.1 i))), (5, .int (nI i)), (6, .long ((td A (prX A w) (gS A (prX A w)) (gP A (prX A w)) du 0 r i).1)), (8, .long ((td A (prX A w) (gS A (prX A w)) (gP A (prX A w)) du 0 r i).2.1)), (10, .long (tdL A (td A (prX A w) (gS A (prX A w)) (gP A (prX A w)) du 0 r i).1 (td A (prX A w) (gS A (prX A w)) (gP A (prX A w)) du 0 r i).2.2.2.1)), (12, .long (tdD A (td A (prX A w) (gS A (prX A w)) (gP A (prX A w)) du 0 r i).1 (td A (prX A w) (gS A (prX A w)) (gP A (prX A w)) du 0 r i).2.1 (gP A (prX A w) i) (td A (prX A w) (gS A (prX A w)) (gP A (prX A w)) du 0 r i).2.2.2.1 i))]) dX11_leaves_228 rfl (by decide) rfl ?_
              refine LW_aloadn 0 dX11_leaves_229 rfl rfl ?_
              refine gX11_43 dX11_leaves_230 flX11_78 (hY.lt (k := 217) (by decide)) (ly217 hY) (lf217_43 hY) ?_
              refine LW_iload 3 dX11_leaves_233 rfl ?_
              refine LW_iconst (v := 1) dX11_leaves_235 (by decide) ?_
              refine LW_zast dX11_leaves_236 (hY.lt (k := 237) (by decide)) (ly237 hY) rfl (by omega) (Nat.le_of_ble_eq_true rfl) ?_
              generalize hI236 : hc_u I1 237 i (vp_nar .boolean 1) = I236
              refine LW_iinc (n := 3) (v := nI (i + 1)) (ls' := [(0, .ref 217), (1, .long r), (3, .long (((td A (prX A w) (gS A (prX A w)) (gP A (prX A w)) du 0 r i).2.2.2.1) + (tdD A (td A (prX A w) (gS A (prX A w)) (gP A (prX A w)) du 0 r i).1 (td A (prX A w) (gS A (prX A w)) (gP A (prX A w)) du 0 r i).2.1 (gP A (prX A w) i) (td A (prX A w) (gS A (prX A w)) (gP A (prX A w)) du 0 r i).2.2.2.1 i))), (5, .int (nI (i + 1))), (6, .long ((td A (prX A w) (gS A (prX A w)) (gP A (prX A w)) du 0 r i).1)), (8, .long ((td A (prX A w) (gS A (prX A w)) (gP A (prX A w)) du 0 r i).2.1)), (10, .long (tdL A (td A (prX A w) (gS A (prX A w)) (gP A (prX A w)) du 0 r i).1 (td A (prX A w) (gS A (prX A w)) (gP A (prX A w)) du 0 r i).2.2.2.1)), (12, .long (tdD A (td A (prX A w) (gS A (prX A w)) (gP A (prX A w)) du 0 r i).1 (td A (prX A w) (gS A (prX A w)) (gP A (prX A w)) du 0 r i).2.1 (gP A (prX A w) i) (td A (prX A w) (gS A (prX A w)) (gP A (prX A w)) du 0 r i).2.2.2.1 i))]) dX11_leaves_237 rfl (hc_inc _) (by decide) rfl ?_
              refine LW_goto (tgt := 29) dX11_leaves_240 (by decide) ?_
              have ec : (prX A w i && aLv A i) = true := by rw [c48, hlv]; rfl
              rw [td_y ec] at ih
              refine LW_ls (ls' := [(0, .ref 217), (1, .long r), (3, .long (((td A (prX A w) (gS A (prX A w)) (gP A (prX A w)) du 0 r i).2.2.2.1) + (tdD A (td A (prX A w) (gS A (prX A w)) (gP A (prX A w)) du 0 r i).1 (td A (prX A w) (gS A (prX A w)) (gP A (prX A w)) du 0 r i).2.1 (gP A (prX A w) i) (td A (prX A w) (gS A (prX A w)) (gP A (prX A w)) du 0 r i).2.2.2.1 i))), (5, .int (nI (i + 1)))]) [0, 1, 2, 3] rfl ?_
              exact ih I236 L223 (fun z z1 => by rw [← hI236, hc_u_row _ _ _ _ z1]; exact p1 z z1) (fun z z1 => by rw [← hL223, hc_u_row _ _ _ _ z1]; exact p2 z z1) (fun j hj => by
                rw [← hI236, hc_u_at]
                by_cases cj : j = i
                · rw [if_pos cj, cj]; unfold gnB; rw [ec, decide_eq_true (Nat.lt_succ_self i)]; rfl
                · rw [if_neg cj, p3 j hj]; unfold gnB; rw [decide_eq_decide.mpr (show j < i + 1 ↔ j < i by omega)]) (fun m hm => by
                rw [← hL223, hc_u_at]
                show _ = lpUp _ i _ m
                unfold lpUp
                by_cases cm : m = i
                · rw [cm, if_pos rfl, if_pos rfl]
                · rw [if_neg (by omega), if_neg cm]; exact p4 m hm) (fun j hj h4 => by
                rw [← hL223, hc_u_at, if_neg (by omega)]; exact p5 j hj h4)
          · intro k hk ih2
            refine LW_iload 6 dX11_leaves_78 rfl ?_
            refine LW_i2l dX11_leaves_80 ?_
            rw [show (nI k).toInt64 = lN k from (nI_l (by omega))]
            refine LW_aloadn 0 dX11_leaves_81 rfl rfl ?_
            refine gX11_0 dX11_leaves_82 flX11_9 (hY.lt (k := 217) (by decide)) (ly217 hY) (lf217_0 hY) ?_
            refine LW_iconst (v := 5) dX11_leaves_85 (by decide) ?_
            refine LW_lald dX11_leaves_86 (hY.lt (k := 218) (by decide)) (ly218 hY) rfl (by decide) (Nat.le_of_ble_eq_true rfl) ?_
            rw [show L1 218 5 = lN (aM A) from hM1.nM]
            refine LW_lcmp dX11_leaves_87 ?_
            refine LW_lif_ge (tgt := 141) dX11_leaves_88 (by decide) (fun c88 => absurd c88 (lN_nle (by omega) (by omega) hk)) (fun c88 => ?_)
            refine LW_aloadn 0 dX11_leaves_91 rfl rfl ?_
            refine LW_iload 6 dX11_leaves_92 rfl ?_
            refine LW_callV (As := [.int (nI k)]) (b := 217) (st := []) (ci := 11) (r := (RX11, TX11, 44)) (r_mIsThere hM1 hk) YX11_isThere rfl dX11_leaves_94 mlX11_331 (hY.lt (k := 217) (by decide)) (ly217 hY) ⟨rfl, rfl⟩ (by decide) ⟨Nat.le_of_ble_eq_true rfl, Nat.le_of_ble_eq_true rfl⟩ (Nat.le_of_ble_eq_true rfl) rfl (fun r94 Λc94 Ic94 Lc94 Rc94 hq94 => ?_)
            obtain ⟨rfl, rfl, rfl, rfl, rfl⟩ := hq94
            refine LW_bif_eq (tgt := 135) dX11_leaves_97 (by decide) (fun c97 => ?_) (fun c97 => ?_)
            · refine LW_iinc (n := 6) (v := nI (k + 1)) (ls' := [(0, .ref 217), (1, .long r), (3, .long ((td A (prX A w) (gS A (prX A w)) (gP A (prX A w)) du 0 r i).2.2.2.1)), (5, .int (nI i)), (6, .long (sumJ (fun o => if gnB A (prX A w) i o = true then 0 else gS A (prX A w) o) k)), (8, .long (sumJ (fun o => if gnB A (prX A w) i o = true then 0 else gP A (prX A w) o) k)), (10, .int (nI (k + 1)))]) dX11_leaves_135 rfl (hc_inc _) (by decide) rfl ?_
              refine LW_goto (tgt := 78) dX11_leaves_138 (by decide) ?_
              have eS : sumJ (fun o => if gnB A (prX A w) i o = true then 0 else gS A (prX A w) o) (k + 1) = sumJ (fun o => if gnB A (prX A w) i o = true then 0 else gS A (prX A w) o) k := by
                show sumJ (fun o => if gnB A (prX A w) i o = true then 0 else gS A (prX A w) o) k + (if gnB A (prX A w) i k = true then 0 else gS A (prX A w) k) = _
                rw [show (if gnB A (prX A w) i k = true then 0 else gS A (prX A w) k) = 0 by split; rfl; exact gS_no c97, Int64.add_zero]
              have eP : sumJ (fun o => if gnB A (prX A w) i o = true then 0 else gP A (prX A w) o) (k + 1) = sumJ (fun o => if gnB A (prX A w) i o = true then 0 else gP A (prX A w) o) k := by
                show sumJ (fun o => if gnB A (prX A w) i o = true then 0 else gP A (prX A w) o) k + (if gnB A (prX A w) i k = true then 0 else gP A (prX A w) k) = _
                rw [show (if gnB A (prX A w) i k = true then 0 else gP A (prX A w) k) = 0 by split; rfl; exact gP_no c97, Int64.add_zero]
              rw [eS, eP] at ih2
              exact ih2
            · refine LW_aloadn 0 dX11_leaves_100 rfl rfl ?_
              refine gX11_43 dX11_leaves_101 flX11_78 (hY.lt (k := 217) (by decide)) (ly217 hY) (lf217_43 hY) ?_
              refine LW_iload 6 dX11_leaves_104 rfl ?_
              refine LW_zald dX11_leaves_106 (hY.lt (k := 237) (by decide)) (ly237 hY) rfl (by omega) (Nat.le_of_ble_eq_true rfl) ?_
              rw [show I1 237 k = hc_b (gnB A (prX A w) i k) from p3 k (by omega)]
              refine LW_bif_eq (tgt := 113) dX11_leaves_107 (by decide) (fun c107 => ?_) (fun c107 => ?_)
              · refine LW_lload 4 dX11_leaves_113 rfl ?_
                refine LW_aloadn 0 dX11_leaves_115 rfl rfl ?_
                refine LW_iload 6 dX11_leaves_116 rfl ?_
                refine LW_callV (As := [.int (nI k)]) (b := 217) (st := [.long (sumJ (fun o => if gnB A (prX A w) i o = true then 0 else gS A (prX A w) o) k)]) (ci := 11) (r := (RX11, TX11, 44)) (r_mSumsOf hM1 hk) YX11_sumsOf rfl dX11_leaves_118 mlX11_344 (hY.lt (k := 217) (by decide)) (ly217 hY) ⟨rfl, rfl⟩ (by decide) ⟨Nat.le_of_ble_eq_true rfl, Nat.le_of_ble_eq_true rfl⟩ (Nat.le_of_ble_eq_true rfl) rfl (fun r118 Λc118 Ic118 Lc118 Rc118 hq118 => ?_)
                obtain ⟨rfl, rfl, rfl, rfl, rfl⟩ := hq118
                refine LW_ladd dX11_leaves_121 ?_
                refine LW_lstore (ls' := [(0, .ref 217), (1, .long r), (3, .long ((td A (prX A w) (gS A (prX A w)) (gP A (prX A w)) du 0 r i).2.2.2.1)), (5, .int (nI i)), (6, .long ((sumJ (fun o => if gnB A (prX A w) i o = true then 0 else gS A (prX A w) o) k) + (gS A (prX A w) k))), (8, .long (sumJ (fun o => if gnB A (prX A w) i o = true then 0 else gP A (prX A w) o) k)), (10, .int (nI k))]) dX11_leaves_122 (by decide) rfl ?_
                refine LW_lload 5 dX11_leaves_124 rfl ?_
                refine LW_aloadn 0 dX11_leaves_126 rfl rfl ?_
                refine LW_iload 6 dX11_leaves_127 rfl ?_
                refine LW_callV (As := [.int (nI k)]) (b := 217) (st := [.long (sumJ (fun o => if gnB A (prX A w) i o = true then 0 else gP A (prX A w) o) k)]) (ci := 11) (r := (RX11, TX11, 44)) (r_mPointsOf hM1 hk) YX11_pointsOf rfl dX11_leaves_129 mlX11_315 (hY.lt (k := 217) (by decide)) (ly217 hY) ⟨rfl, rfl⟩ (by decide) ⟨Nat.le_of_ble_eq_true rfl, Nat.le_of_ble_eq_true rfl⟩ (Nat.le_of_ble_eq_true rfl) rfl (fun r129 Λc129 Ic129 Lc129 Rc129 hq129 => ?_)
                obtain ⟨rfl, rfl, rfl, rfl, rfl⟩ := hq129
                refine LW_ladd dX11_leaves_132 ?_
                refine LW_lstore (ls' := [(0, .ref 217), (1, .long r), (3, .long ((td A (prX A w) (gS A (prX A w)) (gP A (prX A w)) du 0 r i).2.2.2.1)), (5, .int (nI i)), (6, .long ((sumJ (fun o => if gnB A (prX A w) i o = true then 0 else gS A (prX A w) o) k) + (gS A (prX A w) k))), (8, .long ((sumJ (fun o => if gnB A (prX A w) i o = true then 0 else gP A (prX A w) o) k) + (gP A (prX A w) k))), (10, .int (nI k))]) dX11_leaves_133 (by decide) rfl ?_
                refine LW_iinc (n := 6) (v := nI (k + 1)) (ls' := [(0, .ref 217), (1, .long r), (3, .long ((td A (prX A w) (gS A (prX A w)) (gP A (prX A w)) du 0 r i).2.2.2.1)), (5, .int (nI i)), (6, .long ((sumJ (fun o => if gnB A (prX A w) i o = true then 0 else gS A (prX A w) o) k) + (gS A (prX A w) k))), (8, .long ((sumJ (fun o => if gnB A (prX A w) i o = true then 0 else gP A (prX A w) o) k) + (gP A (prX A w) k))), (10, .int (nI (k + 1)))]) dX11_leaves_135 rfl (hc_inc _) (by decide) rfl ?_
                refine LW_goto (tgt := 78) dX11_leaves_138 (by decide) ?_
                have eS : sumJ (fun o => if gnB A (prX A w) i o = true then 0 else gS A (prX A w) o) (k + 1) = (sumJ (fun o => if gnB A (prX A w) i o = true then 0 else gS A (prX A w) o) k) + (gS A (prX A w) k) := by
                  show sumJ (fun o => if gnB A (prX A w) i o = true then 0 else gS A (prX A w) o) k + (if gnB A (prX A w) i k = true then 0 else gS A (prX A w) k) = _
                  rw [if_neg (by rw [c107]; decide)]
                have eP : sumJ (fun o => if gnB A (prX A w) i o = true then 0 else gP A (prX A w) o) (k + 1) = (sumJ (fun o => if gnB A (prX A w) i o = true then 0 else gP A (prX A w) o) k) + (gP A (prX A w) k) := by
                  show sumJ (fun o => if gnB A (prX A w) i o = true then 0 else gP A (prX A w) o) k + (if gnB A (prX A w) i k = true then 0 else gP A (prX A w) k) = _
                  rw [if_neg (by rw [c107]; decide)]
                rw [eS, eP] at ih2
                exact ih2
              · refine LW_goto (tgt := 135) dX11_leaves_110 (by decide) ?_
                refine LW_iinc (n := 6) (v := nI (k + 1)) (ls' := [(0, .ref 217), (1, .long r), (3, .long ((td A (prX A w) (gS A (prX A w)) (gP A (prX A w)) du 0 r i).2.2.2.1)), (5, .int (nI i)), (6, .long (sumJ (fun o => if gnB A (prX A w) i o = true then 0 else gS A (prX A w) o) k)), (8, .long (sumJ (fun o => if gnB A (prX A w) i o = true then 0 else gP A (prX A w) o) k)), (10, .int (nI (k + 1)))]) dX11_leaves_135 rfl (hc_inc _) (by decide) rfl ?_
                refine LW_goto (tgt := 78) dX11_leaves_138 (by decide) ?_
                have eS : sumJ (fun o => if gnB A (prX A w) i o = true then 0 else gS A (prX A w) o) (k + 1) = sumJ (fun o => if gnB A (prX A w) i o = true then 0 else gS A (prX A w) o) k := by
                  show sumJ (fun o => if gnB A (prX A w) i o = true then 0 else gS A (prX A w) o) k + (if gnB A (prX A w) i k = true then 0 else gS A (prX A w) k) = _
                  rw [if_pos c107, Int64.add_zero]
                have eP : sumJ (fun o => if gnB A (prX A w) i o = true then 0 else gP A (prX A w) o) (k + 1) = sumJ (fun o => if gnB A (prX A w) i o = true then 0 else gP A (prX A w) o) k := by
                  show sumJ (fun o => if gnB A (prX A w) i o = true then 0 else gP A (prX A w) o) k + (if gnB A (prX A w) i k = true then 0 else gP A (prX A w) k) = _
                  rw [if_pos c107, Int64.add_zero]
                rw [eS, eP] at ih2
                exact ih2
        exact inn 0 (Nat.zero_le _)
      · refine LW_goto (tgt := 237) dX11_leaves_66 (by decide) ?_
        refine LW_iinc (n := 3) (v := nI (i + 1)) (ls' := [(0, .ref 217), (1, .long r), (3, .long ((td A (prX A w) (gS A (prX A w)) (gP A (prX A w)) du 0 r i).2.2.2.1)), (5, .int (nI (i + 1)))]) dX11_leaves_237 rfl (hc_inc _) (by decide) rfl ?_
        refine LW_goto (tgt := 29) dX11_leaves_240 (by decide) ?_
        have ec : (prX A w i && aLv A i) = false := (by rw [(lB_0 _).mp (Classical.not_not.mp c63), Bool.and_false])
        rw [td_n ec] at ih
        exact ih I1 L1 p1 p2 (fun j hj => by rw [p3 j hj, gnB_n ec]) p4 p5
set_option maxRecDepth 100000 in
theorem r_leaves {Λ : hc_L} {I : hc_I} {L : hc_J} {R : hc_R} {A : AS} {w : Int32} (hM : MC Λ I L A w) {r : Int64} {du : Nat → Int64} (hdu : ∀ m, m < 12 → L 234 (6 * m + 4) = du m) (hpos : ∀ i, i ≤ aM A → ¬ (td A (prX A w) (gS A (prX A w)) (gP A (prX A w)) du 0 r i).2.1 < 0) : Run xX11_leaves [.ref 217, .long r] Λ I L R (Qvi (fun z => z = 237) (fun z => z = 234) (some (.long (td A (prX A w) (gS A (prX A w)) (gP A (prX A w)) du 0 r 12).2.2.2.1)) (fun _ L' => (∀ m, m < 12 → L' 234 (6 * m + 4) = (td A (prX A w) (gS A (prX A w)) (gP A (prX A w)) du 0 r 12).2.2.2.2 m) ∧ ∀ j, j < 72 → j % 6 ≠ 4 → L' 234 j = L 234 j) Λ I L R) := by
  refine Run.of (by decide +kernel) (Nat.le_of_ble_eq_true rfl) ?_
  show LW _ _ _ [(0, .ref 217), (1, .long r)] _ _ _ _ _ _
  have hY := hM.y
  have loop : ∀ i, i ≤ 12 → ∀ (I1 : hc_I), (∀ z, z ≠ 237 → I1 z = I z) → (∀ j, j < i → I1 237 j = hc_b false) → LW xX11_leaves (0, 0) 5 [(0, .ref 217), (1, .long r), (3, .long r), (5, .int (nI i))] [] Λ I1 L R (Qvi (fun z => z = 237) (fun z => z = 234) (some (.long (td A (prX A w) (gS A (prX A w)) (gP A (prX A w)) du 0 r 12).2.2.2.1)) (fun _ L' => (∀ m, m < 12 → L' 234 (6 * m + 4) = (td A (prX A w) (gS A (prX A w)) (gP A (prX A w)) du 0 r 12).2.2.2.2 m) ∧ ∀ j, j < 72 → j % 6 ≠ 4 → L' 234 j = L 234 j) Λ I L R) := by
    refine hc_down ?_ ?_
    · intro I1 h1 h2
      refine LW_iload 3 dX11_leaves_5 rfl ?_
      refine LW_bipush (v := 12) dX11_leaves_7 (by decide) ?_
      refine LW_icmp_ge (tgt := 26) dX11_leaves_9 (by decide) (fun c9 => ?_) (fun c9 => absurd (by decide) c9)
      refine LW_iconst (v := 0) dX11_leaves_26 (by decide) ?_
      refine LW_istore (ls' := [(0, .ref 217), (1, .long r), (3, .long r), (5, .int 0)]) dX11_leaves_27 (by decide) rfl ?_
      exact lv_loop hM hdu hpos 0 (Nat.zero_le _) I1 L h1 (fun _ _ => rfl) (fun j hj => by rw [h2 j hj, gnB_0]) (fun m hm => hdu m hm) (fun _ _ _ => rfl)
    · intro i hi ih I1 h1 h2
      refine LW_iload 3 dX11_leaves_5 rfl ?_
      refine LW_bipush (v := 12) dX11_leaves_7 (by decide) ?_
      refine LW_icmp_ge (tgt := 26) dX11_leaves_9 (by decide) (fun c9 => absurd c9 (hc_nle (a := 12) (b := i) (by decide) (by omega) hi)) (fun c9 => ?_)
      refine LW_aloadn 0 dX11_leaves_12 rfl rfl ?_
      refine gX11_43 dX11_leaves_13 flX11_78 (hY.lt (k := 217) (by decide)) (ly217 hY) (lf217_43 hY) ?_
      refine LW_iload 3 dX11_leaves_16 rfl ?_
      refine LW_iconst (v := 0) dX11_leaves_18 (by decide) ?_
      refine LW_zast dX11_leaves_19 (hY.lt (k := 237) (by decide)) (ly237 hY) rfl hi (Nat.le_of_ble_eq_true rfl) ?_
      generalize hI19 : hc_u I1 237 i (vp_nar .boolean 0) = I19
      refine LW_iinc (n := 3) (v := nI (i + 1)) (ls' := [(0, .ref 217), (1, .long r), (3, .long r), (5, .int (nI (i + 1)))]) dX11_leaves_20 rfl (hc_inc _) (by decide) rfl ?_
      refine LW_goto (tgt := 5) dX11_leaves_23 (by decide) ?_
      exact ih I19 (fun z z1 => by rw [← hI19, hc_u_row _ _ _ _ z1]; exact h1 z z1) (fun j hj => by
        rw [← hI19, hc_u_at]
        by_cases cj : j = i
        · rw [if_pos cj]; rfl
        · rw [if_neg cj]; exact h2 j (by omega))
  refine LW_lloadn 1 dX11_leaves_0 rfl rfl ?_
  refine LW_lstoren (ls' := [(0, .ref 217), (1, .long r), (3, .long r)]) dX11_leaves_1 rfl (by decide) rfl ?_
  refine LW_iconst (v := 0) dX11_leaves_2 (by decide) ?_
  refine LW_istore (ls' := [(0, .ref 217), (1, .long r), (3, .long r), (5, .int 0)]) dX11_leaves_3 (by decide) rfl ?_
  exact loop 0 (Nat.zero_le _) I (fun _ _ => rfl) (fun j hj => absurd hj (Nat.not_lt_zero j))
