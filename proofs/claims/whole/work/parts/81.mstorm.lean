/-! the reference: canBe, comes, storm -/
theorem lIn_x {a b : Int32} {N : Nat} (hN : N < 2 ^ 31) : lIn a.toInt64 b.toInt64 (lN N) = (decide (b ≤ a) && decide (a ≤ nI N)) := by
  unfold lIn
  have e2 : (b.toInt64 ≤ a.toInt64) ↔ b ≤ a := by rw [Int64.le_iff_toInt_le, Int32.toInt_toInt64, Int32.toInt_toInt64, Int32.le_iff_toInt_le]
  have e3 : (a.toInt64 ≤ lN N) ↔ a ≤ nI N := by rw [Int64.le_iff_toInt_le, Int32.toInt_toInt64, Int32.le_iff_toInt_le, lN_toInt hN, nI_toInt hN]
  rw [decide_eq_decide.mpr e2, decide_eq_decide.mpr e3]
theorem can_all {x y tx ty s : Int32} : (aArea x y tx ty && aStr s) = (lIn x.toInt64 0 7 && (lIn y.toInt64 0 7 && (lIn tx.toInt64 x.toInt64 7 && (lIn ty.toInt64 y.toInt64 7 && lIn s.toInt64 1 100)))) := by
  have e1 : lIn x.toInt64 0 7 = (decide (0 ≤ x) && decide (x ≤ nI 7)) := lIn_i (by decide)
  have e2 : lIn y.toInt64 0 7 = (decide (0 ≤ y) && decide (y ≤ nI 7)) := lIn_i (by decide)
  have e3 : lIn tx.toInt64 x.toInt64 7 = (decide (x ≤ tx) && decide (tx ≤ nI 7)) := lIn_x (by decide)
  have e4 : lIn ty.toInt64 y.toInt64 7 = (decide (y ≤ ty) && decide (ty ≤ nI 7)) := lIn_x (by decide)
  have e5 : lIn s.toInt64 1 100 = (decide (1 ≤ s) && decide (s ≤ nI 100)) := lIn_x (a := s) (b := 1) (N := 100) (by decide)
  rw [e1, e2, e3, e4, e5]
  unfold aArea aStr aCell
  rw [Bool.eq_iff_iff]
  simp only [Bool.and_eq_true, decide_eq_true_eq, Int32.le_iff_toInt_le, Int32.lt_iff_toInt_lt]
  rw [nI_toInt (show 7 < 2 ^ 31 by decide), nI_toInt (show 100 < 2 ^ 31 by decide), show (0 : Int32).toInt = 0 from rfl, show (8 : Int32).toInt = 8 from rfl, show (1 : Int32).toInt = 1 from rfl, show (100 : Int32).toInt = 100 from rfl]
  omega
theorem can_k {x y tx ty s : Int32} (h : (aArea x y tx ty && aStr s) = true) : ∃ a b u v q, x = nI a ∧ y = nI b ∧ tx = nI u ∧ ty = nI v ∧ s = nI q ∧ a ≤ u ∧ u < 8 ∧ b ≤ v ∧ v < 8 ∧ 1 ≤ q ∧ q ≤ 100 := by
  rw [Bool.and_eq_true] at h
  obtain ⟨h1, h2⟩ := h
  unfold aArea at h1
  rw [Bool.and_eq_true, Bool.and_eq_true, Bool.and_eq_true, decide_eq_true_eq, decide_eq_true_eq] at h1
  obtain ⟨k1, k2, k3, k4⟩ := h1
  obtain ⟨a, b, rfl, rfl, ha, hb⟩ := aCell_k k1
  obtain ⟨u, v, rfl, rfl, hu, hv⟩ := aCell_k k2
  unfold aStr at h2
  rw [Bool.and_eq_true, decide_eq_true_eq, decide_eq_true_eq] at h2
  obtain ⟨q, rfl, q1, q2⟩ := aRan_k (N := 100) (by decide) h2.1 h2.2
  exact ⟨a, b, u, v, q, rfl, rfl, rfl, rfl, rfl, (hc_le (by omega) (by omega)).mp k3, hu, (hc_le (by omega) (by omega)).mp k4, hv, q1, q2⟩
theorem wf_addS {A : AS} (h : wf A) {g : Nat → Nat} (hg : g 0 ≤ g 2 ∧ g 2 < 8 ∧ g 1 ≤ g 3 ∧ g 3 < 8 ∧ 1 ≤ g 4 ∧ g 4 ≤ 100) (hn : aS A < 16) : wf (aAddS A g) := by
  obtain ⟨h1, h2, h3, h4, h5, h6, h7, h8, h9⟩ := h
  refine ⟨h1, h2, hn, h4, h5, h6, h7, h8, fun i hi => ?_⟩
  have hi : i < aS A + 1 := hi
  by_cases c : i = aS A
  · have e : aSd (aAddS A g) i = g := if_pos c
    rw [e]; exact hg
  · have e : aSd (aAddS A g) i = aSd A i := if_neg c
    rw [e]; exact h9 i (by omega)
theorem NwAt.st {N N' : Nat → Int64} {A : AS} {g : Nat → Nat} (h : NwAt N A) (hA : wf A) (hn : aS A < 16) (he : ∀ j, N' j = if j = 7 then lN (aS A + 1) else if 46 + 5 * aS A ≤ j ∧ j < 51 + 5 * aS A then lN (g (j - (46 + 5 * aS A))) else N j) : NwAt N' (aAddS A g) := by
  obtain ⟨⟨a1, a2, a3, a4⟩, ⟨b1, b2, b3, b4⟩, c, d, e, f⟩ := h
  have hm := hA.m
  have k : ∀ j, j ≠ 7 → (j < 46 + 5 * aS A ∨ 51 + 5 * aS A ≤ j) → N' j = N j := fun j h7 hj => by rw [he, if_neg h7, if_neg (by omega)]
  refine ⟨⟨(k 0 (by omega) (by omega)).trans a1, (k 1 (by omega) (by omega)).trans a2, (k 2 (by omega) (by omega)).trans a3, (k 3 (by omega) (by omega)).trans a4⟩, ⟨(k 4 (by omega) (by omega)).trans b1, (k 5 (by omega) (by omega)).trans b2, (k 6 (by omega) (by omega)).trans b3, ?_⟩, fun m hm => ?_, fun s hs a ha => ?_, fun m hm => ?_, fun m hm q => ⟨?_, fun w hw => ?_⟩⟩
  · rw [he, if_pos rfl]; rfl
  · have hm : m < aM A := hm
    rw [k _ (by omega) (by omega), k _ (by omega) (by omega), k _ (by omega) (by omega)]; exact c m hm
  · have hs : s < aS A + 1 := hs
    by_cases q : s = aS A
    · have e1 : aSd (aAddS A g) s = g := if_pos q
      rw [e1, he, if_neg (by omega), if_pos ⟨by omega, by omega⟩, show 46 + 5 * s + a - (46 + 5 * aS A) = a by omega]
    · have e1 : aSd (aAddS A g) s = aSd A s := if_neg q
      rw [e1, k _ (by omega) (by omega)]; exact d s (by omega) a ha
  · rw [k _ (by omega) (by omega)]; exact e m hm
  · rw [k _ (by omega) (by omega)]; exact (f m hm q).1
  · rw [k _ (by omega) (by omega)]; exact (f m hm q).2 w hw
set_option maxRecDepth 100000 in
theorem r_canBe {Λ : hc_L} {I : hc_I} {L : hc_J} {R : hc_R} (x y tx ty s : Int32) : Run xX11_canBe [.int x, .int y, .int tx, .int ty, .int s] Λ I L R (Qr (some (.int (hc_b (aArea x y tx ty && aStr s)))) Λ I L R) := by
  refine Run.of (by decide +kernel) (Nat.le_of_ble_eq_true rfl) ?_
  show LW _ _ _ [(0, .int x), (1, .int y), (2, .int tx), (3, .int ty), (4, .int s)] _ _ _ _ _ _
  refine LW_iloadn 0 dX11_canBe_0 rfl rfl ?_
  refine LW_i2l dX11_canBe_1 ?_
  refine LW_lconst (v := 0) dX11_canBe_2 (by decide) ?_
  refine LW_ldc2 dX11_canBe_3 klX11_376 ?_
  refine LW_callS (As := [.long x.toInt64, .long 0, .long 7]) (st := []) (r_isIn x.toInt64 0 7) YX11_isIn rfl dX11_canBe_6 mlX11_126 (by decide) ⟨Nat.le_of_ble_eq_true rfl, Nat.le_of_ble_eq_true rfl⟩ (Nat.le_of_ble_eq_true rfl) rfl (fun r6 Λc6 Ic6 Lc6 Rc6 hq6 => ?_)
  obtain ⟨rfl, rfl, rfl, rfl, rfl⟩ := hq6
  refine LW_bif_eq (tgt := 67) dX11_canBe_9 (by decide) (fun c9 => ?_) (fun c9 => ?_)
  · refine LW_iconst (v := 0) dX11_canBe_67 (by decide) ?_
    refine LW_zret dX11_canBe_68 rfl (Nat.le_of_ble_eq_true rfl) (Nat.le_of_ble_eq_true rfl) (Or.inl rfl) ?_
    have e : (aArea x y tx ty && aStr s) = false := by rw [can_all, c9]; rfl
    rw [e]
    exact Qr.mk rfl
  · refine LW_iloadn 1 dX11_canBe_12 rfl rfl ?_
    refine LW_i2l dX11_canBe_13 ?_
    refine LW_lconst (v := 0) dX11_canBe_14 (by decide) ?_
    refine LW_ldc2 dX11_canBe_15 klX11_376 ?_
    refine LW_callS (As := [.long y.toInt64, .long 0, .long 7]) (st := []) (r_isIn y.toInt64 0 7) YX11_isIn rfl dX11_canBe_18 mlX11_126 (by decide) ⟨Nat.le_of_ble_eq_true rfl, Nat.le_of_ble_eq_true rfl⟩ (Nat.le_of_ble_eq_true rfl) rfl (fun r18 Λc18 Ic18 Lc18 Rc18 hq18 => ?_)
    obtain ⟨rfl, rfl, rfl, rfl, rfl⟩ := hq18
    refine LW_bif_eq (tgt := 67) dX11_canBe_21 (by decide) (fun c21 => ?_) (fun c21 => ?_)
    · refine LW_iconst (v := 0) dX11_canBe_67 (by decide) ?_
      refine LW_zret dX11_canBe_68 rfl (Nat.le_of_ble_eq_true rfl) (Nat.le_of_ble_eq_true rfl) (Or.inl rfl) ?_
      have e : (aArea x y tx ty && aStr s) = false := by rw [can_all, c9, c21]; rfl
      rw [e]
      exact Qr.mk rfl
    · refine LW_iloadn 2 dX11_canBe_24 rfl rfl ?_
      refine LW_i2l dX11_canBe_25 ?_
      refine LW_iloadn 0 dX11_canBe_26 rfl rfl ?_
      refine LW_i2l dX11_canBe_27 ?_
      refine LW_ldc2 dX11_canBe_28 klX11_376 ?_
      refine LW_callS (As := [.long tx.toInt64, .long x.toInt64, .long 7]) (st := []) (r_isIn tx.toInt64 x.toInt64 7) YX11_isIn rfl dX11_canBe_31 mlX11_126 (by decide) ⟨Nat.le_of_ble_eq_true rfl, Nat.le_of_ble_eq_true rfl⟩ (Nat.le_of_ble_eq_true rfl) rfl (fun r31 Λc31 Ic31 Lc31 Rc31 hq31 => ?_)
      obtain ⟨rfl, rfl, rfl, rfl, rfl⟩ := hq31
      refine LW_bif_eq (tgt := 67) dX11_canBe_34 (by decide) (fun c34 => ?_) (fun c34 => ?_)
      · refine LW_iconst (v := 0) dX11_canBe_67 (by decide) ?_
        refine LW_zret dX11_canBe_68 rfl (Nat.le_of_ble_eq_true rfl) (Nat.le_of_ble_eq_true rfl) (Or.inl rfl) ?_
        have e : (aArea x y tx ty && aStr s) = false := by rw [can_all, c9, c21, c34]; rfl
        rw [e]
        exact Qr.mk rfl
      · refine LW_iloadn 3 dX11_canBe_37 rfl rfl ?_
        refine LW_i2l dX11_canBe_38 ?_
        refine LW_iloadn 1 dX11_canBe_39 rfl rfl ?_
        refine LW_i2l dX11_canBe_40 ?_
        refine LW_ldc2 dX11_canBe_41 klX11_376 ?_
        refine LW_callS (As := [.long ty.toInt64, .long y.toInt64, .long 7]) (st := []) (r_isIn ty.toInt64 y.toInt64 7) YX11_isIn rfl dX11_canBe_44 mlX11_126 (by decide) ⟨Nat.le_of_ble_eq_true rfl, Nat.le_of_ble_eq_true rfl⟩ (Nat.le_of_ble_eq_true rfl) rfl (fun r44 Λc44 Ic44 Lc44 Rc44 hq44 => ?_)
        obtain ⟨rfl, rfl, rfl, rfl, rfl⟩ := hq44
        refine LW_bif_eq (tgt := 67) dX11_canBe_47 (by decide) (fun c47 => ?_) (fun c47 => ?_)
        · refine LW_iconst (v := 0) dX11_canBe_67 (by decide) ?_
          refine LW_zret dX11_canBe_68 rfl (Nat.le_of_ble_eq_true rfl) (Nat.le_of_ble_eq_true rfl) (Or.inl rfl) ?_
          have e : (aArea x y tx ty && aStr s) = false := by rw [can_all, c9, c21, c34, c47]; rfl
          rw [e]
          exact Qr.mk rfl
        · refine LW_iload 4 dX11_canBe_50 rfl ?_
          refine LW_i2l dX11_canBe_52 ?_
          refine LW_lconst (v := 1) dX11_canBe_53 (by decide) ?_
          refine LW_ldc2 dX11_canBe_54 klX11_352 ?_
          refine LW_callS (As := [.long s.toInt64, .long 1, .long 100]) (st := []) (r_isIn s.toInt64 1 100) YX11_isIn rfl dX11_canBe_57 mlX11_126 (by decide) ⟨Nat.le_of_ble_eq_true rfl, Nat.le_of_ble_eq_true rfl⟩ (Nat.le_of_ble_eq_true rfl) rfl (fun r57 Λc57 Ic57 Lc57 Rc57 hq57 => ?_)
          obtain ⟨rfl, rfl, rfl, rfl, rfl⟩ := hq57
          refine LW_bif_eq (tgt := 67) dX11_canBe_60 (by decide) (fun c60 => ?_) (fun c60 => ?_)
          · refine LW_iconst (v := 0) dX11_canBe_67 (by decide) ?_
            refine LW_zret dX11_canBe_68 rfl (Nat.le_of_ble_eq_true rfl) (Nat.le_of_ble_eq_true rfl) (Or.inl rfl) ?_
            have e : (aArea x y tx ty && aStr s) = false := by rw [can_all, c9, c21, c34, c47, c60]; rfl
            rw [e]
            exact Qr.mk rfl
          · refine LW_iconst (v := 1) dX11_canBe_63 (by decide) ?_
            refine LW_goto (tgt := 68) dX11_canBe_64 (by decide) ?_
            refine LW_zret dX11_canBe_68 rfl (Nat.le_of_ble_eq_true rfl) (Nat.le_of_ble_eq_true rfl) (Or.inr rfl) ?_
            have e : (aArea x y tx ty && aStr s) = true := by rw [can_all, c9, c21, c34, c47, c60]; rfl
            rw [e]
            exact Qr.mk rfl
set_option maxRecDepth 100000 in
theorem r_comes {Λ : hc_L} {I : hc_I} {L : hc_J} {R : hc_R} {A : AS} {w : Int32} (hM : MC Λ I L A w) (hn : aS A < 16) {a b u v q : Nat} (ha : a < 2 ^ 31) (hb : b < 2 ^ 31) (hu : u < 2 ^ 31) (hv : v < 2 ^ 31) (hq : q < 2 ^ 31) : Run xX11_comes [.ref 217, .int (nI a), .int (nI b), .int (nI u), .int (nI v), .int (nI q)] Λ I L R (Qvi (fun _ => False) (fun z => z = 218) none (fun _ L' => ∀ j, L' 218 j = if j = 7 then lN (aS A + 1) else if 46 + 5 * aS A ≤ j ∧ j < 51 + 5 * aS A then lN (stRow a b u v q (j - (46 + 5 * aS A))) else L 218 j) Λ I L R) := by
  refine Run.of (by decide +kernel) (Nat.le_of_ble_eq_true rfl) ?_
  show LW _ _ _ [(0, .ref 217), (1, .int (nI a)), (2, .int (nI b)), (3, .int (nI u)), (4, .int (nI v)), (5, .int (nI q))] _ _ _ _ _ _
  have hY := hM.y
  refine LW_bipush (v := 46) dX11_comes_0 (by decide) ?_
  refine LW_iconst (v := 5) dX11_comes_2 (by decide) ?_
  refine LW_aloadn 0 dX11_comes_3 rfl rfl ?_
  refine gX11_0 dX11_comes_4 flX11_9 (hY.lt (k := 217) (by decide)) (ly217 hY) (lf217_0 hY) ?_
  refine LW_bipush (v := 7) dX11_comes_7 (by decide) ?_
  refine LW_lald dX11_comes_9 (hY.lt (k := 218) (by decide)) (ly218 hY) rfl (by decide) (Nat.le_of_ble_eq_true rfl) ?_
  rw [show L 218 7 = lN (aS A) from hM.nS]
  refine LW_l2i dX11_comes_10 ?_
  rw [show (lN (aS A)).toInt32 = nI (aS A) from (lN_i _)]
  refine LW_imul dX11_comes_11 ?_
  rw [show (5 * (nI (aS A))) = nI (5 * aS A) from (nI_mul 5 _)]
  refine LW_iadd dX11_comes_12 ?_
  rw [show (46 + (nI (5 * aS A))) = nI (46 + 5 * aS A) from (nI_add 46 _)]
  refine LW_istore (ls' := [(0, .ref 217), (1, .int (nI a)), (2, .int (nI b)), (3, .int (nI u)), (4, .int (nI v)), (5, .int (nI q)), (6, .int (nI (46 + 5 * aS A)))]) dX11_comes_13 (by decide) rfl ?_
  refine LW_aloadn 0 dX11_comes_15 rfl rfl ?_
  refine gX11_0 dX11_comes_16 flX11_9 (hY.lt (k := 217) (by decide)) (ly217 hY) (lf217_0 hY) ?_
  refine LW_iload 6 dX11_comes_19 rfl ?_
  refine LW_iloadn 1 dX11_comes_21 rfl rfl ?_
  refine LW_i2l dX11_comes_22 ?_
  rw [show (nI a).toInt64 = lN a from (nI_l ha)]
  refine LW_last dX11_comes_23 (hY.lt (k := 218) (by decide)) (ly218 hY) rfl (by omega) (Nat.le_of_ble_eq_true rfl) ?_
  generalize hL23 : hc_u L 218 (46 + 5 * aS A) (lN a) = L23
  refine LW_aloadn 0 dX11_comes_24 rfl rfl ?_
  refine gX11_0 dX11_comes_25 flX11_9 (hY.lt (k := 217) (by decide)) (ly217 hY) (lf217_0 hY) ?_
  refine LW_iload 6 dX11_comes_28 rfl ?_
  refine LW_iconst (v := 1) dX11_comes_30 (by decide) ?_
  refine LW_iadd dX11_comes_31 ?_
  rw [show ((nI (46 + 5 * aS A)) + 1) = nI (46 + 5 * aS A + 1) from (nI_add _ 1)]
  refine LW_iloadn 2 dX11_comes_32 rfl rfl ?_
  refine LW_i2l dX11_comes_33 ?_
  rw [show (nI b).toInt64 = lN b from (nI_l hb)]
  refine LW_last dX11_comes_34 (hY.lt (k := 218) (by decide)) (ly218 hY) rfl (by omega) (Nat.le_of_ble_eq_true rfl) ?_
  generalize hL34 : hc_u L23 218 (46 + 5 * aS A + 1) (lN b) = L34
  refine LW_aloadn 0 dX11_comes_35 rfl rfl ?_
  refine gX11_0 dX11_comes_36 flX11_9 (hY.lt (k := 217) (by decide)) (ly217 hY) (lf217_0 hY) ?_
  refine LW_iload 6 dX11_comes_39 rfl ?_
  refine LW_iconst (v := 2) dX11_comes_41 (by decide) ?_
  refine LW_iadd dX11_comes_42 ?_
  rw [show ((nI (46 + 5 * aS A)) + 2) = nI (46 + 5 * aS A + 2) from (nI_add _ 2)]
  refine LW_iloadn 3 dX11_comes_43 rfl rfl ?_
  refine LW_i2l dX11_comes_44 ?_
  rw [show (nI u).toInt64 = lN u from (nI_l hu)]
  refine LW_last dX11_comes_45 (hY.lt (k := 218) (by decide)) (ly218 hY) rfl (by omega) (Nat.le_of_ble_eq_true rfl) ?_
  generalize hL45 : hc_u L34 218 (46 + 5 * aS A + 2) (lN u) = L45
  refine LW_aloadn 0 dX11_comes_46 rfl rfl ?_
  refine gX11_0 dX11_comes_47 flX11_9 (hY.lt (k := 217) (by decide)) (ly217 hY) (lf217_0 hY) ?_
  refine LW_iload 6 dX11_comes_50 rfl ?_
  refine LW_iconst (v := 3) dX11_comes_52 (by decide) ?_
  refine LW_iadd dX11_comes_53 ?_
  rw [show ((nI (46 + 5 * aS A)) + 3) = nI (46 + 5 * aS A + 3) from (nI_add _ 3)]
  refine LW_iload 4 dX11_comes_54 rfl ?_
  refine LW_i2l dX11_comes_56 ?_
  rw [show (nI v).toInt64 = lN v from (nI_l hv)]
  refine LW_last dX11_comes_57 (hY.lt (k := 218) (by decide)) (ly218 hY) rfl (by omega) (Nat.le_of_ble_eq_true rfl) ?_
  generalize hL57 : hc_u L45 218 (46 + 5 * aS A + 3) (lN v) = L57
  refine LW_aloadn 0 dX11_comes_58 rfl rfl ?_
  refine gX11_0 dX11_comes_59 flX11_9 (hY.lt (k := 217) (by decide)) (ly217 hY) (lf217_0 hY) ?_
  refine LW_iload 6 dX11_comes_62 rfl ?_
  refine LW_iconst (v := 4) dX11_comes_64 (by decide) ?_
  refine LW_iadd dX11_comes_65 ?_
  rw [show ((nI (46 + 5 * aS A)) + 4) = nI (46 + 5 * aS A + 4) from (nI_add _ 4)]
  refine LW_iload 5 dX11_comes_66 rfl ?_
  refine LW_i2l dX11_comes_68 ?_
  rw [show (nI q).toInt64 = lN q from (nI_l hq)]
  refine LW_last dX11_comes_69 (hY.lt (k := 218) (by decide)) (ly218 hY) rfl (by omega) (Nat.le_of_ble_eq_true rfl) ?_
  generalize hL69 : hc_u L57 218 (46 + 5 * aS A + 4) (lN q) = L69
  refine LW_aloadn 0 dX11_comes_70 rfl rfl ?_
  refine gX11_0 dX11_comes_71 flX11_9 (hY.lt (k := 217) (by decide)) (ly217 hY) (lf217_0 hY) ?_
  refine LW_bipush (v := 7) dX11_comes_74 (by decide) ?_
  refine LW_dup2 dX11_comes_76 rfl rfl ?_
  refine LW_lald dX11_comes_77 (hY.lt (k := 218) (by decide)) (ly218 hY) rfl (by decide) (Nat.le_of_ble_eq_true rfl) ?_
  rw [show L69 218 7 = lN (aS A) from (by rw [← hL69, hc_u_at, if_neg (by omega), ← hL57, hc_u_at, if_neg (by omega), ← hL45, hc_u_at, if_neg (by omega), ← hL34, hc_u_at, if_neg (by omega), ← hL23, hc_u_at, if_neg (by omega)]; exact hM.nS)]
  refine LW_lconst (v := 1) dX11_comes_78 (by decide) ?_
  refine LW_ladd dX11_comes_79 ?_
  rw [show ((lN (aS A)) + 1) = lN (aS A + 1) from (lN_add _ 1)]
  refine LW_last dX11_comes_80 (hY.lt (k := 218) (by decide)) (ly218 hY) rfl (by decide) (Nat.le_of_ble_eq_true rfl) ?_
  generalize hL80 : hc_u L69 218 7 (lN (aS A + 1)) = L80
  refine LW_vret dX11_comes_81 rfl (Nat.le_of_ble_eq_true rfl) (Nat.le_of_ble_eq_true rfl) ?_
  refine ⟨rfl, rfl, fun _ _ => rfl, fun z hz => ?_, rfl, fun j => ?_⟩
  · have hz : z ≠ 218 := hz
    rw [← hL80, hc_u_row _ _ _ _ hz, ← hL69, hc_u_row _ _ _ _ hz, ← hL57, hc_u_row _ _ _ _ hz, ← hL45, hc_u_row _ _ _ _ hz, ← hL34, hc_u_row _ _ _ _ hz, ← hL23, hc_u_row _ _ _ _ hz]
  · rw [← hL80, hc_u_at]
    by_cases c7 : j = 7
    · rw [if_pos c7, if_pos c7]
    · rw [if_neg c7, if_neg c7, ← hL69, hc_u_at, ← hL57, hc_u_at, ← hL45, hc_u_at, ← hL34, hc_u_at, ← hL23, hc_u_at]
      by_cases d : 46 + 5 * aS A ≤ j ∧ j < 51 + 5 * aS A
      · rw [if_pos d]
        obtain ⟨k, rfl⟩ := Nat.exists_eq_add_of_le d.1
        rw [show 46 + 5 * aS A + k - (46 + 5 * aS A) = k by omega]
        have hk : k = 0 ∨ k = 1 ∨ k = 2 ∨ k = 3 ∨ k = 4 := by omega
        rcases hk with e | e | e | e | e
        · subst e; rw [if_neg (by omega), if_neg (by omega), if_neg (by omega), if_neg (by omega), if_pos (by omega)]; rfl
        · subst e; rw [if_neg (by omega), if_neg (by omega), if_neg (by omega), if_pos (by omega)]; rfl
        · subst e; rw [if_neg (by omega), if_neg (by omega), if_pos (by omega)]; rfl
        · subst e; rw [if_neg (by omega), if_pos (by omega)]; rfl
        · subst e; rw [if_pos (by omega)]; rfl
      · rw [if_neg d, if_neg (by omega), if_neg (by omega), if_neg (by omega), if_neg (by omega), if_neg (by omega)]
set_option maxRecDepth 100000 in
theorem mst_loop {Λ : hc_L} {I : hc_I} {L : hc_J} {R : hc_R} {S : HS} {a b u v q : Nat} (hM : MC Λ I L (aAddS (sA S) (stRow a b u v q)) (-1)) (hs16 : aS (sA S) < 16) {Q : hc_Q} (hend : Q (some (.int (abFu (aAddS (sA S) (stRow a b u v q)) (stRow a b u v q) (aF (sA S))))) Λ I L R) : ∀ i, i ≤ aF (sA S) → LW xX11_storm (0, 0) 50 [(0, .ref 217), (1, .int (nI a)), (2, .int (nI b)), (3, .int (nI u)), (4, .int (nI v)), (5, .int (nI q)), (6, .int (abFu (aAddS (sA S) (stRow a b u v q)) (stRow a b u v q) i)), (7, .int (nI i))] [] Λ I L R Q := by
  have hY := hM.y
  have hf24 : aF (sA S) ≤ 24 := hM.w.f
  refine hc_down ?_ ?_
  · refine LW_iload 7 dX11_storm_50 rfl ?_
    refine LW_i2l dX11_storm_52 ?_
    rw [show (nI (aF (sA S))).toInt64 = lN (aF (sA S)) from (nI_l (by omega))]
    refine LW_aloadn 0 dX11_storm_53 rfl rfl ?_
    refine gX11_0 dX11_storm_54 flX11_9 (hY.lt (k := 217) (by decide)) (ly217 hY) (lf217_0 hY) ?_
    refine LW_bipush (v := 6) dX11_storm_57 (by decide) ?_
    refine LW_lald dX11_storm_59 (hY.lt (k := 218) (by decide)) (ly218 hY) rfl (by decide) (Nat.le_of_ble_eq_true rfl) ?_
    rw [show L 218 6 = lN (aF (sA S)) from hM.nF]
    refine LW_lcmp dX11_storm_60 ?_
    refine LW_lif_ge (tgt := 111) dX11_storm_61 (by decide) (fun c61 => ?_) (fun c61 => absurd (Int64.le_refl _) c61)
    refine LW_iload 6 dX11_storm_111 rfl ?_
    refine LW_iret dX11_storm_113 rfl (Nat.le_of_ble_eq_true rfl) (Nat.le_of_ble_eq_true rfl) ?_
    exact hend
  · intro i hi ih
    have hi2 : i < aF (aAddS (sA S) (stRow a b u v q)) := hi
    have ef : aSt (aAddS (sA S) (stRow a b u v q)) i = prX (aAddS (sA S) (stRow a b u v q)) (-1) (aFd (aAddS (sA S) (stRow a b u v q)) i 0) := by
      rw [prX_m1 hM.w.m]
      unfold aSt
      rw [decide_eq_true hi2, Bool.true_and]
    refine LW_iload 7 dX11_storm_50 rfl ?_
    refine LW_i2l dX11_storm_52 ?_
    rw [show (nI i).toInt64 = lN i from (nI_l (by omega))]
    refine LW_aloadn 0 dX11_storm_53 rfl rfl ?_
    refine gX11_0 dX11_storm_54 flX11_9 (hY.lt (k := 217) (by decide)) (ly217 hY) (lf217_0 hY) ?_
    refine LW_bipush (v := 6) dX11_storm_57 (by decide) ?_
    refine LW_lald dX11_storm_59 (hY.lt (k := 218) (by decide)) (ly218 hY) rfl (by decide) (Nat.le_of_ble_eq_true rfl) ?_
    rw [show L 218 6 = lN (aF (sA S)) from hM.nF]
    refine LW_lcmp dX11_storm_60 ?_
    refine LW_lif_ge (tgt := 111) dX11_storm_61 (by decide) (fun c61 => absurd c61 (lN_nle (by omega) (by omega) hi)) (fun c61 => ?_)
    refine LW_iload 6 dX11_storm_64 rfl ?_
    refine LW_aloadn 0 dX11_storm_66 rfl rfl ?_
    refine LW_iload 7 dX11_storm_67 rfl ?_
    refine LW_callV (As := [.int (nI i)]) (b := 217) (st := [.int (abFu (aAddS (sA S) (stRow a b u v q)) (stRow a b u v q) i)]) (ci := 11) (r := (RX11, TX11, 44)) (r_mIsField hM hi2) YX11_isField rfl dX11_storm_69 mlX11_388 (hY.lt (k := 217) (by decide)) (ly217 hY) ⟨rfl, rfl⟩ (by decide) ⟨Nat.le_of_ble_eq_true rfl, Nat.le_of_ble_eq_true rfl⟩ (Nat.le_of_ble_eq_true rfl) rfl (fun r69 Λc69 Ic69 Lc69 Rc69 hq69 => ?_)
    obtain ⟨rfl, rfl, rfl, rfl, rfl⟩ := hq69
    refine LW_bif_eq (tgt := 98) dX11_storm_72 (by decide) (fun c72 => ?_) (fun c72 => ?_)
    · refine LW_iconst (v := 0) dX11_storm_98 (by decide) ?_
      refine LW_callS (As := [.int 0]) (st := [.int (abFu (aAddS (sA S) (stRow a b u v q)) (stRow a b u v q) i)]) (r_one false) YX11_one rfl dX11_storm_99 mlX11_391 (by decide) ⟨Nat.le_of_ble_eq_true rfl, Nat.le_of_ble_eq_true rfl⟩ (Nat.le_of_ble_eq_true rfl) rfl (fun r99 Λc99 Ic99 Lc99 Rc99 hq99 => ?_)
      obtain ⟨rfl, rfl, rfl, rfl, rfl⟩ := hq99
      refine LW_iadd dX11_storm_102 ?_
      refine LW_istore (ls' := [(0, .ref 217), (1, .int (nI a)), (2, .int (nI b)), (3, .int (nI u)), (4, .int (nI v)), (5, .int (nI q)), (6, .int ((abFu (aAddS (sA S) (stRow a b u v q)) (stRow a b u v q) i) + (hc_b false))), (7, .int (nI i))]) dX11_storm_103 (by decide) rfl ?_
      refine LW_iinc (n := 7) (v := nI (i + 1)) (ls' := [(0, .ref 217), (1, .int (nI a)), (2, .int (nI b)), (3, .int (nI u)), (4, .int (nI v)), (5, .int (nI q)), (6, .int ((abFu (aAddS (sA S) (stRow a b u v q)) (stRow a b u v q) i) + (hc_b false))), (7, .int (nI (i + 1)))]) dX11_storm_105 rfl (hc_inc _) (by decide) rfl ?_
      refine LW_goto (tgt := 50) dX11_storm_108 (by decide) ?_
      have ea : (aSt (aAddS (sA S) (stRow a b u v q)) i && aOv (stRow a b u v q) (aFd (aAddS (sA S) (stRow a b u v q)) i)) = false := by
        rw [ef, c72, Bool.false_and]
      have ih3 : LW xX11_storm (0, 0) 50 [(0, .ref 217), (1, .int (nI a)), (2, .int (nI b)), (3, .int (nI u)), (4, .int (nI v)), (5, .int (nI q)), (6, .int (abFu (aAddS (sA S) (stRow a b u v q)) (stRow a b u v q) i + hc_b false)), (7, .int (nI (i + 1)))] [] Λ I L R Q := by
        rw [← ea]; exact ih
      refine LW_ls (ls' := [(0, .ref 217), (1, .int (nI a)), (2, .int (nI b)), (3, .int (nI u)), (4, .int (nI v)), (5, .int (nI q)), (6, .int (abFu (aAddS (sA S) (stRow a b u v q)) (stRow a b u v q) i + hc_b false)), (7, .int (nI (i + 1)))]) [0, 1, 2, 3, 4, 5, 6, 7] rfl ?_
      exact ih3
    · refine LW_aloadn 0 dX11_storm_75 rfl rfl ?_
      refine LW_aloadn 0 dX11_storm_76 rfl rfl ?_
      refine gX11_0 dX11_storm_77 flX11_9 (hY.lt (k := 217) (by decide)) (ly217 hY) (lf217_0 hY) ?_
      refine LW_bipush (v := 7) dX11_storm_80 (by decide) ?_
      refine LW_lald dX11_storm_82 (hY.lt (k := 218) (by decide)) (ly218 hY) rfl (by decide) (Nat.le_of_ble_eq_true rfl) ?_
      rw [show L 218 7 = lN (aS (sA S) + 1) from hM.nS]
      refine LW_l2i dX11_storm_83 ?_
      rw [show (lN (aS (sA S) + 1)).toInt32 = nI (aS (sA S) + 1) from (lN_i _)]
      refine LW_iconst (v := 1) dX11_storm_84 (by decide) ?_
      refine LW_isub dX11_storm_85 ?_
      rw [show ((nI (aS (sA S) + 1)) - 1) = nI (aS (sA S)) from (by rw [← nI_1, Int32.add_sub_cancel])]
      refine LW_iload 7 dX11_storm_86 rfl ?_
      refine LW_callV (As := [.int (nI (aS (sA S))), .int (nI i)]) (b := 217) (st := [.int (abFu (aAddS (sA S) (stRow a b u v q)) (stRow a b u v q) i)]) (ci := 11) (r := (RX11, TX11, 44)) (r_mIsOver hM (s := aS (sA S)) (f := i) (Nat.lt_succ_self _) hi2) YX11_isOver rfl dX11_storm_88 mlX11_349 (hY.lt (k := 217) (by decide)) (ly217 hY) ⟨rfl, rfl⟩ (by decide) ⟨Nat.le_of_ble_eq_true rfl, Nat.le_of_ble_eq_true rfl⟩ (Nat.le_of_ble_eq_true rfl) rfl (fun r88 Λc88 Ic88 Lc88 Rc88 hq88 => ?_)
      rw [show aSd (aAddS (sA S) (stRow a b u v q)) (aS (sA S)) = (stRow a b u v q) from if_pos rfl] at hq88
      obtain ⟨rfl, rfl, rfl, rfl, rfl⟩ := hq88
      refine LW_bif_eq (tgt := 98) dX11_storm_91 (by decide) (fun c91 => ?_) (fun c91 => ?_)
      · refine LW_iconst (v := 0) dX11_storm_98 (by decide) ?_
        refine LW_callS (As := [.int 0]) (st := [.int (abFu (aAddS (sA S) (stRow a b u v q)) (stRow a b u v q) i)]) (r_one false) YX11_one rfl dX11_storm_99 mlX11_391 (by decide) ⟨Nat.le_of_ble_eq_true rfl, Nat.le_of_ble_eq_true rfl⟩ (Nat.le_of_ble_eq_true rfl) rfl (fun r99 Λc99 Ic99 Lc99 Rc99 hq99 => ?_)
        obtain ⟨rfl, rfl, rfl, rfl, rfl⟩ := hq99
        refine LW_iadd dX11_storm_102 ?_
        refine LW_istore (ls' := [(0, .ref 217), (1, .int (nI a)), (2, .int (nI b)), (3, .int (nI u)), (4, .int (nI v)), (5, .int (nI q)), (6, .int ((abFu (aAddS (sA S) (stRow a b u v q)) (stRow a b u v q) i) + (hc_b false))), (7, .int (nI i))]) dX11_storm_103 (by decide) rfl ?_
        refine LW_iinc (n := 7) (v := nI (i + 1)) (ls' := [(0, .ref 217), (1, .int (nI a)), (2, .int (nI b)), (3, .int (nI u)), (4, .int (nI v)), (5, .int (nI q)), (6, .int ((abFu (aAddS (sA S) (stRow a b u v q)) (stRow a b u v q) i) + (hc_b false))), (7, .int (nI (i + 1)))]) dX11_storm_105 rfl (hc_inc _) (by decide) rfl ?_
        refine LW_goto (tgt := 50) dX11_storm_108 (by decide) ?_
        have ea : (aSt (aAddS (sA S) (stRow a b u v q)) i && aOv (stRow a b u v q) (aFd (aAddS (sA S) (stRow a b u v q)) i)) = false := by
          rw [ef, c91, Bool.and_false]
        have ih3 : LW xX11_storm (0, 0) 50 [(0, .ref 217), (1, .int (nI a)), (2, .int (nI b)), (3, .int (nI u)), (4, .int (nI v)), (5, .int (nI q)), (6, .int (abFu (aAddS (sA S) (stRow a b u v q)) (stRow a b u v q) i + hc_b false)), (7, .int (nI (i + 1)))] [] Λ I L R Q := by
          rw [← ea]; exact ih
        refine LW_ls (ls' := [(0, .ref 217), (1, .int (nI a)), (2, .int (nI b)), (3, .int (nI u)), (4, .int (nI v)), (5, .int (nI q)), (6, .int (abFu (aAddS (sA S) (stRow a b u v q)) (stRow a b u v q) i + hc_b false)), (7, .int (nI (i + 1)))]) [0, 1, 2, 3, 4, 5, 6, 7] rfl ?_
        exact ih3
      · refine LW_iconst (v := 1) dX11_storm_94 (by decide) ?_
        refine LW_goto (tgt := 99) dX11_storm_95 (by decide) ?_
        refine LW_callS (As := [.int 1]) (st := [.int (abFu (aAddS (sA S) (stRow a b u v q)) (stRow a b u v q) i)]) (r_one true) YX11_one rfl dX11_storm_99 mlX11_391 (by decide) ⟨Nat.le_of_ble_eq_true rfl, Nat.le_of_ble_eq_true rfl⟩ (Nat.le_of_ble_eq_true rfl) rfl (fun r99 Λc99 Ic99 Lc99 Rc99 hq99 => ?_)
        obtain ⟨rfl, rfl, rfl, rfl, rfl⟩ := hq99
        refine LW_iadd dX11_storm_102 ?_
        refine LW_istore (ls' := [(0, .ref 217), (1, .int (nI a)), (2, .int (nI b)), (3, .int (nI u)), (4, .int (nI v)), (5, .int (nI q)), (6, .int ((abFu (aAddS (sA S) (stRow a b u v q)) (stRow a b u v q) i) + (hc_b true))), (7, .int (nI i))]) dX11_storm_103 (by decide) rfl ?_
        refine LW_iinc (n := 7) (v := nI (i + 1)) (ls' := [(0, .ref 217), (1, .int (nI a)), (2, .int (nI b)), (3, .int (nI u)), (4, .int (nI v)), (5, .int (nI q)), (6, .int ((abFu (aAddS (sA S) (stRow a b u v q)) (stRow a b u v q) i) + (hc_b true))), (7, .int (nI (i + 1)))]) dX11_storm_105 rfl (hc_inc _) (by decide) rfl ?_
        refine LW_goto (tgt := 50) dX11_storm_108 (by decide) ?_
        have ea : (aSt (aAddS (sA S) (stRow a b u v q)) i && aOv (stRow a b u v q) (aFd (aAddS (sA S) (stRow a b u v q)) i)) = true := by
          rw [ef, c72, c91]; rfl
        have ih3 : LW xX11_storm (0, 0) 50 [(0, .ref 217), (1, .int (nI a)), (2, .int (nI b)), (3, .int (nI u)), (4, .int (nI v)), (5, .int (nI q)), (6, .int (abFu (aAddS (sA S) (stRow a b u v q)) (stRow a b u v q) i + hc_b true)), (7, .int (nI (i + 1)))] [] Λ I L R Q := by
          rw [← ea]; exact ih
        refine LW_ls (ls' := [(0, .ref 217), (1, .int (nI a)), (2, .int (nI b)), (3, .int (nI u)), (4, .int (nI v)), (5, .int (nI q)), (6, .int (abFu (aAddS (sA S) (stRow a b u v q)) (stRow a b u v q) i + hc_b true)), (7, .int (nI (i + 1)))]) [0, 1, 2, 3, 4, 5, 6, 7] rfl ?_
        exact ih3
set_option maxRecDepth 100000 in
theorem m_storm {Λ : hc_L} {I : hc_I} {L : hc_J} {R : hc_R} {S : HS} (hW : MW Λ I L S) (hK : ∀ k, k < sC S → wf (sH S k)) (x y tx ty s : Int32) : Run xX11_storm [.ref 217, .int x, .int y, .int tx, .int ty, .int s] Λ I L R (MPost (some (.int (qStorm S x y tx ty s))) (nStorm S x y tx ty s) Λ I L R) := by
  refine Run.of (by decide +kernel) (Nat.le_of_ble_eq_true rfl) ?_
  show LW _ _ _ [(0, .ref 217), (1, .int x), (2, .int y), (3, .int tx), (4, .int ty), (5, .int s)] _ _ _ _ _ _
  have hM := hW.m
  have hP := hW.l
  have hY := hM.y
  refine LW_iloadn 1 dX11_storm_0 rfl rfl ?_
  refine LW_iloadn 2 dX11_storm_1 rfl rfl ?_
  refine LW_iloadn 3 dX11_storm_2 rfl rfl ?_
  refine LW_iload 4 dX11_storm_3 rfl ?_
  refine LW_iload 5 dX11_storm_5 rfl ?_
  refine LW_callS (As := [.int x, .int y, .int tx, .int ty, .int s]) (st := []) (r_canBe x y tx ty s) YX11_canBe rfl dX11_storm_7 mlX11_378 (by decide) ⟨Nat.le_of_ble_eq_true rfl, Nat.le_of_ble_eq_true rfl⟩ (Nat.le_of_ble_eq_true rfl) rfl (fun r7 Λc7 Ic7 Lc7 Rc7 hq7 => ?_)
  obtain ⟨rfl, rfl, rfl, rfl, rfl⟩ := hq7
  refine LW_bif_eq (tgt := 27) dX11_storm_10 (by decide) (fun c10 => ?_) (fun c10 => ?_)
  · refine LW_iconst (v := -1) dX11_storm_27 (by decide) ?_
    refine LW_iret dX11_storm_28 rfl (Nat.le_of_ble_eq_true rfl) (Nat.le_of_ble_eq_true rfl) ?_
    have hb2 : qStormB S x y tx ty s = false := by
      unfold qStormB
      rw [c10, Bool.and_false]
    rw [show nStorm S x y tx ty s = S from if_neg (by rw [hb2]; decide)]
    exact MPost.r hW (by unfold qStorm; rw [if_neg (by rw [hb2]; decide)])
  · refine LW_aloadn 0 dX11_storm_13 rfl rfl ?_
    refine gX11_0 dX11_storm_14 flX11_9 (hY.lt (k := 217) (by decide)) (ly217 hY) (lf217_0 hY) ?_
    refine LW_bipush (v := 7) dX11_storm_17 (by decide) ?_
    refine LW_lald dX11_storm_19 (hY.lt (k := 218) (by decide)) (ly218 hY) rfl (by decide) (Nat.le_of_ble_eq_true rfl) ?_
    rw [show L 218 7 = lN (aS (sA S)) from hM.nS]
    refine LW_ldc2 dX11_storm_20 klX11_382 ?_
    refine LW_lcmp dX11_storm_23 ?_
    refine LW_lif_ne (tgt := 29) dX11_storm_24 (by decide) (fun c24 => ?_) (fun c24 => ?_)
    · obtain ⟨a, b, u, v, q, rfl, rfl, rfl, rfl, rfl, ha, hu, hb, hv, hq1, hq2⟩ := can_k c10
      have hs16 : aS (sA S) < 16 := by
        have h16 := hM.w.s
        rcases Nat.lt_or_eq_of_le h16 with e | e
        · exact e
        · exact absurd (by rw [e]; rfl) c24
      have hb2 : qStormB S (nI a) (nI b) (nI u) (nI v) (nI q) = true := by unfold qStormB; rw [c10, decide_eq_true hs16]; rfl
      have hst : stX (nI a) (nI b) (nI u) (nI v) (nI q) = stRow a b u v q := by unfold stX; rw [hc_cl (by omega), hc_cl (by omega), hc_cl (by omega), hc_cl (by omega), hc_cl (by omega)]
      refine LW_aloadn 0 dX11_storm_29 rfl rfl ?_
      refine LW_callV (As := []) (b := 217) (st := []) (ci := 11) (r := (RX11, TX11, 44)) (r_keeps hY hW.c8 hW.c hM.n hM.w hW.2.2.2.2.1.2.2 hK) YX11_keeps rfl dX11_storm_30 mlX11_319 (hY.lt (k := 217) (by decide)) (ly217 hY) ⟨rfl, rfl⟩ (by decide) ⟨Nat.le_of_ble_eq_true rfl, Nat.le_of_ble_eq_true rfl⟩ (Nat.le_of_ble_eq_true rfl) rfl (fun r30 Λc30 Ic30 Lc30 Rc30 hq30 => ?_)
      obtain ⟨rfl, rfl, rfl, hI30, hJ30, hL30, hP30, hN30⟩ := hq30
      have hkq : KQ (sA S) (sH S) (sC S) Λ I L R none Λ Ic30 Lc30 R := ⟨rfl, rfl, rfl, hI30, hJ30, hL30, hP30, hN30⟩
      have hM2 : MC Λ Ic30 Lc30 (sA S) (-1) := hM.kp (hL30 218 (by decide)) (hI30 221 (by decide)) (hI30 222 (by decide)) (hI30 223 (by decide)) (hJ30 35 (by decide))
      refine LW_aloadn 0 dX11_storm_33 rfl rfl ?_
      refine LW_iloadn 1 dX11_storm_34 rfl rfl ?_
      refine LW_iloadn 2 dX11_storm_35 rfl rfl ?_
      refine LW_iloadn 3 dX11_storm_36 rfl rfl ?_
      refine LW_iload 4 dX11_storm_37 rfl ?_
      refine LW_iload 5 dX11_storm_39 rfl ?_
      refine LW_callV (As := [.int (nI a), .int (nI b), .int (nI u), .int (nI v), .int (nI q)]) (b := 217) (st := []) (ci := 11) (r := (RX11, TX11, 44)) (r_comes hM2 hs16 (a := a) (b := b) (u := u) (v := v) (q := q) (by omega) (by omega) (by omega) (by omega) (by omega)) YX11_comes rfl dX11_storm_41 mlX11_384 (hY.lt (k := 217) (by decide)) (ly217 hY) ⟨rfl, rfl⟩ (by decide) ⟨Nat.le_of_ble_eq_true rfl, Nat.le_of_ble_eq_true rfl⟩ (Nat.le_of_ble_eq_true rfl) rfl (fun r41 Λc41 Ic41 Lc41 Rc41 hq41 => ?_)
      obtain ⟨rfl, rfl, hI41, hL41, hR41, hG41⟩ := hq41
      obtain rfl : R = Rc41 := hR41
      have hIe : Ic30 = Ic41 := funext fun z => (hI41 z (fun q => q)).symm
      obtain rfl : Ic30 = Ic41 := hIe
      have hN2 : NwAt (Lc41 218) (aAddS (sA S) (stRow a b u v q)) := hM2.n.st hM.w hs16 hG41
      have hA2 : wf (aAddS (sA S) (stRow a b u v q)) := wf_addS hM.w ⟨ha, hu, hb, hv, hq1, hq2⟩ hs16
      have hM3 : MC Λ Ic30 Lc41 (aAddS (sA S) (stRow a b u v q)) (-1) := ⟨hY, hA2, hN2, hM2.2.2.2⟩
      refine LW_iconst (v := 0) dX11_storm_44 (by decide) ?_
      refine LW_istore (ls' := [(0, .ref 217), (1, .int (nI a)), (2, .int (nI b)), (3, .int (nI u)), (4, .int (nI v)), (5, .int (nI q)), (6, .int 0)]) dX11_storm_45 (by decide) rfl ?_
      refine LW_iconst (v := 0) dX11_storm_47 (by decide) ?_
      refine LW_istore (ls' := [(0, .ref 217), (1, .int (nI a)), (2, .int (nI b)), (3, .int (nI u)), (4, .int (nI v)), (5, .int (nI q)), (6, .int 0), (7, .int 0)]) dX11_storm_48 (by decide) rfl ?_
      rw [show nStorm S (nI a) (nI b) (nI u) (nI v) (nI q) = sPut S (aAddS (sA S) (stRow a b u v q)) from by unfold nStorm; rw [if_pos hb2, hst]]
      refine mst_loop hM3 hs16 ?_ 0 (Nat.zero_le _)
      exact MPost.put hW hkq (fun _ _ => rfl) (fun z _ z8 => hL41 z z8) hN2 hA2 ⟨rfl, rfl, rfl, rfl, rfl, rfl, rfl, rfl, rfl⟩ (by unfold qStorm; rw [if_pos hb2, hst])
    · refine LW_iconst (v := -1) dX11_storm_27 (by decide) ?_
      refine LW_iret dX11_storm_28 rfl (Nat.le_of_ble_eq_true rfl) (Nat.le_of_ble_eq_true rfl) ?_
      have hb2 : qStormB S x y tx ty s = false := by
        unfold qStormB
        have e16 := (lN_eq (a := aS (sA S)) (b := 16) (by have := hM.w.s; omega) (by decide)).mp (Classical.not_not.mp c24)
        rw [decide_eq_false (show ¬ aS (sA S) < 16 by omega), Bool.false_and]
      rw [show nStorm S x y tx ty s = S from if_neg (by rw [hb2]; decide)]
      exact MPost.r hW (by unfold qStorm; rw [if_neg (by rw [hb2]; decide)])
