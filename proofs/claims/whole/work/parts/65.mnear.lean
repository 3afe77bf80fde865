/-! the reference: near, alone -/
theorem sq8 : ∀ a, a < 8 → ∀ b, b < 8 → (nI a - nI b) * (nI a - nI b) = nI (((a - b) + (b - a)) * ((a - b) + (b - a))) := by decide +kernel
theorem sq1 : ∀ s, s < 8 → ∀ t, t < 8 → (s * s + t * t ≤ 1 ↔ s + t ≤ 1) := by decide +kernel
theorem mul8 {s : Nat} (h : s < 8) : s * s ≤ 49 := by
  have : s ≤ 7 := by omega
  exact Nat.mul_le_mul this this
theorem qHaz_ne {A : AS} (hA : wf A) {x y : Int32} : qHaz A x y = -1 ↔ ¬ aCell x y = true := by
  unfold qHaz
  split
  · rename_i c
    obtain ⟨a, b, rfl, rfl, ha, hb⟩ := aCell_k c
    rw [hc_cl (by omega), hc_cl (by omega)]
    have := hA.2.2.2.2.1 (b * 8 + a) (by omega)
    exact ⟨fun q => absurd q (nI_ne (by show aHz A (b * 8 + a) < _; omega)), fun q => absurd c q⟩
  · rename_i c
    exact ⟨fun _ => c, fun _ => rfl⟩
set_option maxRecDepth 100000 in
theorem mnr_loop {Λ : hc_L} {I : hc_I} {L : hc_J} {R : hc_R} {S : HS} (hM : MC Λ I L (sA S) (-1)) {a b : Nat} (ha : a < 8) (hb : b < 8) {Q : hc_Q} (hend : Q (some (.int (nrN (sA S) a b (aF (sA S))))) Λ I L R) : ∀ i, i ≤ aF (sA S) → LW xX11_near (0, 0) 17 [(0, .ref 217), (1, .int (nI a)), (2, .int (nI b)), (3, .int (nrN (sA S) a b i)), (4, .int (nI i))] [] Λ I L R Q := by
  have hY := hM.y
  have hf24 := hM.w.f
  have hm12 := hM.w.m
  refine hc_down ?_ ?_
  · refine LW_iload 4 dX11_near_17 rfl ?_
    refine LW_i2l dX11_near_19 ?_
    rw [show (nI (aF (sA S))).toInt64 = lN (aF (sA S)) from (nI_l (by omega))]
    refine LW_aloadn 0 dX11_near_20 rfl rfl ?_
    refine gX11_0 dX11_near_21 flX11_9 (hY.lt (k := 217) (by decide)) (ly217 hY) (lf217_0 hY) ?_
    refine LW_bipush (v := 6) dX11_near_24 (by decide) ?_
    refine LW_lald dX11_near_26 (hY.lt (k := 218) (by decide)) (ly218 hY) rfl (by decide) (Nat.le_of_ble_eq_true rfl) ?_
    rw [show L 218 6 = lN (aF (sA S)) from hM.nF]
    refine LW_lcmp dX11_near_27 ?_
    refine LW_lif_ge (tgt := 95) dX11_near_28 (by decide) (fun c28 => ?_) (fun c28 => absurd (Int64.le_refl _) c28)
    refine LW_iloadn 3 dX11_near_95 rfl rfl ?_
    refine LW_iret dX11_near_96 rfl (Nat.le_of_ble_eq_true rfl) (Nat.le_of_ble_eq_true rfl) ?_
    exact hend
  · intro i hi ih
    have hwi := hM.w.2.2.2.2.2.2.2.1 i hi
    have m1 := mul8 (s := (aFd (sA S) i 1 - a) + (a - aFd (sA S) i 1)) (by omega)
    have m2 := mul8 (s := (aFd (sA S) i 2 - b) + (b - aFd (sA S) i 2)) (by omega)
    have hsq := sq1 ((aFd (sA S) i 1 - a) + (a - aFd (sA S) i 1)) (by omega) ((aFd (sA S) i 2 - b) + (b - aFd (sA S) i 2)) (by omega)
    refine LW_iload 4 dX11_near_17 rfl ?_
    refine LW_i2l dX11_near_19 ?_
    rw [show (nI i).toInt64 = lN i from (nI_l (by omega))]
    refine LW_aloadn 0 dX11_near_20 rfl rfl ?_
    refine gX11_0 dX11_near_21 flX11_9 (hY.lt (k := 217) (by decide)) (ly217 hY) (lf217_0 hY) ?_
    refine LW_bipush (v := 6) dX11_near_24 (by decide) ?_
    refine LW_lald dX11_near_26 (hY.lt (k := 218) (by decide)) (ly218 hY) rfl (by decide) (Nat.le_of_ble_eq_true rfl) ?_
    rw [show L 218 6 = lN (aF (sA S)) from hM.nF]
    refine LW_lcmp dX11_near_27 ?_
    refine LW_lif_ge (tgt := 95) dX11_near_28 (by decide) (fun c28 => absurd c28 (lN_nle (by omega) (by omega) hi)) (fun c28 => ?_)
    refine LW_aloadn 0 dX11_near_31 rfl rfl ?_
    refine LW_iload 4 dX11_near_32 rfl ?_
    refine LW_iconst (v := 1) dX11_near_34 (by decide) ?_
    refine LW_callV (As := [.int (nI i), .int 1]) (b := 217) (st := []) (ci := 11) (r := (RX11, TX11, 44)) (r_mOf hM hi (a := 1) (by decide)) YX11_of rfl dX11_near_35 mlX11_334 (hY.lt (k := 217) (by decide)) (ly217 hY) ⟨rfl, rfl⟩ (by decide) ⟨Nat.le_of_ble_eq_true rfl, Nat.le_of_ble_eq_true rfl⟩ (Nat.le_of_ble_eq_true rfl) rfl (fun r35 Λc35 Ic35 Lc35 Rc35 hq35 => ?_)
    obtain ⟨rfl, rfl, rfl, rfl, rfl⟩ := hq35
    refine LW_iloadn 1 dX11_near_38 rfl rfl ?_
    refine LW_isub dX11_near_39 ?_
    refine LW_istore (ls' := [(0, .ref 217), (1, .int (nI a)), (2, .int (nI b)), (3, .int (nrN (sA S) a b i)), (4, .int (nI i)), (5, .int ((nI (aFd (sA S) i 1)) - (nI a)))]) dX11_near_40 (by decide) rfl ?_
    refine LW_aloadn 0 dX11_near_42 rfl rfl ?_
    refine LW_iload 4 dX11_near_43 rfl ?_
    refine LW_iconst (v := 2) dX11_near_45 (by decide) ?_
    refine LW_callV (As := [.int (nI i), .int 2]) (b := 217) (st := []) (ci := 11) (r := (RX11, TX11, 44)) (r_mOf hM hi (a := 2) (by decide)) YX11_of rfl dX11_near_46 mlX11_334 (hY.lt (k := 217) (by decide)) (ly217 hY) ⟨rfl, rfl⟩ (by decide) ⟨Nat.le_of_ble_eq_true rfl, Nat.le_of_ble_eq_true rfl⟩ (Nat.le_of_ble_eq_true rfl) rfl (fun r46 Λc46 Ic46 Lc46 Rc46 hq46 => ?_)
    obtain ⟨rfl, rfl, rfl, rfl, rfl⟩ := hq46
    refine LW_iloadn 2 dX11_near_49 rfl rfl ?_
    refine LW_isub dX11_near_50 ?_
    refine LW_istore (ls' := [(0, .ref 217), (1, .int (nI a)), (2, .int (nI b)), (3, .int (nrN (sA S) a b i)), (4, .int (nI i)), (5, .int ((nI (aFd (sA S) i 1)) - (nI a))), (6, .int ((nI (aFd (sA S) i 2)) - (nI b)))]) dX11_near_51 (by decide) rfl ?_
    refine LW_aloadn 0 dX11_near_53 rfl rfl ?_
    refine LW_iload 4 dX11_near_54 rfl ?_
    refine LW_callV (As := [.int (nI i)]) (b := 217) (st := []) (ci := 11) (r := (RX11, TX11, 44)) (r_mIsField hM hi) YX11_isField rfl dX11_near_56 mlX11_388 (hY.lt (k := 217) (by decide)) (ly217 hY) ⟨rfl, rfl⟩ (by decide) ⟨Nat.le_of_ble_eq_true rfl, Nat.le_of_ble_eq_true rfl⟩ (Nat.le_of_ble_eq_true rfl) rfl (fun r56 Λc56 Ic56 Lc56 Rc56 hq56 => ?_)
    rw [prX_m1 hM.w.m, aStk hi] at hq56
    obtain ⟨rfl, rfl, rfl, rfl, rfl⟩ := hq56
    refine LW_bif_eq (tgt := 89) dX11_near_59 (by decide) (fun c59 => ?_) (fun c59 => ?_)
    · refine LW_iinc (n := 4) (v := nI (i + 1)) (ls' := [(0, .ref 217), (1, .int (nI a)), (2, .int (nI b)), (3, .int (nrN (sA S) a b i)), (4, .int (nI (i + 1))), (5, .int ((nI (aFd (sA S) i 1)) - (nI a))), (6, .int ((nI (aFd (sA S) i 2)) - (nI b)))]) dX11_near_89 rfl (hc_inc _) (by decide) rfl ?_
      refine LW_goto (tgt := 17) dX11_near_92 (by decide) ?_
      rw [show nrN (sA S) a b (i + 1) = nrN (sA S) a b i from if_neg (by rw [c59, Bool.false_and]; decide)] at ih
      refine LW_ls (ls' := [(0, .ref 217), (1, .int (nI a)), (2, .int (nI b)), (3, .int (nrN (sA S) a b i)), (4, .int (nI (i + 1)))]) [0, 1, 2, 3, 4] rfl ?_
      exact ih
    · refine LW_iload 5 dX11_near_62 rfl ?_
      refine LW_iload 5 dX11_near_64 rfl ?_
      refine LW_imul dX11_near_66 ?_
      rw [show (((nI (aFd (sA S) i 1)) - (nI a)) * ((nI (aFd (sA S) i 1)) - (nI a))) = nI ((aFd (sA S) i 1 - a + (a - aFd (sA S) i 1)) * (aFd (sA S) i 1 - a + (a - aFd (sA S) i 1))) from (sq8 _ hwi.2.1 _ ha)]
      refine LW_iload 6 dX11_near_67 rfl ?_
      refine LW_iload 6 dX11_near_69 rfl ?_
      refine LW_imul dX11_near_71 ?_
      rw [show (((nI (aFd (sA S) i 2)) - (nI b)) * ((nI (aFd (sA S) i 2)) - (nI b))) = nI ((aFd (sA S) i 2 - b + (b - aFd (sA S) i 2)) * (aFd (sA S) i 2 - b + (b - aFd (sA S) i 2))) from (sq8 _ hwi.2.2.1 _ hb)]
      refine LW_iadd dX11_near_72 ?_
      rw [show ((nI ((aFd (sA S) i 1 - a + (a - aFd (sA S) i 1)) * (aFd (sA S) i 1 - a + (a - aFd (sA S) i 1)))) + (nI ((aFd (sA S) i 2 - b + (b - aFd (sA S) i 2)) * (aFd (sA S) i 2 - b + (b - aFd (sA S) i 2))))) = nI ((aFd (sA S) i 1 - a + (a - aFd (sA S) i 1)) * (aFd (sA S) i 1 - a + (a - aFd (sA S) i 1)) + (aFd (sA S) i 2 - b + (b - aFd (sA S) i 2)) * (aFd (sA S) i 2 - b + (b - aFd (sA S) i 2))) from (nI_add _ _)]
      refine LW_iconst (v := 1) dX11_near_73 (by decide) ?_
      refine LW_icmp_gt (tgt := 89) dX11_near_74 (by decide) (fun c74 => ?_) (fun c74 => ?_)
      · refine LW_iinc (n := 4) (v := nI (i + 1)) (ls' := [(0, .ref 217), (1, .int (nI a)), (2, .int (nI b)), (3, .int (nrN (sA S) a b i)), (4, .int (nI (i + 1))), (5, .int ((nI (aFd (sA S) i 1)) - (nI a))), (6, .int ((nI (aFd (sA S) i 2)) - (nI b)))]) dX11_near_89 rfl (hc_inc _) (by decide) rfl ?_
        refine LW_goto (tgt := 17) dX11_near_92 (by decide) ?_
        rw [show nrN (sA S) a b (i + 1) = nrN (sA S) a b i from if_neg (by rw [c59, show nrB a b (aFd (sA S) i) = false from decide_eq_false (fun z => by have := hsq.mpr z; have := (hc_lt (a := 1) (b := (aFd (sA S) i 1 - a + (a - aFd (sA S) i 1)) * (aFd (sA S) i 1 - a + (a - aFd (sA S) i 1)) + (aFd (sA S) i 2 - b + (b - aFd (sA S) i 2)) * (aFd (sA S) i 2 - b + (b - aFd (sA S) i 2))) (by omega) (by omega)).mp c74; omega)]; decide)] at ih
        refine LW_ls (ls' := [(0, .ref 217), (1, .int (nI a)), (2, .int (nI b)), (3, .int (nrN (sA S) a b i)), (4, .int (nI (i + 1)))]) [0, 1, 2, 3, 4] rfl ?_
        exact ih
      · refine LW_iloadn 3 dX11_near_77 rfl rfl ?_
        refine LW_iconst (v := 1) dX11_near_78 (by decide) ?_
        refine LW_aloadn 0 dX11_near_79 rfl rfl ?_
        refine LW_iload 4 dX11_near_80 rfl ?_
        refine LW_iconst (v := 0) dX11_near_82 (by decide) ?_
        refine LW_callV (As := [.int (nI i), .int 0]) (b := 217) (st := [.int 1, .int (nrN (sA S) a b i)]) (ci := 11) (r := (RX11, TX11, 44)) (r_mOf hM hi (a := 0) (by decide)) YX11_of rfl dX11_near_83 mlX11_334 (hY.lt (k := 217) (by decide)) (ly217 hY) ⟨rfl, rfl⟩ (by decide) ⟨Nat.le_of_ble_eq_true rfl, Nat.le_of_ble_eq_true rfl⟩ (Nat.le_of_ble_eq_true rfl) rfl (fun r83 Λc83 Ic83 Lc83 Rc83 hq83 => ?_)
        obtain ⟨rfl, rfl, rfl, rfl, rfl⟩ := hq83
        refine LW_ishl dX11_near_86 ?_
        refine LW_ior dX11_near_87 ?_
        refine LW_istoren (ls' := [(0, .ref 217), (1, .int (nI a)), (2, .int (nI b)), (3, .int ((nrN (sA S) a b i) ||| (1 <<< ((nI (aFd (sA S) i 0)) &&& 31)))), (4, .int (nI i)), (5, .int ((nI (aFd (sA S) i 1)) - (nI a))), (6, .int ((nI (aFd (sA S) i 2)) - (nI b)))]) dX11_near_88 rfl (by decide) rfl ?_
        refine LW_iinc (n := 4) (v := nI (i + 1)) (ls' := [(0, .ref 217), (1, .int (nI a)), (2, .int (nI b)), (3, .int ((nrN (sA S) a b i) ||| (1 <<< ((nI (aFd (sA S) i 0)) &&& 31)))), (4, .int (nI (i + 1))), (5, .int ((nI (aFd (sA S) i 1)) - (nI a))), (6, .int ((nI (aFd (sA S) i 2)) - (nI b)))]) dX11_near_89 rfl (hc_inc _) (by decide) rfl ?_
        refine LW_goto (tgt := 17) dX11_near_92 (by decide) ?_
        rw [show nrN (sA S) a b (i + 1) = (nrN (sA S) a b i) ||| (1 <<< ((nI (aFd (sA S) i 0)) &&& 31)) from if_pos (by rw [c59, show nrB a b (aFd (sA S) i) = true from decide_eq_true (hsq.mp (by have := mt (hc_lt (a := 1) (b := (aFd (sA S) i 1 - a + (a - aFd (sA S) i 1)) * (aFd (sA S) i 1 - a + (a - aFd (sA S) i 1)) + (aFd (sA S) i 2 - b + (b - aFd (sA S) i 2)) * (aFd (sA S) i 2 - b + (b - aFd (sA S) i 2))) (by omega) (by omega)).mpr c74; omega))]; rfl)] at ih
        refine LW_ls (ls' := [(0, .ref 217), (1, .int (nI a)), (2, .int (nI b)), (3, .int ((nrN (sA S) a b i) ||| (1 <<< ((nI (aFd (sA S) i 0)) &&& 31)))), (4, .int (nI (i + 1)))]) [0, 1, 2, 3, 4] rfl ?_
        exact ih
set_option maxRecDepth 100000 in
theorem m_near {Λ : hc_L} {I : hc_I} {L : hc_J} {R : hc_R} {S : HS} (hW : MW Λ I L S) (x y : Int32) : Run xX11_near [.ref 217, .int x, .int y] Λ I L R (MPost (some (.int (qNear (sA S) x y))) S Λ I L R) := by
  refine Run.of (by decide +kernel) (Nat.le_of_ble_eq_true rfl) ?_
  show LW _ _ _ [(0, .ref 217), (1, .int x), (2, .int y)] _ _ _ _ _ _
  have hM := hW.m
  have hP := hW.l
  have hY := hM.y
  refine LW_aloadn 0 dX11_near_0 rfl rfl ?_
  refine LW_iloadn 1 dX11_near_1 rfl rfl ?_
  refine LW_iloadn 2 dX11_near_2 rfl rfl ?_
  refine LW_callV (As := [.int x, .int y]) (b := 217) (st := []) (ci := 11) (r := (RX11, TX11, 44)) (m_hazard hW x y) YX11_hazard rfl dX11_near_3 mlX11_448 (hY.lt (k := 217) (by decide)) (ly217 hY) ⟨rfl, rfl⟩ (by decide) ⟨Nat.le_of_ble_eq_true rfl, Nat.le_of_ble_eq_true rfl⟩ (Nat.le_of_ble_eq_true rfl) rfl (fun r3 Λc3 Ic3 Lc3 Rc3 hq3 => ?_)
  obtain ⟨rfl, rfl, rfl, hI3, hL3, hW2⟩ := hq3
  have hM := hW2.m
  have hY := hM.y
  refine LW_iconst (v := -1) dX11_near_6 (by decide) ?_
  refine LW_icmp_ne (tgt := 12) dX11_near_7 (by decide) (fun c7 => ?_) (fun c7 => ?_)
  · have hcell : aCell x y = true := Classical.not_not.mp (fun z => c7 ((qHaz_ne hM.w).mpr z))
    obtain ⟨a, b, rfl, rfl, ha, hb⟩ := aCell_k hcell
    refine LW_iconst (v := 0) dX11_near_12 (by decide) ?_
    refine LW_istoren (ls' := [(0, .ref 217), (1, .int (nI a)), (2, .int (nI b)), (3, .int 0)]) dX11_near_13 rfl (by decide) rfl ?_
    refine LW_iconst (v := 0) dX11_near_14 (by decide) ?_
    refine LW_istore (ls' := [(0, .ref 217), (1, .int (nI a)), (2, .int (nI b)), (3, .int 0), (4, .int 0)]) dX11_near_15 (by decide) rfl ?_
    refine mnr_loop hM ha hb ?_ 0 (Nat.zero_le _)
    exact ⟨by unfold qNear; rw [if_pos hcell, hc_cl (by omega), hc_cl (by omega)], rfl, rfl, hI3, hL3, hW2⟩
  · refine LW_iconst (v := -1) dX11_near_10 (by decide) ?_
    refine LW_iret dX11_near_11 rfl (Nat.le_of_ble_eq_true rfl) (Nat.le_of_ble_eq_true rfl) ?_
    exact ⟨by unfold qNear; rw [if_neg ((qHaz_ne hM.w).mp (Classical.not_not.mp c7))], rfl, rfl, hI3, hL3, hW2⟩
theorem aPaid_0 (A : AS) (P : LwP) (f : Nat) : aPaid A P f 0 = 0 := by
  unfold aPaid
  by_cases h : P.1 = 0
  · rw [if_pos h, if_pos (by decide)]
  · rw [if_neg h]
    show (if (if lpVal P _ < (0 : Int64) then lpVal P _ else (0 : Int64)) < 0 then (0 : Int64) else (if lpVal P _ < (0 : Int64) then lpVal P _ else (0 : Int64))) = 0
    generalize lpVal P _ = v
    by_cases c : v < 0
    · rw [if_pos c, if_pos c]
    · rw [if_neg c, if_neg (Int64.lt_irrefl)]
theorem aClaim_0 (A : AS) (P : LwP) (f : Nat) : aClaim A P f 0 = 0 := by
  unfold aClaim
  rw [aPaid_0, Int64.mul_zero]
  rfl
theorem min_hit (b : Bool) {h : Nat} (hh : h < 2 ^ 31) : (if (if b = true then lN h else 0) < 100 then (if b = true then lN h else 0) else 100) = lN (if b = true then min 100 h else 0) := by
  cases b with
  | true =>
    rw [if_pos rfl, if_pos rfl]
    by_cases c : h < 100
    · rw [if_pos (show lN h < 100 from (lN_lt (b := 100) hh (by decide)).mpr c), Nat.min_eq_right (by omega)]
    · rw [if_neg (show ¬ lN h < 100 from fun q => c ((lN_lt (b := 100) hh (by decide)).mp q)), Nat.min_eq_left (by omega)]
      rfl
  | false =>
    rw [if_neg (show ¬ false = true by decide), if_neg (show ¬ false = true by decide), if_pos (show (0 : Int64) < 100 by decide)]
    rfl
set_option maxRecDepth 100000 in
theorem mal_loop {Λ : hc_L} {I : hc_I} {L : hc_J} {R : hc_R} {S : HS} (hM : MC Λ I L (sA S) (-1)) (hP : ML I L (sP S)) {s c : Nat} (hs : s < aS (sA S)) (hc : c < 4) {Q : hc_Q} (hend : ∀ L1, (∀ z, ¬ mJ z → L1 z = L z) → Q (some (.long (abOne (sA S) (sP S) (aSd (sA S) s) c (aF (sA S))))) Λ I L1 R) : ∀ i, i ≤ aF (sA S) → ∀ (L1 : hc_J), (∀ z, ¬ mJ z → L1 z = L z) → LW xX11_alone (0, 0) 39 [(0, .ref 217), (1, .int (nI s)), (2, .int (nI c)), (3, .long (abOne (sA S) (sP S) (aSd (sA S) s) c i)), (5, .int (nI i))] [] Λ I L1 R Q := by
  have hY := hM.y
  have hf24 := hM.w.f
  have hm12 := hM.w.m
  have hs16 := hM.w.s
  have hws := hM.w.2.2.2.2.2.2.2.2 s hs
  refine hc_down ?_ ?_
  · intro L1 hL1
    have hM1 : MC Λ I L1 (sA S) (-1) := hM.kp (hL1 _ (by unfold mJ; decide)) rfl rfl rfl rfl
    have hP1 : ML I L1 (sP S) := hP.kp rfl rfl (hL1 _ (by unfold mJ; decide))
    refine LW_iload 4 dX11_alone_39 rfl ?_
    refine LW_i2l dX11_alone_41 ?_
    rw [show (nI (aF (sA S))).toInt64 = lN (aF (sA S)) from (nI_l (by omega))]
    refine LW_aloadn 0 dX11_alone_42 rfl rfl ?_
    refine gX11_0 dX11_alone_43 flX11_9 (hY.lt (k := 217) (by decide)) (ly217 hY) (lf217_0 hY) ?_
    refine LW_bipush (v := 6) dX11_alone_46 (by decide) ?_
    refine LW_lald dX11_alone_48 (hY.lt (k := 218) (by decide)) (ly218 hY) rfl (by decide) (Nat.le_of_ble_eq_true rfl) ?_
    rw [show L1 218 6 = lN (aF (sA S)) from hM1.nF]
    refine LW_lcmp dX11_alone_49 ?_
    refine LW_lif_ge (tgt := 105) dX11_alone_50 (by decide) (fun c50 => ?_) (fun c50 => absurd (Int64.le_refl _) c50)
    refine LW_lloadn 3 dX11_alone_105 rfl rfl ?_
    refine LW_lret dX11_alone_106 rfl (Nat.le_of_ble_eq_true rfl) (Nat.le_of_ble_eq_true rfl) ?_
    exact hend L1 hL1
  · intro i hi ih L1 hL1
    have hM1 : MC Λ I L1 (sA S) (-1) := hM.kp (hL1 _ (by unfold mJ; decide)) rfl rfl rfl rfl
    have hP1 : ML I L1 (sP S) := hP.kp rfl rfl (hL1 _ (by unfold mJ; decide))
    have hwi := hM.w.2.2.2.2.2.2.2.1 i hi
    have hhl := aHarm_le hM.w (i := i) hws.2.2.2.2.2 hwi.2.2.2.1
    refine LW_iload 4 dX11_alone_39 rfl ?_
    refine LW_i2l dX11_alone_41 ?_
    rw [show (nI i).toInt64 = lN i from (nI_l (by omega))]
    refine LW_aloadn 0 dX11_alone_42 rfl rfl ?_
    refine gX11_0 dX11_alone_43 flX11_9 (hY.lt (k := 217) (by decide)) (ly217 hY) (lf217_0 hY) ?_
    refine LW_bipush (v := 6) dX11_alone_46 (by decide) ?_
    refine LW_lald dX11_alone_48 (hY.lt (k := 218) (by decide)) (ly218 hY) rfl (by decide) (Nat.le_of_ble_eq_true rfl) ?_
    rw [show L1 218 6 = lN (aF (sA S)) from hM1.nF]
    refine LW_lcmp dX11_alone_49 ?_
    refine LW_lif_ge (tgt := 105) dX11_alone_50 (by decide) (fun c50 => absurd c50 (lN_nle (by omega) (by omega) hi)) (fun c50 => ?_)
    refine LW_lloadn 3 dX11_alone_53 rfl rfl ?_
    refine LW_aloadn 0 dX11_alone_54 rfl rfl ?_
    refine LW_iload 4 dX11_alone_55 rfl ?_
    refine LW_callV (As := [.int (nI i)]) (b := 217) (st := [.long (abOne (sA S) (sP S) (aSd (sA S) s) c i)]) (ci := 11) (r := (RX11, TX11, 44)) (r_mIsField hM1 hi) YX11_isField rfl dX11_alone_57 mlX11_388 (hY.lt (k := 217) (by decide)) (ly217 hY) ⟨rfl, rfl⟩ (by decide) ⟨Nat.le_of_ble_eq_true rfl, Nat.le_of_ble_eq_true rfl⟩ (Nat.le_of_ble_eq_true rfl) rfl (fun r57 Λc57 Ic57 Lc57 Rc57 hq57 => ?_)
    rw [prX_m1 hM.w.m, aStk hi] at hq57
    obtain ⟨rfl, rfl, rfl, rfl, rfl⟩ := hq57
    refine LW_bif_eq (tgt := 96) dX11_alone_60 (by decide) (fun c60 => ?_) (fun c60 => ?_)
    · refine LW_lconst (v := 0) dX11_alone_96 (by decide) ?_
      refine LW_ladd dX11_alone_97 ?_
      refine LW_lstoren (ls' := [(0, .ref 217), (1, .int (nI s)), (2, .int (nI c)), (3, .long ((abOne (sA S) (sP S) (aSd (sA S) s) c i) + 0)), (5, .int (nI i))]) dX11_alone_98 rfl (by decide) rfl ?_
      refine LW_iinc (n := 4) (v := nI (i + 1)) (ls' := [(0, .ref 217), (1, .int (nI s)), (2, .int (nI c)), (3, .long ((abOne (sA S) (sP S) (aSd (sA S) s) c i) + 0)), (5, .int (nI (i + 1)))]) dX11_alone_99 rfl (hc_inc _) (by decide) rfl ?_
      refine LW_goto (tgt := 39) dX11_alone_102 (by decide) ?_
      have e : abOne (sA S) (sP S) (aSd (sA S) s) c (i + 1) = (abOne (sA S) (sP S) (aSd (sA S) s) c i) + 0 := by
        show abOne (sA S) (sP S) (aSd (sA S) s) c i + (if aOneB (sA S) (aSd (sA S) s) c i = true then aClaim (sA S) (sP S) i (min 100 (aHarm (sA S) (aSd (sA S) s 4) i)) else 0) = _
        rw [if_neg (by unfold aOneB; rw [c60, Bool.false_and]; decide)]
      rw [e] at ih
      exact ih _ hL1
    · refine LW_aloadn 0 dX11_alone_63 rfl rfl ?_
      refine LW_iload 4 dX11_alone_64 rfl ?_
      refine LW_iconst (v := 3) dX11_alone_66 (by decide) ?_
      refine LW_callV (As := [.int (nI i), .int 3]) (b := 217) (st := [.long (abOne (sA S) (sP S) (aSd (sA S) s) c i)]) (ci := 11) (r := (RX11, TX11, 44)) (r_mOf hM1 hi (a := 3) (by decide)) YX11_of rfl dX11_alone_67 mlX11_334 (hY.lt (k := 217) (by decide)) (ly217 hY) ⟨rfl, rfl⟩ (by decide) ⟨Nat.le_of_ble_eq_true rfl, Nat.le_of_ble_eq_true rfl⟩ (Nat.le_of_ble_eq_true rfl) rfl (fun r67 Λc67 Ic67 Lc67 Rc67 hq67 => ?_)
      obtain ⟨rfl, rfl, rfl, rfl, rfl⟩ := hq67
      refine LW_iloadn 2 dX11_alone_70 rfl rfl ?_
      refine LW_icmp_ne (tgt := 96) dX11_alone_71 (by decide) (fun c71 => ?_) (fun c71 => ?_)
      · refine LW_lconst (v := 0) dX11_alone_96 (by decide) ?_
        refine LW_ladd dX11_alone_97 ?_
        refine LW_lstoren (ls' := [(0, .ref 217), (1, .int (nI s)), (2, .int (nI c)), (3, .long ((abOne (sA S) (sP S) (aSd (sA S) s) c i) + 0)), (5, .int (nI i))]) dX11_alone_98 rfl (by decide) rfl ?_
        refine LW_iinc (n := 4) (v := nI (i + 1)) (ls' := [(0, .ref 217), (1, .int (nI s)), (2, .int (nI c)), (3, .long ((abOne (sA S) (sP S) (aSd (sA S) s) c i) + 0)), (5, .int (nI (i + 1)))]) dX11_alone_99 rfl (hc_inc _) (by decide) rfl ?_
        refine LW_goto (tgt := 39) dX11_alone_102 (by decide) ?_
        have e : abOne (sA S) (sP S) (aSd (sA S) s) c (i + 1) = (abOne (sA S) (sP S) (aSd (sA S) s) c i) + 0 := by
          show abOne (sA S) (sP S) (aSd (sA S) s) c i + (if aOneB (sA S) (aSd (sA S) s) c i = true then aClaim (sA S) (sP S) i (min 100 (aHarm (sA S) (aSd (sA S) s 4) i)) else 0) = _
          rw [if_neg (by unfold aOneB; rw [decide_eq_false (fun z => c71 (by rw [z])), Bool.false_and, Bool.and_false]; decide)]
        rw [e] at ih
        exact ih _ hL1
      · refine LW_aloadn 0 dX11_alone_74 rfl rfl ?_
        refine LW_iload 4 dX11_alone_75 rfl ?_
        refine LW_ldc2 dX11_alone_77 klX11_352 ?_
        refine LW_aloadn 0 dX11_alone_80 rfl rfl ?_
        refine LW_iloadn 1 dX11_alone_81 rfl rfl ?_
        refine LW_iload 4 dX11_alone_82 rfl ?_
        refine LW_callV (As := [.int (nI s), .int (nI i)]) (b := 217) (st := [.long 100, .int (nI i), .ref 217, .long (abOne (sA S) (sP S) (aSd (sA S) s) c i)]) (ci := 11) (r := (RX11, TX11, 44)) (r_mHit hM1 hs hi) YX11_hit rfl dX11_alone_84 mlX11_354 (hY.lt (k := 217) (by decide)) (ly217 hY) ⟨rfl, rfl⟩ (by decide) ⟨Nat.le_of_ble_eq_true rfl, Nat.le_of_ble_eq_true rfl⟩ (Nat.le_of_ble_eq_true rfl) rfl (fun r84 Λc84 Ic84 Lc84 Rc84 hq84 => ?_)
        obtain ⟨rfl, rfl, rfl, rfl, rfl⟩ := hq84
        refine LW_lmin dX11_alone_87 mlX11_308 (by decide) ⟨Nat.le_refl _, Nat.le_refl _⟩ (Nat.le_of_ble_eq_true rfl) ?_
        rw [show (if (if aOv (aSd (sA S) s) (aFd (sA S) i) = true then lN (aHarm (sA S) (aSd (sA S) s 4) i) else 0) < 100 then (if aOv (aSd (sA S) s) (aFd (sA S) i) = true then lN (aHarm (sA S) (aSd (sA S) s 4) i) else 0) else 100) = lN (if aOv (aSd (sA S) s) (aFd (sA S) i) = true then min 100 (aHarm (sA S) (aSd (sA S) s 4) i) else 0) from (min_hit _ (by omega))]
        refine LW_callV (As := [.int (nI i), .long (lN (if aOv (aSd (sA S) s) (aFd (sA S) i) = true then min 100 (aHarm (sA S) (aSd (sA S) s 4) i) else 0))]) (b := 217) (st := [.long (abOne (sA S) (sP S) (aSd (sA S) s) c i)]) (ci := 11) (r := (RX11, TX11, 44)) (r_mClaimBy hM1 hP1 hi (t := (if aOv (aSd (sA S) s) (aFd (sA S) i) = true then min 100 (aHarm (sA S) (aSd (sA S) s 4) i) else 0)) (by split <;> omega)) YX11_claimBy rfl dX11_alone_90 mlX11_370 (hY.lt (k := 217) (by decide)) (ly217 hY) ⟨rfl, rfl⟩ (by decide) ⟨Nat.le_of_ble_eq_true rfl, Nat.le_of_ble_eq_true rfl⟩ (Nat.le_of_ble_eq_true rfl) rfl (fun r90 Λc90 Ic90 Lc90 Rc90 hq90 => ?_)
        obtain ⟨rfl, rfl, rfl, hL90, hR90⟩ := hq90
        obtain rfl : R = Rc90 := hR90
        refine LW_goto (tgt := 97) dX11_alone_93 (by decide) ?_
        refine LW_ladd dX11_alone_97 ?_
        refine LW_lstoren (ls' := [(0, .ref 217), (1, .int (nI s)), (2, .int (nI c)), (3, .long ((abOne (sA S) (sP S) (aSd (sA S) s) c i) + (aClaim (sA S) (sP S) i (if aOv (aSd (sA S) s) (aFd (sA S) i) = true then min 100 (aHarm (sA S) (aSd (sA S) s 4) i) else 0)))), (5, .int (nI i))]) dX11_alone_98 rfl (by decide) rfl ?_
        refine LW_iinc (n := 4) (v := nI (i + 1)) (ls' := [(0, .ref 217), (1, .int (nI s)), (2, .int (nI c)), (3, .long ((abOne (sA S) (sP S) (aSd (sA S) s) c i) + (aClaim (sA S) (sP S) i (if aOv (aSd (sA S) s) (aFd (sA S) i) = true then min 100 (aHarm (sA S) (aSd (sA S) s 4) i) else 0)))), (5, .int (nI (i + 1)))]) dX11_alone_99 rfl (hc_inc _) (by decide) rfl ?_
        refine LW_goto (tgt := 39) dX11_alone_102 (by decide) ?_
        have e : abOne (sA S) (sP S) (aSd (sA S) s) c (i + 1) = (abOne (sA S) (sP S) (aSd (sA S) s) c i) + (aClaim (sA S) (sP S) i (if aOv (aSd (sA S) s) (aFd (sA S) i) = true then min 100 (aHarm (sA S) (aSd (sA S) s 4) i) else 0)) := by
          show abOne (sA S) (sP S) (aSd (sA S) s) c i + (if aOneB (sA S) (aSd (sA S) s) c i = true then aClaim (sA S) (sP S) i (min 100 (aHarm (sA S) (aSd (sA S) s 4) i)) else 0) = _
          have e2 : aOneB (sA S) (aSd (sA S) s) c i = aOv (aSd (sA S) s) (aFd (sA S) i) := by unfold aOneB; rw [c60, decide_eq_true ((hc_eq (by omega) (by omega)).mp (Classical.not_not.mp c71))]; rfl
          rw [e2]
          cases aOv (aSd (sA S) s) (aFd (sA S) i) with
          | true => rw [if_pos rfl, if_pos rfl]
          | false => rw [if_neg (by decide), if_neg (by decide), aClaim_0]
        rw [e] at ih
        exact ih _ (fun z hz => by rw [hL90 z hz]; exact hL1 z hz)
set_option maxRecDepth 100000 in
theorem m_alone {Λ : hc_L} {I : hc_I} {L : hc_J} {R : hc_R} {S : HS} (hW : MW Λ I L S) (x y : Int32) : Run xX11_alone [.ref 217, .int x, .int y] Λ I L R (MPost (some (.long (qAlone (sA S) (sP S) x y))) S Λ I L R) := by
  refine Run.of (by decide +kernel) (Nat.le_of_ble_eq_true rfl) ?_
  show LW _ _ _ [(0, .ref 217), (1, .int x), (2, .int y)] _ _ _ _ _ _
  have hM := hW.m
  have hP := hW.l
  have hY := hM.y
  refine LW_iloadn 1 dX11_alone_0 rfl rfl ?_
  refine LW_i2l dX11_alone_1 ?_
  refine LW_lconst (v := 0) dX11_alone_2 (by decide) ?_
  refine LW_aloadn 0 dX11_alone_3 rfl rfl ?_
  refine gX11_0 dX11_alone_4 flX11_9 (hY.lt (k := 217) (by decide)) (ly217 hY) (lf217_0 hY) ?_
  refine LW_bipush (v := 7) dX11_alone_7 (by decide) ?_
  refine LW_lald dX11_alone_9 (hY.lt (k := 218) (by decide)) (ly218 hY) rfl (by decide) (Nat.le_of_ble_eq_true rfl) ?_
  rw [show L 218 7 = lN (aS (sA S)) from hM.nS]
  refine LW_lconst (v := 1) dX11_alone_10 (by decide) ?_
  refine LW_lsub dX11_alone_11 ?_
  refine LW_callS (As := [.long x.toInt64, .long 0, .long ((lN (aS (sA S))) - 1)]) (st := []) (r_isIn x.toInt64 0 ((lN (aS (sA S))) - 1)) YX11_isIn rfl dX11_alone_12 mlX11_126 (by decide) ⟨Nat.le_of_ble_eq_true rfl, Nat.le_of_ble_eq_true rfl⟩ (Nat.le_of_ble_eq_true rfl) rfl (fun r12 Λc12 Ic12 Lc12 Rc12 hq12 => ?_)
  obtain ⟨rfl, rfl, rfl, rfl, rfl⟩ := hq12
  refine LW_bif_eq (tgt := 30) dX11_alone_15 (by decide) (fun c15 => ?_) (fun c15 => ?_)
  · refine LW_ldc2 dX11_alone_30 klX11_402 ?_
    refine LW_lret dX11_alone_33 rfl (Nat.le_of_ble_eq_true rfl) (Nat.le_of_ble_eq_true rfl) ?_
    refine MPost.r hW ?_
    unfold qAlone
    rw [if_neg]
    rintro ⟨⟨u1, u2⟩, ⟨v1, v2⟩⟩
    have hs16 := hM.w.s
    obtain ⟨s, hs, rfl⟩ := x_in (by omega) u1 u2
    obtain ⟨c, hc, rfl⟩ := x_in (N := 4) (by decide) v1 v2
    have e1 : lIn (nI s).toInt64 0 (lN (aS (sA S)) - 1) = true := by rw [lIn_n1 (by omega), decide_eq_true (nI_nn (by omega)), hc_cl (by omega), decide_eq_true hs]; rfl
    have e2 : lIn (nI c).toInt64 0 (lN 3) = true := by rw [lIn_i (by decide), decide_eq_true (nI_nn (by omega)), decide_eq_true ((hc_le (by omega) (by decide)).mpr (by omega))]; rfl
    first | (exact absurd (e1.symm.trans c15) (by decide)) | (exact absurd (e2.symm.trans c27) (by decide))
  · refine LW_iloadn 2 dX11_alone_18 rfl rfl ?_
    refine LW_i2l dX11_alone_19 ?_
    refine LW_lconst (v := 0) dX11_alone_20 (by decide) ?_
    refine LW_ldc2 dX11_alone_21 klX11_450 ?_
    refine LW_callS (As := [.long y.toInt64, .long 0, .long 3]) (st := []) (r_isIn y.toInt64 0 3) YX11_isIn rfl dX11_alone_24 mlX11_126 (by decide) ⟨Nat.le_of_ble_eq_true rfl, Nat.le_of_ble_eq_true rfl⟩ (Nat.le_of_ble_eq_true rfl) rfl (fun r24 Λc24 Ic24 Lc24 Rc24 hq24 => ?_)
    obtain ⟨rfl, rfl, rfl, rfl, rfl⟩ := hq24
    refine LW_bif_ne (tgt := 34) dX11_alone_27 (by decide) (fun c27 => ?_) (fun c27 => ?_)
    · have hs16 := hM.w.s
      rw [lIn_n1 (by omega)] at c15
      simp only [Bool.and_eq_true, decide_eq_true_eq] at c15
      obtain ⟨s, hs31, rfl⟩ := hc_nn c15.1
      have hs : s < aS (sA S) := by have := c15.2; rw [hc_cl hs31] at this; exact this
      obtain ⟨c, hc, rfl⟩ := lIn_k (N := 3) (by decide) c27
      refine LW_lconst (v := 0) dX11_alone_34 (by decide) ?_
      refine LW_lstoren (ls' := [(0, .ref 217), (1, .int (nI s)), (2, .int (nI c)), (3, .long 0)]) dX11_alone_35 rfl (by decide) rfl ?_
      refine LW_iconst (v := 0) dX11_alone_36 (by decide) ?_
      refine LW_istore (ls' := [(0, .ref 217), (1, .int (nI s)), (2, .int (nI c)), (3, .long 0), (5, .int 0)]) dX11_alone_37 (by decide) rfl ?_
      refine mal_loop hM hP hs (by omega) (fun L1 hL1 => ?_) 0 (Nat.zero_le _) L (fun _ _ => rfl)
      exact MPost.j hW hL1 (by unfold qAlone; rw [hc_cl (by omega), hc_cl (by omega), if_pos ⟨⟨nI_nn (by omega), (hc_lt (by omega) (by omega)).mpr hs⟩, ⟨nI_nn (by omega), (hc_lt (b := 4) (by omega) (by decide)).mpr (by omega)⟩⟩])
    · refine LW_ldc2 dX11_alone_30 klX11_402 ?_
      refine LW_lret dX11_alone_33 rfl (Nat.le_of_ble_eq_true rfl) (Nat.le_of_ble_eq_true rfl) ?_
      refine MPost.r hW ?_
      unfold qAlone
      rw [if_neg]
      rintro ⟨⟨u1, u2⟩, ⟨v1, v2⟩⟩
      have hs16 := hM.w.s
      obtain ⟨s, hs, rfl⟩ := x_in (by omega) u1 u2
      obtain ⟨c, hc, rfl⟩ := x_in (N := 4) (by decide) v1 v2
      have e1 : lIn (nI s).toInt64 0 (lN (aS (sA S)) - 1) = true := by rw [lIn_n1 (by omega), decide_eq_true (nI_nn (by omega)), hc_cl (by omega), decide_eq_true hs]; rfl
      have e2 : lIn (nI c).toInt64 0 (lN 3) = true := by rw [lIn_i (by decide), decide_eq_true (nI_nn (by omega)), decide_eq_true ((hc_le (by omega) (by decide)).mpr (by omega))]; rfl
      first | (exact absurd (e1.symm.trans c15) (by decide)) | (exact absurd (e2.symm.trans c27) (by decide))
