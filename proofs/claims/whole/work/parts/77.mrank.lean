/-! the reference: rank -/
theorem sumI_cnt {f : Nat → Bool} : ∀ n, sumI (fun m => hc_b (f m)) n = nI (cntB f n)
  | 0 => rfl
  | n + 1 => by
    show sumI (fun m => hc_b (f m)) n + hc_b (f n) = nI (sumN (fun m => if f m = true then 1 else 0) n + (if f n = true then 1 else 0))
    rw [sumI_cnt n]
    show nI (sumN (fun m => if f m = true then 1 else 0) n) + hc_b (f n) = _
    cases f n with
    | true => exact nI_add _ 1
    | false => exact nI_add _ 0
theorem cntB_le (f : Nat → Bool) (n : Nat) : cntB f n ≤ n := by
  have : cntB f n ≤ n * 1 := sumN_c (fun j _ => by split <;> omega)
  omega
theorem cntB_ext {f : Nat → Bool} {n : Nat} (h : ∀ j, n ≤ j → f j = false) : ∀ k, cntB f (n + k) = cntB f n
  | 0 => rfl
  | k + 1 => by
    show cntB f (n + k) + (if f (n + k) = true then 1 else 0) = _
    rw [cntB_ext h k, h (n + k) (by omega), if_neg (by decide)]; rfl
theorem ahead_lt {pr : Nat → Bool} {b : Nat → Int64} {m : Nat} (hm : m < 12) (hp : pr m = true) : cntB (aheadN pr b m) 12 + 1 ≤ cntB pr 12 := by
  have h1 : sumN (fun j => (if aheadN pr b m j = true then 1 else 0) + (if j = m then 1 else 0)) 12 ≤ cntB pr 12 := sumN_le (fun j _ => by
    by_cases c : j = m
    · subst c
      have e : aheadN pr b j j = false := by
        unfold aheadN
        rw [decide_eq_false (Int64.lt_irrefl), decide_eq_false (Nat.lt_irrefl j), Bool.and_false, Bool.or_false, Bool.and_false]
      rw [e, if_neg (by decide), if_pos rfl, if_pos hp]; decide
    · rw [if_neg c]
      by_cases d : aheadN pr b m j = true
      · have hp2 : pr j = true := by unfold aheadN at d; rw [Bool.and_eq_true] at d; exact d.1
        rw [if_pos d, if_pos hp2]; decide
      · rw [if_neg d]; exact Nat.zero_le _)
  rw [sumN_add] at h1
  have h2 : (if m = m then 1 else 0) ≤ sumN (fun j => if j = m then 1 else 0) 12 := sumN_at (f := fun j => if j = m then 1 else 0) hm
  rw [if_pos rfl] at h2
  show sumN (fun j => if aheadN pr b m j = true then 1 else 0) 12 + 1 ≤ _
  omega
theorem abFind_hit' {p : Nat → Bool} {d i : Nat} (h : p i = true) : abFind p (d + 1) i = nI i := by rw [abFind, if_pos h]
theorem abFind_no {p : Nat → Bool} : ∀ (d i : Nat), (∀ m, i ≤ m → m < i + d → p m = false) → abFind p d i = -1
  | 0, _, _ => rfl
  | d + 1, i, h => by rw [abFind_skip d i (h i (Nat.le_refl _) (by omega))]; exact abFind_no d (i + 1) (fun m h1 h2 => h m (by omega) (by omega))
theorem prX_cnt {A : AS} {w : Int32} (h : aM A ≤ 12) : cntB (prX A w) 12 = cntB (prX A w) (aM A) := by
  obtain ⟨k, hk⟩ := Nat.exists_eq_add_of_le h
  rw [hk]; exact cntB_ext (fun j hj => prX_no hj) k
theorem rank_in {A : AS} {P : LwP} (hA : wf A) {x : Int32} {m : Nat} (hm : m < aM A) (h : rkP A P x m = true) : lIn x.toInt64 0 (mMt A (-1) (aM A) - 1).toInt64 = true := by
  unfold rkP at h
  rw [Bool.and_eq_true, decide_eq_true_eq, ← prX_m1 hA.m] at h
  obtain ⟨h1, rfl⟩ := h
  have hm12 := hA.m
  have hl := ahead_lt (b := kR A P (prX A (-1)) 5) (show m < 12 by omega) h1
  have h2 : abAhead (prX A (-1)) (kR A P (prX A (-1)) 5) m 12 = nI (cntB (aheadN (prX A (-1)) (kR A P (prX A (-1)) 5) m) 12) := sumI_cnt 12
  have h3 : mMt A (-1) (aM A) = nI (cntB (prX A (-1)) (aM A)) := sumI_cnt (aM A)
  have h4 := cntB_le (prX A (-1)) 12
  rw [prX_cnt hA.m] at hl h4
  obtain ⟨d, hd⟩ : ∃ d, cntB (prX A (-1)) (aM A) = d + 1 := ⟨cntB (prX A (-1)) (aM A) - 1, by omega⟩
  rw [hd] at h3 hl h4
  rw [h2, h3, show nI (d + 1) - 1 = nI d by rw [← nI_1, Int32.add_sub_cancel], nI_l (n := d) (by omega), lIn_i (by omega), decide_eq_true (nI_nn (by omega)), decide_eq_true ((hc_le (by omega) (by omega)).mpr (by omega))]; rfl
theorem ahead_end {A : AS} {w : Int32} {b : Nat → Int64} {m : Nat} (h : aM A ≤ 12) : abAhead (prX A w) b m 12 = abAhead (prX A w) b m (aM A) := by
  have e : ∀ n, abAhead (prX A w) b m n = nI (cntB (aheadN (prX A w) b m) n) := fun n => sumI_cnt n
  rw [e, e]
  obtain ⟨k, hk⟩ := Nat.exists_eq_add_of_le h
  rw [hk, cntB_ext (fun j hj => by unfold aheadN; rw [prX_no hj, Bool.false_and]) k]
set_option maxRecDepth 100000 in
theorem mrk_loop {Λ Λ0 : hc_L} {I I0 : hc_I} {L L0 : hc_J} {R : hc_R} {S : HS} {x : Int32} (hM : MC Λ I L (sA S) (-1)) (hb : ∀ m, m < 12 → L 234 (6 * m + 5) = kR (sA S) (sP S) (prX (sA S) (-1)) 5 m) (hfin : ∀ v, MPost (some (.int v)) S Λ0 I0 L0 R (some (.int v)) Λ I L R) : ∀ i, i ≤ aM (sA S) → LW xX11_rank (0, 0) 24 [(0, .ref 217), (1, .int x), (2, .int (nI i))] [] Λ I L R (MPost (some (.int (abFind (rkP (sA S) (sP S) x) (aM (sA S) - i) i))) S Λ0 I0 L0 R) := by
  have hY := hM.y
  have hm12 := hM.w.m
  refine hc_down ?_ ?_
  · refine LW_iloadn 2 dX11_rank_24 rfl rfl ?_
    refine LW_i2l dX11_rank_25 ?_
    rw [show (nI (aM (sA S))).toInt64 = lN (aM (sA S)) from (nI_l (by omega))]
    refine LW_aloadn 0 dX11_rank_26 rfl rfl ?_
    refine gX11_0 dX11_rank_27 flX11_9 (hY.lt (k := 217) (by decide)) (ly217 hY) (lf217_0 hY) ?_
    refine LW_iconst (v := 5) dX11_rank_30 (by decide) ?_
    refine LW_lald dX11_rank_31 (hY.lt (k := 218) (by decide)) (ly218 hY) rfl (by decide) (Nat.le_of_ble_eq_true rfl) ?_
    rw [show L 218 5 = lN (aM (sA S)) from hM.nM]
    refine LW_lcmp dX11_rank_32 ?_
    refine LW_lif_ge (tgt := 153) dX11_rank_33 (by decide) (fun c33 => ?_) (fun c33 => absurd (Int64.le_refl _) c33)
    refine LW_iconst (v := -1) dX11_rank_153 (by decide) ?_
    refine LW_iret dX11_rank_154 rfl (Nat.le_of_ble_eq_true rfl) (Nat.le_of_ble_eq_true rfl) ?_
    rw [Nat.sub_self]
    exact hfin _
  · intro i hi ih
    obtain ⟨d, hd⟩ : ∃ d, aM (sA S) - i = d + 1 := ⟨aM (sA S) - i - 1, by omega⟩
    rw [show aM (sA S) - (i + 1) = d by omega] at ih
    rw [hd]
    refine LW_iloadn 2 dX11_rank_24 rfl rfl ?_
    refine LW_i2l dX11_rank_25 ?_
    rw [show (nI i).toInt64 = lN i from (nI_l (by omega))]
    refine LW_aloadn 0 dX11_rank_26 rfl rfl ?_
    refine gX11_0 dX11_rank_27 flX11_9 (hY.lt (k := 217) (by decide)) (ly217 hY) (lf217_0 hY) ?_
    refine LW_iconst (v := 5) dX11_rank_30 (by decide) ?_
    refine LW_lald dX11_rank_31 (hY.lt (k := 218) (by decide)) (ly218 hY) rfl (by decide) (Nat.le_of_ble_eq_true rfl) ?_
    rw [show L 218 5 = lN (aM (sA S)) from hM.nM]
    refine LW_lcmp dX11_rank_32 ?_
    refine LW_lif_ge (tgt := 153) dX11_rank_33 (by decide) (fun c33 => absurd c33 (lN_nle (by omega) (by omega) hi)) (fun c33 => ?_)
    refine LW_aloadn 0 dX11_rank_36 rfl rfl ?_
    refine LW_iloadn 2 dX11_rank_37 rfl rfl ?_
    refine LW_callV (As := [.int (nI i)]) (b := 217) (st := []) (ci := 11) (r := (RX11, TX11, 44)) (r_mIsThere hM hi) YX11_isThere rfl dX11_rank_38 mlX11_331 (hY.lt (k := 217) (by decide)) (ly217 hY) ⟨rfl, rfl⟩ (by decide) ⟨Nat.le_of_ble_eq_true rfl, Nat.le_of_ble_eq_true rfl⟩ (Nat.le_of_ble_eq_true rfl) rfl (fun r38 Λc38 Ic38 Lc38 Rc38 hq38 => ?_)
    obtain ⟨rfl, rfl, rfl, rfl, rfl⟩ := hq38
    refine LW_bif_ne (tgt := 47) dX11_rank_41 (by decide) (fun c41 => ?_) (fun c41 => ?_)
    · refine LW_iconst (v := 0) dX11_rank_47 (by decide) ?_
      refine LW_istoren (ls' := [(0, .ref 217), (1, .int x), (2, .int (nI i)), (3, .int 0)]) dX11_rank_48 rfl (by decide) rfl ?_
      refine LW_iconst (v := 0) dX11_rank_49 (by decide) ?_
      refine LW_istore (ls' := [(0, .ref 217), (1, .int x), (2, .int (nI i)), (3, .int 0), (4, .int 0)]) dX11_rank_50 (by decide) rfl ?_
      have inn : ∀ j, j ≤ aM (sA S) → LW xX11_rank (0, 0) 52 [(0, .ref 217), (1, .int x), (2, .int (nI i)), (3, .int (abAhead (prX (sA S) (-1)) (kR (sA S) (sP S) (prX (sA S) (-1)) 5) i j)), (4, .int (nI j))] [] Λ I L R (MPost (some (.int (abFind (rkP (sA S) (sP S) x) (d + 1) i))) S Λ0 I0 L0 R) := by
        refine hc_down ?_ ?_
        · refine LW_iload 4 dX11_rank_52 rfl ?_
          refine LW_i2l dX11_rank_54 ?_
          rw [show (nI (aM (sA S))).toInt64 = lN (aM (sA S)) from (nI_l (by omega))]
          refine LW_aloadn 0 dX11_rank_55 rfl rfl ?_
          refine gX11_0 dX11_rank_56 flX11_9 (hY.lt (k := 217) (by decide)) (ly217 hY) (lf217_0 hY) ?_
          refine LW_iconst (v := 5) dX11_rank_59 (by decide) ?_
          refine LW_lald dX11_rank_60 (hY.lt (k := 218) (by decide)) (ly218 hY) rfl (by decide) (Nat.le_of_ble_eq_true rfl) ?_
          rw [show L 218 5 = lN (aM (sA S)) from hM.nM]
          refine LW_lcmp dX11_rank_61 ?_
          refine LW_lif_ge (tgt := 140) dX11_rank_62 (by decide) (fun c62 => ?_) (fun c62 => absurd (Int64.le_refl _) c62)
          refine LW_iloadn 3 dX11_rank_140 rfl rfl ?_
          refine LW_iloadn 1 dX11_rank_141 rfl rfl ?_
          refine LW_icmp_ne (tgt := 147) dX11_rank_142 (by decide) (fun c142 => ?_) (fun c142 => ?_)
          · refine LW_iinc (n := 2) (v := nI (i + 1)) (ls' := [(0, .ref 217), (1, .int x), (2, .int (nI (i + 1))), (3, .int (abAhead (prX (sA S) (-1)) (kR (sA S) (sP S) (prX (sA S) (-1)) 5) i (aM (sA S)))), (4, .int (nI (aM (sA S))))]) dX11_rank_147 rfl (hc_inc _) (by decide) rfl ?_
            refine LW_goto (tgt := 24) dX11_rank_150 (by decide) ?_
            rw [abFind_skip d i (by unfold rkP; rw [← prX_m1 hm12, decide_eq_false (show ¬ abAhead (prX (sA S) (-1)) (kR (sA S) (sP S) (prX (sA S) (-1)) 5) i 12 = x from fun z => c142 ((ahead_end hm12).symm.trans z)), Bool.and_false])]
            refine LW_ls (ls' := [(0, .ref 217), (1, .int x), (2, .int (nI (i + 1)))]) [0, 1, 2] rfl ?_
            exact ih
          · refine LW_iloadn 2 dX11_rank_145 rfl rfl ?_
            refine LW_iret dX11_rank_146 rfl (Nat.le_of_ble_eq_true rfl) (Nat.le_of_ble_eq_true rfl) ?_
            rw [abFind_hit' (by unfold rkP; rw [← prX_m1 hm12, c41, decide_eq_true (show abAhead (prX (sA S) (-1)) (kR (sA S) (sP S) (prX (sA S) (-1)) 5) i 12 = x from (ahead_end hm12).trans (Classical.not_not.mp c142))]; rfl)]
            exact hfin _
        · intro j hj ih2
          refine LW_iload 4 dX11_rank_52 rfl ?_
          refine LW_i2l dX11_rank_54 ?_
          rw [show (nI j).toInt64 = lN j from (nI_l (by omega))]
          refine LW_aloadn 0 dX11_rank_55 rfl rfl ?_
          refine gX11_0 dX11_rank_56 flX11_9 (hY.lt (k := 217) (by decide)) (ly217 hY) (lf217_0 hY) ?_
          refine LW_iconst (v := 5) dX11_rank_59 (by decide) ?_
          refine LW_lald dX11_rank_60 (hY.lt (k := 218) (by decide)) (ly218 hY) rfl (by decide) (Nat.le_of_ble_eq_true rfl) ?_
          rw [show L 218 5 = lN (aM (sA S)) from hM.nM]
          refine LW_lcmp dX11_rank_61 ?_
          refine LW_lif_ge (tgt := 140) dX11_rank_62 (by decide) (fun c62 => absurd c62 (lN_nle (by omega) (by omega) hj)) (fun c62 => ?_)
          refine LW_aloadn 0 dX11_rank_65 rfl rfl ?_
          refine gX11_40 dX11_rank_66 flX11_69 (hY.lt (k := 217) (by decide)) (ly217 hY) (lf217_40 hY) ?_
          refine LW_bipush (v := 6) dX11_rank_69 (by decide) ?_
          refine LW_iload 4 dX11_rank_71 rfl ?_
          refine LW_imul dX11_rank_73 ?_
          rw [show (6 * (nI j)) = nI (6 * j) from (nI_mul 6 j)]
          refine LW_iconst (v := 5) dX11_rank_74 (by decide) ?_
          refine LW_iadd dX11_rank_75 ?_
          rw [show ((nI (6 * j)) + 5) = nI (6 * j + 5) from (nI_add _ _)]
          refine LW_lald dX11_rank_76 (hY.lt (k := 234) (by decide)) (ly234 hY) rfl (by omega) (Nat.le_of_ble_eq_true rfl) ?_
          rw [show L 234 (6 * j + 5) = kR (sA S) (sP S) (prX (sA S) (-1)) 5 j from hb j (by omega)]
          refine LW_lstore (ls' := [(0, .ref 217), (1, .int x), (2, .int (nI i)), (3, .int (abAhead (prX (sA S) (-1)) (kR (sA S) (sP S) (prX (sA S) (-1)) 5) i j)), (4, .int (nI j)), (5, .long (kR (sA S) (sP S) (prX (sA S) (-1)) 5 j))]) dX11_rank_77 (by decide) rfl ?_
          refine LW_aloadn 0 dX11_rank_79 rfl rfl ?_
          refine gX11_40 dX11_rank_80 flX11_69 (hY.lt (k := 217) (by decide)) (ly217 hY) (lf217_40 hY) ?_
          refine LW_bipush (v := 6) dX11_rank_83 (by decide) ?_
          refine LW_iloadn 2 dX11_rank_85 rfl rfl ?_
          refine LW_imul dX11_rank_86 ?_
          rw [show (6 * (nI i)) = nI (6 * i) from (nI_mul 6 i)]
          refine LW_iconst (v := 5) dX11_rank_87 (by decide) ?_
          refine LW_iadd dX11_rank_88 ?_
          rw [show ((nI (6 * i)) + 5) = nI (6 * i + 5) from (nI_add _ _)]
          refine LW_lald dX11_rank_89 (hY.lt (k := 234) (by decide)) (ly234 hY) rfl (by omega) (Nat.le_of_ble_eq_true rfl) ?_
          rw [show L 234 (6 * i + 5) = kR (sA S) (sP S) (prX (sA S) (-1)) 5 i from hb i (by omega)]
          refine LW_lstore (ls' := [(0, .ref 217), (1, .int x), (2, .int (nI i)), (3, .int (abAhead (prX (sA S) (-1)) (kR (sA S) (sP S) (prX (sA S) (-1)) 5) i j)), (4, .int (nI j)), (5, .long (kR (sA S) (sP S) (prX (sA S) (-1)) 5 j)), (7, .long (kR (sA S) (sP S) (prX (sA S) (-1)) 5 i))]) dX11_rank_90 (by decide) rfl ?_
          refine LW_iloadn 3 dX11_rank_92 rfl rfl ?_
          refine LW_aloadn 0 dX11_rank_93 rfl rfl ?_
          refine LW_iload 4 dX11_rank_94 rfl ?_
          refine LW_callV (As := [.int (nI j)]) (b := 217) (st := [.int (abAhead (prX (sA S) (-1)) (kR (sA S) (sP S) (prX (sA S) (-1)) 5) i j)]) (ci := 11) (r := (RX11, TX11, 44)) (r_mIsThere hM hj) YX11_isThere rfl dX11_rank_96 mlX11_331 (hY.lt (k := 217) (by decide)) (ly217 hY) ⟨rfl, rfl⟩ (by decide) ⟨Nat.le_of_ble_eq_true rfl, Nat.le_of_ble_eq_true rfl⟩ (Nat.le_of_ble_eq_true rfl) rfl (fun r96 Λc96 Ic96 Lc96 Rc96 hq96 => ?_)
          obtain ⟨rfl, rfl, rfl, rfl, rfl⟩ := hq96
          refine LW_bif_eq (tgt := 128) dX11_rank_99 (by decide) (fun c99 => ?_) (fun c99 => ?_)
          · refine LW_iconst (v := 0) dX11_rank_128 (by decide) ?_
            refine LW_callS (As := [.int 0]) (st := [.int (abAhead (prX (sA S) (-1)) (kR (sA S) (sP S) (prX (sA S) (-1)) 5) i j)]) (r_one false) YX11_one rfl dX11_rank_129 mlX11_391 (by decide) ⟨Nat.le_of_ble_eq_true rfl, Nat.le_of_ble_eq_true rfl⟩ (Nat.le_of_ble_eq_true rfl) rfl (fun r129 Λc129 Ic129 Lc129 Rc129 hq129 => ?_)
            obtain ⟨rfl, rfl, rfl, rfl, rfl⟩ := hq129
            refine LW_iadd dX11_rank_132 ?_
            refine LW_istoren (ls' := [(0, .ref 217), (1, .int x), (2, .int (nI i)), (3, .int ((abAhead (prX (sA S) (-1)) (kR (sA S) (sP S) (prX (sA S) (-1)) 5) i j) + (hc_b false))), (4, .int (nI j)), (5, .long (kR (sA S) (sP S) (prX (sA S) (-1)) 5 j)), (7, .long (kR (sA S) (sP S) (prX (sA S) (-1)) 5 i))]) dX11_rank_133 rfl (by decide) rfl ?_
            refine LW_iinc (n := 4) (v := nI (j + 1)) (ls' := [(0, .ref 217), (1, .int x), (2, .int (nI i)), (3, .int ((abAhead (prX (sA S) (-1)) (kR (sA S) (sP S) (prX (sA S) (-1)) 5) i j) + (hc_b false))), (4, .int (nI (j + 1))), (5, .long (kR (sA S) (sP S) (prX (sA S) (-1)) 5 j)), (7, .long (kR (sA S) (sP S) (prX (sA S) (-1)) 5 i))]) dX11_rank_134 rfl (hc_inc _) (by decide) rfl ?_
            refine LW_goto (tgt := 52) dX11_rank_137 (by decide) ?_
            have ea : aheadN (prX (sA S) (-1)) (kR (sA S) (sP S) (prX (sA S) (-1)) 5) i j = false := by
              unfold aheadN
              rw [c99, Bool.false_and]
            have ih3 : LW xX11_rank (0, 0) 52 [(0, .ref 217), (1, .int x), (2, .int (nI i)), (3, .int (abAhead (prX (sA S) (-1)) (kR (sA S) (sP S) (prX (sA S) (-1)) 5) i j + hc_b false)), (4, .int (nI (j + 1)))] [] Λ I L R (MPost (some (.int (abFind (rkP (sA S) (sP S) x) (d + 1) i))) S Λ0 I0 L0 R) := by
              rw [← ea]; exact ih2
            refine LW_ls (ls' := [(0, .ref 217), (1, .int x), (2, .int (nI i)), (3, .int (abAhead (prX (sA S) (-1)) (kR (sA S) (sP S) (prX (sA S) (-1)) 5) i j + hc_b false)), (4, .int (nI (j + 1)))]) [0, 1, 2, 3, 4] rfl ?_
            exact ih3
          · refine LW_lload 5 dX11_rank_102 rfl ?_
            refine LW_lload 6 dX11_rank_104 rfl ?_
            refine LW_lcmp dX11_rank_106 ?_
            refine LW_lif_gt (tgt := 124) dX11_rank_107 (by decide) (fun c107 => ?_) (fun c107 => ?_)
            · refine LW_iconst (v := 1) dX11_rank_124 (by decide) ?_
              refine LW_goto (tgt := 129) dX11_rank_125 (by decide) ?_
              refine LW_callS (As := [.int 1]) (st := [.int (abAhead (prX (sA S) (-1)) (kR (sA S) (sP S) (prX (sA S) (-1)) 5) i j)]) (r_one true) YX11_one rfl dX11_rank_129 mlX11_391 (by decide) ⟨Nat.le_of_ble_eq_true rfl, Nat.le_of_ble_eq_true rfl⟩ (Nat.le_of_ble_eq_true rfl) rfl (fun r129 Λc129 Ic129 Lc129 Rc129 hq129 => ?_)
              obtain ⟨rfl, rfl, rfl, rfl, rfl⟩ := hq129
              refine LW_iadd dX11_rank_132 ?_
              refine LW_istoren (ls' := [(0, .ref 217), (1, .int x), (2, .int (nI i)), (3, .int ((abAhead (prX (sA S) (-1)) (kR (sA S) (sP S) (prX (sA S) (-1)) 5) i j) + (hc_b true))), (4, .int (nI j)), (5, .long (kR (sA S) (sP S) (prX (sA S) (-1)) 5 j)), (7, .long (kR (sA S) (sP S) (prX (sA S) (-1)) 5 i))]) dX11_rank_133 rfl (by decide) rfl ?_
              refine LW_iinc (n := 4) (v := nI (j + 1)) (ls' := [(0, .ref 217), (1, .int x), (2, .int (nI i)), (3, .int ((abAhead (prX (sA S) (-1)) (kR (sA S) (sP S) (prX (sA S) (-1)) 5) i j) + (hc_b true))), (4, .int (nI (j + 1))), (5, .long (kR (sA S) (sP S) (prX (sA S) (-1)) 5 j)), (7, .long (kR (sA S) (sP S) (prX (sA S) (-1)) 5 i))]) dX11_rank_134 rfl (hc_inc _) (by decide) rfl ?_
              refine LW_goto (tgt := 52) dX11_rank_137 (by decide) ?_
              have ea : aheadN (prX (sA S) (-1)) (kR (sA S) (sP S) (prX (sA S) (-1)) 5) i j = true := by
                unfold aheadN
                rw [c99, decide_eq_true (show (kR (sA S) (sP S) (prX (sA S) (-1)) 5) i < (kR (sA S) (sP S) (prX (sA S) (-1)) 5) j from c107), Bool.true_or, Bool.true_and]
              have ih3 : LW xX11_rank (0, 0) 52 [(0, .ref 217), (1, .int x), (2, .int (nI i)), (3, .int (abAhead (prX (sA S) (-1)) (kR (sA S) (sP S) (prX (sA S) (-1)) 5) i j + hc_b true)), (4, .int (nI (j + 1)))] [] Λ I L R (MPost (some (.int (abFind (rkP (sA S) (sP S) x) (d + 1) i))) S Λ0 I0 L0 R) := by
                rw [← ea]; exact ih2
              refine LW_ls (ls' := [(0, .ref 217), (1, .int x), (2, .int (nI i)), (3, .int (abAhead (prX (sA S) (-1)) (kR (sA S) (sP S) (prX (sA S) (-1)) 5) i j + hc_b true)), (4, .int (nI (j + 1)))]) [0, 1, 2, 3, 4] rfl ?_
              exact ih3
            · refine LW_lload 5 dX11_rank_110 rfl ?_
              refine LW_lload 6 dX11_rank_112 rfl ?_
              refine LW_lcmp dX11_rank_114 ?_
              refine LW_lif_ne (tgt := 128) dX11_rank_115 (by decide) (fun c115 => ?_) (fun c115 => ?_)
              · refine LW_iconst (v := 0) dX11_rank_128 (by decide) ?_
                refine LW_callS (As := [.int 0]) (st := [.int (abAhead (prX (sA S) (-1)) (kR (sA S) (sP S) (prX (sA S) (-1)) 5) i j)]) (r_one false) YX11_one rfl dX11_rank_129 mlX11_391 (by decide) ⟨Nat.le_of_ble_eq_true rfl, Nat.le_of_ble_eq_true rfl⟩ (Nat.le_of_ble_eq_true rfl) rfl (fun r129 Λc129 Ic129 Lc129 Rc129 hq129 => ?_)
                obtain ⟨rfl, rfl, rfl, rfl, rfl⟩ := hq129
                refine LW_iadd dX11_rank_132 ?_
                refine LW_istoren (ls' := [(0, .ref 217), (1, .int x), (2, .int (nI i)), (3, .int ((abAhead (prX (sA S) (-1)) (kR (sA S) (sP S) (prX (sA S) (-1)) 5) i j) + (hc_b false))), (4, .int (nI j)), (5, .long (kR (sA S) (sP S) (prX (sA S) (-1)) 5 j)), (7, .long (kR (sA S) (sP S) (prX (sA S) (-1)) 5 i))]) dX11_rank_133 rfl (by decide) rfl ?_
                refine LW_iinc (n := 4) (v := nI (j + 1)) (ls' := [(0, .ref 217), (1, .int x), (2, .int (nI i)), (3, .int ((abAhead (prX (sA S) (-1)) (kR (sA S) (sP S) (prX (sA S) (-1)) 5) i j) + (hc_b false))), (4, .int (nI (j + 1))), (5, .long (kR (sA S) (sP S) (prX (sA S) (-1)) 5 j)), (7, .long (kR (sA S) (sP S) (prX (sA S) (-1)) 5 i))]) dX11_rank_134 rfl (hc_inc _) (by decide) rfl ?_
                refine LW_goto (tgt := 52) dX11_rank_137 (by decide) ?_
                have ea : aheadN (prX (sA S) (-1)) (kR (sA S) (sP S) (prX (sA S) (-1)) 5) i j = false := by
                  unfold aheadN
                  rw [decide_eq_false (show ¬ (kR (sA S) (sP S) (prX (sA S) (-1)) 5) i < (kR (sA S) (sP S) (prX (sA S) (-1)) 5) j from c107), decide_eq_false (show ¬ (kR (sA S) (sP S) (prX (sA S) (-1)) 5) j = (kR (sA S) (sP S) (prX (sA S) (-1)) 5) i from c115), Bool.false_and, Bool.or_false, Bool.and_false]
                have ih3 : LW xX11_rank (0, 0) 52 [(0, .ref 217), (1, .int x), (2, .int (nI i)), (3, .int (abAhead (prX (sA S) (-1)) (kR (sA S) (sP S) (prX (sA S) (-1)) 5) i j + hc_b false)), (4, .int (nI (j + 1)))] [] Λ I L R (MPost (some (.int (abFind (rkP (sA S) (sP S) x) (d + 1) i))) S Λ0 I0 L0 R) := by
                  rw [← ea]; exact ih2
                refine LW_ls (ls' := [(0, .ref 217), (1, .int x), (2, .int (nI i)), (3, .int (abAhead (prX (sA S) (-1)) (kR (sA S) (sP S) (prX (sA S) (-1)) 5) i j + hc_b false)), (4, .int (nI (j + 1)))]) [0, 1, 2, 3, 4] rfl ?_
                exact ih3
              · refine LW_iload 4 dX11_rank_118 rfl ?_
                refine LW_iloadn 2 dX11_rank_120 rfl rfl ?_
                refine LW_icmp_ge (tgt := 128) dX11_rank_121 (by decide) (fun c121 => ?_) (fun c121 => ?_)
                · refine LW_iconst (v := 0) dX11_rank_128 (by decide) ?_
                  refine LW_callS (As := [.int 0]) (st := [.int (abAhead (prX (sA S) (-1)) (kR (sA S) (sP S) (prX (sA S) (-1)) 5) i j)]) (r_one false) YX11_one rfl dX11_rank_129 mlX11_391 (by decide) ⟨Nat.le_of_ble_eq_true rfl, Nat.le_of_ble_eq_true rfl⟩ (Nat.le_of_ble_eq_true rfl) rfl (fun r129 Λc129 Ic129 Lc129 Rc129 hq129 => ?_)
                  obtain ⟨rfl, rfl, rfl, rfl, rfl⟩ := hq129
                  refine LW_iadd dX11_rank_132 ?_
                  refine LW_istoren (ls' := [(0, .ref 217), (1, .int x), (2, .int (nI i)), (3, .int ((abAhead (prX (sA S) (-1)) (kR (sA S) (sP S) (prX (sA S) (-1)) 5) i j) + (hc_b false))), (4, .int (nI j)), (5, .long (kR (sA S) (sP S) (prX (sA S) (-1)) 5 j)), (7, .long (kR (sA S) (sP S) (prX (sA S) (-1)) 5 i))]) dX11_rank_133 rfl (by decide) rfl ?_
                  refine LW_iinc (n := 4) (v := nI (j + 1)) (ls' := [(0, .ref 217), (1, .int x), (2, .int (nI i)), (3, .int ((abAhead (prX (sA S) (-1)) (kR (sA S) (sP S) (prX (sA S) (-1)) 5) i j) + (hc_b false))), (4, .int (nI (j + 1))), (5, .long (kR (sA S) (sP S) (prX (sA S) (-1)) 5 j)), (7, .long (kR (sA S) (sP S) (prX (sA S) (-1)) 5 i))]) dX11_rank_134 rfl (hc_inc _) (by decide) rfl ?_
                  refine LW_goto (tgt := 52) dX11_rank_137 (by decide) ?_
                  have ea : aheadN (prX (sA S) (-1)) (kR (sA S) (sP S) (prX (sA S) (-1)) 5) i j = false := by
                    unfold aheadN
                    rw [decide_eq_false (show ¬ (kR (sA S) (sP S) (prX (sA S) (-1)) 5) i < (kR (sA S) (sP S) (prX (sA S) (-1)) 5) j from c107), decide_eq_false (show ¬ j < i from fun z => absurd ((hc_le (by omega) (by omega)).mp c121) (by omega)), Bool.and_false, Bool.or_false, Bool.and_false]
                  have ih3 : LW xX11_rank (0, 0) 52 [(0, .ref 217), (1, .int x), (2, .int (nI i)), (3, .int (abAhead (prX (sA S) (-1)) (kR (sA S) (sP S) (prX (sA S) (-1)) 5) i j + hc_b false)), (4, .int (nI (j + 1)))] [] Λ I L R (MPost (some (.int (abFind (rkP (sA S) (sP S) x) (d + 1) i))) S Λ0 I0 L0 R) := by
                    rw [← ea]; exact ih2
                  refine LW_ls (ls' := [(0, .ref 217), (1, .int x), (2, .int (nI i)), (3, .int (abAhead (prX (sA S) (-1)) (kR (sA S) (sP S) (prX (sA S) (-1)) 5) i j + hc_b false)), (4, .int (nI (j + 1)))]) [0, 1, 2, 3, 4] rfl ?_
                  exact ih3
                · refine LW_iconst (v := 1) dX11_rank_124 (by decide) ?_
                  refine LW_goto (tgt := 129) dX11_rank_125 (by decide) ?_
                  refine LW_callS (As := [.int 1]) (st := [.int (abAhead (prX (sA S) (-1)) (kR (sA S) (sP S) (prX (sA S) (-1)) 5) i j)]) (r_one true) YX11_one rfl dX11_rank_129 mlX11_391 (by decide) ⟨Nat.le_of_ble_eq_true rfl, Nat.le_of_ble_eq_true rfl⟩ (Nat.le_of_ble_eq_true rfl) rfl (fun r129 Λc129 Ic129 Lc129 Rc129 hq129 => ?_)
                  obtain ⟨rfl, rfl, rfl, rfl, rfl⟩ := hq129
                  refine LW_iadd dX11_rank_132 ?_
                  refine LW_istoren (ls' := [(0, .ref 217), (1, .int x), (2, .int (nI i)), (3, .int ((abAhead (prX (sA S) (-1)) (kR (sA S) (sP S) (prX (sA S) (-1)) 5) i j) + (hc_b true))), (4, .int (nI j)), (5, .long (kR (sA S) (sP S) (prX (sA S) (-1)) 5 j)), (7, .long (kR (sA S) (sP S) (prX (sA S) (-1)) 5 i))]) dX11_rank_133 rfl (by decide) rfl ?_
                  refine LW_iinc (n := 4) (v := nI (j + 1)) (ls' := [(0, .ref 217), (1, .int x), (2, .int (nI i)), (3, .int ((abAhead (prX (sA S) (-1)) (kR (sA S) (sP S) (prX (sA S) (-1)) 5) i j) + (hc_b true))), (4, .int (nI (j + 1))), (5, .long (kR (sA S) (sP S) (prX (sA S) (-1)) 5 j)), (7, .long (kR (sA S) (sP S) (prX (sA S) (-1)) 5 i))]) dX11_rank_134 rfl (hc_inc _) (by decide) rfl ?_
                  refine LW_goto (tgt := 52) dX11_rank_137 (by decide) ?_
                  have ea : aheadN (prX (sA S) (-1)) (kR (sA S) (sP S) (prX (sA S) (-1)) 5) i j = true := by
                    unfold aheadN
                    rw [c99, decide_eq_true (show (kR (sA S) (sP S) (prX (sA S) (-1)) 5) j = (kR (sA S) (sP S) (prX (sA S) (-1)) 5) i from Classical.not_not.mp c115), decide_eq_true (show j < i from Nat.lt_of_not_le (fun z => c121 ((hc_le (by omega) (by omega)).mpr z))), Bool.true_and, Bool.true_and, Bool.or_true]
                  have ih3 : LW xX11_rank (0, 0) 52 [(0, .ref 217), (1, .int x), (2, .int (nI i)), (3, .int (abAhead (prX (sA S) (-1)) (kR (sA S) (sP S) (prX (sA S) (-1)) 5) i j + hc_b true)), (4, .int (nI (j + 1)))] [] Λ I L R (MPost (some (.int (abFind (rkP (sA S) (sP S) x) (d + 1) i))) S Λ0 I0 L0 R) := by
                    rw [← ea]; exact ih2
                  refine LW_ls (ls' := [(0, .ref 217), (1, .int x), (2, .int (nI i)), (3, .int (abAhead (prX (sA S) (-1)) (kR (sA S) (sP S) (prX (sA S) (-1)) 5) i j + hc_b true)), (4, .int (nI (j + 1)))]) [0, 1, 2, 3, 4] rfl ?_
                  exact ih3
      exact inn 0 (Nat.zero_le _)
    · refine LW_goto (tgt := 147) dX11_rank_44 (by decide) ?_
      refine LW_iinc (n := 2) (v := nI (i + 1)) (ls' := [(0, .ref 217), (1, .int x), (2, .int (nI (i + 1)))]) dX11_rank_147 rfl (hc_inc _) (by decide) rfl ?_
      refine LW_goto (tgt := 24) dX11_rank_150 (by decide) ?_
      rw [abFind_skip d i (by unfold rkP; rw [← prX_m1 hm12, c41, Bool.false_and])]
      refine LW_ls (ls' := [(0, .ref 217), (1, .int x), (2, .int (nI (i + 1)))]) [0, 1, 2] rfl ?_
      exact ih
set_option maxRecDepth 100000 in
theorem m_rank {Λ : hc_L} {I : hc_I} {L : hc_J} {R : hc_R} {S : HS} (hW : MW Λ I L S) (hB : RB (sA S)) (x : Int32) : Run xX11_rank [.ref 217, .int x] Λ I L R (MPost (some (.int (qRank (sA S) (sP S) x))) S Λ I L R) := by
  refine Run.of (by decide +kernel) (Nat.le_of_ble_eq_true rfl) ?_
  show LW _ _ _ [(0, .ref 217), (1, .int x)] _ _ _ _ _ _
  have hM := hW.m
  have hP := hW.l
  have hY := hM.y
  refine LW_iloadn 1 dX11_rank_0 rfl rfl ?_
  refine LW_i2l dX11_rank_1 ?_
  refine LW_lconst (v := 0) dX11_rank_2 (by decide) ?_
  refine LW_aloadn 0 dX11_rank_3 rfl rfl ?_
  refine LW_callV (As := []) (b := 217) (st := [.long 0, .long x.toInt64]) (ci := 11) (r := (RX11, TX11, 44)) (r_mMembersThere hM) YX11_membersThere rfl dX11_rank_4 mlX11_429 (hY.lt (k := 217) (by decide)) (ly217 hY) ⟨rfl, rfl⟩ (by decide) ⟨Nat.le_of_ble_eq_true rfl, Nat.le_of_ble_eq_true rfl⟩ (Nat.le_of_ble_eq_true rfl) rfl (fun r4 Λc4 Ic4 Lc4 Rc4 hq4 => ?_)
  obtain ⟨rfl, rfl, rfl, rfl, rfl⟩ := hq4
  refine LW_iconst (v := 1) dX11_rank_7 (by decide) ?_
  refine LW_isub dX11_rank_8 ?_
  refine LW_i2l dX11_rank_9 ?_
  refine LW_callS (As := [.long x.toInt64, .long 0, .long (((mMt (sA S) (-1) (aM (sA S))) - 1).toInt64)]) (st := []) (r_isIn x.toInt64 0 (((mMt (sA S) (-1) (aM (sA S))) - 1).toInt64)) YX11_isIn rfl dX11_rank_10 mlX11_126 (by decide) ⟨Nat.le_of_ble_eq_true rfl, Nat.le_of_ble_eq_true rfl⟩ (Nat.le_of_ble_eq_true rfl) rfl (fun r10 Λc10 Ic10 Lc10 Rc10 hq10 => ?_)
  obtain ⟨rfl, rfl, rfl, rfl, rfl⟩ := hq10
  refine LW_bif_ne (tgt := 18) dX11_rank_13 (by decide) (fun c13 => ?_) (fun c13 => ?_)
  · refine LW_aloadn 0 dX11_rank_18 rfl rfl ?_
    refine LW_callV (As := []) (b := 217) (st := []) (ci := 11) (r := (RX11, TX11, 44)) (r_reckons hM hP hW.2.2.1 hB) YX11_reckons rfl dX11_rank_19 mlX11_432 (hY.lt (k := 217) (by decide)) (ly217 hY) ⟨rfl, rfl⟩ (by decide) ⟨Nat.le_of_ble_eq_true rfl, Nat.le_of_ble_eq_true rfl⟩ (Nat.le_of_ble_eq_true rfl) rfl (fun r19 Λc19 Ic19 Lc19 Rc19 hq19 => ?_)
    obtain ⟨rfl, rfl, hI19, hL19, hR19, hG19, hT19, hA19⟩ := hq19
    obtain rfl : R = Rc19 := hR19
    refine LW_iconst (v := 0) dX11_rank_22 (by decide) ?_
    refine LW_istoren (ls' := [(0, .ref 217), (1, .int x), (2, .int 0)]) dX11_rank_23 rfl (by decide) rfl ?_
    have hM2 : MC Λ Ic19 Lc19 (sA S) (-1) := hM.kp (hL19 218 (by unfold rkJ; decide)) (hI19 221 (by unfold rkI; decide)) (hI19 222 (by unfold rkI; decide)) (hI19 223 (by unfold rkI; decide)) (by rw [hI19 217 (by unfold rkI; decide)])
    unfold qRank
    exact mrk_loop hM2 (fun m hm => hG19 m hm 5 (by decide)) (fun v => MPost.q hW (fun z hz => hI19 z (by unfold rkI; omega)) (fun z hz => hL19 z (by unfold rkJ; omega)) rfl) 0 (Nat.zero_le _)
  · refine LW_iconst (v := -1) dX11_rank_16 (by decide) ?_
    refine LW_iret dX11_rank_17 rfl (Nat.le_of_ble_eq_true rfl) (Nat.le_of_ble_eq_true rfl) ?_
    refine MPost.r hW ?_
    unfold qRank
    rw [abFind_no _ _ (fun m _ hm => ?_)]
    cases q : rkP (sA S) (sP S) x m with
    | false => rfl
    | true => exact absurd ((rank_in hM.w (by omega) q).symm.trans c13) (by decide)
