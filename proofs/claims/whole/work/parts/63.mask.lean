/-! the reference: its world, plain questions -/
def MW (Λ : hc_L) (I : hc_I) (L : hc_J) (S : HS) : Prop := MC Λ I L (sA S) (-1) ∧ ML I L (sP S) ∧ ((I 224 0).toInt64 = aRu (sA S) 2 ∧ (I 224 1).toInt64 = aRu (sA S) 3 ∧ (I 224 2).toInt64 = aRu (sA S) 4) ∧ (∀ m, m < aM (sA S) → L 220 m = aNm (sA S) m) ∧
  (I 217 2 = nI (sC S) ∧ sC S ≤ 8 ∧ ∀ k, k < sC S → NwAt (fun j => L 219 (210 * (sC S - 1 - k) + j)) (sH S k)) ∧ (I 217 20 = nI (sN S) ∧ sN S ≤ 700 ∧ ∀ j, j < sN S → I 227 j = nI (sB S j) ∧ sB S j < 256) ∧ I 217 21 = nI (sF S) ∧ I 217 22 = sQ S
def MJ (z : Nat) : Prop := 217 ≤ z ∧ z < 238
def MPost (v : Option Value) (S : HS) (Λ : hc_L) (I : hc_I) (L : hc_J) (R : hc_R) : hc_Q := fun r Λ' I' L' R' => r = v ∧ Λ = Λ' ∧ R = R' ∧ (∀ z, ¬ MJ z → I' z = I z) ∧ (∀ z, ¬ MJ z → L' z = L z) ∧ MW Λ I' L' S
section MWA
variable {Λ : hc_L} {I : hc_I} {L : hc_J} {S : HS}
theorem MW.m (h : MW Λ I L S) : MC Λ I L (sA S) (-1) := h.1
theorem MW.l (h : MW Λ I L S) : ML I L (sP S) := h.2.1
theorem MW.r0 (h : MW Λ I L S) : (I 224 0).toInt64 = aRu (sA S) 2 := h.2.2.1.1
theorem MW.r1 (h : MW Λ I L S) : (I 224 1).toInt64 = aRu (sA S) 3 := h.2.2.1.2.1
theorem MW.r2 (h : MW Λ I L S) : (I 224 2).toInt64 = aRu (sA S) 4 := h.2.2.1.2.2
theorem MW.nm (h : MW Λ I L S) {m : Nat} (hm : m < aM (sA S)) : L 220 m = aNm (sA S) m := h.2.2.2.1 m hm
theorem MW.c (h : MW Λ I L S) : I 217 2 = nI (sC S) := h.2.2.2.2.1.1
theorem MW.c8 (h : MW Λ I L S) : sC S ≤ 8 := h.2.2.2.2.1.2.1
theorem MW.t (h : MW Λ I L S) : I 217 20 = nI (sN S) := h.2.2.2.2.2.1.1
theorem MW.n7 (h : MW Λ I L S) : sN S ≤ 700 := h.2.2.2.2.2.1.2.1
theorem MW.f (h : MW Λ I L S) : I 217 21 = nI (sF S) := h.2.2.2.2.2.2.1
theorem MW.q (h : MW Λ I L S) : I 217 22 = sQ S := h.2.2.2.2.2.2.2
/-- scratch rows may change -/
theorem MW.fr {I' : hc_I} {L' : hc_J} (h : MW Λ I L S) (hI : ∀ z, z < 228 → I' z = I z) (hL : ∀ z, z < 228 → L' z = L z) : MW Λ I' L' S := by
  have e : I' 217 = I 217 := hI _ (by decide)
  refine ⟨h.m.kp (hL _ (by decide)) (hI _ (by decide)) (hI _ (by decide)) (hI _ (by decide)) (by rw [e]), h.l.kp (by rw [e]) (hI _ (by decide)) (hL _ (by decide)), by rw [hI 224 (by decide)]; exact h.2.2.1, fun m hm => by rw [hL 220 (by decide)]; exact h.nm hm, ⟨by rw [e]; exact h.c, h.c8, fun k hk => by rw [hL 219 (by decide)]; exact h.2.2.2.2.1.2.2 k hk⟩, ⟨by rw [e]; exact h.t, h.n7, fun j hj => by rw [hI 227 (by decide)]; exact h.2.2.2.2.2.1.2.2 j hj⟩, by rw [e]; exact h.f, by rw [e]; exact h.q⟩
end MWA
theorem MPost.q {v v' : Option Value} {S : HS} {Λ : hc_L} {I I' : hc_I} {L L' : hc_J} {R : hc_R} (h : MW Λ I L S) (hI : ∀ z, ¬ (228 ≤ z ∧ z < 238) → I' z = I z) (hL : ∀ z, ¬ (228 ≤ z ∧ z < 238) → L' z = L z) (hv : v' = v) : MPost v S Λ I L R v' Λ I' L' R := ⟨hv, rfl, rfl, fun z hz => hI z (fun q => hz ⟨by omega, q.2⟩), fun z hz => hL z (fun q => hz ⟨by omega, q.2⟩), h.fr (fun z hz => hI z (by omega)) (fun z hz => hL z (by omega))⟩
theorem MPost.r {v v' : Option Value} {S : HS} {Λ : hc_L} {I : hc_I} {L : hc_J} {R : hc_R} (h : MW Λ I L S) (hv : v' = v) : MPost v S Λ I L R v' Λ I L R := MPost.q h (fun _ _ => rfl) (fun _ _ => rfl) hv
theorem MPost.j {v v' : Option Value} {S : HS} {Λ : hc_L} {I : hc_I} {L L' : hc_J} {R : hc_R} (h : MW Λ I L S) (hL : ∀ z, ¬ mJ z → L' z = L z) (hv : v' = v) : MPost v S Λ I L R v' Λ I L' R := MPost.q h (fun _ _ => rfl) (fun z hz => hL z (fun q => hz (by unfold mJ at q; omega))) hv
/-! nobody is away -/
theorem nI_ne {k : Nat} (h : k < 2 ^ 31) : ¬ nI k = -1 := fun q => by
  have := congrArg Int32.toInt q
  rw [nI_toInt h] at this
  have e : (-1 : Int32).toInt = -1 := rfl
  rw [e] at this
  omega
theorem prX_m1 {A : AS} (h : aM A ≤ 12) : prX A (-1) = aIs A := by
  funext k
  unfold prX
  by_cases c : k < aM A
  · rw [decide_eq_false (nI_ne (by omega))]; rfl
  · have : aIs A k = false := by unfold aIs; rw [decide_eq_false c]; rfl
    rw [this, Bool.and_false]
theorem sumJ_0 {f : Nat → Int64} : ∀ {n : Nat}, (∀ j, j < n → f j = 0) → sumJ f n = 0
  | 0, _ => rfl
  | n + 1, h => by
    show sumJ f n + f n = 0
    rw [sumJ_0 (fun j hj => h j (by omega)), h n (by omega)]; rfl
theorem aSf_no {A : AS} {i k : Nat} (h : aIs A k = false) : aSf A i k = false := by
  unfold aSf aSt
  by_cases c : aFd A i 0 = k
  · rw [c, h, Bool.and_false, Bool.false_and]
  · rw [decide_eq_false c, Bool.and_false]
theorem gS_is (A : AS) (k : Nat) : gS A (aIs A) k = abSums A k (aF A) := by
  unfold gS
  split
  · rfl
  · rename_i c
    exact (sumJ_0 (fun j hj => if_neg (by rw [aSf_no (eq_false_of_ne_true c)]; decide))).symm
theorem gP_is (A : AS) (k : Nat) : gP A (aIs A) k = abPts A k (aF A) := by
  unfold gP
  split
  · rfl
  · rename_i c
    exact (sumJ_0 (fun j hj => if_neg (by rw [aSf_no (eq_false_of_ne_true c)]; decide))).symm
theorem gC_is (A : AS) (P : LwP) (k : Nat) : gC A P (aIs A) k = abClaims A P k (aF A) := by
  unfold gC
  split
  · rfl
  · rename_i c
    exact (sumJ_0 (fun j hj => if_neg (by rw [aSf_no (eq_false_of_ne_true c)]; decide))).symm
theorem sumJ_add {f g : Nat → Int64} : ∀ n, sumJ (fun j => f j + g j) n = sumJ f n + sumJ g n
  | 0 => rfl
  | n + 1 => by
    show sumJ (fun j => f j + g j) n + (f n + g n) = sumJ f n + f n + (sumJ g n + g n)
    rw [sumJ_add n, Int64.add_assoc, Int64.add_assoc, ← Int64.add_assoc (sumJ g n), Int64.add_comm (sumJ g n) (f n), Int64.add_assoc]
theorem sumJ_swap (f : Nat → Nat → Int64) (n : Nat) : ∀ m, sumJ (fun a => sumJ (f a) n) m = sumJ (fun b => sumJ (fun a => f a b) m) n
  | 0 => (sumJ_0 (fun _ _ => rfl)).symm
  | m + 1 => by
    show sumJ (fun a => sumJ (f a) n) m + sumJ (f m) n = sumJ (fun b => sumJ (fun a => f a b) m + f m b) n
    rw [sumJ_swap f n m, sumJ_add]
theorem sumJ_pick {c : Int64} {p : Nat} : ∀ {n : Nat}, p < n → sumJ (fun j => if j = p then c else 0) n = c
  | 0, h => absurd h (Nat.not_lt_zero _)
  | n + 1, h => by
    show sumJ (fun j => if j = p then c else 0) n + (if n = p then c else 0) = c
    by_cases e : n = p
    · rw [if_pos e, sumJ_0 (fun j hj => if_neg (by omega)), Int64.zero_add]
    · rw [if_neg e, sumJ_pick (by omega), Int64.add_zero]
/-- by members or by fields: the same -/
theorem own_sum {A : AS} (hA : wf A) (c : Nat → Int64) : sumJ (fun m => sumJ (fun i => if aSf A i m = true then c i else 0) (aF A)) (aM A) = sumJ (fun i => if aSt A i = true then c i else 0) (aF A) := by
  rw [sumJ_swap]
  refine sumJ_congr (fun i hi => ?_)
  by_cases s : aSt A i = true
  · rw [if_pos s]
    have : ∀ m, (if aSf A i m = true then c i else 0) = if m = aFd A i 0 then c i else 0 := fun m => by
      unfold aSf
      rw [s, Bool.true_and]
      by_cases e : aFd A i 0 = m
      · rw [decide_eq_true e, if_pos rfl, if_pos e.symm]
      · rw [decide_eq_false e, if_neg (by decide), if_neg (fun q => e q.symm)]
    rw [sumJ_congr (fun m _ => this m)]
    exact sumJ_pick (hA.2.2.2.2.2.2.2.1 i hi).1
  · rw [if_neg s]
    refine sumJ_0 (fun m _ => if_neg ?_)
    unfold aSf
    rw [eq_false_of_ne_true s, Bool.false_and]
    decide
theorem allS_eq {A : AS} (hA : wf A) : sumJ (gS A (prX A (-1))) (aM A) = abAllS A (aF A) := by
  rw [prX_m1 hA.m, sumJ_congr (fun m _ => gS_is A m)]
  exact own_sum hA _
theorem allP_eq {A : AS} (hA : wf A) : sumJ (gP A (prX A (-1))) (aM A) = abAllP A (aF A) := by
  rw [prX_m1 hA.m, sumJ_congr (fun m _ => gP_is A m)]
  exact own_sum hA _
theorem mMt_eq {A : AS} (hA : wf A) : mMt A (-1) (aM A) = abMt A (aM A) := by
  unfold mMt abMt
  refine sumI_congr (fun m hm => ?_)
  rw [prX_m1 hA.m]
  unfold aIs
  rw [decide_eq_true hm]; rfl
theorem lB_b (b : Bool) : (hc_b b).toInt64 = if b = true then 1 else 0 := by cases b <;> rfl
theorem lB_i (b : Bool) : lB b = if b = true then 1 else 0 := rfl
/-- an argument in bounds, as a long -/
theorem lIn_i {x : Int32} {N : Nat} (hN : N < 2 ^ 31) : lIn x.toInt64 0 (lN N) = (decide (0 ≤ x) && decide (x ≤ nI N)) := by
  unfold lIn
  have e2 : ((0 : Int64) ≤ x.toInt64) ↔ 0 ≤ x := by rw [Int64.le_iff_toInt_le, Int32.toInt_toInt64, Int32.le_iff_toInt_le]; rfl
  have e3 : (x.toInt64 ≤ lN N) ↔ x ≤ nI N := by rw [Int64.le_iff_toInt_le, Int32.toInt_toInt64, Int32.le_iff_toInt_le, lN_toInt hN, nI_toInt hN]
  rw [decide_eq_decide.mpr e2, decide_eq_decide.mpr e3]
theorem lIn_k {x : Int32} {N : Nat} (hN : N < 2 ^ 31) (h : lIn x.toInt64 0 (lN N) = true) : ∃ k, k ≤ N ∧ x = nI k := by
  rw [lIn_i hN, Bool.and_eq_true, decide_eq_true_eq, decide_eq_true_eq] at h
  obtain ⟨k, hk, rfl⟩ := hc_nn h.1
  exact ⟨k, (hc_le hk hN).mp h.2, rfl⟩
theorem lIn_n1 {x : Int32} {M : Nat} (hM : M < 2 ^ 31) : lIn x.toInt64 0 (lN M - 1) = (decide (0 ≤ x) && decide (x.toNatClampNeg < M)) := by
  have e1 : (lN M - 1).toInt = (M : Int) - 1 := by
    rcases Nat.eq_zero_or_pos M with q | q
    · rw [q]; rfl
    · rw [show (1 : Int64) = lN 1 from rfl, lN_sub q, lN_toInt (by omega)]; omega
  unfold lIn
  have e2 : ((0 : Int64) ≤ x.toInt64) ↔ 0 ≤ x := by rw [Int64.le_iff_toInt_le, Int32.toInt_toInt64, Int32.le_iff_toInt_le]; rfl
  rw [decide_eq_decide.mpr e2]
  by_cases c : 0 ≤ x
  · rw [decide_eq_true c, Bool.true_and, Bool.true_and]
    obtain ⟨n, hn, rfl⟩ := hc_nn c
    refine decide_eq_decide.mpr ?_
    rw [Int64.le_iff_toInt_le, e1, Int32.toInt_toInt64, nI_toInt hn, hc_cl hn]
    omega
  · rw [decide_eq_false c, Bool.false_and, Bool.false_and]
set_option maxRecDepth 100000 in
theorem m_fault {Λ : hc_L} {I : hc_I} {L : hc_J} {R : hc_R} {S : HS} (hW : MW Λ I L S) (x : Int32) : Run xX11_fault [.ref 217, .int x] Λ I L R (MPost (some (.int (qFault S x))) S Λ I L R) := by
  refine Run.of (by decide +kernel) (Nat.le_of_ble_eq_true rfl) ?_
  show LW _ _ _ [(0, .ref 217), (1, .int x)] _ _ _ _ _ _
  have hM := hW.m
  have hP := hW.l
  have hY := hM.y
  refine LW_iloadn 1 dX11_fault_0 rfl rfl ?_
  refine LW_if_ne (tgt := 11) dX11_fault_1 (by decide) (fun c1 => ?_) (fun c1 => ?_)
  · refine LW_iloadn 1 dX11_fault_11 rfl rfl ?_
    refine LW_iconst (v := 1) dX11_fault_12 (by decide) ?_
    refine LW_icmp_ne (tgt := 23) dX11_fault_13 (by decide) (fun c13 => ?_) (fun c13 => ?_)
    · refine LW_iconst (v := -1) dX11_fault_23 (by decide) ?_
      refine LW_iret dX11_fault_24 rfl (Nat.le_of_ble_eq_true rfl) (Nat.le_of_ble_eq_true rfl) ?_
      refine MPost.r hW ?_
      unfold qFault
      rw [if_neg c1, if_neg c13]
    · refine LW_aloadn 0 dX11_fault_16 rfl rfl ?_
      refine gX11_22 dX11_fault_17 flX11_43 (hY.lt (k := 217) (by decide)) (ly217 hY) ?_
      rw [show I 217 22 = sQ S from hW.q]
      refine LW_goto (tgt := 24) dX11_fault_20 (by decide) ?_
      refine LW_iret dX11_fault_24 rfl (Nat.le_of_ble_eq_true rfl) (Nat.le_of_ble_eq_true rfl) ?_
      refine MPost.r hW ?_
      unfold qFault
      rw [if_neg c1, if_pos (Classical.not_not.mp c13)]
  · refine LW_aloadn 0 dX11_fault_4 rfl rfl ?_
    refine gX11_21 dX11_fault_5 flX11_240 (hY.lt (k := 217) (by decide)) (ly217 hY) ?_
    rw [show I 217 21 = nI (sF S) from hW.f]
    refine LW_goto (tgt := 24) dX11_fault_8 (by decide) ?_
    refine LW_iret dX11_fault_24 rfl (Nat.le_of_ble_eq_true rfl) (Nat.le_of_ble_eq_true rfl) ?_
    refine MPost.r hW ?_
    unfold qFault
    rw [if_pos (Classical.not_not.mp c1)]
set_option maxRecDepth 100000 in
theorem m_hazard {Λ : hc_L} {I : hc_I} {L : hc_J} {R : hc_R} {S : HS} (hW : MW Λ I L S) (x y : Int32) : Run xX11_hazard [.ref 217, .int x, .int y] Λ I L R (MPost (some (.int (qHaz (sA S) x y))) S Λ I L R) := by
  refine Run.of (by decide +kernel) (Nat.le_of_ble_eq_true rfl) ?_
  show LW _ _ _ [(0, .ref 217), (1, .int x), (2, .int y)] _ _ _ _ _ _
  have hM := hW.m
  have hP := hW.l
  have hY := hM.y
  refine LW_iloadn 1 dX11_hazard_0 rfl rfl ?_
  refine LW_i2l dX11_hazard_1 ?_
  refine LW_lconst (v := 0) dX11_hazard_2 (by decide) ?_
  refine LW_ldc2 dX11_hazard_3 klX11_376 ?_
  refine LW_callS (As := [.long x.toInt64, .long 0, .long 7]) (st := []) (r_isIn x.toInt64 0 7) YX11_isIn rfl dX11_hazard_6 mlX11_126 (by decide) ⟨Nat.le_of_ble_eq_true rfl, Nat.le_of_ble_eq_true rfl⟩ (Nat.le_of_ble_eq_true rfl) rfl (fun r6 Λc6 Ic6 Lc6 Rc6 hq6 => ?_)
  obtain ⟨rfl, rfl, rfl, rfl, rfl⟩ := hq6
  refine LW_bif_eq (tgt := 38) dX11_hazard_9 (by decide) (fun c9 => ?_) (fun c9 => ?_)
  · refine LW_iconst (v := -1) dX11_hazard_38 (by decide) ?_
    refine LW_iret dX11_hazard_39 rfl (Nat.le_of_ble_eq_true rfl) (Nat.le_of_ble_eq_true rfl) ?_
    refine MPost.r hW ?_
    unfold qHaz
    rw [if_neg (fun z => ?_)]
    obtain ⟨a, b, rfl, rfl, ha, hb⟩ := aCell_k z
    have e1 : lIn (nI a).toInt64 0 (lN 7) = true := by rw [lIn_i (by decide), decide_eq_true (nI_nn (by omega)), decide_eq_true ((hc_le (by omega) (by decide)).mpr (by omega))]; rfl
    have e2 : lIn (nI b).toInt64 0 (lN 7) = true := by rw [lIn_i (by decide), decide_eq_true (nI_nn (by omega)), decide_eq_true ((hc_le (by omega) (by decide)).mpr (by omega))]; rfl
    first | (exact absurd (e1.symm.trans c9) (by decide)) | (exact absurd (e2.symm.trans c21) (by decide))
  · refine LW_iloadn 2 dX11_hazard_12 rfl rfl ?_
    refine LW_i2l dX11_hazard_13 ?_
    refine LW_lconst (v := 0) dX11_hazard_14 (by decide) ?_
    refine LW_ldc2 dX11_hazard_15 klX11_376 ?_
    refine LW_callS (As := [.long y.toInt64, .long 0, .long 7]) (st := []) (r_isIn y.toInt64 0 7) YX11_isIn rfl dX11_hazard_18 mlX11_126 (by decide) ⟨Nat.le_of_ble_eq_true rfl, Nat.le_of_ble_eq_true rfl⟩ (Nat.le_of_ble_eq_true rfl) rfl (fun r18 Λc18 Ic18 Lc18 Rc18 hq18 => ?_)
    obtain ⟨rfl, rfl, rfl, rfl, rfl⟩ := hq18
    refine LW_bif_eq (tgt := 38) dX11_hazard_21 (by decide) (fun c21 => ?_) (fun c21 => ?_)
    · refine LW_iconst (v := -1) dX11_hazard_38 (by decide) ?_
      refine LW_iret dX11_hazard_39 rfl (Nat.le_of_ble_eq_true rfl) (Nat.le_of_ble_eq_true rfl) ?_
      refine MPost.r hW ?_
      unfold qHaz
      rw [if_neg (fun z => ?_)]
      obtain ⟨a, b, rfl, rfl, ha, hb⟩ := aCell_k z
      have e1 : lIn (nI a).toInt64 0 (lN 7) = true := by rw [lIn_i (by decide), decide_eq_true (nI_nn (by omega)), decide_eq_true ((hc_le (by omega) (by decide)).mpr (by omega))]; rfl
      have e2 : lIn (nI b).toInt64 0 (lN 7) = true := by rw [lIn_i (by decide), decide_eq_true (nI_nn (by omega)), decide_eq_true ((hc_le (by omega) (by decide)).mpr (by omega))]; rfl
      first | (exact absurd (e1.symm.trans c9) (by decide)) | (exact absurd (e2.symm.trans c21) (by decide))
    · obtain ⟨a, ha, rfl⟩ := lIn_k (N := 7) (by decide) c9
      obtain ⟨b, hb, rfl⟩ := lIn_k (N := 7) (by decide) c21
      have hcell : aCell (nI a) (nI b) = true := aCell_n (by omega) (by omega)
      refine LW_aloadn 0 dX11_hazard_24 rfl rfl ?_
      refine gX11_5 dX11_hazard_25 flX11_25 (hY.lt (k := 217) (by decide)) (ly217 hY) (lf217_5 hY) ?_
      refine LW_bipush (v := 8) dX11_hazard_28 (by decide) ?_
      refine LW_iloadn 2 dX11_hazard_30 rfl rfl ?_
      refine LW_imul dX11_hazard_31 ?_
      rw [show (8 * (nI b)) = nI (b * 8) from (by rw [show (8 : Int32) = nI 8 from rfl, nI_mul, Nat.mul_comm])]
      refine LW_iloadn 1 dX11_hazard_32 rfl rfl ?_
      refine LW_iadd dX11_hazard_33 ?_
      rw [show ((nI (b * 8)) + (nI a)) = nI (b * 8 + a) from (nI_add _ _)]
      refine LW_iald dX11_hazard_34 (hY.lt (k := 222) (by decide)) (ly222 hY) rfl (by omega) (Nat.le_of_ble_eq_true rfl) ?_
      rw [show I 222 (b * 8 + a) = nI (aHzAt (sA S) a b) from hM.hz (by omega)]
      refine LW_goto (tgt := 39) dX11_hazard_35 (by decide) ?_
      refine LW_iret dX11_hazard_39 rfl (Nat.le_of_ble_eq_true rfl) (Nat.le_of_ble_eq_true rfl) ?_
      refine MPost.r hW ?_
      unfold qHaz
      rw [if_pos hcell, hc_cl (by omega), hc_cl (by omega)]
set_option maxRecDepth 100000 in
theorem m_club0 {Λ : hc_L} {I : hc_I} {L : hc_J} {R : hc_R} {S : HS} (hW : MW Λ I L S)  : Run xX11_club [.ref 217, .int 0] Λ I L R (MPost (some (.long (qClub (sA S) 0))) S Λ I L R) := by
  refine Run.of (by decide +kernel) (Nat.le_of_ble_eq_true rfl) ?_
  show LW _ _ _ [(0, .ref 217), (1, .int 0)] _ _ _ _ _ _
  have hM := hW.m
  have hP := hW.l
  have hY := hM.y
  refine LW_iloadn 1 dX11_club_0 rfl rfl ?_
  refine LW_tableIn (off := 55) (tgt := 56) dX11_club_1 (by decide) (by decide) (by decide) (by decide) ?_
  refine LW_aloadn 0 dX11_club_56 rfl rfl ?_
  refine gX11_0 dX11_club_57 flX11_9 (hY.lt (k := 217) (by decide)) (ly217 hY) (lf217_0 hY) ?_
  refine LW_iconst (v := 0) dX11_club_60 (by decide) ?_
  refine LW_lald dX11_club_61 (hY.lt (k := 218) (by decide)) (ly218 hY) rfl (by decide) (Nat.le_of_ble_eq_true rfl) ?_
  rw [show L 218 0 = aRu (sA S) 0 from hM.n.1.1]
  refine LW_lret dX11_club_62 rfl (Nat.le_of_ble_eq_true rfl) (Nat.le_of_ble_eq_true rfl) ?_
  refine MPost.r hW ?_
  unfold qClub
  rw [if_pos (by decide)]; rfl
set_option maxRecDepth 100000 in
theorem m_club1 {Λ : hc_L} {I : hc_I} {L : hc_J} {R : hc_R} {S : HS} (hW : MW Λ I L S)  : Run xX11_club [.ref 217, .int 1] Λ I L R (MPost (some (.long (qClub (sA S) 1))) S Λ I L R) := by
  refine Run.of (by decide +kernel) (Nat.le_of_ble_eq_true rfl) ?_
  show LW _ _ _ [(0, .ref 217), (1, .int 1)] _ _ _ _ _ _
  have hM := hW.m
  have hP := hW.l
  have hY := hM.y
  refine LW_iloadn 1 dX11_club_0 rfl rfl ?_
  refine LW_tableIn (off := 62) (tgt := 63) dX11_club_1 (by decide) (by decide) (by decide) (by decide) ?_
  refine LW_aloadn 0 dX11_club_63 rfl rfl ?_
  refine gX11_0 dX11_club_64 flX11_9 (hY.lt (k := 217) (by decide)) (ly217 hY) (lf217_0 hY) ?_
  refine LW_iconst (v := 1) dX11_club_67 (by decide) ?_
  refine LW_lald dX11_club_68 (hY.lt (k := 218) (by decide)) (ly218 hY) rfl (by decide) (Nat.le_of_ble_eq_true rfl) ?_
  rw [show L 218 1 = aRu (sA S) 1 from hM.n.1.2.1]
  refine LW_lret dX11_club_69 rfl (Nat.le_of_ble_eq_true rfl) (Nat.le_of_ble_eq_true rfl) ?_
  refine MPost.r hW ?_
  unfold qClub
  rw [if_pos (by decide)]; rfl
set_option maxRecDepth 100000 in
theorem m_club2 {Λ : hc_L} {I : hc_I} {L : hc_J} {R : hc_R} {S : HS} (hW : MW Λ I L S)  : Run xX11_club [.ref 217, .int 2] Λ I L R (MPost (some (.long (qClub (sA S) 2))) S Λ I L R) := by
  refine Run.of (by decide +kernel) (Nat.le_of_ble_eq_true rfl) ?_
  show LW _ _ _ [(0, .ref 217), (1, .int 2)] _ _ _ _ _ _
  have hM := hW.m
  have hP := hW.l
  have hY := hM.y
  refine LW_iloadn 1 dX11_club_0 rfl rfl ?_
  refine LW_tableIn (off := 69) (tgt := 70) dX11_club_1 (by decide) (by decide) (by decide) (by decide) ?_
  refine LW_aloadn 0 dX11_club_70 rfl rfl ?_
  refine gX11_7 dX11_club_71 flX11_31 (hY.lt (k := 217) (by decide)) (ly217 hY) (lf217_7 hY) ?_
  refine LW_iconst (v := 0) dX11_club_74 (by decide) ?_
  refine LW_iald dX11_club_75 (hY.lt (k := 224) (by decide)) (ly224 hY) rfl (by decide) (Nat.le_of_ble_eq_true rfl) ?_
  refine LW_i2l dX11_club_76 ?_
  rw [show (I 224 0).toInt64 = aRu (sA S) 2 from hW.r0]
  refine LW_lret dX11_club_77 rfl (Nat.le_of_ble_eq_true rfl) (Nat.le_of_ble_eq_true rfl) ?_
  refine MPost.r hW ?_
  unfold qClub
  rw [if_pos (by decide)]; rfl
set_option maxRecDepth 100000 in
theorem m_club3 {Λ : hc_L} {I : hc_I} {L : hc_J} {R : hc_R} {S : HS} (hW : MW Λ I L S)  : Run xX11_club [.ref 217, .int 3] Λ I L R (MPost (some (.long (qClub (sA S) 3))) S Λ I L R) := by
  refine Run.of (by decide +kernel) (Nat.le_of_ble_eq_true rfl) ?_
  show LW _ _ _ [(0, .ref 217), (1, .int 3)] _ _ _ _ _ _
  have hM := hW.m
  have hP := hW.l
  have hY := hM.y
  refine LW_iloadn 1 dX11_club_0 rfl rfl ?_
  refine LW_tableIn (off := 77) (tgt := 78) dX11_club_1 (by decide) (by decide) (by decide) (by decide) ?_
  refine LW_aloadn 0 dX11_club_78 rfl rfl ?_
  refine gX11_7 dX11_club_79 flX11_31 (hY.lt (k := 217) (by decide)) (ly217 hY) (lf217_7 hY) ?_
  refine LW_iconst (v := 1) dX11_club_82 (by decide) ?_
  refine LW_iald dX11_club_83 (hY.lt (k := 224) (by decide)) (ly224 hY) rfl (by decide) (Nat.le_of_ble_eq_true rfl) ?_
  refine LW_i2l dX11_club_84 ?_
  rw [show (I 224 1).toInt64 = aRu (sA S) 3 from hW.r1]
  refine LW_lret dX11_club_85 rfl (Nat.le_of_ble_eq_true rfl) (Nat.le_of_ble_eq_true rfl) ?_
  refine MPost.r hW ?_
  unfold qClub
  rw [if_pos (by decide)]; rfl
set_option maxRecDepth 100000 in
theorem m_club4 {Λ : hc_L} {I : hc_I} {L : hc_J} {R : hc_R} {S : HS} (hW : MW Λ I L S)  : Run xX11_club [.ref 217, .int 4] Λ I L R (MPost (some (.long (qClub (sA S) 4))) S Λ I L R) := by
  refine Run.of (by decide +kernel) (Nat.le_of_ble_eq_true rfl) ?_
  show LW _ _ _ [(0, .ref 217), (1, .int 4)] _ _ _ _ _ _
  have hM := hW.m
  have hP := hW.l
  have hY := hM.y
  refine LW_iloadn 1 dX11_club_0 rfl rfl ?_
  refine LW_tableIn (off := 85) (tgt := 86) dX11_club_1 (by decide) (by decide) (by decide) (by decide) ?_
  refine LW_aloadn 0 dX11_club_86 rfl rfl ?_
  refine gX11_7 dX11_club_87 flX11_31 (hY.lt (k := 217) (by decide)) (ly217 hY) (lf217_7 hY) ?_
  refine LW_iconst (v := 2) dX11_club_90 (by decide) ?_
  refine LW_iald dX11_club_91 (hY.lt (k := 224) (by decide)) (ly224 hY) rfl (by decide) (Nat.le_of_ble_eq_true rfl) ?_
  refine LW_i2l dX11_club_92 ?_
  rw [show (I 224 2).toInt64 = aRu (sA S) 4 from hW.r2]
  refine LW_lret dX11_club_93 rfl (Nat.le_of_ble_eq_true rfl) (Nat.le_of_ble_eq_true rfl) ?_
  refine MPost.r hW ?_
  unfold qClub
  rw [if_pos (by decide)]; rfl
set_option maxRecDepth 100000 in
theorem m_club5 {Λ : hc_L} {I : hc_I} {L : hc_J} {R : hc_R} {S : HS} (hW : MW Λ I L S)  : Run xX11_club [.ref 217, .int 5] Λ I L R (MPost (some (.long (qClub (sA S) 5))) S Λ I L R) := by
  refine Run.of (by decide +kernel) (Nat.le_of_ble_eq_true rfl) ?_
  show LW _ _ _ [(0, .ref 217), (1, .int 5)] _ _ _ _ _ _
  have hM := hW.m
  have hP := hW.l
  have hY := hM.y
  refine LW_iloadn 1 dX11_club_0 rfl rfl ?_
  refine LW_tableIn (off := 93) (tgt := 94) dX11_club_1 (by decide) (by decide) (by decide) (by decide) ?_
  refine LW_aloadn 0 dX11_club_94 rfl rfl ?_
  refine gX11_0 dX11_club_95 flX11_9 (hY.lt (k := 217) (by decide)) (ly217 hY) (lf217_0 hY) ?_
  refine LW_iconst (v := 2) dX11_club_98 (by decide) ?_
  refine LW_lald dX11_club_99 (hY.lt (k := 218) (by decide)) (ly218 hY) rfl (by decide) (Nat.le_of_ble_eq_true rfl) ?_
  rw [show L 218 2 = aRu (sA S) 5 from hM.n.1.2.2.1]
  refine LW_lret dX11_club_100 rfl (Nat.le_of_ble_eq_true rfl) (Nat.le_of_ble_eq_true rfl) ?_
  refine MPost.r hW ?_
  unfold qClub
  rw [if_pos (by decide)]; rfl
set_option maxRecDepth 100000 in
theorem m_club6 {Λ : hc_L} {I : hc_I} {L : hc_J} {R : hc_R} {S : HS} (hW : MW Λ I L S)  : Run xX11_club [.ref 217, .int 6] Λ I L R (MPost (some (.long (qClub (sA S) 6))) S Λ I L R) := by
  refine Run.of (by decide +kernel) (Nat.le_of_ble_eq_true rfl) ?_
  show LW _ _ _ [(0, .ref 217), (1, .int 6)] _ _ _ _ _ _
  have hM := hW.m
  have hP := hW.l
  have hY := hM.y
  refine LW_iloadn 1 dX11_club_0 rfl rfl ?_
  refine LW_tableIn (off := 100) (tgt := 101) dX11_club_1 (by decide) (by decide) (by decide) (by decide) ?_
  refine LW_aloadn 0 dX11_club_101 rfl rfl ?_
  refine gX11_0 dX11_club_102 flX11_9 (hY.lt (k := 217) (by decide)) (ly217 hY) (lf217_0 hY) ?_
  refine LW_iconst (v := 3) dX11_club_105 (by decide) ?_
  refine LW_lald dX11_club_106 (hY.lt (k := 218) (by decide)) (ly218 hY) rfl (by decide) (Nat.le_of_ble_eq_true rfl) ?_
  rw [show L 218 3 = aRu (sA S) 6 from hM.n.1.2.2.2]
  refine LW_lret dX11_club_107 rfl (Nat.le_of_ble_eq_true rfl) (Nat.le_of_ble_eq_true rfl) ?_
  refine MPost.r hW ?_
  unfold qClub
  rw [if_pos (by decide)]; rfl
set_option maxRecDepth 100000 in
theorem m_club7 {Λ : hc_L} {I : hc_I} {L : hc_J} {R : hc_R} {S : HS} (hW : MW Λ I L S)  : Run xX11_club [.ref 217, .int 7] Λ I L R (MPost (some (.long (qClub (sA S) 7))) S Λ I L R) := by
  refine Run.of (by decide +kernel) (Nat.le_of_ble_eq_true rfl) ?_
  show LW _ _ _ [(0, .ref 217), (1, .int 7)] _ _ _ _ _ _
  have hM := hW.m
  have hP := hW.l
  have hY := hM.y
  refine LW_iloadn 1 dX11_club_0 rfl rfl ?_
  refine LW_tableIn (off := 107) (tgt := 108) dX11_club_1 (by decide) (by decide) (by decide) (by decide) ?_
  refine LW_aloadn 0 dX11_club_108 rfl rfl ?_
  refine gX11_0 dX11_club_109 flX11_9 (hY.lt (k := 217) (by decide)) (ly217 hY) (lf217_0 hY) ?_
  refine LW_iconst (v := 3) dX11_club_112 (by decide) ?_
  refine LW_lald dX11_club_113 (hY.lt (k := 218) (by decide)) (ly218 hY) rfl (by decide) (Nat.le_of_ble_eq_true rfl) ?_
  rw [show L 218 3 = aRu (sA S) 6 from hM.n.1.2.2.2]
  refine LW_aloadn 0 dX11_club_114 rfl rfl ?_
  refine LW_callV (As := []) (b := 217) (st := [.long (aRu (sA S) 6)]) (ci := 11) (r := (RX11, TX11, 44)) (r_mSumsAll hM) YX11_sumsAll rfl dX11_club_115 mlX11_410 (hY.lt (k := 217) (by decide)) (ly217 hY) ⟨rfl, rfl⟩ (by decide) ⟨Nat.le_of_ble_eq_true rfl, Nat.le_of_ble_eq_true rfl⟩ (Nat.le_of_ble_eq_true rfl) rfl (fun r115 Λc115 Ic115 Lc115 Rc115 hq115 => ?_)
  obtain ⟨rfl, rfl, rfl, rfl, rfl⟩ := hq115
  refine LW_lmul dX11_club_118 ?_
  refine LW_ldc2 dX11_club_119 klX11_352 ?_
  refine LW_ldiv dX11_club_122 (by decide) ?_
  refine LW_lret dX11_club_123 rfl (Nat.le_of_ble_eq_true rfl) (Nat.le_of_ble_eq_true rfl) ?_
  refine MPost.r hW ?_
  unfold qClub
  rw [if_neg (by decide), if_pos rfl, allS_eq hM.w]
set_option maxRecDepth 100000 in
theorem m_club8 {Λ : hc_L} {I : hc_I} {L : hc_J} {R : hc_R} {S : HS} (hW : MW Λ I L S)  : Run xX11_club [.ref 217, .int 8] Λ I L R (MPost (some (.long (qClub (sA S) 8))) S Λ I L R) := by
  refine Run.of (by decide +kernel) (Nat.le_of_ble_eq_true rfl) ?_
  show LW _ _ _ [(0, .ref 217), (1, .int 8)] _ _ _ _ _ _
  have hM := hW.m
  have hP := hW.l
  have hY := hM.y
  refine LW_iloadn 1 dX11_club_0 rfl rfl ?_
  refine LW_tableIn (off := 123) (tgt := 124) dX11_club_1 (by decide) (by decide) (by decide) (by decide) ?_
  refine LW_aloadn 0 dX11_club_124 rfl rfl ?_
  refine LW_callV (As := []) (b := 217) (st := []) (ci := 11) (r := (RX11, TX11, 44)) (r_mSumsAll hM) YX11_sumsAll rfl dX11_club_125 mlX11_410 (hY.lt (k := 217) (by decide)) (ly217 hY) ⟨rfl, rfl⟩ (by decide) ⟨Nat.le_of_ble_eq_true rfl, Nat.le_of_ble_eq_true rfl⟩ (Nat.le_of_ble_eq_true rfl) rfl (fun r125 Λc125 Ic125 Lc125 Rc125 hq125 => ?_)
  obtain ⟨rfl, rfl, rfl, rfl, rfl⟩ := hq125
  refine LW_lret dX11_club_128 rfl (Nat.le_of_ble_eq_true rfl) (Nat.le_of_ble_eq_true rfl) ?_
  refine MPost.r hW ?_
  unfold qClub
  rw [if_neg (by decide), if_neg (by decide), if_pos rfl, allS_eq hM.w]
set_option maxRecDepth 100000 in
theorem m_club9 {Λ : hc_L} {I : hc_I} {L : hc_J} {R : hc_R} {S : HS} (hW : MW Λ I L S)  : Run xX11_club [.ref 217, .int 9] Λ I L R (MPost (some (.long (qClub (sA S) 9))) S Λ I L R) := by
  refine Run.of (by decide +kernel) (Nat.le_of_ble_eq_true rfl) ?_
  show LW _ _ _ [(0, .ref 217), (1, .int 9)] _ _ _ _ _ _
  have hM := hW.m
  have hP := hW.l
  have hY := hM.y
  refine LW_iloadn 1 dX11_club_0 rfl rfl ?_
  refine LW_tableIn (off := 128) (tgt := 129) dX11_club_1 (by decide) (by decide) (by decide) (by decide) ?_
  refine LW_aloadn 0 dX11_club_129 rfl rfl ?_
  refine LW_callV (As := []) (b := 217) (st := []) (ci := 11) (r := (RX11, TX11, 44)) (r_mPointsAll hM) YX11_pointsAll rfl dX11_club_130 mlX11_322 (hY.lt (k := 217) (by decide)) (ly217 hY) ⟨rfl, rfl⟩ (by decide) ⟨Nat.le_of_ble_eq_true rfl, Nat.le_of_ble_eq_true rfl⟩ (Nat.le_of_ble_eq_true rfl) rfl (fun r130 Λc130 Ic130 Lc130 Rc130 hq130 => ?_)
  obtain ⟨rfl, rfl, rfl, rfl, rfl⟩ := hq130
  refine LW_lret dX11_club_133 rfl (Nat.le_of_ble_eq_true rfl) (Nat.le_of_ble_eq_true rfl) ?_
  refine MPost.r hW ?_
  unfold qClub
  rw [if_neg (by decide), if_neg (by decide), if_neg (by decide), if_pos rfl, allP_eq hM.w]
set_option maxRecDepth 100000 in
theorem m_clubE {Λ : hc_L} {I : hc_I} {L : hc_J} {R : hc_R} {S : HS} (hW : MW Λ I L S) {x : Int32} (hx : x ≠ 0 ∧ x ≠ 1 ∧ x ≠ 2 ∧ x ≠ 3 ∧ x ≠ 4 ∧ x ≠ 5 ∧ x ≠ 6 ∧ x ≠ 7 ∧ x ≠ 8 ∧ x ≠ 9) : Run xX11_club [.ref 217, .int x] Λ I L R (MPost (some (.long (qClub (sA S) x))) S Λ I L R) := by
  refine Run.of (by decide +kernel) (Nat.le_of_ble_eq_true rfl) ?_
  show LW _ _ _ [(0, .ref 217), (1, .int x)] _ _ _ _ _ _
  have hM := hW.m
  have hP := hW.l
  have hY := hM.y
  have ho : ∀ k, k ≤ 9 → x ≠ nI k := fun k hk => by
    rcases (show k = 0 ∨ k = 1 ∨ k = 2 ∨ k = 3 ∨ k = 4 ∨ k = 5 ∨ k = 6 ∨ k = 7 ∨ k = 8 ∨ k = 9 by omega) with rfl | rfl | rfl | rfl | rfl | rfl | rfl | rfl | rfl | rfl
    · exact hx.1
    · exact hx.2.1
    · exact hx.2.2.1
    · exact hx.2.2.2.1
    · exact hx.2.2.2.2.1
    · exact hx.2.2.2.2.2.1
    · exact hx.2.2.2.2.2.2.1
    · exact hx.2.2.2.2.2.2.2.1
    · exact hx.2.2.2.2.2.2.2.2.1
    · exact hx.2.2.2.2.2.2.2.2.2
  have h7 : ¬ (0 ≤ x ∧ x < 7) := fun z => by
    obtain ⟨k, hk, e⟩ := x_in (N := 7) (by decide) z.1 z.2
    exact ho k (by omega) e
  refine LW_iloadn 1 dX11_club_0 rfl rfl ?_
  refine LW_tableOut (tgt := 134) dX11_club_1 (tsw (N := 9) (by decide) ho) (by decide) ?_
  refine LW_ldc2 dX11_club_134 klX11_402 ?_
  refine LW_lret dX11_club_137 rfl (Nat.le_of_ble_eq_true rfl) (Nat.le_of_ble_eq_true rfl) ?_
  exact MPost.r hW (by unfold qClub; rw [if_neg h7, if_neg (show x ≠ 7 from ho 7 (by decide)), if_neg (show x ≠ 8 from ho 8 (by decide)), if_neg (show x ≠ 9 from ho 9 (by decide))])
theorem m_club {Λ : hc_L} {I : hc_I} {L : hc_J} {R : hc_R} {S : HS} (hW : MW Λ I L S) (x : Int32) : Run xX11_club [.ref 217, .int x] Λ I L R (MPost (some (.long (qClub (sA S) x))) S Λ I L R) := by
  by_cases k0 : x = 0
  · subst k0; exact m_club0 hW
  by_cases k1 : x = 1
  · subst k1; exact m_club1 hW
  by_cases k2 : x = 2
  · subst k2; exact m_club2 hW
  by_cases k3 : x = 3
  · subst k3; exact m_club3 hW
  by_cases k4 : x = 4
  · subst k4; exact m_club4 hW
  by_cases k5 : x = 5
  · subst k5; exact m_club5 hW
  by_cases k6 : x = 6
  · subst k6; exact m_club6 hW
  by_cases k7 : x = 7
  · subst k7; exact m_club7 hW
  by_cases k8 : x = 8
  · subst k8; exact m_club8 hW
  by_cases k9 : x = 9
  · subst k9; exact m_club9 hW
  exact m_clubE hW ⟨k0, k1, k2, k3, k4, k5, k6, k7, k8, k9⟩
set_option maxRecDepth 100000 in
theorem m_then {Λ : hc_L} {I : hc_I} {L : hc_J} {R : hc_R} {S : HS} (hW : MW Λ I L S) (x y : Int32) : Run xX11_then [.ref 217, .int x, .int y] Λ I L R (MPost (some (.long (qThen (sA S) x y))) S Λ I L R) := by
  refine Run.of (by decide +kernel) (Nat.le_of_ble_eq_true rfl) ?_
  show LW _ _ _ [(0, .ref 217), (1, .int x), (2, .int y)] _ _ _ _ _ _
  have hM := hW.m
  have hP := hW.l
  have hY := hM.y
  refine LW_aloadn 0 dX11_then_0 rfl rfl ?_
  refine gX11_0 dX11_then_1 flX11_9 (hY.lt (k := 217) (by decide)) (ly217 hY) (lf217_0 hY) ?_
  refine LW_bipush (v := 8) dX11_then_4 (by decide) ?_
  refine LW_lald dX11_then_6 (hY.lt (k := 218) (by decide)) (ly218 hY) rfl (by decide) (Nat.le_of_ble_eq_true rfl) ?_
  refine LW_lconst (v := 1) dX11_then_7 (by decide) ?_
  refine LW_lcmp dX11_then_8 ?_
  refine LW_lif_ne (tgt := 68) dX11_then_9 (by decide) (fun c9 => ?_) (fun c9 => ?_)
  · refine LW_ldc2 dX11_then_68 klX11_439 ?_
    refine LW_lret dX11_then_71 rfl (Nat.le_of_ble_eq_true rfl) (Nat.le_of_ble_eq_true rfl) ?_
    refine MPost.r hW ?_
    unfold qThen
    rw [if_neg]
    rintro ⟨⟨u1, u2⟩, ⟨v1, v2⟩, u3⟩
    first | (rw [hc_cl (by omega)] at u3; exact c48 (by rw [(lB_1 _).mpr u3])) | skip
    all_goals
      obtain ⟨a, ha, rfl⟩ := x_in (N := 12) (by decide) u1 u2
      obtain ⟨b, hb, rfl⟩ := x_in (N := 6) (by decide) v1 v2
      rw [hc_cl (by omega)] at u3
      have h8 := (hM.n.2.2.2.2.2 a ha u3).1
      have e1 : lIn (nI a).toInt64 0 (lN 11) = true := by rw [lIn_i (by decide), decide_eq_true (nI_nn (by omega)), decide_eq_true ((hc_le (by omega) (by decide)).mpr (by omega))]; rfl
      have e2 : lIn (nI b).toInt64 0 (lN 5) = true := by rw [lIn_i (by decide), decide_eq_true (nI_nn (by omega)), decide_eq_true ((hc_le (by omega) (by decide)).mpr (by omega))]; rfl
      first | (exact absurd (e1.symm.trans c21) (by decide)) | (exact absurd (e2.symm.trans c33) (by decide)) | (exact c9 h8)
  · refine LW_iloadn 1 dX11_then_12 rfl rfl ?_
    refine LW_i2l dX11_then_13 ?_
    refine LW_lconst (v := 0) dX11_then_14 (by decide) ?_
    refine LW_ldc2 dX11_then_15 klX11_441 ?_
    refine LW_callS (As := [.long x.toInt64, .long 0, .long 11]) (st := []) (r_isIn x.toInt64 0 11) YX11_isIn rfl dX11_then_18 mlX11_126 (by decide) ⟨Nat.le_of_ble_eq_true rfl, Nat.le_of_ble_eq_true rfl⟩ (Nat.le_of_ble_eq_true rfl) rfl (fun r18 Λc18 Ic18 Lc18 Rc18 hq18 => ?_)
    obtain ⟨rfl, rfl, rfl, rfl, rfl⟩ := hq18
    refine LW_bif_eq (tgt := 68) dX11_then_21 (by decide) (fun c21 => ?_) (fun c21 => ?_)
    · refine LW_ldc2 dX11_then_68 klX11_439 ?_
      refine LW_lret dX11_then_71 rfl (Nat.le_of_ble_eq_true rfl) (Nat.le_of_ble_eq_true rfl) ?_
      refine MPost.r hW ?_
      unfold qThen
      rw [if_neg]
      rintro ⟨⟨u1, u2⟩, ⟨v1, v2⟩, u3⟩
      first | (rw [hc_cl (by omega)] at u3; exact c48 (by rw [(lB_1 _).mpr u3])) | skip
      all_goals
        obtain ⟨a, ha, rfl⟩ := x_in (N := 12) (by decide) u1 u2
        obtain ⟨b, hb, rfl⟩ := x_in (N := 6) (by decide) v1 v2
        rw [hc_cl (by omega)] at u3
        have h8 := (hM.n.2.2.2.2.2 a ha u3).1
        have e1 : lIn (nI a).toInt64 0 (lN 11) = true := by rw [lIn_i (by decide), decide_eq_true (nI_nn (by omega)), decide_eq_true ((hc_le (by omega) (by decide)).mpr (by omega))]; rfl
        have e2 : lIn (nI b).toInt64 0 (lN 5) = true := by rw [lIn_i (by decide), decide_eq_true (nI_nn (by omega)), decide_eq_true ((hc_le (by omega) (by decide)).mpr (by omega))]; rfl
        first | (exact absurd (e1.symm.trans c21) (by decide)) | (exact absurd (e2.symm.trans c33) (by decide)) | (exact c9 h8)
    · refine LW_iloadn 2 dX11_then_24 rfl rfl ?_
      refine LW_i2l dX11_then_25 ?_
      refine LW_lconst (v := 0) dX11_then_26 (by decide) ?_
      refine LW_ldc2 dX11_then_27 klX11_427 ?_
      refine LW_callS (As := [.long y.toInt64, .long 0, .long 5]) (st := []) (r_isIn y.toInt64 0 5) YX11_isIn rfl dX11_then_30 mlX11_126 (by decide) ⟨Nat.le_of_ble_eq_true rfl, Nat.le_of_ble_eq_true rfl⟩ (Nat.le_of_ble_eq_true rfl) rfl (fun r30 Λc30 Ic30 Lc30 Rc30 hq30 => ?_)
      obtain ⟨rfl, rfl, rfl, rfl, rfl⟩ := hq30
      refine LW_bif_eq (tgt := 68) dX11_then_33 (by decide) (fun c33 => ?_) (fun c33 => ?_)
      · refine LW_ldc2 dX11_then_68 klX11_439 ?_
        refine LW_lret dX11_then_71 rfl (Nat.le_of_ble_eq_true rfl) (Nat.le_of_ble_eq_true rfl) ?_
        refine MPost.r hW ?_
        unfold qThen
        rw [if_neg]
        rintro ⟨⟨u1, u2⟩, ⟨v1, v2⟩, u3⟩
        first | (rw [hc_cl (by omega)] at u3; exact c48 (by rw [(lB_1 _).mpr u3])) | skip
        all_goals
          obtain ⟨a, ha, rfl⟩ := x_in (N := 12) (by decide) u1 u2
          obtain ⟨b, hb, rfl⟩ := x_in (N := 6) (by decide) v1 v2
          rw [hc_cl (by omega)] at u3
          have h8 := (hM.n.2.2.2.2.2 a ha u3).1
          have e1 : lIn (nI a).toInt64 0 (lN 11) = true := by rw [lIn_i (by decide), decide_eq_true (nI_nn (by omega)), decide_eq_true ((hc_le (by omega) (by decide)).mpr (by omega))]; rfl
          have e2 : lIn (nI b).toInt64 0 (lN 5) = true := by rw [lIn_i (by decide), decide_eq_true (nI_nn (by omega)), decide_eq_true ((hc_le (by omega) (by decide)).mpr (by omega))]; rfl
          first | (exact absurd (e1.symm.trans c21) (by decide)) | (exact absurd (e2.symm.trans c33) (by decide)) | (exact c9 h8)
      · obtain ⟨a, ha, rfl⟩ := lIn_k (N := 11) (by decide) c21
        obtain ⟨b, hb, rfl⟩ := lIn_k (N := 5) (by decide) c33
        have h8 := hM.n.2.2.2.2.2 a (by omega)
        refine LW_aloadn 0 dX11_then_36 rfl rfl ?_
        refine gX11_0 dX11_then_37 flX11_9 (hY.lt (k := 217) (by decide)) (ly217 hY) (lf217_0 hY) ?_
        refine LW_sipush (v := 198) dX11_then_40 (by decide) ?_
        refine LW_iloadn 1 dX11_then_43 rfl rfl ?_
        refine LW_iadd dX11_then_44 ?_
        rw [show (198 + (nI a)) = nI (198 + a) from (nI_add 198 _)]
        refine LW_lald dX11_then_45 (hY.lt (k := 218) (by decide)) (ly218 hY) rfl (by omega) (Nat.le_of_ble_eq_true rfl) ?_
        rw [show L 218 (198 + a) = lB (aEt (sA S) a) from hM.n.2.2.2.2.1 a (by omega)]
        refine LW_lconst (v := 1) dX11_then_46 (by decide) ?_
        refine LW_lcmp dX11_then_47 ?_
        refine LW_lif_ne (tgt := 68) dX11_then_48 (by decide) (fun c48 => ?_) (fun c48 => ?_)
        · refine LW_ldc2 dX11_then_68 klX11_439 ?_
          refine LW_lret dX11_then_71 rfl (Nat.le_of_ble_eq_true rfl) (Nat.le_of_ble_eq_true rfl) ?_
          refine MPost.r hW ?_
          unfold qThen
          rw [if_neg]
          rintro ⟨⟨u1, u2⟩, ⟨v1, v2⟩, u3⟩
          first | (rw [hc_cl (by omega)] at u3; exact c48 (by rw [(lB_1 _).mpr u3])) | skip
          all_goals
            obtain ⟨a, ha, rfl⟩ := x_in (N := 12) (by decide) u1 u2
            obtain ⟨b, hb, rfl⟩ := x_in (N := 6) (by decide) v1 v2
            rw [hc_cl (by omega)] at u3
            have h8 := (hM.n.2.2.2.2.2 a ha u3).1
            have e1 : lIn (nI a).toInt64 0 (lN 11) = true := by rw [lIn_i (by decide), decide_eq_true (nI_nn (by omega)), decide_eq_true ((hc_le (by omega) (by decide)).mpr (by omega))]; rfl
            have e2 : lIn (nI b).toInt64 0 (lN 5) = true := by rw [lIn_i (by decide), decide_eq_true (nI_nn (by omega)), decide_eq_true ((hc_le (by omega) (by decide)).mpr (by omega))]; rfl
            first | (exact absurd (e1.symm.trans c21) (by decide)) | (exact absurd (e2.symm.trans c33) (by decide)) | (exact c9 h8)
        · have het : aEt (sA S) a = true := (lB_1 _).mp (Classical.not_not.mp c48)
          refine LW_aloadn 0 dX11_then_51 rfl rfl ?_
          refine gX11_0 dX11_then_52 flX11_9 (hY.lt (k := 217) (by decide)) (ly217 hY) (lf217_0 hY) ?_
          refine LW_bipush (v := 126) dX11_then_55 (by decide) ?_
          refine LW_bipush (v := 6) dX11_then_57 (by decide) ?_
          refine LW_iloadn 1 dX11_then_59 rfl rfl ?_
          refine LW_imul dX11_then_60 ?_
          rw [show (6 * (nI a)) = nI (6 * a) from (nI_mul 6 a)]
          refine LW_iadd dX11_then_61 ?_
          rw [show (126 + (nI (6 * a))) = nI (126 + 6 * a) from (nI_add 126 _)]
          refine LW_iloadn 2 dX11_then_62 rfl rfl ?_
          refine LW_iadd dX11_then_63 ?_
          rw [show ((nI (126 + 6 * a)) + (nI b)) = nI (126 + 6 * a + b) from (nI_add _ _)]
          refine LW_lald dX11_then_64 (hY.lt (k := 218) (by decide)) (ly218 hY) rfl (by omega) (Nat.le_of_ble_eq_true rfl) ?_
          rw [show L 218 (126 + 6 * a + b) = aEr (sA S) b a from (h8 het).2 b (by omega)]
          refine LW_goto (tgt := 71) dX11_then_65 (by decide) ?_
          refine LW_lret dX11_then_71 rfl (Nat.le_of_ble_eq_true rfl) (Nat.le_of_ble_eq_true rfl) ?_
          refine MPost.r hW ?_
          unfold qThen
          rw [hc_cl (by omega), hc_cl (by omega), if_pos ⟨⟨nI_nn (by omega), (hc_lt (b := 12) (by omega) (by decide)).mpr (by omega)⟩, ⟨nI_nn (by omega), (hc_lt (b := 6) (by omega) (by decide)).mpr (by omega)⟩, het⟩]
