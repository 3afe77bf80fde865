/-! the reference at 217: what it holds, what is read of it -/
def lB (b : Bool) : Int64 := if b then 1 else 0
def lIn (a b c : Int64) : Bool := decide (b ≤ a) && decide (a ≤ c)
theorem lB_1 (b : Bool) : lB b = 1 ↔ b = true := by cases b <;> simp [lB]
theorem lB_0 (b : Bool) : lB b = 0 ↔ b = false := by cases b <;> simp [lB]
/-- the numbers of the club -/
def NwAt (N : Nat → Int64) (A : AS) : Prop := (N 0 = aRu A 0 ∧ N 1 = aRu A 1 ∧ N 2 = aRu A 5 ∧ N 3 = aRu A 6) ∧ (N 4 = lN (aY A) ∧ N 5 = lN (aM A) ∧ N 6 = lN (aF A) ∧ N 7 = lN (aS A)) ∧
  (∀ m, m < aM A → N (10 + m) = lB (aTh A m) ∧ N (22 + m) = lB (aLv A m) ∧ N (34 + m) = lN (aYs A m)) ∧ (∀ s, s < aS A → ∀ a, a < 5 → N (46 + 5 * s + a) = lN (aSd A s a)) ∧
  (∀ m, m < 12 → N (198 + m) = lB (aEt A m)) ∧ ∀ m, m < 12 → aEt A m = true → N 8 = 1 ∧ ∀ w, w < 6 → N (126 + 6 * m + w) = aEr A w m
def FlAt (F : Nat → Int32) (A : AS) : Prop := ∀ f, f < aF A → ∀ a, a < 6 → F (6 * f + a) = nI (aFd A f a)
/-- what is reckoned with; w: who counts as away -/
def MC (Λ : hc_L) (I : hc_I) (L : hc_J) (A : AS) (w : Int32) : Prop := LY Λ ∧ wf A ∧ NwAt (L 218) A ∧ FlAt (I 221) A ∧ (∀ c, c < 64 → I 222 c = nI (aHz A c)) ∧ (∀ c, c < 4 → I 223 c = nI (aSo A c)) ∧ I 217 35 = w
/-- the law as it is kept -/
def ML (I : hc_I) (L : hc_J) (P : LwP) : Prop := lpOk P ∧ I 217 10 = nI P.1 ∧ ∀ i, i < P.1 → I 226 i = nI (P.2.1 i) ∧ L 225 i = lN (P.2.2 i)
section MCA
variable {Λ : hc_L} {I : hc_I} {L : hc_J} {A : AS} {v : Int32}
theorem MC.y (h : MC Λ I L A v) : LY Λ := h.1
theorem MC.w (h : MC Λ I L A v) : wf A := h.2.1
theorem MC.n (h : MC Λ I L A v) : NwAt (L 218) A := h.2.2.1
theorem MC.th (h : MC Λ I L A v) {m : Nat} (hm : m < aM A) : L 218 (10 + m) = lB (aTh A m) := (h.n.2.2.1 m hm).1
theorem MC.lv (h : MC Λ I L A v) {m : Nat} (hm : m < aM A) : L 218 (22 + m) = lB (aLv A m) := (h.n.2.2.1 m hm).2.1
theorem MC.ys (h : MC Λ I L A v) {m : Nat} (hm : m < aM A) : L 218 (34 + m) = lN (aYs A m) := (h.n.2.2.1 m hm).2.2
theorem MC.sd (h : MC Λ I L A v) {s : Nat} (hs : s < aS A) {a : Nat} (ha : a < 5) : L 218 (46 + 5 * s + a) = lN (aSd A s a) := h.n.2.2.2.1 s hs a ha
theorem MC.fl (h : MC Λ I L A v) {f : Nat} (hf : f < aF A) {a : Nat} (ha : a < 6) : I 221 (6 * f + a) = nI (aFd A f a) := h.2.2.2.1 f hf a ha
theorem MC.hz (h : MC Λ I L A v) {c : Nat} (hc : c < 64) : I 222 c = nI (aHz A c) := h.2.2.2.2.1 c hc
theorem MC.so (h : MC Λ I L A v) {c : Nat} (hc : c < 4) : I 223 c = nI (aSo A c) := h.2.2.2.2.2.1 c hc
theorem MC.aw (h : MC Λ I L A v) : I 217 35 = v := h.2.2.2.2.2.2
theorem MC.nM (h : MC Λ I L A v) : L 218 5 = lN (aM A) := h.n.2.1.2.1
theorem MC.nF (h : MC Λ I L A v) : L 218 6 = lN (aF A) := h.n.2.1.2.2.1
theorem MC.nS (h : MC Λ I L A v) : L 218 7 = lN (aS A) := h.n.2.1.2.2.2
theorem MC.kp {I' : hc_I} {L' : hc_J} (h : MC Λ I L A v) (e1 : L' 218 = L 218) (e2 : I' 221 = I 221) (e3 : I' 222 = I 222) (e4 : I' 223 = I 223) (e5 : I' 217 35 = I 217 35) : MC Λ I' L' A v := ⟨h.1, h.2.1, by rw [e1]; exact h.n, by rw [e2]; exact h.2.2.2.1, by rw [e3]; exact h.2.2.2.2.1, by rw [e4]; exact h.2.2.2.2.2.1, e5.trans h.aw⟩
end MCA
theorem ML.kp {I I' : hc_I} {L L' : hc_J} {P : LwP} (h : ML I L P) (e1 : I' 217 10 = I 217 10) (e2 : I' 226 = I 226) (e3 : L' 225 = L 225) : ML I' L' P := ⟨h.1, e1.trans h.2.1, by rw [e2, e3]; exact h.2.2⟩
theorem lN_nle {a b : Nat} (ha : a < 2 ^ 31) (hb : b < 2 ^ 31) (h : b < a) : ¬ lN a ≤ lN b := fun q => absurd ((lN_le ha hb).mp q) (by omega)
theorem lIn_n {a b c : Nat} (ha : a < 2 ^ 31) (hb : b < 2 ^ 31) (hc : c < 2 ^ 31) : lIn (lN a) (lN b) (lN c) = (decide (b ≤ a) && decide (a ≤ c)) := by
  unfold lIn
  rw [decide_eq_decide.mpr (lN_le hb ha), decide_eq_decide.mpr (lN_le ha hc)]
set_option maxRecDepth 100000 in
theorem r_isIn {Λ : hc_L} {I : hc_I} {L : hc_J} {R : hc_R} (a b c : Int64) : Run xX11_isIn [.long a, .long b, .long c] Λ I L R (Qr (some (.int (hc_b (lIn a b c)))) Λ I L R) := by
  refine Run.of (by decide +kernel) (Nat.le_of_ble_eq_true rfl) ?_
  show LW _ _ _ [(0, .long a), (2, .long b), (4, .long c)] _ _ _ _ _ _
  refine LW_lloadn 0 dX11_isIn_0 rfl rfl ?_
  refine LW_lloadn 1 dX11_isIn_1 rfl rfl ?_
  refine LW_lcmp dX11_isIn_2 ?_
  refine LW_lif_lt (tgt := 17) dX11_isIn_3 (by decide) (fun c3 => ?_) (fun c3 => ?_)
  · refine LW_iconst (v := 0) dX11_isIn_17 (by decide) ?_
    refine LW_zret dX11_isIn_18 rfl (Nat.le_of_ble_eq_true rfl) (Nat.le_of_ble_eq_true rfl) (Or.inl rfl) ?_
    refine Qr.mk ?_
    unfold lIn
    first | (rw [decide_eq_true (Int64.not_lt.mp c3), decide_eq_true (Int64.not_lt.mp c10)]; rfl) | (rw [decide_eq_true (Int64.not_lt.mp c3), decide_eq_false (Int64.not_le.mpr c10)]; rfl) | (rw [decide_eq_false (Int64.not_le.mpr c3)]; rfl)
  · refine LW_lloadn 0 dX11_isIn_6 rfl rfl ?_
    refine LW_lload 2 dX11_isIn_7 rfl ?_
    refine LW_lcmp dX11_isIn_9 ?_
    refine LW_lif_gt (tgt := 17) dX11_isIn_10 (by decide) (fun c10 => ?_) (fun c10 => ?_)
    · refine LW_iconst (v := 0) dX11_isIn_17 (by decide) ?_
      refine LW_zret dX11_isIn_18 rfl (Nat.le_of_ble_eq_true rfl) (Nat.le_of_ble_eq_true rfl) (Or.inl rfl) ?_
      refine Qr.mk ?_
      unfold lIn
      first | (rw [decide_eq_true (Int64.not_lt.mp c3), decide_eq_true (Int64.not_lt.mp c10)]; rfl) | (rw [decide_eq_true (Int64.not_lt.mp c3), decide_eq_false (Int64.not_le.mpr c10)]; rfl) | (rw [decide_eq_false (Int64.not_le.mpr c3)]; rfl)
    · refine LW_iconst (v := 1) dX11_isIn_13 (by decide) ?_
      refine LW_goto (tgt := 18) dX11_isIn_14 (by decide) ?_
      refine LW_zret dX11_isIn_18 rfl (Nat.le_of_ble_eq_true rfl) (Nat.le_of_ble_eq_true rfl) (Or.inr rfl) ?_
      refine Qr.mk ?_
      unfold lIn
      first | (rw [decide_eq_true (Int64.not_lt.mp c3), decide_eq_true (Int64.not_lt.mp c10)]; rfl) | (rw [decide_eq_true (Int64.not_lt.mp c3), decide_eq_false (Int64.not_le.mpr c10)]; rfl) | (rw [decide_eq_false (Int64.not_le.mpr c3)]; rfl)
set_option maxRecDepth 100000 in
theorem r_one {Λ : hc_L} {I : hc_I} {L : hc_J} {R : hc_R} (b : Bool) : Run xX11_one [.int (hc_b b)] Λ I L R (Qr (some (.int (hc_b b))) Λ I L R) := by
  refine Run.of (by decide +kernel) (Nat.le_of_ble_eq_true rfl) ?_
  show LW _ _ _ [(0, .int (hc_b b))] _ _ _ _ _ _
  refine LW_iloadn 0 dX11_one_0 rfl rfl ?_
  refine LW_bif_eq (tgt := 8) dX11_one_1 (by decide) (fun c1 => ?_) (fun c1 => ?_)
  · refine LW_iconst (v := 0) dX11_one_8 (by decide) ?_
    refine LW_iret dX11_one_9 rfl (Nat.le_of_ble_eq_true rfl) (Nat.le_of_ble_eq_true rfl) ?_
    refine Qr.mk ?_
    rw [c1]; rfl
  · refine LW_iconst (v := 1) dX11_one_4 (by decide) ?_
    refine LW_goto (tgt := 9) dX11_one_5 (by decide) ?_
    refine LW_iret dX11_one_9 rfl (Nat.le_of_ble_eq_true rfl) (Nat.le_of_ble_eq_true rfl) ?_
    refine Qr.mk ?_
    rw [c1]; rfl
set_option maxRecDepth 100000 in
theorem r_mOf {Λ : hc_L} {I : hc_I} {L : hc_J} {R : hc_R} {A : AS} {w : Int32} (hM : MC Λ I L A w) {f a : Nat} (hf : f < aF A) (ha : a < 6) : Run xX11_of [.ref 217, .int (nI f), .int (nI a)] Λ I L R (Qr (some (.int (nI (aFd A f a)))) Λ I L R) := by
  refine Run.of (by decide +kernel) (Nat.le_of_ble_eq_true rfl) ?_
  show LW _ _ _ [(0, .ref 217), (1, .int (nI f)), (2, .int (nI a))] _ _ _ _ _ _
  have hY := hM.y
  have hf24 := hM.w.f
  refine LW_aloadn 0 dX11_of_0 rfl rfl ?_
  refine gX11_4 dX11_of_1 flX11_21 (hY.lt (k := 217) (by decide)) (ly217 hY) (lf217_4 hY) ?_
  refine LW_bipush (v := 6) dX11_of_4 (by decide) ?_
  refine LW_iloadn 1 dX11_of_6 rfl rfl ?_
  refine LW_imul dX11_of_7 ?_
  rw [show (6 * (nI f)) = nI (6 * f) from (nI_mul 6 f)]
  refine LW_iloadn 2 dX11_of_8 rfl rfl ?_
  refine LW_iadd dX11_of_9 ?_
  rw [show ((nI (6 * f)) + (nI a)) = nI (6 * f + a) from (nI_add _ _)]
  refine LW_iald dX11_of_10 (hY.lt (k := 221) (by decide)) (ly221 hY) rfl (by omega) (Nat.le_of_ble_eq_true rfl) ?_
  rw [show I 221 (6 * f + a) = nI (aFd A f a) from hM.fl hf ha]
  refine LW_iret dX11_of_11 rfl (Nat.le_of_ble_eq_true rfl) (Nat.le_of_ble_eq_true rfl) ?_
  exact Qr.mk rfl
set_option maxRecDepth 100000 in
theorem r_mIsThere {Λ : hc_L} {I : hc_I} {L : hc_J} {R : hc_R} {A : AS} {w : Int32} (hM : MC Λ I L A w) {k : Nat} (hk : k < aM A) : Run xX11_isThere [.ref 217, .int (nI k)] Λ I L R (Qr (some (.int (hc_b (prX A w k)))) Λ I L R) := by
  refine Run.of (by decide +kernel) (Nat.le_of_ble_eq_true rfl) ?_
  show LW _ _ _ [(0, .ref 217), (1, .int (nI k))] _ _ _ _ _ _
  have hY := hM.y
  have hm12 := hM.w.m
  have hki : aIs A k = aTh A k := by unfold aIs; rw [decide_eq_true hk]; rfl
  refine LW_iloadn 1 dX11_isThere_0 rfl rfl ?_
  refine LW_aloadn 0 dX11_isThere_1 rfl rfl ?_
  refine gX11_35 dX11_isThere_2 flX11_53 (hY.lt (k := 217) (by decide)) (ly217 hY) ?_
  rw [show I 217 35 = w from hM.aw]
  refine LW_icmp_eq (tgt := 26) dX11_isThere_5 (by decide) (fun c5 => ?_) (fun c5 => ?_)
  · refine LW_iconst (v := 0) dX11_isThere_26 (by decide) ?_
    refine LW_zret dX11_isThere_27 rfl (Nat.le_of_ble_eq_true rfl) (Nat.le_of_ble_eq_true rfl) (Or.inl rfl) ?_
    refine Qr.mk ?_
    unfold prX
    rw [hki]
    first | (rw [decide_eq_false c5, (lB_1 _).mp (Classical.not_not.mp c19)]; rfl) | (rw [decide_eq_true c5]; rfl) | (rw [eq_false_of_ne_true (fun q => c19 ((lB_1 _).mpr q)), Bool.and_false]; rfl)
  · refine LW_aloadn 0 dX11_isThere_8 rfl rfl ?_
    refine gX11_0 dX11_isThere_9 flX11_9 (hY.lt (k := 217) (by decide)) (ly217 hY) (lf217_0 hY) ?_
    refine LW_bipush (v := 10) dX11_isThere_12 (by decide) ?_
    refine LW_iloadn 1 dX11_isThere_14 rfl rfl ?_
    refine LW_iadd dX11_isThere_15 ?_
    rw [show (10 + (nI k)) = nI (10 + k) from (nI_add 10 k)]
    refine LW_lald dX11_isThere_16 (hY.lt (k := 218) (by decide)) (ly218 hY) rfl (by omega) (Nat.le_of_ble_eq_true rfl) ?_
    rw [show L 218 (10 + k) = lB (aTh A k) from hM.th hk]
    refine LW_lconst (v := 1) dX11_isThere_17 (by decide) ?_
    refine LW_lcmp dX11_isThere_18 ?_
    refine LW_lif_ne (tgt := 26) dX11_isThere_19 (by decide) (fun c19 => ?_) (fun c19 => ?_)
    · refine LW_iconst (v := 0) dX11_isThere_26 (by decide) ?_
      refine LW_zret dX11_isThere_27 rfl (Nat.le_of_ble_eq_true rfl) (Nat.le_of_ble_eq_true rfl) (Or.inl rfl) ?_
      refine Qr.mk ?_
      unfold prX
      rw [hki]
      first | (rw [decide_eq_false c5, (lB_1 _).mp (Classical.not_not.mp c19)]; rfl) | (rw [decide_eq_true c5]; rfl) | (rw [eq_false_of_ne_true (fun q => c19 ((lB_1 _).mpr q)), Bool.and_false]; rfl)
    · refine LW_iconst (v := 1) dX11_isThere_22 (by decide) ?_
      refine LW_goto (tgt := 27) dX11_isThere_23 (by decide) ?_
      refine LW_zret dX11_isThere_27 rfl (Nat.le_of_ble_eq_true rfl) (Nat.le_of_ble_eq_true rfl) (Or.inr rfl) ?_
      refine Qr.mk ?_
      unfold prX
      rw [hki]
      first | (rw [decide_eq_false c5, (lB_1 _).mp (Classical.not_not.mp c19)]; rfl) | (rw [decide_eq_true c5]; rfl) | (rw [eq_false_of_ne_true (fun q => c19 ((lB_1 _).mpr q)), Bool.and_false]; rfl)
set_option maxRecDepth 100000 in
theorem r_mWasMember {Λ : hc_L} {I : hc_I} {L : hc_J} {R : hc_R} {A : AS} {w : Int32} (hM : MC Λ I L A w) (x : Int32) : Run xX11_wasMember [.ref 217, .int x] Λ I L R (Qr (some (.int (hc_b (aKnX A x)))) Λ I L R) := by
  refine Run.of (by decide +kernel) (Nat.le_of_ble_eq_true rfl) ?_
  show LW _ _ _ [(0, .ref 217), (1, .int x)] _ _ _ _ _ _
  have hY := hM.y
  have hm12 := hM.w.m
  refine LW_iloadn 1 dX11_wasMember_0 rfl rfl ?_
  refine LW_i2l dX11_wasMember_1 ?_
  refine LW_lconst (v := 0) dX11_wasMember_2 (by decide) ?_
  refine LW_aloadn 0 dX11_wasMember_3 rfl rfl ?_
  refine gX11_0 dX11_wasMember_4 flX11_9 (hY.lt (k := 217) (by decide)) (ly217 hY) (lf217_0 hY) ?_
  refine LW_iconst (v := 5) dX11_wasMember_7 (by decide) ?_
  refine LW_lald dX11_wasMember_8 (hY.lt (k := 218) (by decide)) (ly218 hY) rfl (by decide) (Nat.le_of_ble_eq_true rfl) ?_
  rw [show L 218 5 = lN (aM A) from hM.nM]
  refine LW_lconst (v := 1) dX11_wasMember_9 (by decide) ?_
  refine LW_lsub dX11_wasMember_10 ?_
  refine LW_callS (As := [.long x.toInt64, .long 0, .long ((lN (aM A)) - 1)]) (st := []) (r_isIn x.toInt64 0 ((lN (aM A)) - 1)) YX11_isIn rfl dX11_wasMember_11 mlX11_126 (by decide) ⟨Nat.le_of_ble_eq_true rfl, Nat.le_of_ble_eq_true rfl⟩ (Nat.le_of_ble_eq_true rfl) rfl (fun r11 Λc11 Ic11 Lc11 Rc11 hq11 => ?_)
  obtain ⟨rfl, rfl, rfl, rfl, rfl⟩ := hq11
  refine LW_zret dX11_wasMember_14 rfl (Nat.le_of_ble_eq_true rfl) (Nat.le_of_ble_eq_true rfl) (hc_b01 _) ?_
  refine Qr.mk ?_
  have e : lIn x.toInt64 0 (lN (aM A) - 1) = aKnX A x := by
    have e1 : (lN (aM A) - 1).toInt = (aM A : Int) - 1 := by
      rcases Nat.eq_zero_or_pos (aM A) with q | q
      · rw [q]; rfl
      · rw [show (1 : Int64) = lN 1 from rfl, lN_sub q, lN_toInt (by omega)]; omega
    unfold lIn aKnX
    have e2 : ((0 : Int64) ≤ x.toInt64) ↔ 0 ≤ x := by rw [Int64.le_iff_toInt_le, Int32.toInt_toInt64, Int32.le_iff_toInt_le]; rfl
    rw [decide_eq_decide.mpr e2]
    by_cases c : 0 ≤ x
    · rw [decide_eq_true c, Bool.true_and, Bool.true_and]
      obtain ⟨n, hn, rfl⟩ := hc_nn c
      refine decide_eq_decide.mpr ?_
      rw [Int64.le_iff_toInt_le, e1, Int32.toInt_toInt64, nI_toInt hn, hc_cl hn]
      omega
    · rw [decide_eq_false c, Bool.false_and, Bool.false_and]
  rw [e]
/-- a member that is there, as it counts -/
def mIsX (A : AS) (w x : Int32) : Bool := aKnX A x && prX A w x.toNatClampNeg
set_option maxRecDepth 100000 in
theorem r_mIsMember {Λ : hc_L} {I : hc_I} {L : hc_J} {R : hc_R} {A : AS} {w : Int32} (hM : MC Λ I L A w) (x : Int32) : Run xX11_isMember [.ref 217, .int x] Λ I L R (Qr (some (.int (hc_b (mIsX A w x)))) Λ I L R) := by
  refine Run.of (by decide +kernel) (Nat.le_of_ble_eq_true rfl) ?_
  show LW _ _ _ [(0, .ref 217), (1, .int x)] _ _ _ _ _ _
  have hY := hM.y
  refine LW_aloadn 0 dX11_isMember_0 rfl rfl ?_
  refine LW_iloadn 1 dX11_isMember_1 rfl rfl ?_
  refine LW_callV (As := [.int x]) (b := 217) (st := []) (ci := 11) (r := (RX11, TX11, 44)) (r_mWasMember hM x) YX11_wasMember rfl dX11_isMember_2 mlX11_328 (hY.lt (k := 217) (by decide)) (ly217 hY) ⟨rfl, rfl⟩ (by decide) ⟨Nat.le_of_ble_eq_true rfl, Nat.le_of_ble_eq_true rfl⟩ (Nat.le_of_ble_eq_true rfl) rfl (fun r2 Λc2 Ic2 Lc2 Rc2 hq2 => ?_)
  obtain ⟨rfl, rfl, rfl, rfl, rfl⟩ := hq2
  refine LW_bif_eq (tgt := 20) dX11_isMember_5 (by decide) (fun c5 => ?_) (fun c5 => ?_)
  · refine LW_iconst (v := 0) dX11_isMember_20 (by decide) ?_
    refine LW_zret dX11_isMember_21 rfl (Nat.le_of_ble_eq_true rfl) (Nat.le_of_ble_eq_true rfl) (Or.inl rfl) ?_
    refine Qr.mk ?_
    unfold mIsX
    first | (rw [c5, hc_cl hk31, c13]; rfl) | (rw [c5]; rfl)
  · obtain ⟨k, hk, rfl⟩ : ∃ k, k < aM A ∧ x = nI k := ⟨_, (aKnX_n hM.w c5).2, (aKnX_n hM.w c5).1⟩
    have hk31 : k < 2 ^ 31 := by have := hM.w.m; omega
    refine LW_aloadn 0 dX11_isMember_8 rfl rfl ?_
    refine LW_iloadn 1 dX11_isMember_9 rfl rfl ?_
    refine LW_callV (As := [.int (nI k)]) (b := 217) (st := []) (ci := 11) (r := (RX11, TX11, 44)) (r_mIsThere hM (k := k) hk) YX11_isThere rfl dX11_isMember_10 mlX11_331 (hY.lt (k := 217) (by decide)) (ly217 hY) ⟨rfl, rfl⟩ (by decide) ⟨Nat.le_of_ble_eq_true rfl, Nat.le_of_ble_eq_true rfl⟩ (Nat.le_of_ble_eq_true rfl) rfl (fun r10 Λc10 Ic10 Lc10 Rc10 hq10 => ?_)
    obtain ⟨rfl, rfl, rfl, rfl, rfl⟩ := hq10
    refine LW_bif_eq (tgt := 20) dX11_isMember_13 (by decide) (fun c13 => ?_) (fun c13 => ?_)
    · refine LW_iconst (v := 0) dX11_isMember_20 (by decide) ?_
      refine LW_zret dX11_isMember_21 rfl (Nat.le_of_ble_eq_true rfl) (Nat.le_of_ble_eq_true rfl) (Or.inl rfl) ?_
      refine Qr.mk ?_
      unfold mIsX
      first | (rw [c5, hc_cl hk31, c13]; rfl) | (rw [c5]; rfl)
    · refine LW_iconst (v := 1) dX11_isMember_16 (by decide) ?_
      refine LW_goto (tgt := 21) dX11_isMember_17 (by decide) ?_
      refine LW_zret dX11_isMember_21 rfl (Nat.le_of_ble_eq_true rfl) (Nat.le_of_ble_eq_true rfl) (Or.inr rfl) ?_
      refine Qr.mk ?_
      unfold mIsX
      first | (rw [c5, hc_cl hk31, c13]; rfl) | (rw [c5]; rfl)
set_option maxRecDepth 100000 in
theorem r_mIsField {Λ : hc_L} {I : hc_I} {L : hc_J} {R : hc_R} {A : AS} {w : Int32} (hM : MC Λ I L A w) {f : Nat} (hf : f < aF A) : Run xX11_isField [.ref 217, .int (nI f)] Λ I L R (Qr (some (.int (hc_b (prX A w (aFd A f 0))))) Λ I L R) := by
  refine Run.of (by decide +kernel) (Nat.le_of_ble_eq_true rfl) ?_
  show LW _ _ _ [(0, .ref 217), (1, .int (nI f))] _ _ _ _ _ _
  have hY := hM.y
  have hw := hM.w.2.2.2.2.2.2.2.1 f hf
  have hm12 := hM.w.m
  have hf24 := hM.w.f
  refine LW_aloadn 0 dX11_isField_0 rfl rfl ?_
  refine LW_aloadn 0 dX11_isField_1 rfl rfl ?_
  refine LW_iloadn 1 dX11_isField_2 rfl rfl ?_
  refine LW_iconst (v := 0) dX11_isField_3 (by decide) ?_
  refine LW_callV (As := [.int (nI f), .int 0]) (b := 217) (st := [.ref 217]) (ci := 11) (r := (RX11, TX11, 44)) (r_mOf hM (f := f) (a := 0) hf (by decide)) YX11_of rfl dX11_isField_4 mlX11_334 (hY.lt (k := 217) (by decide)) (ly217 hY) ⟨rfl, rfl⟩ (by decide) ⟨Nat.le_of_ble_eq_true rfl, Nat.le_of_ble_eq_true rfl⟩ (Nat.le_of_ble_eq_true rfl) rfl (fun r4 Λc4 Ic4 Lc4 Rc4 hq4 => ?_)
  obtain ⟨rfl, rfl, rfl, rfl, rfl⟩ := hq4
  refine LW_callV (As := [.int (nI (aFd A f 0))]) (b := 217) (st := []) (ci := 11) (r := (RX11, TX11, 44)) (r_mIsThere hM (k := (aFd A f 0)) hw.1) YX11_isThere rfl dX11_isField_7 mlX11_331 (hY.lt (k := 217) (by decide)) (ly217 hY) ⟨rfl, rfl⟩ (by decide) ⟨Nat.le_of_ble_eq_true rfl, Nat.le_of_ble_eq_true rfl⟩ (Nat.le_of_ble_eq_true rfl) rfl (fun r7 Λc7 Ic7 Lc7 Rc7 hq7 => ?_)
  obtain ⟨rfl, rfl, rfl, rfl, rfl⟩ := hq7
  refine LW_zret dX11_isField_10 rfl (Nat.le_of_ble_eq_true rfl) (Nat.le_of_ble_eq_true rfl) (hc_b01 _) ?_
  exact Qr.mk rfl
set_option maxRecDepth 100000 in
theorem r_mSumOf {Λ : hc_L} {I : hc_I} {L : hc_J} {R : hc_R} {A : AS} {w : Int32} (hM : MC Λ I L A w) {f : Nat} (hf : f < aF A) : Run xX11_sumOf [.ref 217, .int (nI f)] Λ I L R (Qr (some (.long (aCo A f))) Λ I L R) := by
  refine Run.of (by decide +kernel) (Nat.le_of_ble_eq_true rfl) ?_
  show LW _ _ _ [(0, .ref 217), (1, .int (nI f))] _ _ _ _ _ _
  have hY := hM.y
  have hw := hM.w.2.2.2.2.2.2.2.1 f hf
  have hm12 := hM.w.m
  have hf24 := hM.w.f
  refine LW_aloadn 0 dX11_sumOf_0 rfl rfl ?_
  refine LW_iloadn 1 dX11_sumOf_1 rfl rfl ?_
  refine LW_iconst (v := 4) dX11_sumOf_2 (by decide) ?_
  refine LW_callV (As := [.int (nI f), .int 4]) (b := 217) (st := []) (ci := 11) (r := (RX11, TX11, 44)) (r_mOf hM (f := f) (a := 4) hf (by decide)) YX11_of rfl dX11_sumOf_3 mlX11_334 (hY.lt (k := 217) (by decide)) (ly217 hY) ⟨rfl, rfl⟩ (by decide) ⟨Nat.le_of_ble_eq_true rfl, Nat.le_of_ble_eq_true rfl⟩ (Nat.le_of_ble_eq_true rfl) rfl (fun r3 Λc3 Ic3 Lc3 Rc3 hq3 => ?_)
  obtain ⟨rfl, rfl, rfl, rfl, rfl⟩ := hq3
  refine LW_i2l dX11_sumOf_6 ?_
  refine LW_aloadn 0 dX11_sumOf_7 rfl rfl ?_
  refine LW_iloadn 1 dX11_sumOf_8 rfl rfl ?_
  refine LW_iconst (v := 5) dX11_sumOf_9 (by decide) ?_
  refine LW_callV (As := [.int (nI f), .int 5]) (b := 217) (st := [.long ((nI (aFd A f 4)).toInt64)]) (ci := 11) (r := (RX11, TX11, 44)) (r_mOf hM (f := f) (a := 5) hf (by decide)) YX11_of rfl dX11_sumOf_10 mlX11_334 (hY.lt (k := 217) (by decide)) (ly217 hY) ⟨rfl, rfl⟩ (by decide) ⟨Nat.le_of_ble_eq_true rfl, Nat.le_of_ble_eq_true rfl⟩ (Nat.le_of_ble_eq_true rfl) rfl (fun r10 Λc10 Ic10 Lc10 Rc10 hq10 => ?_)
  obtain ⟨rfl, rfl, rfl, rfl, rfl⟩ := hq10
  refine LW_i2l dX11_sumOf_13 ?_
  refine LW_lmul dX11_sumOf_14 ?_
  refine LW_lret dX11_sumOf_15 rfl (Nat.le_of_ble_eq_true rfl) (Nat.le_of_ble_eq_true rfl) ?_
  exact Qr.mk rfl
set_option maxRecDepth 100000 in
theorem r_mHazardOf {Λ : hc_L} {I : hc_I} {L : hc_J} {R : hc_R} {A : AS} {w : Int32} (hM : MC Λ I L A w) {f : Nat} (hf : f < aF A) : Run xX11_hazardOf [.ref 217, .int (nI f)] Λ I L R (Qr (some (.int (nI (aHzAt A (aFd A f 1) (aFd A f 2))))) Λ I L R) := by
  refine Run.of (by decide +kernel) (Nat.le_of_ble_eq_true rfl) ?_
  show LW _ _ _ [(0, .ref 217), (1, .int (nI f))] _ _ _ _ _ _
  have hY := hM.y
  have hw := hM.w.2.2.2.2.2.2.2.1 f hf
  have hm12 := hM.w.m
  have hf24 := hM.w.f
  refine LW_aloadn 0 dX11_hazardOf_0 rfl rfl ?_
  refine gX11_5 dX11_hazardOf_1 flX11_25 (hY.lt (k := 217) (by decide)) (ly217 hY) (lf217_5 hY) ?_
  refine LW_bipush (v := 8) dX11_hazardOf_4 (by decide) ?_
  refine LW_aloadn 0 dX11_hazardOf_6 rfl rfl ?_
  refine LW_iloadn 1 dX11_hazardOf_7 rfl rfl ?_
  refine LW_iconst (v := 2) dX11_hazardOf_8 (by decide) ?_
  refine LW_callV (As := [.int (nI f), .int 2]) (b := 217) (st := [.int 8, .ref 222]) (ci := 11) (r := (RX11, TX11, 44)) (r_mOf hM (f := f) (a := 2) hf (by decide)) YX11_of rfl dX11_hazardOf_9 mlX11_334 (hY.lt (k := 217) (by decide)) (ly217 hY) ⟨rfl, rfl⟩ (by decide) ⟨Nat.le_of_ble_eq_true rfl, Nat.le_of_ble_eq_true rfl⟩ (Nat.le_of_ble_eq_true rfl) rfl (fun r9 Λc9 Ic9 Lc9 Rc9 hq9 => ?_)
  obtain ⟨rfl, rfl, rfl, rfl, rfl⟩ := hq9
  refine LW_imul dX11_hazardOf_12 ?_
  rw [show (8 * (nI (aFd A f 2))) = nI (aFd A f 2 * 8) from (by rw [show (8 : Int32) = nI 8 from rfl, nI_mul, Nat.mul_comm])]
  refine LW_aloadn 0 dX11_hazardOf_13 rfl rfl ?_
  refine LW_iloadn 1 dX11_hazardOf_14 rfl rfl ?_
  refine LW_iconst (v := 1) dX11_hazardOf_15 (by decide) ?_
  refine LW_callV (As := [.int (nI f), .int 1]) (b := 217) (st := [.int (nI (aFd A f 2 * 8)), .ref 222]) (ci := 11) (r := (RX11, TX11, 44)) (r_mOf hM (f := f) (a := 1) hf (by decide)) YX11_of rfl dX11_hazardOf_16 mlX11_334 (hY.lt (k := 217) (by decide)) (ly217 hY) ⟨rfl, rfl⟩ (by decide) ⟨Nat.le_of_ble_eq_true rfl, Nat.le_of_ble_eq_true rfl⟩ (Nat.le_of_ble_eq_true rfl) rfl (fun r16 Λc16 Ic16 Lc16 Rc16 hq16 => ?_)
  obtain ⟨rfl, rfl, rfl, rfl, rfl⟩ := hq16
  refine LW_iadd dX11_hazardOf_19 ?_
  rw [show ((nI (aFd A f 2 * 8)) + (nI (aFd A f 1))) = nI (aFd A f 2 * 8 + aFd A f 1) from (nI_add _ _)]
  refine LW_iald dX11_hazardOf_20 (hY.lt (k := 222) (by decide)) (ly222 hY) rfl (by omega) (Nat.le_of_ble_eq_true rfl) ?_
  rw [show I 222 (aFd A f 2 * 8 + aFd A f 1) = nI (aHzAt A (aFd A f 1) (aFd A f 2)) from hM.hz (by omega)]
  refine LW_iret dX11_hazardOf_21 rfl (Nat.le_of_ble_eq_true rfl) (Nat.le_of_ble_eq_true rfl) ?_
  exact Qr.mk rfl
theorem aSf_own {A : AS} {i k : Nat} (hi : i < aF A) (hk : aIs A k = true) : aSf A i k = decide (aFd A i 0 = k) := by
  unfold aSf aSt
  by_cases c : aFd A i 0 = k
  · rw [c, hk, decide_eq_true hi, decide_eq_true rfl]; rfl
  · rw [decide_eq_false c, Bool.and_false]
theorem prX_is {A : AS} {w : Int32} {k : Nat} (h : prX A w k = true) : aIs A k = true := by
  simp only [prX, Bool.and_eq_true] at h
  exact h.2

set_option maxRecDepth 100000 in
theorem r_mPointsOf {Λ : hc_L} {I : hc_I} {L : hc_J} {R : hc_R} {A : AS} {w : Int32} (hM : MC Λ I L A w) {k : Nat} (hk : k < aM A) : Run xX11_pointsOf [.ref 217, .int (nI k)] Λ I L R (Qr (some (.long (gP A (prX A w) k))) Λ I L R) := by
  refine Run.of (by decide +kernel) (Nat.le_of_ble_eq_true rfl) ?_
  show LW _ _ _ [(0, .ref 217), (1, .int (nI k))] _ _ _ _ _ _
  have hY := hM.y
  have hf24 := hM.w.f
  have hm12 := hM.w.m
  by_cases hp : prX A w k = true
  · have hki := prX_is hp
    have loop : ∀ i, i ≤ aF A → LW xX11_pointsOf (0, 0) 5 [(0, .ref 217), (1, .int (nI k)), (2, .long (abPts A k i)), (4, .int (nI i))] [] Λ I L R (Qr (some (.long (gP A (prX A w) k))) Λ I L R) := by
      refine hc_down ?_ ?_
      · refine LW_iload 3 dX11_pointsOf_5 rfl ?_
        refine LW_i2l dX11_pointsOf_7 ?_
        rw [show (nI (aF A)).toInt64 = lN (aF A) from (nI_l (by omega))]
        refine LW_aloadn 0 dX11_pointsOf_8 rfl rfl ?_
        refine gX11_0 dX11_pointsOf_9 flX11_9 (hY.lt (k := 217) (by decide)) (ly217 hY) (lf217_0 hY) ?_
        refine LW_bipush (v := 6) dX11_pointsOf_12 (by decide) ?_
        refine LW_lald dX11_pointsOf_14 (hY.lt (k := 218) (by decide)) (ly218 hY) rfl (by decide) (Nat.le_of_ble_eq_true rfl) ?_
        rw [show L 218 6 = lN (aF A) from hM.nF]
        refine LW_lcmp dX11_pointsOf_15 ?_
        refine LW_lif_ge (tgt := 65) dX11_pointsOf_16 (by decide) (fun c16 => ?_) (fun c16 => absurd (Int64.le_refl _) c16)
        refine LW_lloadn 2 dX11_pointsOf_65 rfl rfl ?_
        refine LW_lret dX11_pointsOf_66 rfl (Nat.le_of_ble_eq_true rfl) (Nat.le_of_ble_eq_true rfl) ?_
        refine Qr.mk ?_
        unfold gP
        rw [if_pos hp]
      · intro i hi ih
        refine LW_iload 3 dX11_pointsOf_5 rfl ?_
        refine LW_i2l dX11_pointsOf_7 ?_
        rw [show (nI i).toInt64 = lN i from (nI_l (by omega))]
        refine LW_aloadn 0 dX11_pointsOf_8 rfl rfl ?_
        refine gX11_0 dX11_pointsOf_9 flX11_9 (hY.lt (k := 217) (by decide)) (ly217 hY) (lf217_0 hY) ?_
        refine LW_bipush (v := 6) dX11_pointsOf_12 (by decide) ?_
        refine LW_lald dX11_pointsOf_14 (hY.lt (k := 218) (by decide)) (ly218 hY) rfl (by decide) (Nat.le_of_ble_eq_true rfl) ?_
        rw [show L 218 6 = lN (aF A) from hM.nF]
        refine LW_lcmp dX11_pointsOf_15 ?_
        refine LW_lif_ge (tgt := 65) dX11_pointsOf_16 (by decide) (fun c16 => absurd c16 (lN_nle (by omega) (by omega) hi)) (fun c16 => ?_)
        refine LW_aloadn 0 dX11_pointsOf_19 rfl rfl ?_
        refine LW_iloadn 1 dX11_pointsOf_20 rfl rfl ?_
        refine LW_callV (As := [.int (nI k)]) (b := 217) (st := []) (ci := 11) (r := (RX11, TX11, 44)) (r_mIsThere hM (k := k) hk) YX11_isThere rfl dX11_pointsOf_21 mlX11_331 (hY.lt (k := 217) (by decide)) (ly217 hY) ⟨rfl, rfl⟩ (by decide) ⟨Nat.le_of_ble_eq_true rfl, Nat.le_of_ble_eq_true rfl⟩ (Nat.le_of_ble_eq_true rfl) rfl (fun r21 Λc21 Ic21 Lc21 Rc21 hq21 => ?_)
        obtain ⟨rfl, rfl, rfl, rfl, rfl⟩ := hq21
        refine LW_bif_eq (tgt := 65) dX11_pointsOf_24 (by decide) (fun c24 => absurd (c24.symm.trans hp) (by decide)) (fun c24 => ?_)
        refine LW_lloadn 2 dX11_pointsOf_27 rfl rfl ?_
        refine LW_aloadn 0 dX11_pointsOf_28 rfl rfl ?_
        refine LW_iload 3 dX11_pointsOf_29 rfl ?_
        refine LW_iconst (v := 0) dX11_pointsOf_31 (by decide) ?_
        refine LW_callV (As := [.int (nI i), .int 0]) (b := 217) (st := [.long (abPts A k i)]) (ci := 11) (r := (RX11, TX11, 44)) (r_mOf hM (f := i) (a := 0) hi (by decide)) YX11_of rfl dX11_pointsOf_32 mlX11_334 (hY.lt (k := 217) (by decide)) (ly217 hY) ⟨rfl, rfl⟩ (by decide) ⟨Nat.le_of_ble_eq_true rfl, Nat.le_of_ble_eq_true rfl⟩ (Nat.le_of_ble_eq_true rfl) rfl (fun r32 Λc32 Ic32 Lc32 Rc32 hq32 => ?_)
        obtain ⟨rfl, rfl, rfl, rfl, rfl⟩ := hq32
        refine LW_iloadn 1 dX11_pointsOf_35 rfl rfl ?_
        refine LW_icmp_ne (tgt := 56) dX11_pointsOf_36 (by decide) (fun c36 => ?_) (fun c36 => ?_)
        · have hown : ¬ aFd A i 0 = k := fun z => c36 (by rw [z])
          refine LW_lconst (v := 0) dX11_pointsOf_56 (by decide) ?_
          refine LW_ladd dX11_pointsOf_57 ?_
          refine LW_lstoren (ls' := [(0, .ref 217), (1, .int (nI k)), (2, .long ((abPts A k i) + 0)), (4, .int (nI i))]) dX11_pointsOf_58 rfl (by decide) rfl ?_
          refine LW_iinc (n := 3) (v := nI (i + 1)) (ls' := [(0, .ref 217), (1, .int (nI k)), (2, .long ((abPts A k i) + 0)), (4, .int (nI (i + 1)))]) dX11_pointsOf_59 rfl (hc_inc _) (by decide) rfl ?_
          refine LW_goto (tgt := 5) dX11_pointsOf_62 (by decide) ?_
          have e : abPts A k (i + 1) = (abPts A k i) + 0 := by
            show abPts A k i + (if aSf A i k = true then aPt A i else 0) = _
            rw [aSf_own hi hki, decide_eq_false hown]
            try rfl
          rw [e] at ih
          exact ih
        · have hown : aFd A i 0 = k := (hc_eq (by have := (hM.w.2.2.2.2.2.2.2.1 i hi).1; omega) (by omega)).mp (Classical.not_not.mp c36)
          refine LW_aloadn 0 dX11_pointsOf_39 rfl rfl ?_
          refine LW_iload 3 dX11_pointsOf_40 rfl ?_
          refine LW_callV (As := [.int (nI i)]) (b := 217) (st := [.long (abPts A k i)]) (ci := 11) (r := (RX11, TX11, 44)) (r_mSumOf hM hi) YX11_sumOf rfl dX11_pointsOf_42 mlX11_338 (hY.lt (k := 217) (by decide)) (ly217 hY) ⟨rfl, rfl⟩ (by decide) ⟨Nat.le_of_ble_eq_true rfl, Nat.le_of_ble_eq_true rfl⟩ (Nat.le_of_ble_eq_true rfl) rfl (fun r42 Λc42 Ic42 Lc42 Rc42 hq42 => ?_)
          obtain ⟨rfl, rfl, rfl, rfl, rfl⟩ := hq42
          refine LW_aloadn 0 dX11_pointsOf_45 rfl rfl ?_
          refine LW_iload 3 dX11_pointsOf_46 rfl ?_
          refine LW_callV (As := [.int (nI i)]) (b := 217) (st := [.long (aCo A i), .long (abPts A k i)]) (ci := 11) (r := (RX11, TX11, 44)) (r_mHazardOf hM hi) YX11_hazardOf rfl dX11_pointsOf_48 mlX11_341 (hY.lt (k := 217) (by decide)) (ly217 hY) ⟨rfl, rfl⟩ (by decide) ⟨Nat.le_of_ble_eq_true rfl, Nat.le_of_ble_eq_true rfl⟩ (Nat.le_of_ble_eq_true rfl) rfl (fun r48 Λc48 Ic48 Lc48 Rc48 hq48 => ?_)
          obtain ⟨rfl, rfl, rfl, rfl, rfl⟩ := hq48
          refine LW_i2l dX11_pointsOf_51 ?_
          refine LW_lmul dX11_pointsOf_52 ?_
          refine LW_goto (tgt := 57) dX11_pointsOf_53 (by decide) ?_
          refine LW_ladd dX11_pointsOf_57 ?_
          refine LW_lstoren (ls' := [(0, .ref 217), (1, .int (nI k)), (2, .long ((abPts A k i) + ((aCo A i) * ((nI (aHzAt A (aFd A i 1) (aFd A i 2))).toInt64)))), (4, .int (nI i))]) dX11_pointsOf_58 rfl (by decide) rfl ?_
          refine LW_iinc (n := 3) (v := nI (i + 1)) (ls' := [(0, .ref 217), (1, .int (nI k)), (2, .long ((abPts A k i) + ((aCo A i) * ((nI (aHzAt A (aFd A i 1) (aFd A i 2))).toInt64)))), (4, .int (nI (i + 1)))]) dX11_pointsOf_59 rfl (hc_inc _) (by decide) rfl ?_
          refine LW_goto (tgt := 5) dX11_pointsOf_62 (by decide) ?_
          have e : abPts A k (i + 1) = (abPts A k i) + ((aCo A i) * ((nI (aHzAt A (aFd A i 1) (aFd A i 2))).toInt64)) := by
            show abPts A k i + (if aSf A i k = true then aPt A i else 0) = _
            rw [aSf_own hi hki, decide_eq_true hown]
            try rfl
          rw [e] at ih
          exact ih
    refine LW_lconst (v := 0) dX11_pointsOf_0 (by decide) ?_
    refine LW_lstoren (ls' := [(0, .ref 217), (1, .int (nI k)), (2, .long 0)]) dX11_pointsOf_1 rfl (by decide) rfl ?_
    refine LW_iconst (v := 0) dX11_pointsOf_2 (by decide) ?_
    refine LW_istore (ls' := [(0, .ref 217), (1, .int (nI k)), (2, .long 0), (4, .int 0)]) dX11_pointsOf_3 (by decide) rfl ?_
    exact loop 0 (Nat.zero_le _)
  · refine LW_lconst (v := 0) dX11_pointsOf_0 (by decide) ?_
    refine LW_lstoren (ls' := [(0, .ref 217), (1, .int (nI k)), (2, .long 0)]) dX11_pointsOf_1 rfl (by decide) rfl ?_
    refine LW_iconst (v := 0) dX11_pointsOf_2 (by decide) ?_
    refine LW_istore (ls' := [(0, .ref 217), (1, .int (nI k)), (2, .long 0), (4, .int 0)]) dX11_pointsOf_3 (by decide) rfl ?_
    show LW _ _ _ [(0, .ref 217), (1, .int (nI k)), (2, .long 0), (4, .int (nI 0))] _ _ _ _ _ _
    refine LW_iload 3 dX11_pointsOf_5 rfl ?_
    refine LW_i2l dX11_pointsOf_7 ?_
    rw [show (nI 0).toInt64 = lN 0 from (nI_l (by decide))]
    refine LW_aloadn 0 dX11_pointsOf_8 rfl rfl ?_
    refine gX11_0 dX11_pointsOf_9 flX11_9 (hY.lt (k := 217) (by decide)) (ly217 hY) (lf217_0 hY) ?_
    refine LW_bipush (v := 6) dX11_pointsOf_12 (by decide) ?_
    refine LW_lald dX11_pointsOf_14 (hY.lt (k := 218) (by decide)) (ly218 hY) rfl (by decide) (Nat.le_of_ble_eq_true rfl) ?_
    rw [show L 218 6 = lN (aF A) from hM.nF]
    refine LW_lcmp dX11_pointsOf_15 ?_
    refine LW_lif_ge (tgt := 65) dX11_pointsOf_16 (by decide) (fun c16 => ?_) (fun c16 => ?_)
    · refine LW_lloadn 2 dX11_pointsOf_65 rfl rfl ?_
      refine LW_lret dX11_pointsOf_66 rfl (Nat.le_of_ble_eq_true rfl) (Nat.le_of_ble_eq_true rfl) ?_
      refine Qr.mk ?_
      unfold gP
      rw [if_neg hp]
    · refine LW_aloadn 0 dX11_pointsOf_19 rfl rfl ?_
      refine LW_iloadn 1 dX11_pointsOf_20 rfl rfl ?_
      refine LW_callV (As := [.int (nI k)]) (b := 217) (st := []) (ci := 11) (r := (RX11, TX11, 44)) (r_mIsThere hM (k := k) hk) YX11_isThere rfl dX11_pointsOf_21 mlX11_331 (hY.lt (k := 217) (by decide)) (ly217 hY) ⟨rfl, rfl⟩ (by decide) ⟨Nat.le_of_ble_eq_true rfl, Nat.le_of_ble_eq_true rfl⟩ (Nat.le_of_ble_eq_true rfl) rfl (fun r21 Λc21 Ic21 Lc21 Rc21 hq21 => ?_)
      obtain ⟨rfl, rfl, rfl, rfl, rfl⟩ := hq21
      refine LW_bif_eq (tgt := 65) dX11_pointsOf_24 (by decide) (fun c24 => ?_) (fun c24 => absurd (c24.symm.trans (show prX A w k = false by cases q : prX A w k with | true => exact absurd q hp | false => rfl)) (by decide))
      refine LW_lloadn 2 dX11_pointsOf_65 rfl rfl ?_
      refine LW_lret dX11_pointsOf_66 rfl (Nat.le_of_ble_eq_true rfl) (Nat.le_of_ble_eq_true rfl) ?_
      refine Qr.mk ?_
      unfold gP
      rw [if_neg hp]

set_option maxRecDepth 100000 in
theorem r_mSumsOf {Λ : hc_L} {I : hc_I} {L : hc_J} {R : hc_R} {A : AS} {w : Int32} (hM : MC Λ I L A w) {k : Nat} (hk : k < aM A) : Run xX11_sumsOf [.ref 217, .int (nI k)] Λ I L R (Qr (some (.long (gS A (prX A w) k))) Λ I L R) := by
  refine Run.of (by decide +kernel) (Nat.le_of_ble_eq_true rfl) ?_
  show LW _ _ _ [(0, .ref 217), (1, .int (nI k))] _ _ _ _ _ _
  have hY := hM.y
  have hf24 := hM.w.f
  have hm12 := hM.w.m
  by_cases hp : prX A w k = true
  · have hki := prX_is hp
    have loop : ∀ i, i ≤ aF A → LW xX11_sumsOf (0, 0) 5 [(0, .ref 217), (1, .int (nI k)), (2, .long (abSums A k i)), (4, .int (nI i))] [] Λ I L R (Qr (some (.long (gS A (prX A w) k))) Λ I L R) := by
      refine hc_down ?_ ?_
      · refine LW_iload 3 dX11_sumsOf_5 rfl ?_
        refine LW_i2l dX11_sumsOf_7 ?_
        rw [show (nI (aF A)).toInt64 = lN (aF A) from (nI_l (by omega))]
        refine LW_aloadn 0 dX11_sumsOf_8 rfl rfl ?_
        refine gX11_0 dX11_sumsOf_9 flX11_9 (hY.lt (k := 217) (by decide)) (ly217 hY) (lf217_0 hY) ?_
        refine LW_bipush (v := 6) dX11_sumsOf_12 (by decide) ?_
        refine LW_lald dX11_sumsOf_14 (hY.lt (k := 218) (by decide)) (ly218 hY) rfl (by decide) (Nat.le_of_ble_eq_true rfl) ?_
        rw [show L 218 6 = lN (aF A) from hM.nF]
        refine LW_lcmp dX11_sumsOf_15 ?_
        refine LW_lif_ge (tgt := 57) dX11_sumsOf_16 (by decide) (fun c16 => ?_) (fun c16 => absurd (Int64.le_refl _) c16)
        refine LW_lloadn 2 dX11_sumsOf_57 rfl rfl ?_
        refine LW_lret dX11_sumsOf_58 rfl (Nat.le_of_ble_eq_true rfl) (Nat.le_of_ble_eq_true rfl) ?_
        refine Qr.mk ?_
        unfold gS
        rw [if_pos hp]
      · intro i hi ih
        refine LW_iload 3 dX11_sumsOf_5 rfl ?_
        refine LW_i2l dX11_sumsOf_7 ?_
        rw [show (nI i).toInt64 = lN i from (nI_l (by omega))]
        refine LW_aloadn 0 dX11_sumsOf_8 rfl rfl ?_
        refine gX11_0 dX11_sumsOf_9 flX11_9 (hY.lt (k := 217) (by decide)) (ly217 hY) (lf217_0 hY) ?_
        refine LW_bipush (v := 6) dX11_sumsOf_12 (by decide) ?_
        refine LW_lald dX11_sumsOf_14 (hY.lt (k := 218) (by decide)) (ly218 hY) rfl (by decide) (Nat.le_of_ble_eq_true rfl) ?_
        rw [show L 218 6 = lN (aF A) from hM.nF]
        refine LW_lcmp dX11_sumsOf_15 ?_
        refine LW_lif_ge (tgt := 57) dX11_sumsOf_16 (by decide) (fun c16 => absurd c16 (lN_nle (by omega) (by omega) hi)) (fun c16 => ?_)
        refine LW_aloadn 0 dX11_sumsOf_19 rfl rfl ?_
        refine LW_iloadn 1 dX11_sumsOf_20 rfl rfl ?_
        refine LW_callV (As := [.int (nI k)]) (b := 217) (st := []) (ci := 11) (r := (RX11, TX11, 44)) (r_mIsThere hM (k := k) hk) YX11_isThere rfl dX11_sumsOf_21 mlX11_331 (hY.lt (k := 217) (by decide)) (ly217 hY) ⟨rfl, rfl⟩ (by decide) ⟨Nat.le_of_ble_eq_true rfl, Nat.le_of_ble_eq_true rfl⟩ (Nat.le_of_ble_eq_true rfl) rfl (fun r21 Λc21 Ic21 Lc21 Rc21 hq21 => ?_)
        obtain ⟨rfl, rfl, rfl, rfl, rfl⟩ := hq21
        refine LW_bif_eq (tgt := 57) dX11_sumsOf_24 (by decide) (fun c24 => absurd (c24.symm.trans hp) (by decide)) (fun c24 => ?_)
        refine LW_lloadn 2 dX11_sumsOf_27 rfl rfl ?_
        refine LW_aloadn 0 dX11_sumsOf_28 rfl rfl ?_
        refine LW_iload 3 dX11_sumsOf_29 rfl ?_
        refine LW_iconst (v := 0) dX11_sumsOf_31 (by decide) ?_
        refine LW_callV (As := [.int (nI i), .int 0]) (b := 217) (st := [.long (abSums A k i)]) (ci := 11) (r := (RX11, TX11, 44)) (r_mOf hM (f := i) (a := 0) hi (by decide)) YX11_of rfl dX11_sumsOf_32 mlX11_334 (hY.lt (k := 217) (by decide)) (ly217 hY) ⟨rfl, rfl⟩ (by decide) ⟨Nat.le_of_ble_eq_true rfl, Nat.le_of_ble_eq_true rfl⟩ (Nat.le_of_ble_eq_true rfl) rfl (fun r32 Λc32 Ic32 Lc32 Rc32 hq32 => ?_)
        obtain ⟨rfl, rfl, rfl, rfl, rfl⟩ := hq32
        refine LW_iloadn 1 dX11_sumsOf_35 rfl rfl ?_
        refine LW_icmp_ne (tgt := 48) dX11_sumsOf_36 (by decide) (fun c36 => ?_) (fun c36 => ?_)
        · have hown : ¬ aFd A i 0 = k := fun z => c36 (by rw [z])
          refine LW_lconst (v := 0) dX11_sumsOf_48 (by decide) ?_
          refine LW_ladd dX11_sumsOf_49 ?_
          refine LW_lstoren (ls' := [(0, .ref 217), (1, .int (nI k)), (2, .long ((abSums A k i) + 0)), (4, .int (nI i))]) dX11_sumsOf_50 rfl (by decide) rfl ?_
          refine LW_iinc (n := 3) (v := nI (i + 1)) (ls' := [(0, .ref 217), (1, .int (nI k)), (2, .long ((abSums A k i) + 0)), (4, .int (nI (i + 1)))]) dX11_sumsOf_51 rfl (hc_inc _) (by decide) rfl ?_
          refine LW_goto (tgt := 5) dX11_sumsOf_54 (by decide) ?_
          have e : abSums A k (i + 1) = (abSums A k i) + 0 := by
            show abSums A k i + (if aSf A i k = true then aCo A i else 0) = _
            rw [aSf_own hi hki, decide_eq_false hown]
            try rfl
          rw [e] at ih
          exact ih
        · have hown : aFd A i 0 = k := (hc_eq (by have := (hM.w.2.2.2.2.2.2.2.1 i hi).1; omega) (by omega)).mp (Classical.not_not.mp c36)
          refine LW_aloadn 0 dX11_sumsOf_39 rfl rfl ?_
          refine LW_iload 3 dX11_sumsOf_40 rfl ?_
          refine LW_callV (As := [.int (nI i)]) (b := 217) (st := [.long (abSums A k i)]) (ci := 11) (r := (RX11, TX11, 44)) (r_mSumOf hM hi) YX11_sumOf rfl dX11_sumsOf_42 mlX11_338 (hY.lt (k := 217) (by decide)) (ly217 hY) ⟨rfl, rfl⟩ (by decide) ⟨Nat.le_of_ble_eq_true rfl, Nat.le_of_ble_eq_true rfl⟩ (Nat.le_of_ble_eq_true rfl) rfl (fun r42 Λc42 Ic42 Lc42 Rc42 hq42 => ?_)
          obtain ⟨rfl, rfl, rfl, rfl, rfl⟩ := hq42
          refine LW_goto (tgt := 49) dX11_sumsOf_45 (by decide) ?_
          refine LW_ladd dX11_sumsOf_49 ?_
          refine LW_lstoren (ls' := [(0, .ref 217), (1, .int (nI k)), (2, .long ((abSums A k i) + (aCo A i))), (4, .int (nI i))]) dX11_sumsOf_50 rfl (by decide) rfl ?_
          refine LW_iinc (n := 3) (v := nI (i + 1)) (ls' := [(0, .ref 217), (1, .int (nI k)), (2, .long ((abSums A k i) + (aCo A i))), (4, .int (nI (i + 1)))]) dX11_sumsOf_51 rfl (hc_inc _) (by decide) rfl ?_
          refine LW_goto (tgt := 5) dX11_sumsOf_54 (by decide) ?_
          have e : abSums A k (i + 1) = (abSums A k i) + (aCo A i) := by
            show abSums A k i + (if aSf A i k = true then aCo A i else 0) = _
            rw [aSf_own hi hki, decide_eq_true hown]
            try rfl
          rw [e] at ih
          exact ih
    refine LW_lconst (v := 0) dX11_sumsOf_0 (by decide) ?_
    refine LW_lstoren (ls' := [(0, .ref 217), (1, .int (nI k)), (2, .long 0)]) dX11_sumsOf_1 rfl (by decide) rfl ?_
    refine LW_iconst (v := 0) dX11_sumsOf_2 (by decide) ?_
    refine LW_istore (ls' := [(0, .ref 217), (1, .int (nI k)), (2, .long 0), (4, .int 0)]) dX11_sumsOf_3 (by decide) rfl ?_
    exact loop 0 (Nat.zero_le _)
  · refine LW_lconst (v := 0) dX11_sumsOf_0 (by decide) ?_
    refine LW_lstoren (ls' := [(0, .ref 217), (1, .int (nI k)), (2, .long 0)]) dX11_sumsOf_1 rfl (by decide) rfl ?_
    refine LW_iconst (v := 0) dX11_sumsOf_2 (by decide) ?_
    refine LW_istore (ls' := [(0, .ref 217), (1, .int (nI k)), (2, .long 0), (4, .int 0)]) dX11_sumsOf_3 (by decide) rfl ?_
    show LW _ _ _ [(0, .ref 217), (1, .int (nI k)), (2, .long 0), (4, .int (nI 0))] _ _ _ _ _ _
    refine LW_iload 3 dX11_sumsOf_5 rfl ?_
    refine LW_i2l dX11_sumsOf_7 ?_
    rw [show (nI 0).toInt64 = lN 0 from (nI_l (by decide))]
    refine LW_aloadn 0 dX11_sumsOf_8 rfl rfl ?_
    refine gX11_0 dX11_sumsOf_9 flX11_9 (hY.lt (k := 217) (by decide)) (ly217 hY) (lf217_0 hY) ?_
    refine LW_bipush (v := 6) dX11_sumsOf_12 (by decide) ?_
    refine LW_lald dX11_sumsOf_14 (hY.lt (k := 218) (by decide)) (ly218 hY) rfl (by decide) (Nat.le_of_ble_eq_true rfl) ?_
    rw [show L 218 6 = lN (aF A) from hM.nF]
    refine LW_lcmp dX11_sumsOf_15 ?_
    refine LW_lif_ge (tgt := 57) dX11_sumsOf_16 (by decide) (fun c16 => ?_) (fun c16 => ?_)
    · refine LW_lloadn 2 dX11_sumsOf_57 rfl rfl ?_
      refine LW_lret dX11_sumsOf_58 rfl (Nat.le_of_ble_eq_true rfl) (Nat.le_of_ble_eq_true rfl) ?_
      refine Qr.mk ?_
      unfold gS
      rw [if_neg hp]
    · refine LW_aloadn 0 dX11_sumsOf_19 rfl rfl ?_
      refine LW_iloadn 1 dX11_sumsOf_20 rfl rfl ?_
      refine LW_callV (As := [.int (nI k)]) (b := 217) (st := []) (ci := 11) (r := (RX11, TX11, 44)) (r_mIsThere hM (k := k) hk) YX11_isThere rfl dX11_sumsOf_21 mlX11_331 (hY.lt (k := 217) (by decide)) (ly217 hY) ⟨rfl, rfl⟩ (by decide) ⟨Nat.le_of_ble_eq_true rfl, Nat.le_of_ble_eq_true rfl⟩ (Nat.le_of_ble_eq_true rfl) rfl (fun r21 Λc21 Ic21 Lc21 Rc21 hq21 => ?_)
      obtain ⟨rfl, rfl, rfl, rfl, rfl⟩ := hq21
      refine LW_bif_eq (tgt := 57) dX11_sumsOf_24 (by decide) (fun c24 => ?_) (fun c24 => absurd (c24.symm.trans (show prX A w k = false by cases q : prX A w k with | true => exact absurd q hp | false => rfl)) (by decide))
      refine LW_lloadn 2 dX11_sumsOf_57 rfl rfl ?_
      refine LW_lret dX11_sumsOf_58 rfl (Nat.le_of_ble_eq_true rfl) (Nat.le_of_ble_eq_true rfl) ?_
      refine Qr.mk ?_
      unfold gS
      rw [if_neg hp]
