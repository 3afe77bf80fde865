/-! HailClub: what it holds; plain questions -/
/-- what class and reference both hold: the club, the law, the tape, what can be undone, the latest fault -/
abbrev HS : Type := AS × LwP × (Nat → Nat) × Nat × (Nat → AS) × Nat × Nat × Int32
abbrev sA (S : HS) : AS := S.1
abbrev sP (S : HS) : LwP := S.2.1
abbrev sB (S : HS) : Nat → Nat := S.2.2.1
abbrev sN (S : HS) : Nat := S.2.2.2.1
abbrev sH (S : HS) : Nat → AS := S.2.2.2.2.1
abbrev sC (S : HS) : Nat := S.2.2.2.2.2.1
abbrev sF (S : HS) : Nat := S.2.2.2.2.2.2.1
abbrev sQ (S : HS) : Int32 := S.2.2.2.2.2.2.2
/-- the kept states, the latest first -/
def HsK (Λ : hc_L) (I : hc_I) (L : hc_J) (R : hc_R) (H : Nat → AS) (ct : Nat) : Prop := ∃ K nx, HsAt Λ I L R 52 K nx ct ∧ ∀ k, k < ct → K ((nx + 7 - k) % 8) = H k
def HW (Λ : hc_L) (I : hc_I) (L : hc_J) (R : hc_R) (S : HS) : Prop := LY Λ ∧ St Λ I L R 3 (sA S) ∧ (LwAt Λ I 39 (sP S) ∧ lpI (sP S)) ∧ HsK Λ I L R (sH S) (sC S) ∧ TpAt Λ I 1 (sN S) (sB S) ∧ (∀ i, i < 18 → L 51 i = lN (qw i)) ∧ (∃ D, St Λ I L R 21 D) ∧ I 45 4 = nI (sF S) ∧ I 45 5 = sQ S
def CJ (z : Nat) : Prop := z < 217
def SJ (z : Nat) : Prop := z < 217 ∧ (z = 41 ∨ z = 44 ∨ 198 ≤ z)
theorem SJ.c {z : Nat} (h : SJ z) : CJ z := h.1
theorem HsAt.fr {J : Nat → Prop} {Λ Λ' : hc_L} {I I' : hc_I} {L L' : hc_J} {R R' : hc_R} {K : Nat → AS} {nx ct : Nat} (h : HsAt Λ I L R 52 K nx ct) (hy : LY Λ) (hy' : LY Λ') (f : Fr J Λ I L R Λ' I' L' R') (hj : ∀ z, J z → z < 238 ∧ ¬ (52 ≤ z ∧ z < 198)) : HsAt Λ' I' L' R' 52 K nx ct := by
  obtain ⟨-, h2, h3, h4, h5, h6⟩ := h
  have e : I' 52 = I 52 := f.2.1 52 (hy.lt (by decide)) (fun q => (hj 52 q).2 (by decide))
  refine ⟨hy'.hs, h2, h3, by rw [e]; exact h4, by rw [e]; exact h5, fun i hi => ?_⟩
  refine (h6 i hi).fr hy ?_ f (fun z q => ⟨(hj z q).1, fun c => (hj z q).2 (by omega)⟩)
  rcases (show i = 0 ∨ i = 1 ∨ i = 2 ∨ i = 3 ∨ i = 4 ∨ i = 5 ∨ i = 6 ∨ i = 7 by omega) with rfl | rfl | rfl | rfl | rfl | rfl | rfl | rfl
  · exact hy'.st54
  · exact hy'.st72
  · exact hy'.st90
  · exact hy'.st108
  · exact hy'.st126
  · exact hy'.st144
  · exact hy'.st162
  · exact hy'.st180
theorem HsK.fr {J : Nat → Prop} {Λ Λ' : hc_L} {I I' : hc_I} {L L' : hc_J} {R R' : hc_R} {H : Nat → AS} {ct : Nat} (h : HsK Λ I L R H ct) (hy : LY Λ) (hy' : LY Λ') (f : Fr J Λ I L R Λ' I' L' R') (hj : ∀ z, J z → z < 238 ∧ ¬ (52 ≤ z ∧ z < 198)) : HsK Λ' I' L' R' H ct := by
  obtain ⟨K, nx, h1, h2⟩ := h
  exact ⟨K, nx, h1.fr hy hy' f hj, h2⟩
theorem TpAt.fr {J : Nat → Prop} {Λ Λ' : hc_L} {I I' : hc_I} {L L' : hc_J} {R R' : hc_R} {n : Nat} {B : Nat → Nat} (h : TpAt Λ I 1 n B) (hy : LY Λ) (hy' : LY Λ') (f : Fr J Λ I L R Λ' I' L' R') (h1 : ¬ J 1) (h2 : ¬ J 2) : TpAt Λ' I' 1 n B := by
  have e1 : I' 1 = I 1 := f.2.1 1 (hy.lt (by decide)) h1
  have e2 : I' (1 + 1) = I (1 + 1) := f.2.1 2 (hy.lt (by decide)) h2
  exact ⟨hy'.tp, by rw [e1]; exact h.2.1, h.2.2.1, fun j hj => by rw [e2]; exact h.2.2.2 j hj⟩
theorem HW.fr {J : Nat → Prop} {Λ Λ' : hc_L} {I I' : hc_I} {L L' : hc_J} {R R' : hc_R} {S : HS} (h : HW Λ I L R S) (f : Fr J Λ I L R Λ' I' L' R') (hj : ∀ z, J z → z < 238 ∧ (z = 41 ∨ z = 44 ∨ 198 ≤ z)) : HW Λ' I' L' R' S := by
  obtain ⟨h1, h2, h3, h4, h5, h6, ⟨D, h7⟩, h8, h9⟩ := h
  have hy' := h1.fr f
  have e45 : I' 45 = I 45 := f.2.1 45 (h1.lt (by decide)) (fun q => by have := (hj 45 q).2; omega)
  have e51 : L' 51 = L 51 := f.2.2.1 51 (h1.lt (by decide)) (fun q => by have := (hj 51 q).2; omega)
  have no : ∀ z, z < 198 → z ≠ 41 → z ≠ 44 → ¬ J z := fun z a b c q => by have := (hj z q).2; omega
  refine ⟨hy', h2.fr h1 hy'.st3 f (fun z q => ⟨(hj z q).1, fun c => by have := (hj z q).2; omega⟩), ⟨h3.1.fr hy'.lw39 f ⟨no _ (by decide) (by decide) (by decide), no _ (by decide) (by decide) (by decide)⟩, h3.2⟩, h4.fr h1 hy' f (fun z q => ⟨(hj z q).1, fun c => by have := (hj z q).2; omega⟩), h5.fr h1 hy' f (no _ (by decide) (by decide) (by decide)) (no _ (by decide) (by decide) (by decide)), by rw [e51]; exact h6, ⟨D, h7.fr h1 hy'.st21 f (fun z q => ⟨(hj z q).1, fun c => by have := (hj z q).2; omega⟩)⟩, by rw [e45]; exact h8, by rw [e45]; exact h9⟩
theorem SJ.s {z : Nat} (h : SJ z) : z < 238 ∧ (z = 41 ∨ z = 44 ∨ 198 ≤ z) := ⟨Nat.lt_of_lt_of_le h.1 (by decide), h.2⟩
section HWA
variable {Λ : hc_L} {I : hc_I} {L : hc_J} {R : hc_R} {S : HS}
theorem HW.y (h : HW Λ I L R S) : LY Λ := h.1
theorem HW.s (h : HW Λ I L R S) : St Λ I L R 3 (sA S) := h.2.1
theorem HW.l (h : HW Λ I L R S) : LwAt Λ I 39 (sP S) := h.2.2.1.1
theorem HW.p (h : HW Λ I L R S) : lpOk (sP S) := h.2.2.1.2.ok
theorem HW.t (h : HW Λ I L R S) : TpAt Λ I 1 (sN S) (sB S) := h.2.2.2.2.1
theorem HW.tn (h : HW Λ I L R S) : I 1 1 = nI (sN S) := h.t.2.1
theorem HW.n7 (h : HW Λ I L R S) : sN S ≤ 700 := h.t.2.2.1
theorem HW.c (h : HW Λ I L R S) : I 52 2 = nI (sC S) := by obtain ⟨K, nx, h1, h2⟩ := h.2.2.2.1; exact h1.2.2.2.2.1
theorem HW.c8 (h : HW Λ I L R S) : sC S ≤ 8 := by obtain ⟨K, nx, h1, h2⟩ := h.2.2.2.1; exact h1.2.2.1
end HWA
def HPost (v : Option Value) (S : HS) (Λ : hc_L) (I : hc_I) (L : hc_J) (R : hc_R) : hc_Q := fun r Λ' I' L' R' => r = v ∧ Fr CJ Λ I L R Λ' I' L' R' ∧ Λ'.1 ≤ Λ.1 + 701 ∧ HW Λ' I' L' R' S
theorem HPost.q {v v' : Option Value} {S : HS} {Λ Λ' : hc_L} {I I' : hc_I} {L L' : hc_J} {R R' : hc_R} (h : HW Λ I L R S) (f : Fr SJ Λ I L R Λ' I' L' R') (hl : Λ'.1 ≤ Λ.1 + 701) (hv : v' = v) : HPost v S Λ I L R v' Λ' I' L' R' := ⟨hv, f.mono (fun _ _ q => q.c), hl, h.fr f (fun _ q => q.s)⟩
theorem HPost.r {v v' : Option Value} {S : HS} {Λ : hc_L} {I : hc_I} {L : hc_J} {R : hc_R} (h : HW Λ I L R S) (hv : v' = v) : HPost v S Λ I L R v' Λ I L R := HPost.q h Fr.rf (Nat.le_add_right _ _) hv
theorem tsw {x : Int32} {N : Nat} (hN : N < 2 ^ 31) (h : ∀ k, k ≤ N → x ≠ nI k) : x.toInt < 0 ∨ (N : Int) < x.toInt := by
  by_cases c : x.toInt < 0
  · exact Or.inl c
  · refine Or.inr ?_
    by_cases d : (N : Int) < x.toInt
    · exact d
    · exfalso
      refine h x.toInt.toNat (by omega) ?_
      rw [← Int32.toInt_inj, nI_toInt (by omega)]
      omega
theorem x_in {x : Int32} {N : Nat} (hN : N < 2 ^ 31) (h0 : 0 ≤ x) (h1 : x < nI N) : ∃ k, k < N ∧ x = nI k := by
  obtain ⟨k, hk, rfl⟩ := hc_nn h0
  exact ⟨k, (hc_lt hk hN).mp h1, rfl⟩
def aSpan (x : Int32) : Bool := decide (1 ≤ x) && decide (x ≤ 8)
def aStr (x : Int32) : Bool := decide (1 ≤ x) && decide (x ≤ 100)
def aArea (x y tx ty : Int32) : Bool := aCell x y && (aCell tx ty && (decide (x ≤ tx) && decide (y ≤ ty)))
theorem aRan_k {x : Int32} {N : Nat} (hN : N < 2 ^ 31) (h1 : 1 ≤ x) (h2 : x ≤ nI N) : ∃ k, x = nI k ∧ 1 ≤ k ∧ k ≤ N := by
  have h0 : (0 : Int32) ≤ x := Int32.le_trans (by decide) h1
  obtain ⟨k, hk, rfl⟩ := hc_nn h0
  exact ⟨k, rfl, (hc_le (a := 1) (b := k) (by omega) hk).mp h1, (hc_le hk hN).mp h2⟩
theorem aSpan_k {x : Int32} (c : aSpan x = true) : ∃ k, x = nI k ∧ 1 ≤ k ∧ k ≤ 8 := by
  simp only [aSpan, Bool.and_eq_true, decide_eq_true_eq] at c
  exact aRan_k (N := 8) (by decide) c.1 c.2
theorem aStr_k {x : Int32} (c : aStr x = true) : ∃ k, x = nI k ∧ 1 ≤ k ∧ k ≤ 100 := by
  simp only [aStr, Bool.and_eq_true, decide_eq_true_eq] at c
  exact aRan_k (N := 100) (by decide) c.1 c.2
set_option maxRecDepth 100000 in
theorem r_isSpan {Λ : hc_L} {I : hc_I} {L : hc_J} {R : hc_R} (x : Int32) : Run xX10_isSpan [.int x] Λ I L R (Qr (some (.int (hc_b (aSpan x)))) Λ I L R) := by
  refine Run.of (by decide +kernel) (Nat.le_of_ble_eq_true rfl) ?_
  show LW _ _ _ [(0, .int x)] _ _ _ _ _ _
  refine LW_iloadn 0 dX10_isSpan_0 rfl rfl ?_
  refine LW_iconst (v := 1) dX10_isSpan_1 (by decide) ?_
  refine LW_icmp_lt (tgt := 15) dX10_isSpan_2 (by decide) (fun c2 => ?_) (fun c2 => ?_)
  · refine LW_iconst (v := 0) dX10_isSpan_15 (by decide) ?_
    refine LW_zret dX10_isSpan_16 rfl (Nat.le_of_ble_eq_true rfl) (Nat.le_of_ble_eq_true rfl) (Or.inl rfl) ?_
    refine Qr.mk ?_
    unfold aSpan
    first | (rw [decide_eq_true (Int32.not_lt.mp c2), decide_eq_true (Int32.not_lt.mp c8)]; rfl) | (rw [decide_eq_true (Int32.not_lt.mp c2), decide_eq_false (Int32.not_le.mpr c8)]; rfl) | (rw [decide_eq_false (Int32.not_le.mpr c2)]; rfl)
  · refine LW_iloadn 0 dX10_isSpan_5 rfl rfl ?_
    refine LW_bipush (v := 8) dX10_isSpan_6 (by decide) ?_
    refine LW_icmp_gt (tgt := 15) dX10_isSpan_8 (by decide) (fun c8 => ?_) (fun c8 => ?_)
    · refine LW_iconst (v := 0) dX10_isSpan_15 (by decide) ?_
      refine LW_zret dX10_isSpan_16 rfl (Nat.le_of_ble_eq_true rfl) (Nat.le_of_ble_eq_true rfl) (Or.inl rfl) ?_
      refine Qr.mk ?_
      unfold aSpan
      first | (rw [decide_eq_true (Int32.not_lt.mp c2), decide_eq_true (Int32.not_lt.mp c8)]; rfl) | (rw [decide_eq_true (Int32.not_lt.mp c2), decide_eq_false (Int32.not_le.mpr c8)]; rfl) | (rw [decide_eq_false (Int32.not_le.mpr c2)]; rfl)
    · refine LW_iconst (v := 1) dX10_isSpan_11 (by decide) ?_
      refine LW_goto (tgt := 16) dX10_isSpan_12 (by decide) ?_
      refine LW_zret dX10_isSpan_16 rfl (Nat.le_of_ble_eq_true rfl) (Nat.le_of_ble_eq_true rfl) (Or.inr rfl) ?_
      refine Qr.mk ?_
      unfold aSpan
      first | (rw [decide_eq_true (Int32.not_lt.mp c2), decide_eq_true (Int32.not_lt.mp c8)]; rfl) | (rw [decide_eq_true (Int32.not_lt.mp c2), decide_eq_false (Int32.not_le.mpr c8)]; rfl) | (rw [decide_eq_false (Int32.not_le.mpr c2)]; rfl)
set_option maxRecDepth 100000 in
theorem r_isStrength {Λ : hc_L} {I : hc_I} {L : hc_J} {R : hc_R} (x : Int32) : Run xX10_isStrength [.int x] Λ I L R (Qr (some (.int (hc_b (aStr x)))) Λ I L R) := by
  refine Run.of (by decide +kernel) (Nat.le_of_ble_eq_true rfl) ?_
  show LW _ _ _ [(0, .int x)] _ _ _ _ _ _
  refine LW_iloadn 0 dX10_isStrength_0 rfl rfl ?_
  refine LW_iconst (v := 1) dX10_isStrength_1 (by decide) ?_
  refine LW_icmp_lt (tgt := 15) dX10_isStrength_2 (by decide) (fun c2 => ?_) (fun c2 => ?_)
  · refine LW_iconst (v := 0) dX10_isStrength_15 (by decide) ?_
    refine LW_zret dX10_isStrength_16 rfl (Nat.le_of_ble_eq_true rfl) (Nat.le_of_ble_eq_true rfl) (Or.inl rfl) ?_
    refine Qr.mk ?_
    unfold aStr
    first | (rw [decide_eq_true (Int32.not_lt.mp c2), decide_eq_true (Int32.not_lt.mp c8)]; rfl) | (rw [decide_eq_true (Int32.not_lt.mp c2), decide_eq_false (Int32.not_le.mpr c8)]; rfl) | (rw [decide_eq_false (Int32.not_le.mpr c2)]; rfl)
  · refine LW_iloadn 0 dX10_isStrength_5 rfl rfl ?_
    refine LW_bipush (v := 100) dX10_isStrength_6 (by decide) ?_
    refine LW_icmp_gt (tgt := 15) dX10_isStrength_8 (by decide) (fun c8 => ?_) (fun c8 => ?_)
    · refine LW_iconst (v := 0) dX10_isStrength_15 (by decide) ?_
      refine LW_zret dX10_isStrength_16 rfl (Nat.le_of_ble_eq_true rfl) (Nat.le_of_ble_eq_true rfl) (Or.inl rfl) ?_
      refine Qr.mk ?_
      unfold aStr
      first | (rw [decide_eq_true (Int32.not_lt.mp c2), decide_eq_true (Int32.not_lt.mp c8)]; rfl) | (rw [decide_eq_true (Int32.not_lt.mp c2), decide_eq_false (Int32.not_le.mpr c8)]; rfl) | (rw [decide_eq_false (Int32.not_le.mpr c2)]; rfl)
    · refine LW_iconst (v := 1) dX10_isStrength_11 (by decide) ?_
      refine LW_goto (tgt := 16) dX10_isStrength_12 (by decide) ?_
      refine LW_zret dX10_isStrength_16 rfl (Nat.le_of_ble_eq_true rfl) (Nat.le_of_ble_eq_true rfl) (Or.inr rfl) ?_
      refine Qr.mk ?_
      unfold aStr
      first | (rw [decide_eq_true (Int32.not_lt.mp c2), decide_eq_true (Int32.not_lt.mp c8)]; rfl) | (rw [decide_eq_true (Int32.not_lt.mp c2), decide_eq_false (Int32.not_le.mpr c8)]; rfl) | (rw [decide_eq_false (Int32.not_le.mpr c2)]; rfl)
set_option maxRecDepth 100000 in
theorem r_isArea {Λ : hc_L} {I : hc_I} {L : hc_J} {R : hc_R} (x y tx ty : Int32) : Run xX10_isArea [.int x, .int y, .int tx, .int ty] Λ I L R (Qr (some (.int (hc_b (aArea x y tx ty)))) Λ I L R) := by
  refine Run.of (by decide +kernel) (Nat.le_of_ble_eq_true rfl) ?_
  show LW _ _ _ [(0, .int x), (1, .int y), (2, .int tx), (3, .int ty)] _ _ _ _ _ _
  refine LW_iloadn 0 dX10_isArea_0 rfl rfl ?_
  refine LW_iloadn 1 dX10_isArea_1 rfl rfl ?_
  refine LW_callS (As := [.int x, .int y]) (st := []) (r_isCell x y) YX10_isCell rfl dX10_isArea_2 mlX10_259 (by decide) ⟨Nat.le_of_ble_eq_true rfl, Nat.le_of_ble_eq_true rfl⟩ (Nat.le_of_ble_eq_true rfl) rfl (fun r2 Λc2 Ic2 Lc2 Rc2 hq2 => ?_)
  obtain ⟨rfl, rfl, rfl, rfl, rfl⟩ := hq2
  refine LW_bif_eq (tgt := 30) dX10_isArea_5 (by decide) (fun c5 => ?_) (fun c5 => ?_)
  · refine LW_iconst (v := 0) dX10_isArea_30 (by decide) ?_
    refine LW_zret dX10_isArea_31 rfl (Nat.le_of_ble_eq_true rfl) (Nat.le_of_ble_eq_true rfl) (Or.inl rfl) ?_
    refine Qr.mk ?_
    unfold aArea
    first | (rw [c5, c13, decide_eq_true (Int32.not_lt.mp c18), decide_eq_true (Int32.not_lt.mp c23)]; rfl) | (rw [c5, c13, decide_eq_true (Int32.not_lt.mp c18), decide_eq_false (Int32.not_le.mpr c23)]; rfl) | (rw [c5, c13, decide_eq_false (Int32.not_le.mpr c18)]; rfl) | (rw [c5, c13]; rfl) | (rw [c5]; rfl)
  · refine LW_iloadn 2 dX10_isArea_8 rfl rfl ?_
    refine LW_iloadn 3 dX10_isArea_9 rfl rfl ?_
    refine LW_callS (As := [.int tx, .int ty]) (st := []) (r_isCell tx ty) YX10_isCell rfl dX10_isArea_10 mlX10_259 (by decide) ⟨Nat.le_of_ble_eq_true rfl, Nat.le_of_ble_eq_true rfl⟩ (Nat.le_of_ble_eq_true rfl) rfl (fun r10 Λc10 Ic10 Lc10 Rc10 hq10 => ?_)
    obtain ⟨rfl, rfl, rfl, rfl, rfl⟩ := hq10
    refine LW_bif_eq (tgt := 30) dX10_isArea_13 (by decide) (fun c13 => ?_) (fun c13 => ?_)
    · refine LW_iconst (v := 0) dX10_isArea_30 (by decide) ?_
      refine LW_zret dX10_isArea_31 rfl (Nat.le_of_ble_eq_true rfl) (Nat.le_of_ble_eq_true rfl) (Or.inl rfl) ?_
      refine Qr.mk ?_
      unfold aArea
      first | (rw [c5, c13, decide_eq_true (Int32.not_lt.mp c18), decide_eq_true (Int32.not_lt.mp c23)]; rfl) | (rw [c5, c13, decide_eq_true (Int32.not_lt.mp c18), decide_eq_false (Int32.not_le.mpr c23)]; rfl) | (rw [c5, c13, decide_eq_false (Int32.not_le.mpr c18)]; rfl) | (rw [c5, c13]; rfl) | (rw [c5]; rfl)
    · refine LW_iloadn 0 dX10_isArea_16 rfl rfl ?_
      refine LW_iloadn 2 dX10_isArea_17 rfl rfl ?_
      refine LW_icmp_gt (tgt := 30) dX10_isArea_18 (by decide) (fun c18 => ?_) (fun c18 => ?_)
      · refine LW_iconst (v := 0) dX10_isArea_30 (by decide) ?_
        refine LW_zret dX10_isArea_31 rfl (Nat.le_of_ble_eq_true rfl) (Nat.le_of_ble_eq_true rfl) (Or.inl rfl) ?_
        refine Qr.mk ?_
        unfold aArea
        first | (rw [c5, c13, decide_eq_true (Int32.not_lt.mp c18), decide_eq_true (Int32.not_lt.mp c23)]; rfl) | (rw [c5, c13, decide_eq_true (Int32.not_lt.mp c18), decide_eq_false (Int32.not_le.mpr c23)]; rfl) | (rw [c5, c13, decide_eq_false (Int32.not_le.mpr c18)]; rfl) | (rw [c5, c13]; rfl) | (rw [c5]; rfl)
      · refine LW_iloadn 1 dX10_isArea_21 rfl rfl ?_
        refine LW_iloadn 3 dX10_isArea_22 rfl rfl ?_
        refine LW_icmp_gt (tgt := 30) dX10_isArea_23 (by decide) (fun c23 => ?_) (fun c23 => ?_)
        · refine LW_iconst (v := 0) dX10_isArea_30 (by decide) ?_
          refine LW_zret dX10_isArea_31 rfl (Nat.le_of_ble_eq_true rfl) (Nat.le_of_ble_eq_true rfl) (Or.inl rfl) ?_
          refine Qr.mk ?_
          unfold aArea
          first | (rw [c5, c13, decide_eq_true (Int32.not_lt.mp c18), decide_eq_true (Int32.not_lt.mp c23)]; rfl) | (rw [c5, c13, decide_eq_true (Int32.not_lt.mp c18), decide_eq_false (Int32.not_le.mpr c23)]; rfl) | (rw [c5, c13, decide_eq_false (Int32.not_le.mpr c18)]; rfl) | (rw [c5, c13]; rfl) | (rw [c5]; rfl)
        · refine LW_iconst (v := 1) dX10_isArea_26 (by decide) ?_
          refine LW_goto (tgt := 31) dX10_isArea_27 (by decide) ?_
          refine LW_zret dX10_isArea_31 rfl (Nat.le_of_ble_eq_true rfl) (Nat.le_of_ble_eq_true rfl) (Or.inr rfl) ?_
          refine Qr.mk ?_
          unfold aArea
          first | (rw [c5, c13, decide_eq_true (Int32.not_lt.mp c18), decide_eq_true (Int32.not_lt.mp c23)]; rfl) | (rw [c5, c13, decide_eq_true (Int32.not_lt.mp c18), decide_eq_false (Int32.not_le.mpr c23)]; rfl) | (rw [c5, c13, decide_eq_false (Int32.not_le.mpr c18)]; rfl) | (rw [c5, c13]; rfl) | (rw [c5]; rfl)
def qFault (S : HS) (x : Int32) : Int32 := if x = 0 then nI (sF S) else if x = 1 then sQ S else -1
set_option maxRecDepth 100000 in
theorem h_fault {Λ : hc_L} {I : hc_I} {L : hc_J} {R : hc_R} {S : HS} (hH : HW Λ I L R S) (x : Int32) : Run xX10_fault [.ref 0, .int x] Λ I L R (HPost (some (.int (qFault S x))) S Λ I L R) := by
  refine Run.of (by decide +kernel) (Nat.le_of_ble_eq_true rfl) ?_
  show LW _ _ _ [(0, .ref 0), (1, .int x)] _ _ _ _ _ _
  have hY := hH.y
  refine LW_iloadn 1 dX10_fault_0 rfl rfl ?_
  refine LW_if_ne (tgt := 12) dX10_fault_1 (by decide) (fun c1 => ?_) (fun c1 => ?_)
  · refine LW_iloadn 1 dX10_fault_12 rfl rfl ?_
    refine LW_iconst (v := 1) dX10_fault_13 (by decide) ?_
    refine LW_icmp_ne (tgt := 27) dX10_fault_14 (by decide) (fun c14 => ?_) (fun c14 => ?_)
    · refine LW_iconst (v := -1) dX10_fault_27 (by decide) ?_
      refine LW_iret dX10_fault_28 rfl (Nat.le_of_ble_eq_true rfl) (Nat.le_of_ble_eq_true rfl) ?_
      refine HPost.r hH ?_
      unfold qFault
      rw [if_neg c1, if_neg c14]
    · refine LW_aloadn 0 dX10_fault_17 rfl rfl ?_
      refine gX10_5 dX10_fault_18 flX10_41 (hY.lt (k := 0) (by decide)) (ly0 hY) (lf0_5 hY) ?_
      refine gX5_5 dX10_fault_21 flX10_135 (hY.lt (k := 45) (by decide)) (ly45 hY) ?_
      rw [show I 45 5 = sQ S from hH.2.2.2.2.2.2.2.2]
      refine LW_goto (tgt := 28) dX10_fault_24 (by decide) ?_
      refine LW_iret dX10_fault_28 rfl (Nat.le_of_ble_eq_true rfl) (Nat.le_of_ble_eq_true rfl) ?_
      refine HPost.r hH ?_
      unfold qFault
      rw [if_neg c1, if_pos (Classical.not_not.mp c14)]
  · refine LW_aloadn 0 dX10_fault_4 rfl rfl ?_
    refine gX10_5 dX10_fault_5 flX10_41 (hY.lt (k := 0) (by decide)) (ly0 hY) (lf0_5 hY) ?_
    refine gX5_4 dX10_fault_8 flX10_132 (hY.lt (k := 45) (by decide)) (ly45 hY) ?_
    rw [show I 45 4 = nI (sF S) from hH.2.2.2.2.2.2.2.1]
    refine LW_iret dX10_fault_11 rfl (Nat.le_of_ble_eq_true rfl) (Nat.le_of_ble_eq_true rfl) ?_
    refine HPost.r hH ?_
    unfold qFault
    rw [if_pos (Classical.not_not.mp c1)]
def sTape (S : HS) (n : Nat) (B : Nat → Nat) : HS := (sA S, sP S, B, n, sH S, sC S, sF S, sQ S)
theorem HW.tape {Λ : hc_L} {I I' : hc_I} {L : hc_J} {R : hc_R} {S : HS} (h : HW Λ I L R S) {n : Nat} {B : Nat → Nat} (hI : ∀ z, ¬ (z = 1 ∨ z = 1 + 1) → I' z = I z) (ht : TpAt Λ I' 1 n B) : HW Λ I' L R (sTape S n B) := by
  obtain ⟨h1, h2, h3, h4, h5, h6, ⟨D, h7⟩, h8, h9⟩ := h
  have f : Fr (fun z => z = 1 ∨ z = 1 + 1) Λ I L R Λ I' L R := Fr.ofI hI
  have e45 : I' 45 = I 45 := hI 45 (by decide)
  exact ⟨h1, h2.fr h1 h1.st3 f (fun z q => by omega), ⟨h3.1.fr h1.lw39 f (by decide), h3.2⟩, h4.fr h1 h1 f (fun z q => by omega), ht, h6, ⟨D, h7.fr h1 h1.st21 f (fun z q => by omega)⟩, by rw [e45]; exact h8, by rw [e45]; exact h9⟩
def qEndB (S : HS) (x : Int32) : Bool := decide (0 ≤ x) && decide (x ≤ nI (sN S))
def nEnd (S : HS) (x : Int32) : HS := if qEndB S x = true then sTape S x.toNatClampNeg (sB S) else S
set_option maxRecDepth 100000 in
theorem h_end {Λ : hc_L} {I : hc_I} {L : hc_J} {R : hc_R} {S : HS} (hH : HW Λ I L R S) (x : Int32) : Run xX10_end [.ref 0, .int x] Λ I L R (HPost (some (.int (hc_b (qEndB S x)))) (nEnd S x) Λ I L R) := by
  refine Run.of (by decide +kernel) (Nat.le_of_ble_eq_true rfl) ?_
  show LW _ _ _ [(0, .ref 0), (1, .int x)] _ _ _ _ _ _
  have hY := hH.y
  refine LW_iloadn 1 dX10_end_0 rfl rfl ?_
  refine LW_if_lt (tgt := 15) dX10_end_1 (by decide) (fun c1 => ?_) (fun c1 => ?_)
  · refine LW_iconst (v := 0) dX10_end_15 (by decide) ?_
    refine LW_zret dX10_end_16 rfl (Nat.le_of_ble_eq_true rfl) (Nat.le_of_ble_eq_true rfl) (Or.inl rfl) ?_
    have e : qEndB S x = false := by
      unfold qEndB
      first | (rw [decide_eq_false (Int32.not_le.mpr (Int32.not_le.mp c12)), Bool.and_false]; done) | (rw [decide_eq_false (Int32.not_le.mpr c1)]; rfl)
    have e2 : nEnd S x = S := if_neg (by rw [e]; decide)
    rw [e, e2]
    exact HPost.r hH rfl
  · have hx0 : 0 ≤ x := Int32.not_lt.mp c1
    refine LW_iloadn 1 dX10_end_4 rfl rfl ?_
    refine LW_aloadn 0 dX10_end_5 rfl rfl ?_
    refine gX10_0 dX10_end_6 flX10_12 (hY.lt (k := 0) (by decide)) (ly0 hY) (lf0_0 hY) ?_
    refine gX8_1 dX10_end_9 flX10_78 (hY.lt (k := 1) (by decide)) (ly1 hY) ?_
    rw [show I 1 1 = nI (sN S) from hH.tn]
    refine LW_icmp_le (tgt := 17) dX10_end_12 (by decide) (fun c12 => ?_) (fun c12 => ?_)
    · refine LW_aloadn 0 dX10_end_17 rfl rfl ?_
      refine gX10_0 dX10_end_18 flX10_12 (hY.lt (k := 0) (by decide)) (ly0 hY) (lf0_0 hY) ?_
      refine LW_iloadn 1 dX10_end_21 rfl rfl ?_
      refine pX8_1 dX10_end_22 flX10_78 (hY.lt (k := 1) (by decide)) (ly1 hY) ?_
      generalize hI22 : hc_u I 1 1 x = I22
      refine LW_iconst (v := 1) dX10_end_25 (by decide) ?_
      refine LW_zret dX10_end_26 rfl (Nat.le_of_ble_eq_true rfl) (Nat.le_of_ble_eq_true rfl) (Or.inr rfl) ?_
      have e : qEndB S x = true := by unfold qEndB; rw [decide_eq_true hx0, decide_eq_true c12]; rfl
      have e2 : nEnd S x = sTape S x.toNatClampNeg (sB S) := if_pos e
      rw [e, e2]
      obtain ⟨k, hk, rfl⟩ := hc_nn hx0
      have hkn := (hc_le hk (by have := hH.n7; omega)).mp c12
      rw [hc_cl hk]
      have hI : ∀ z, ¬ (z = 1 ∨ z = 1 + 1) → I22 z = I z := fun z hz => by rw [← hI22, hc_u_row _ _ _ _ (by omega)]
      refine ⟨rfl, (Fr.ofI (J := fun z => z = 1 ∨ z = 1 + 1) hI).mono (fun z _ q => by show z < 217; omega), Nat.le_add_right _ _, hH.tape hI ⟨hY.tp, by rw [← hI22, hc_u_at, if_pos rfl], by have := hH.n7; omega, fun j hj => ?_⟩⟩
      rw [← hI22, hc_u_row _ _ _ _ (by decide)]
      exact hH.t.2.2.2 j (by omega)
    · refine LW_iconst (v := 0) dX10_end_15 (by decide) ?_
      refine LW_zret dX10_end_16 rfl (Nat.le_of_ble_eq_true rfl) (Nat.le_of_ble_eq_true rfl) (Or.inl rfl) ?_
      have e : qEndB S x = false := by
        unfold qEndB
        first | (rw [decide_eq_false (Int32.not_le.mpr (Int32.not_le.mp c12)), Bool.and_false]; done) | (rw [decide_eq_false (Int32.not_le.mpr c1)]; rfl)
      have e2 : nEnd S x = S := if_neg (by rw [e]; decide)
      rw [e, e2]
      exact HPost.r hH rfl
def qLook (S : HS) (x : Int32) : Int32 := if x = 0 then abMt (sA S) (aM (sA S)) else if x = 1 then abFt (sA S) (aF (sA S)) else if x = 2 then nI (aS (sA S)) else if x = 3 then nI (aY (sA S)) else if x = 4 then nI (sC S) else if x = 5 then nI (sN S) else if x = 6 then nI (aM (sA S)) else if x = 7 then nI (aF (sA S)) else -1
set_option maxRecDepth 100000 in
theorem h_look0 {Λ : hc_L} {I : hc_I} {L : hc_J} {R : hc_R} {S : HS} (hH : HW Λ I L R S)  : Run xX10_look [.ref 0, .int 0] Λ I L R (HPost (some (.int (qLook S 0))) S Λ I L R) := by
  refine Run.of (by decide +kernel) (Nat.le_of_ble_eq_true rfl) ?_
  show LW _ _ _ [(0, .ref 0), (1, .int 0)] _ _ _ _ _ _
  have hY := hH.y
  refine LW_iloadn 1 dX10_look_0 rfl rfl ?_
  refine LW_tableIn (off := 47) (tgt := 48) dX10_look_1 (by decide) (by decide) (by decide) (by decide) ?_
  refine LW_aloadn 0 dX10_look_48 rfl rfl ?_
  refine gX10_1 dX10_look_49 flX10_19 (hY.lt (k := 0) (by decide)) (ly0 hY) (lf0_1 hY) ?_
  refine LW_callV (As := []) (b := 3) (st := []) (ci := 6) (r := (RX6, TX6, 15)) (r_membersThere hH.s) YX6_membersThere rfl dX10_look_52 mlX10_175 (hY.lt (k := 3) (by decide)) (ly3 hY) ⟨rfl, rfl⟩ (by decide) ⟨Nat.le_of_ble_eq_true rfl, Nat.le_of_ble_eq_true rfl⟩ (Nat.le_of_ble_eq_true rfl) rfl (fun r52 Λc52 Ic52 Lc52 Rc52 hq52 => ?_)
  obtain ⟨rfl, rfl, rfl, rfl, rfl⟩ := hq52
  refine LW_iret dX10_look_55 rfl (Nat.le_of_ble_eq_true rfl) (Nat.le_of_ble_eq_true rfl) ?_
  exact HPost.r hH (by unfold qLook; rw [if_pos rfl])
set_option maxRecDepth 100000 in
theorem h_look1 {Λ : hc_L} {I : hc_I} {L : hc_J} {R : hc_R} {S : HS} (hH : HW Λ I L R S)  : Run xX10_look [.ref 0, .int 1] Λ I L R (HPost (some (.int (qLook S 1))) S Λ I L R) := by
  refine Run.of (by decide +kernel) (Nat.le_of_ble_eq_true rfl) ?_
  show LW _ _ _ [(0, .ref 0), (1, .int 1)] _ _ _ _ _ _
  have hY := hH.y
  refine LW_iloadn 1 dX10_look_0 rfl rfl ?_
  refine LW_tableIn (off := 55) (tgt := 56) dX10_look_1 (by decide) (by decide) (by decide) (by decide) ?_
  refine LW_aloadn 0 dX10_look_56 rfl rfl ?_
  refine gX10_1 dX10_look_57 flX10_19 (hY.lt (k := 0) (by decide)) (ly0 hY) (lf0_1 hY) ?_
  refine LW_callV (As := []) (b := 3) (st := []) (ci := 6) (r := (RX6, TX6, 15)) (r_fieldsThere hH.s) YX6_fieldsThere rfl dX10_look_60 mlX10_331 (hY.lt (k := 3) (by decide)) (ly3 hY) ⟨rfl, rfl⟩ (by decide) ⟨Nat.le_of_ble_eq_true rfl, Nat.le_of_ble_eq_true rfl⟩ (Nat.le_of_ble_eq_true rfl) rfl (fun r60 Λc60 Ic60 Lc60 Rc60 hq60 => ?_)
  obtain ⟨rfl, rfl, rfl, rfl, rfl⟩ := hq60
  refine LW_iret dX10_look_63 rfl (Nat.le_of_ble_eq_true rfl) (Nat.le_of_ble_eq_true rfl) ?_
  exact HPost.r hH (by unfold qLook; rw [if_neg (by decide), if_pos rfl])
set_option maxRecDepth 100000 in
theorem h_look2 {Λ : hc_L} {I : hc_I} {L : hc_J} {R : hc_R} {S : HS} (hH : HW Λ I L R S)  : Run xX10_look [.ref 0, .int 2] Λ I L R (HPost (some (.int (qLook S 2))) S Λ I L R) := by
  refine Run.of (by decide +kernel) (Nat.le_of_ble_eq_true rfl) ?_
  show LW _ _ _ [(0, .ref 0), (1, .int 2)] _ _ _ _ _ _
  have hY := hH.y
  refine LW_iloadn 1 dX10_look_0 rfl rfl ?_
  refine LW_tableIn (off := 63) (tgt := 64) dX10_look_1 (by decide) (by decide) (by decide) (by decide) ?_
  refine LW_aloadn 0 dX10_look_64 rfl rfl ?_
  refine gX10_1 dX10_look_65 flX10_19 (hY.lt (k := 0) (by decide)) (ly0 hY) (lf0_1 hY) ?_
  refine gX6_13 dX10_look_68 flX10_148 (hY.lt (k := 3) (by decide)) (ly3 hY) ?_
  rw [show I 3 13 = nI (aS (sA S)) from hH.s.sc]
  refine LW_iret dX10_look_71 rfl (Nat.le_of_ble_eq_true rfl) (Nat.le_of_ble_eq_true rfl) ?_
  exact HPost.r hH (by unfold qLook; rw [if_neg (by decide), if_neg (by decide), if_pos rfl])
set_option maxRecDepth 100000 in
theorem h_look3 {Λ : hc_L} {I : hc_I} {L : hc_J} {R : hc_R} {S : HS} (hH : HW Λ I L R S)  : Run xX10_look [.ref 0, .int 3] Λ I L R (HPost (some (.int (qLook S 3))) S Λ I L R) := by
  refine Run.of (by decide +kernel) (Nat.le_of_ble_eq_true rfl) ?_
  show LW _ _ _ [(0, .ref 0), (1, .int 3)] _ _ _ _ _ _
  have hY := hH.y
  refine LW_iloadn 1 dX10_look_0 rfl rfl ?_
  refine LW_tableIn (off := 71) (tgt := 72) dX10_look_1 (by decide) (by decide) (by decide) (by decide) ?_
  refine LW_aloadn 0 dX10_look_72 rfl rfl ?_
  refine gX10_1 dX10_look_73 flX10_19 (hY.lt (k := 0) (by decide)) (ly0 hY) (lf0_1 hY) ?_
  refine gX6_14 dX10_look_76 flX10_334 (hY.lt (k := 3) (by decide)) (ly3 hY) ?_
  rw [show I 3 14 = nI (aY (sA S)) from hH.s.yr]
  refine LW_iret dX10_look_79 rfl (Nat.le_of_ble_eq_true rfl) (Nat.le_of_ble_eq_true rfl) ?_
  exact HPost.r hH (by unfold qLook; rw [if_neg (by decide), if_neg (by decide), if_neg (by decide), if_pos rfl])
set_option maxRecDepth 100000 in
theorem h_look4 {Λ : hc_L} {I : hc_I} {L : hc_J} {R : hc_R} {S : HS} (hH : HW Λ I L R S)  : Run xX10_look [.ref 0, .int 4] Λ I L R (HPost (some (.int (qLook S 4))) S Λ I L R) := by
  refine Run.of (by decide +kernel) (Nat.le_of_ble_eq_true rfl) ?_
  show LW _ _ _ [(0, .ref 0), (1, .int 4)] _ _ _ _ _ _
  have hY := hH.y
  refine LW_iloadn 1 dX10_look_0 rfl rfl ?_
  refine LW_tableIn (off := 79) (tgt := 80) dX10_look_1 (by decide) (by decide) (by decide) (by decide) ?_
  refine LW_aloadn 0 dX10_look_80 rfl rfl ?_
  refine gX10_6 dX10_look_81 flX10_48 (hY.lt (k := 0) (by decide)) (ly0 hY) (lf0_6 hY) ?_
  refine gX3_2 dX10_look_84 flX10_93 (hY.lt (k := 52) (by decide)) (ly52 hY) ?_
  rw [show I 52 2 = nI (sC S) from hH.c]
  refine LW_iret dX10_look_87 rfl (Nat.le_of_ble_eq_true rfl) (Nat.le_of_ble_eq_true rfl) ?_
  exact HPost.r hH (by unfold qLook; rw [if_neg (by decide), if_neg (by decide), if_neg (by decide), if_neg (by decide), if_pos rfl])
set_option maxRecDepth 100000 in
theorem h_look5 {Λ : hc_L} {I : hc_I} {L : hc_J} {R : hc_R} {S : HS} (hH : HW Λ I L R S)  : Run xX10_look [.ref 0, .int 5] Λ I L R (HPost (some (.int (qLook S 5))) S Λ I L R) := by
  refine Run.of (by decide +kernel) (Nat.le_of_ble_eq_true rfl) ?_
  show LW _ _ _ [(0, .ref 0), (1, .int 5)] _ _ _ _ _ _
  have hY := hH.y
  refine LW_iloadn 1 dX10_look_0 rfl rfl ?_
  refine LW_tableIn (off := 87) (tgt := 88) dX10_look_1 (by decide) (by decide) (by decide) (by decide) ?_
  refine LW_aloadn 0 dX10_look_88 rfl rfl ?_
  refine gX10_0 dX10_look_89 flX10_12 (hY.lt (k := 0) (by decide)) (ly0 hY) (lf0_0 hY) ?_
  refine gX8_1 dX10_look_92 flX10_78 (hY.lt (k := 1) (by decide)) (ly1 hY) ?_
  rw [show I 1 1 = nI (sN S) from hH.tn]
  refine LW_iret dX10_look_95 rfl (Nat.le_of_ble_eq_true rfl) (Nat.le_of_ble_eq_true rfl) ?_
  exact HPost.r hH (by unfold qLook; rw [if_neg (by decide), if_neg (by decide), if_neg (by decide), if_neg (by decide), if_neg (by decide), if_pos rfl])
set_option maxRecDepth 100000 in
theorem h_look6 {Λ : hc_L} {I : hc_I} {L : hc_J} {R : hc_R} {S : HS} (hH : HW Λ I L R S)  : Run xX10_look [.ref 0, .int 6] Λ I L R (HPost (some (.int (qLook S 6))) S Λ I L R) := by
  refine Run.of (by decide +kernel) (Nat.le_of_ble_eq_true rfl) ?_
  show LW _ _ _ [(0, .ref 0), (1, .int 6)] _ _ _ _ _ _
  have hY := hH.y
  refine LW_iloadn 1 dX10_look_0 rfl rfl ?_
  refine LW_tableIn (off := 95) (tgt := 96) dX10_look_1 (by decide) (by decide) (by decide) (by decide) ?_
  refine LW_aloadn 0 dX10_look_96 rfl rfl ?_
  refine gX10_1 dX10_look_97 flX10_19 (hY.lt (k := 0) (by decide)) (ly0 hY) (lf0_1 hY) ?_
  refine gX6_11 dX10_look_100 flX10_102 (hY.lt (k := 3) (by decide)) (ly3 hY) ?_
  rw [show I 3 11 = nI (aM (sA S)) from hH.s.m]
  refine LW_iret dX10_look_103 rfl (Nat.le_of_ble_eq_true rfl) (Nat.le_of_ble_eq_true rfl) ?_
  exact HPost.r hH (by unfold qLook; rw [if_neg (by decide), if_neg (by decide), if_neg (by decide), if_neg (by decide), if_neg (by decide), if_neg (by decide), if_pos rfl])
set_option maxRecDepth 100000 in
theorem h_look7 {Λ : hc_L} {I : hc_I} {L : hc_J} {R : hc_R} {S : HS} (hH : HW Λ I L R S)  : Run xX10_look [.ref 0, .int 7] Λ I L R (HPost (some (.int (qLook S 7))) S Λ I L R) := by
  refine Run.of (by decide +kernel) (Nat.le_of_ble_eq_true rfl) ?_
  show LW _ _ _ [(0, .ref 0), (1, .int 7)] _ _ _ _ _ _
  have hY := hH.y
  refine LW_iloadn 1 dX10_look_0 rfl rfl ?_
  refine LW_tableIn (off := 103) (tgt := 104) dX10_look_1 (by decide) (by decide) (by decide) (by decide) ?_
  refine LW_aloadn 0 dX10_look_104 rfl rfl ?_
  refine gX10_1 dX10_look_105 flX10_19 (hY.lt (k := 0) (by decide)) (ly0 hY) (lf0_1 hY) ?_
  refine gX6_12 dX10_look_108 flX10_96 (hY.lt (k := 3) (by decide)) (ly3 hY) ?_
  rw [show I 3 12 = nI (aF (sA S)) from hH.s.fc]
  refine LW_iret dX10_look_111 rfl (Nat.le_of_ble_eq_true rfl) (Nat.le_of_ble_eq_true rfl) ?_
  exact HPost.r hH (by unfold qLook; rw [if_neg (by decide), if_neg (by decide), if_neg (by decide), if_neg (by decide), if_neg (by decide), if_neg (by decide), if_neg (by decide), if_pos rfl])
set_option maxRecDepth 100000 in
theorem h_lookE {Λ : hc_L} {I : hc_I} {L : hc_J} {R : hc_R} {S : HS} (hH : HW Λ I L R S) {x : Int32} (hx : x ≠ 0 ∧ x ≠ 1 ∧ x ≠ 2 ∧ x ≠ 3 ∧ x ≠ 4 ∧ x ≠ 5 ∧ x ≠ 6 ∧ x ≠ 7) : Run xX10_look [.ref 0, .int x] Λ I L R (HPost (some (.int (qLook S x))) S Λ I L R) := by
  refine Run.of (by decide +kernel) (Nat.le_of_ble_eq_true rfl) ?_
  show LW _ _ _ [(0, .ref 0), (1, .int x)] _ _ _ _ _ _
  have hY := hH.y
  have ho : ∀ k, k ≤ 7 → x ≠ nI k := fun k hk => by
    rcases (show k = 0 ∨ k = 1 ∨ k = 2 ∨ k = 3 ∨ k = 4 ∨ k = 5 ∨ k = 6 ∨ k = 7 by omega) with rfl | rfl | rfl | rfl | rfl | rfl | rfl | rfl
    · exact hx.1
    · exact hx.2.1
    · exact hx.2.2.1
    · exact hx.2.2.2.1
    · exact hx.2.2.2.2.1
    · exact hx.2.2.2.2.2.1
    · exact hx.2.2.2.2.2.2.1
    · exact hx.2.2.2.2.2.2.2
  refine LW_iloadn 1 dX10_look_0 rfl rfl ?_
  refine LW_tableOut (tgt := 112) dX10_look_1 (tsw (N := 7) (by decide) ho) (by decide) ?_
  refine LW_iconst (v := -1) dX10_look_112 (by decide) ?_
  refine LW_iret dX10_look_113 rfl (Nat.le_of_ble_eq_true rfl) (Nat.le_of_ble_eq_true rfl) ?_
  exact HPost.r hH (by unfold qLook; rw [if_neg hx.1, if_neg hx.2.1, if_neg hx.2.2.1, if_neg hx.2.2.2.1, if_neg hx.2.2.2.2.1, if_neg hx.2.2.2.2.2.1, if_neg hx.2.2.2.2.2.2.1, if_neg hx.2.2.2.2.2.2.2])
theorem h_look {Λ : hc_L} {I : hc_I} {L : hc_J} {R : hc_R} {S : HS} (hH : HW Λ I L R S) (x : Int32) : Run xX10_look [.ref 0, .int x] Λ I L R (HPost (some (.int (qLook S x))) S Λ I L R) := by
  by_cases k0 : x = 0
  · subst k0; exact h_look0 hH
  by_cases k1 : x = 1
  · subst k1; exact h_look1 hH
  by_cases k2 : x = 2
  · subst k2; exact h_look2 hH
  by_cases k3 : x = 3
  · subst k3; exact h_look3 hH
  by_cases k4 : x = 4
  · subst k4; exact h_look4 hH
  by_cases k5 : x = 5
  · subst k5; exact h_look5 hH
  by_cases k6 : x = 6
  · subst k6; exact h_look6 hH
  by_cases k7 : x = 7
  · subst k7; exact h_look7 hH
  exact h_lookE hH ⟨k0, k1, k2, k3, k4, k5, k6, k7⟩
def qHaz (A : AS) (x y : Int32) : Int32 := if aCell x y = true then nI (aHzAt A x.toNatClampNeg y.toNatClampNeg) else -1
set_option maxRecDepth 100000 in
theorem h_hazard {Λ : hc_L} {I : hc_I} {L : hc_J} {R : hc_R} {S : HS} (hH : HW Λ I L R S) (x y : Int32) : Run xX10_hazard [.ref 0, .int x, .int y] Λ I L R (HPost (some (.int (qHaz (sA S) x y))) S Λ I L R) := by
  refine Run.of (by decide +kernel) (Nat.le_of_ble_eq_true rfl) ?_
  show LW _ _ _ [(0, .ref 0), (1, .int x), (2, .int y)] _ _ _ _ _ _
  have hY := hH.y
  refine LW_iloadn 1 dX10_hazard_0 rfl rfl ?_
  refine LW_iloadn 2 dX10_hazard_1 rfl rfl ?_
  refine LW_callS (As := [.int x, .int y]) (st := []) (r_isCell x y) YX10_isCell rfl dX10_hazard_2 mlX10_259 (by decide) ⟨Nat.le_of_ble_eq_true rfl, Nat.le_of_ble_eq_true rfl⟩ (Nat.le_of_ble_eq_true rfl) rfl (fun r2 Λc2 Ic2 Lc2 Rc2 hq2 => ?_)
  obtain ⟨rfl, rfl, rfl, rfl, rfl⟩ := hq2
  refine LW_bif_eq (tgt := 20) dX10_hazard_5 (by decide) (fun c5 => ?_) (fun c5 => ?_)
  · refine LW_iconst (v := -1) dX10_hazard_20 (by decide) ?_
    refine LW_iret dX10_hazard_21 rfl (Nat.le_of_ble_eq_true rfl) (Nat.le_of_ble_eq_true rfl) ?_
    refine HPost.r hH ?_
    unfold qHaz
    rw [if_neg (by rw [c5]; decide)]
  · obtain ⟨a, b, rfl, rfl, ha, hb⟩ := aCell_k c5
    refine LW_aloadn 0 dX10_hazard_8 rfl rfl ?_
    refine gX10_1 dX10_hazard_9 flX10_19 (hY.lt (k := 0) (by decide)) (ly0 hY) (lf0_1 hY) ?_
    refine LW_iloadn 1 dX10_hazard_12 rfl rfl ?_
    refine LW_iloadn 2 dX10_hazard_13 rfl rfl ?_
    refine LW_callV (As := [.int (nI a), .int (nI b)]) (b := 3) (st := []) (ci := 6) (r := (RX6, TX6, 15)) (r_hazardAtN hH.s ha hb) YX6_hazardAt rfl dX10_hazard_14 mlX10_263 (hY.lt (k := 3) (by decide)) (ly3 hY) ⟨rfl, rfl⟩ (by decide) ⟨Nat.le_of_ble_eq_true rfl, Nat.le_of_ble_eq_true rfl⟩ (Nat.le_of_ble_eq_true rfl) rfl (fun r14 Λc14 Ic14 Lc14 Rc14 hq14 => ?_)
    obtain ⟨rfl, rfl, rfl, rfl, rfl⟩ := hq14
    refine LW_goto (tgt := 21) dX10_hazard_17 (by decide) ?_
    refine LW_iret dX10_hazard_21 rfl (Nat.le_of_ble_eq_true rfl) (Nat.le_of_ble_eq_true rfl) ?_
    refine HPost.r hH ?_
    unfold qHaz
    rw [if_pos c5, hc_cl (by omega), hc_cl (by omega)]
def qClub (A : AS) (x : Int32) : Int64 := if 0 ≤ x ∧ x < 7 then aRu A x.toNatClampNeg else if x = 7 then aRu A 6 * abAllS A (aF A) / 100 else if x = 8 then abAllS A (aF A) else if x = 9 then abAllP A (aF A) else -1
set_option maxRecDepth 100000 in
theorem h_clubR {Λ : hc_L} {I : hc_I} {L : hc_J} {R : hc_R} {S : HS} (hH : HW Λ I L R S) {k : Nat} (hk : k < 7) : Run xX10_club [.ref 0, .int (nI k)] Λ I L R (HPost (some (.long (qClub (sA S) (nI k)))) S Λ I L R) := by
  refine Run.of (by decide +kernel) (Nat.le_of_ble_eq_true rfl) ?_
  show LW _ _ _ [(0, .ref 0), (1, .int (nI k))] _ _ _ _ _ _
  have hY := hH.y
  refine LW_iloadn 1 dX10_club_0 rfl rfl ?_
  refine LW_if_lt (tgt := 20) dX10_club_1 (by decide) (fun c1 => absurd c1 (Int32.not_lt.mpr (nI_nn (by omega)))) (fun c1 => ?_)
  refine LW_iloadn 1 dX10_club_4 rfl rfl ?_
  refine LW_bipush (v := 7) dX10_club_5 (by decide) ?_
  refine LW_icmp_ge (tgt := 20) dX10_club_7 (by decide) (fun c7 => absurd c7 (hc_nle (a := 7) (by decide) (by omega) hk)) (fun c7 => ?_)
  refine LW_aloadn 0 dX10_club_10 rfl rfl ?_
  refine gX10_1 dX10_club_11 flX10_19 (hY.lt (k := 0) (by decide)) (ly0 hY) (lf0_1 hY) ?_
  refine gX6_0 dX10_club_14 flX10_109 (hY.lt (k := 3) (by decide)) (ly3 hY) (lf3_0 hY) ?_
  refine LW_iloadn 1 dX10_club_17 rfl rfl ?_
  refine LW_lald dX10_club_18 (hY.lt (k := 4) (by decide)) (ly4 hY) rfl hk (Nat.le_of_ble_eq_true rfl) ?_
  rw [show L 4 k = aRu (sA S) k from hH.s.ru hk]
  refine LW_lret dX10_club_19 rfl (Nat.le_of_ble_eq_true rfl) (Nat.le_of_ble_eq_true rfl) ?_
  exact HPost.r hH (by unfold qClub; rw [if_pos ⟨nI_nn (by omega), (hc_lt (b := 7) (by omega) (by decide)).mpr hk⟩, hc_cl (by omega)])
set_option maxRecDepth 100000 in
theorem h_club7 {Λ : hc_L} {I : hc_I} {L : hc_J} {R : hc_R} {S : HS} (hH : HW Λ I L R S)  : Run xX10_club [.ref 0, .int 7] Λ I L R (HPost (some (.long (qClub (sA S) 7))) S Λ I L R) := by
  refine Run.of (by decide +kernel) (Nat.le_of_ble_eq_true rfl) ?_
  show LW _ _ _ [(0, .ref 0), (1, .int 7)] _ _ _ _ _ _
  have hY := hH.y
  refine LW_iloadn 1 dX10_club_0 rfl rfl ?_
  refine LW_if_lt (tgt := 20) dX10_club_1 (by decide) (fun c1 => absurd c1 (by decide)) (fun c1 => ?_)
  refine LW_iloadn 1 dX10_club_4 rfl rfl ?_
  refine LW_bipush (v := 7) dX10_club_5 (by decide) ?_
  refine LW_icmp_ge (tgt := 20) dX10_club_7 (by decide) (fun c7 => ?_) (fun c7 => absurd (by decide) c7)
  refine LW_iloadn 1 dX10_club_20 rfl rfl ?_
  refine LW_tableIn (off := 27) (tgt := 48) dX10_club_21 (by decide) (by decide) (by decide) (by decide) ?_
  refine LW_aloadn 0 dX10_club_48 rfl rfl ?_
  refine gX10_1 dX10_club_49 flX10_19 (hY.lt (k := 0) (by decide)) (ly0 hY) (lf0_1 hY) ?_
  refine gX6_0 dX10_club_52 flX10_109 (hY.lt (k := 3) (by decide)) (ly3 hY) (lf3_0 hY) ?_
  refine LW_bipush (v := 6) dX10_club_55 (by decide) ?_
  refine LW_lald dX10_club_57 (hY.lt (k := 4) (by decide)) (ly4 hY) rfl (by decide) (Nat.le_of_ble_eq_true rfl) ?_
  rw [show L 4 6 = aRu (sA S) 6 from hH.s.ru (by decide)]
  refine LW_aloadn 0 dX10_club_58 rfl rfl ?_
  refine gX10_1 dX10_club_59 flX10_19 (hY.lt (k := 0) (by decide)) (ly0 hY) (lf0_1 hY) ?_
  refine LW_callV (As := []) (b := 3) (st := [.long (aRu (sA S) 6)]) (ci := 6) (r := (RX6, TX6, 15)) (r_allSums hH.s) YX6_allSums rfl dX10_club_62 mlX10_281 (hY.lt (k := 3) (by decide)) (ly3 hY) ⟨rfl, rfl⟩ (by decide) ⟨Nat.le_of_ble_eq_true rfl, Nat.le_of_ble_eq_true rfl⟩ (Nat.le_of_ble_eq_true rfl) rfl (fun r62 Λc62 Ic62 Lc62 Rc62 hq62 => ?_)
  obtain ⟨rfl, rfl, rfl, rfl, rfl⟩ := hq62
  refine LW_callS (As := [.long (aRu (sA S) 6), .long (abAllS (sA S) (aF (sA S)))]) (st := []) (r_goalCoins (aRu (sA S) 6) (abAllS (sA S) (aF (sA S)))) YX10_goalCoins rfl dX10_club_65 mlX10_284 (by decide) ⟨Nat.le_of_ble_eq_true rfl, Nat.le_of_ble_eq_true rfl⟩ (Nat.le_of_ble_eq_true rfl) rfl (fun r65 Λc65 Ic65 Lc65 Rc65 hq65 => ?_)
  obtain ⟨rfl, rfl, rfl, rfl, rfl⟩ := hq65
  refine LW_lret dX10_club_68 rfl (Nat.le_of_ble_eq_true rfl) (Nat.le_of_ble_eq_true rfl) ?_
  exact HPost.r hH (by unfold qClub; rw [if_neg (by decide), if_pos rfl])
set_option maxRecDepth 100000 in
theorem h_club8 {Λ : hc_L} {I : hc_I} {L : hc_J} {R : hc_R} {S : HS} (hH : HW Λ I L R S)  : Run xX10_club [.ref 0, .int 8] Λ I L R (HPost (some (.long (qClub (sA S) 8))) S Λ I L R) := by
  refine Run.of (by decide +kernel) (Nat.le_of_ble_eq_true rfl) ?_
  show LW _ _ _ [(0, .ref 0), (1, .int 8)] _ _ _ _ _ _
  have hY := hH.y
  refine LW_iloadn 1 dX10_club_0 rfl rfl ?_
  refine LW_if_lt (tgt := 20) dX10_club_1 (by decide) (fun c1 => absurd c1 (by decide)) (fun c1 => ?_)
  refine LW_iloadn 1 dX10_club_4 rfl rfl ?_
  refine LW_bipush (v := 7) dX10_club_5 (by decide) ?_
  refine LW_icmp_ge (tgt := 20) dX10_club_7 (by decide) (fun c7 => ?_) (fun c7 => absurd (by decide) c7)
  refine LW_iloadn 1 dX10_club_20 rfl rfl ?_
  refine LW_tableIn (off := 48) (tgt := 69) dX10_club_21 (by decide) (by decide) (by decide) (by decide) ?_
  refine LW_aloadn 0 dX10_club_69 rfl rfl ?_
  refine gX10_1 dX10_club_70 flX10_19 (hY.lt (k := 0) (by decide)) (ly0 hY) (lf0_1 hY) ?_
  refine LW_callV (As := []) (b := 3) (st := []) (ci := 6) (r := (RX6, TX6, 15)) (r_allSums hH.s) YX6_allSums rfl dX10_club_73 mlX10_281 (hY.lt (k := 3) (by decide)) (ly3 hY) ⟨rfl, rfl⟩ (by decide) ⟨Nat.le_of_ble_eq_true rfl, Nat.le_of_ble_eq_true rfl⟩ (Nat.le_of_ble_eq_true rfl) rfl (fun r73 Λc73 Ic73 Lc73 Rc73 hq73 => ?_)
  obtain ⟨rfl, rfl, rfl, rfl, rfl⟩ := hq73
  refine LW_lret dX10_club_76 rfl (Nat.le_of_ble_eq_true rfl) (Nat.le_of_ble_eq_true rfl) ?_
  exact HPost.r hH (by unfold qClub; rw [if_neg (by decide), if_neg (by decide), if_pos rfl])
set_option maxRecDepth 100000 in
theorem h_club9 {Λ : hc_L} {I : hc_I} {L : hc_J} {R : hc_R} {S : HS} (hH : HW Λ I L R S)  : Run xX10_club [.ref 0, .int 9] Λ I L R (HPost (some (.long (qClub (sA S) 9))) S Λ I L R) := by
  refine Run.of (by decide +kernel) (Nat.le_of_ble_eq_true rfl) ?_
  show LW _ _ _ [(0, .ref 0), (1, .int 9)] _ _ _ _ _ _
  have hY := hH.y
  refine LW_iloadn 1 dX10_club_0 rfl rfl ?_
  refine LW_if_lt (tgt := 20) dX10_club_1 (by decide) (fun c1 => absurd c1 (by decide)) (fun c1 => ?_)
  refine LW_iloadn 1 dX10_club_4 rfl rfl ?_
  refine LW_bipush (v := 7) dX10_club_5 (by decide) ?_
  refine LW_icmp_ge (tgt := 20) dX10_club_7 (by decide) (fun c7 => ?_) (fun c7 => absurd (by decide) c7)
  refine LW_iloadn 1 dX10_club_20 rfl rfl ?_
  refine LW_tableIn (off := 56) (tgt := 77) dX10_club_21 (by decide) (by decide) (by decide) (by decide) ?_
  refine LW_aloadn 0 dX10_club_77 rfl rfl ?_
  refine gX10_1 dX10_club_78 flX10_19 (hY.lt (k := 0) (by decide)) (ly0 hY) (lf0_1 hY) ?_
  refine LW_callV (As := []) (b := 3) (st := []) (ci := 6) (r := (RX6, TX6, 15)) (r_allPoints hH.s) YX6_allPoints rfl dX10_club_81 mlX10_120 (hY.lt (k := 3) (by decide)) (ly3 hY) ⟨rfl, rfl⟩ (by decide) ⟨Nat.le_of_ble_eq_true rfl, Nat.le_of_ble_eq_true rfl⟩ (Nat.le_of_ble_eq_true rfl) rfl (fun r81 Λc81 Ic81 Lc81 Rc81 hq81 => ?_)
  obtain ⟨rfl, rfl, rfl, rfl, rfl⟩ := hq81
  refine LW_lret dX10_club_84 rfl (Nat.le_of_ble_eq_true rfl) (Nat.le_of_ble_eq_true rfl) ?_
  exact HPost.r hH (by unfold qClub; rw [if_neg (by decide), if_neg (by decide), if_neg (by decide), if_pos rfl])
set_option maxRecDepth 100000 in
theorem h_clubE {Λ : hc_L} {I : hc_I} {L : hc_J} {R : hc_R} {S : HS} (hH : HW Λ I L R S) {x : Int32} (hx : ¬ (0 ≤ x ∧ x < 7) ∧ x ≠ 7 ∧ x ≠ 8 ∧ x ≠ 9) : Run xX10_club [.ref 0, .int x] Λ I L R (HPost (some (.long (qClub (sA S) x))) S Λ I L R) := by
  refine Run.of (by decide +kernel) (Nat.le_of_ble_eq_true rfl) ?_
  show LW _ _ _ [(0, .ref 0), (1, .int x)] _ _ _ _ _ _
  have hY := hH.y
  refine LW_iloadn 1 dX10_club_0 rfl rfl ?_
  refine LW_if_lt (tgt := 20) dX10_club_1 (by decide) (fun c1 => ?_) (fun c1 => ?_)
  · refine LW_iloadn 1 dX10_club_20 rfl rfl ?_
    refine LW_tableOut (tgt := 85) dX10_club_21 (by
    by_cases c : x.toInt < 7
    · exact Or.inl c
    · refine Or.inr ?_
      have h9 := (tsw (x := x) (N := 9) (by decide) (fun k hk e => by
        subst e
        rw [nI_toInt (by omega)] at c
        rcases (show k = 7 ∨ k = 8 ∨ k = 9 by omega) with rfl | rfl | rfl
        · exact hx.2.1 rfl
        · exact hx.2.2.1 rfl
        · exact hx.2.2.2 rfl))
      rcases h9 with h9 | h9 <;> omega) (by decide) ?_
    refine LW_ldc2 dX10_club_85 klX10_179 ?_
    refine LW_lret dX10_club_88 rfl (Nat.le_of_ble_eq_true rfl) (Nat.le_of_ble_eq_true rfl) ?_
    exact HPost.r hH (by unfold qClub; rw [if_neg hx.1, if_neg hx.2.1, if_neg hx.2.2.1, if_neg hx.2.2.2])
  · have hx0 : 0 ≤ x := Int32.not_lt.mp c1
    refine LW_iloadn 1 dX10_club_4 rfl rfl ?_
    refine LW_bipush (v := 7) dX10_club_5 (by decide) ?_
    refine LW_icmp_ge (tgt := 20) dX10_club_7 (by decide) (fun c7 => ?_) (fun c7 => absurd (Int32.not_lt.mp (fun z => hx.1 ⟨hx0, z⟩)) c7)
    refine LW_iloadn 1 dX10_club_20 rfl rfl ?_
    refine LW_tableOut (tgt := 85) dX10_club_21 (by
    by_cases c : x.toInt < 7
    · exact Or.inl c
    · refine Or.inr ?_
      have h9 := (tsw (x := x) (N := 9) (by decide) (fun k hk e => by
        subst e
        rw [nI_toInt (by omega)] at c
        rcases (show k = 7 ∨ k = 8 ∨ k = 9 by omega) with rfl | rfl | rfl
        · exact hx.2.1 rfl
        · exact hx.2.2.1 rfl
        · exact hx.2.2.2 rfl))
      rcases h9 with h9 | h9 <;> omega) (by decide) ?_
    refine LW_ldc2 dX10_club_85 klX10_179 ?_
    refine LW_lret dX10_club_88 rfl (Nat.le_of_ble_eq_true rfl) (Nat.le_of_ble_eq_true rfl) ?_
    exact HPost.r hH (by unfold qClub; rw [if_neg hx.1, if_neg hx.2.1, if_neg hx.2.2.1, if_neg hx.2.2.2])
theorem h_club {Λ : hc_L} {I : hc_I} {L : hc_J} {R : hc_R} {S : HS} (hH : HW Λ I L R S) (x : Int32) : Run xX10_club [.ref 0, .int x] Λ I L R (HPost (some (.long (qClub (sA S) x))) S Λ I L R) := by
  by_cases k : 0 ≤ x ∧ x < 7
  · obtain ⟨m, hm, rfl⟩ := x_in (N := 7) (by decide) k.1 k.2
    exact h_clubR hH hm
  by_cases k7 : x = 7
  · subst k7; exact h_club7 hH
  by_cases k8 : x = 8
  · subst k8; exact h_club8 hH
  by_cases k9 : x = 9
  · subst k9; exact h_club9 hH
  exact h_clubE hH ⟨k, k7, k8, k9⟩
def qThen (A : AS) (x y : Int32) : Int64 := if (0 ≤ x ∧ x < 12) ∧ (0 ≤ y ∧ y < 6) ∧ aEt A x.toNatClampNeg = true then aEr A y.toNatClampNeg x.toNatClampNeg else -9223372036854775808
set_option maxRecDepth 100000 in
theorem h_then {Λ : hc_L} {I : hc_I} {L : hc_J} {R : hc_R} {S : HS} (hH : HW Λ I L R S) (x y : Int32) : Run xX10_then [.ref 0, .int x, .int y] Λ I L R (HPost (some (.long (qThen (sA S) x y))) S Λ I L R) := by
  refine Run.of (by decide +kernel) (Nat.le_of_ble_eq_true rfl) ?_
  show LW _ _ _ [(0, .ref 0), (1, .int x), (2, .int y)] _ _ _ _ _ _
  have hY := hH.y
  refine LW_iloadn 2 dX10_then_0 rfl rfl ?_
  refine LW_if_lt (tgt := 32) dX10_then_1 (by decide) (fun c1 => ?_) (fun c1 => ?_)
  · refine LW_ldc2 dX10_then_32 klX10_269 ?_
    refine LW_lret dX10_then_35 rfl (Nat.le_of_ble_eq_true rfl) (Nat.le_of_ble_eq_true rfl) ?_
    refine HPost.r hH ?_
    unfold qThen
    first | (rw [if_neg (fun z => by rw [hc_cl (by omega)] at z; rw [z.2.2] at c29; cases c29)]; done) | (rw [if_neg (fun z => absurd z.1.2 (Int32.not_lt.mpr c17))]; done) | (rw [if_neg (fun z => absurd z.1.1 (Int32.not_le.mpr c11))]; done) | (rw [if_neg (fun z => absurd z.2.1.2 (Int32.not_lt.mpr c7))]; done) | (rw [if_neg (fun z => absurd z.2.1.1 (Int32.not_le.mpr c1))]; done)
  · refine LW_iloadn 2 dX10_then_4 rfl rfl ?_
    refine LW_bipush (v := 6) dX10_then_5 (by decide) ?_
    refine LW_icmp_ge (tgt := 32) dX10_then_7 (by decide) (fun c7 => ?_) (fun c7 => ?_)
    · refine LW_ldc2 dX10_then_32 klX10_269 ?_
      refine LW_lret dX10_then_35 rfl (Nat.le_of_ble_eq_true rfl) (Nat.le_of_ble_eq_true rfl) ?_
      refine HPost.r hH ?_
      unfold qThen
      first | (rw [if_neg (fun z => by rw [hc_cl (by omega)] at z; rw [z.2.2] at c29; cases c29)]; done) | (rw [if_neg (fun z => absurd z.1.2 (Int32.not_lt.mpr c17))]; done) | (rw [if_neg (fun z => absurd z.1.1 (Int32.not_le.mpr c11))]; done) | (rw [if_neg (fun z => absurd z.2.1.2 (Int32.not_lt.mpr c7))]; done) | (rw [if_neg (fun z => absurd z.2.1.1 (Int32.not_le.mpr c1))]; done)
    · refine LW_iloadn 1 dX10_then_10 rfl rfl ?_
      refine LW_if_lt (tgt := 32) dX10_then_11 (by decide) (fun c11 => ?_) (fun c11 => ?_)
      · refine LW_ldc2 dX10_then_32 klX10_269 ?_
        refine LW_lret dX10_then_35 rfl (Nat.le_of_ble_eq_true rfl) (Nat.le_of_ble_eq_true rfl) ?_
        refine HPost.r hH ?_
        unfold qThen
        first | (rw [if_neg (fun z => by rw [hc_cl (by omega)] at z; rw [z.2.2] at c29; cases c29)]; done) | (rw [if_neg (fun z => absurd z.1.2 (Int32.not_lt.mpr c17))]; done) | (rw [if_neg (fun z => absurd z.1.1 (Int32.not_le.mpr c11))]; done) | (rw [if_neg (fun z => absurd z.2.1.2 (Int32.not_lt.mpr c7))]; done) | (rw [if_neg (fun z => absurd z.2.1.1 (Int32.not_le.mpr c1))]; done)
      · refine LW_iloadn 1 dX10_then_14 rfl rfl ?_
        refine LW_bipush (v := 12) dX10_then_15 (by decide) ?_
        refine LW_icmp_ge (tgt := 32) dX10_then_17 (by decide) (fun c17 => ?_) (fun c17 => ?_)
        · refine LW_ldc2 dX10_then_32 klX10_269 ?_
          refine LW_lret dX10_then_35 rfl (Nat.le_of_ble_eq_true rfl) (Nat.le_of_ble_eq_true rfl) ?_
          refine HPost.r hH ?_
          unfold qThen
          first | (rw [if_neg (fun z => by rw [hc_cl (by omega)] at z; rw [z.2.2] at c29; cases c29)]; done) | (rw [if_neg (fun z => absurd z.1.2 (Int32.not_lt.mpr c17))]; done) | (rw [if_neg (fun z => absurd z.1.1 (Int32.not_le.mpr c11))]; done) | (rw [if_neg (fun z => absurd z.2.1.2 (Int32.not_lt.mpr c7))]; done) | (rw [if_neg (fun z => absurd z.2.1.1 (Int32.not_le.mpr c1))]; done)
        · obtain ⟨a, ha, rfl⟩ := x_in (N := 12) (by decide) (Int32.not_lt.mp c11) (Int32.not_le.mp c17)
          obtain ⟨b, hb, rfl⟩ := x_in (N := 6) (by decide) (Int32.not_lt.mp c1) (Int32.not_le.mp c7)
          refine LW_aloadn 0 dX10_then_20 rfl rfl ?_
          refine gX10_1 dX10_then_21 flX10_19 (hY.lt (k := 0) (by decide)) (ly0 hY) (lf0_1 hY) ?_
          refine gX6_9 dX10_then_24 flX10_275 (hY.lt (k := 3) (by decide)) (ly3 hY) (lf3_9 hY) ?_
          refine LW_iloadn 1 dX10_then_27 rfl rfl ?_
          refine LW_zald dX10_then_28 (hY.lt (k := 13) (by decide)) (ly13 hY) rfl ha (Nat.le_of_ble_eq_true rfl) ?_
          rw [show I 13 a = hc_b (aEt (sA S) a) from hH.s.et ha]
          refine LW_bif_ne (tgt := 36) dX10_then_29 (by decide) (fun c29 => ?_) (fun c29 => ?_)
          · refine LW_aloadn 0 dX10_then_36 rfl rfl ?_
            refine gX10_1 dX10_then_37 flX10_19 (hY.lt (k := 0) (by decide)) (ly0 hY) (lf0_1 hY) ?_
            refine gX6_10 dX10_then_40 flX10_278 (hY.lt (k := 3) (by decide)) (ly3 hY) (lf3_10 hY) ?_
            refine LW_iloadn 2 dX10_then_43 rfl rfl ?_
            refine LW_aald7 (r := 3 + 12 + b) dX10_then_44 (hY.lt (k := 14) (by decide)) (ly14 hY) rfl hb (Nat.le_of_ble_eq_true rfl) (hY.st3.f2 b hb) ?_
            refine LW_iloadn 1 dX10_then_45 rfl rfl ?_
            refine LW_lald dX10_then_46 (by have := hY.1; omega) (hY.st3.l12 b hb) rfl ha (Nat.le_of_ble_eq_true rfl) ?_
            rw [show L (3 + 12 + b) a = aEr (sA S) b a from hH.s.er hb ha]
            refine LW_lret dX10_then_47 rfl (Nat.le_of_ble_eq_true rfl) (Nat.le_of_ble_eq_true rfl) ?_
            refine HPost.r hH ?_
            unfold qThen
            rw [hc_cl (by omega), hc_cl (by omega), if_pos ⟨⟨nI_nn (by omega), (hc_lt (b := 12) (by omega) (by decide)).mpr ha⟩, ⟨nI_nn (by omega), (hc_lt (b := 6) (by omega) (by decide)).mpr hb⟩, c29⟩]
          · refine LW_ldc2 dX10_then_32 klX10_269 ?_
            refine LW_lret dX10_then_35 rfl (Nat.le_of_ble_eq_true rfl) (Nat.le_of_ble_eq_true rfl) ?_
            refine HPost.r hH ?_
            unfold qThen
            first | (rw [if_neg (fun z => by rw [hc_cl (by omega)] at z; rw [z.2.2] at c29; cases c29)]; done) | (rw [if_neg (fun z => absurd z.1.2 (Int32.not_lt.mpr c17))]; done) | (rw [if_neg (fun z => absurd z.1.1 (Int32.not_le.mpr c11))]; done) | (rw [if_neg (fun z => absurd z.2.1.2 (Int32.not_lt.mpr c7))]; done) | (rw [if_neg (fun z => absurd z.2.1.1 (Int32.not_le.mpr c1))]; done)
