/-! the worst storm -/
def wG (x y w h : Nat) : Nat → Nat
  | 0 => x
  | 1 => y
  | 2 => x + w - 1
  | _ => y + h - 1
def wW (A : AS) (P : LwP) (str w h x y : Nat) : Int64 := abWith A (wCalm A P) (wHit A P str) (wG x y w h) (aF A)
def bRow (W : Nat → Nat → Int64) (y : Nat) : Nat → Int64 × Int32 × Int32 → Int64 × Int32 × Int32
  | 0, q => q
  | x + 1, q => if (bRow W y x q).1 < W x y then (W x y, nI x, nI y) else bRow W y x q
def bAll (W : Nat → Nat → Int64) (n : Nat) : Nat → Int64 × Int32 × Int32 → Int64 × Int32 × Int32
  | 0, q => q
  | y + 1, q => bRow W y n (bAll W n y q)
theorem bRow_y {W : Nat → Nat → Int64} {x y : Nat} {q : Int64 × Int32 × Int32} (h : (bRow W y x q).1 < W x y) : bRow W y (x + 1) q = (W x y, nI x, nI y) := if_pos h
theorem bRow_n {W : Nat → Nat → Int64} {x y : Nat} {q : Int64 × Int32 × Int32} (h : ¬ (bRow W y x q).1 < W x y) : bRow W y (x + 1) q = bRow W y x q := if_neg h
theorem abWith_congr {A : AS} (hA : wf A) {c c' t t' : Nat → Int64} {g : Nat → Nat} (h1 : ∀ j, j < 24 → c j = c' j) (h2 : ∀ j, j < 24 → t j = t' j) : abWith A c t g (aF A) = abWith A c' t' g (aF A) := by
  have := hA.f
  exact sumJ_congr (fun j hj => by rw [h1 j (by omega), h2 j (by omega)])
set_option maxRecDepth 100000 in
theorem r_findWorst {Λ : hc_L} {I : hc_I} {L : hc_J} {R : hc_R} {a s l : Nat} {A : AS} (ha : AsL Λ a s l) (h : St Λ I L R s A) {P : LwP} (hl : LwAt Λ I l P) (hP : lpOk P) (hsa : ∀ k, k < 18 → s + k ≠ a) {w h0 str : Nat} (hw : 1 ≤ w ∧ w ≤ 8) (hh : 1 ≤ h0 ∧ h0 ≤ 8) (hs : str ≤ 100) : Run xX0_findWorst [.ref a, .int (nI w), .int (nI h0), .int (nI str)] Λ I L R (Qvi (fun z => z = a) (fun z => z = a ∨ wJ a l z) none (fun I' L' => L' a 6 = (bAll (wW A P str w h0) (9 - w) (9 - h0) (-1, I a 4, I a 5)).1 ∧ I' a 4 = (bAll (wW A P str w h0) (9 - w) (9 - h0) (-1, I a 4, I a 5)).2.1 ∧ I' a 5 = (bAll (wW A P str w h0) (9 - w) (9 - h0) (-1, I a 4, I a 5)).2.2) Λ I L R) := by
  refine Run.of (by decide +kernel) (Nat.le_of_ble_eq_true rfl) ?_
  show LW _ _ _ [(0, .ref a), (1, .int (nI w)), (2, .int (nI h0)), (3, .int (nI str))] _ _ _ _ _ _
  refine LW_aloadn 0 dX0_findWorst_0 rfl rfl ?_
  refine LW_iloadn 3 dX0_findWorst_1 rfl rfl ?_
  refine LW_callV (As := [.int (nI str)]) (b := a) (st := []) (ci := 0) (r := (RX0, TX0, 7)) (r_weigh ha h hl hP hs) YX0_weigh rfl dX0_findWorst_2 mlX0_130 ha.lt0 ha.2.1 ⟨rfl, rfl⟩ (by decide) ⟨Nat.le_refl _, Nat.le_refl _⟩ (Nat.le_of_ble_eq_true rfl) rfl (fun r2 Λc2 Ic2 Lc2 Rc2 hq2 => ?_)
  obtain ⟨rfl, rfl, rfl, hL2, rfl, hw1, hw2⟩ := hq2
  refine LW_aloadn 0 dX0_findWorst_5 rfl rfl ?_
  refine LW_ldc2 dX0_findWorst_6 klX0_134 ?_
  refine pX0_6 dX0_findWorst_9 flX0_136 ha.lt0 ha.2.1 ?_
  generalize hL9 : hc_u Lc2 a 6 (-1) = L9
  refine LW_iconst (v := 0) dX0_findWorst_12 (by decide) ?_
  refine LW_istore (ls' := [(0, .ref a), (1, .int (nI w)), (2, .int (nI h0)), (3, .int (nI str)), (4, .int 0)]) dX0_findWorst_13 (by decide) rfl ?_
  have loopY : ∀ y, y ≤ 9 - h0 → ∀ (I1 : hc_I) (L1 : hc_J), (∀ z, z ≠ a → I1 z = I z) → (∀ z, z ≠ a → L1 z = Lc2 z) → L1 a 6 = (bAll (wW A P str w h0) (9 - w) y (-1, I a 4, I a 5)).1 → I1 a 4 = (bAll (wW A P str w h0) (9 - w) y (-1, I a 4, I a 5)).2.1 → I1 a 5 = (bAll (wW A P str w h0) (9 - w) y (-1, I a 4, I a 5)).2.2 → LW xX0_findWorst (0, 0) 15 [(0, .ref a), (1, .int (nI w)), (2, .int (nI h0)), (3, .int (nI str)), (4, .int (nI y))] [] Λ I1 L1 R (Qvi (fun z => z = a) (fun z => z = a ∨ wJ a l z) none (fun I' L' => L' a 6 = (bAll (wW A P str w h0) (9 - w) (9 - h0) (-1, I a 4, I a 5)).1 ∧ I' a 4 = (bAll (wW A P str w h0) (9 - w) (9 - h0) (-1, I a 4, I a 5)).2.1 ∧ I' a 5 = (bAll (wW A P str w h0) (9 - w) (9 - h0) (-1, I a 4, I a 5)).2.2) Λ I L R) := by
    refine hc_down ?_ ?_
    · intro I1 L1 hI1 hL1 q6 q4 q5
      refine LW_iload 4 dX0_findWorst_15 rfl ?_
      refine LW_iloadn 2 dX0_findWorst_17 rfl rfl ?_
      refine LW_iadd dX0_findWorst_18 ?_
      rw [show ((nI (9 - h0)) + (nI h0)) = nI (9 - h0 + h0) from nI_add _ h0]
      refine LW_bipush (v := 8) dX0_findWorst_19 (by decide) ?_
      refine LW_icmp_gt (tgt := 98) dX0_findWorst_21 (by decide) (fun c21 => ?_) (fun c21 => absurd ((hc_lt (a := 8) (by omega) (by omega)).mpr (by omega)) c21)
      refine LW_vret dX0_findWorst_98 rfl (Nat.le_of_ble_eq_true rfl) (Nat.le_of_ble_eq_true rfl) ?_
      exact ⟨rfl, rfl, hI1, fun z hz => by rw [hL1 z (fun q => hz (Or.inl q))]; exact hL2 z (fun q => hz (Or.inr q)), rfl, q6, q4, q5⟩
    · intro y hy ihY I1 L1 hI1 hL1 q6 q4 q5
      have loopX : ∀ x, x ≤ 9 - w → ∀ (I1 : hc_I) (L1 : hc_J), (∀ z, z ≠ a → I1 z = I z) → (∀ z, z ≠ a → L1 z = Lc2 z) → L1 a 6 = (bRow (wW A P str w h0) y x (bAll (wW A P str w h0) (9 - w) y (-1, I a 4, I a 5))).1 → I1 a 4 = (bRow (wW A P str w h0) y x (bAll (wW A P str w h0) (9 - w) y (-1, I a 4, I a 5))).2.1 → I1 a 5 = (bRow (wW A P str w h0) y x (bAll (wW A P str w h0) (9 - w) y (-1, I a 4, I a 5))).2.2 → LW xX0_findWorst (0, 0) 27 [(0, .ref a), (1, .int (nI w)), (2, .int (nI h0)), (3, .int (nI str)), (4, .int (nI y)), (5, .int (nI x))] [] Λ I1 L1 R (Qvi (fun z => z = a) (fun z => z = a ∨ wJ a l z) none (fun I' L' => L' a 6 = (bAll (wW A P str w h0) (9 - w) (9 - h0) (-1, I a 4, I a 5)).1 ∧ I' a 4 = (bAll (wW A P str w h0) (9 - w) (9 - h0) (-1, I a 4, I a 5)).2.1 ∧ I' a 5 = (bAll (wW A P str w h0) (9 - w) (9 - h0) (-1, I a 4, I a 5)).2.2) Λ I L R) := by
        refine hc_down ?_ ?_
        · intro I1 L1 hI1 hL1 q6 q4 q5
          refine LW_iload 5 dX0_findWorst_27 rfl ?_
          refine LW_iloadn 1 dX0_findWorst_29 rfl rfl ?_
          refine LW_iadd dX0_findWorst_30 ?_
          rw [show ((nI (9 - w)) + (nI w)) = nI (9 - w + w) from nI_add _ w]
          refine LW_bipush (v := 8) dX0_findWorst_31 (by decide) ?_
          refine LW_icmp_gt (tgt := 92) dX0_findWorst_33 (by decide) (fun c33 => ?_) (fun c33 => absurd ((hc_lt (a := 8) (by omega) (by omega)).mpr (by omega)) c33)
          refine LW_iinc (n := 4) (v := nI (y + 1)) (ls' := [(0, .ref a), (1, .int (nI w)), (2, .int (nI h0)), (3, .int (nI str)), (4, .int (nI (y + 1))), (5, .int (nI (9 - w)))]) dX0_findWorst_92 rfl (hc_inc _) (by decide) rfl ?_
          refine LW_goto (tgt := 15) dX0_findWorst_95 (by decide) ?_
          refine LW_ls [0, 1, 2, 3, 4] rfl ?_
          exact ihY I1 L1 hI1 hL1 q6 q4 q5
        · intro x hx ihX I1 L1 hI1 hL1 q6 q4 q5
          refine LW_iload 5 dX0_findWorst_27 rfl ?_
          refine LW_iloadn 1 dX0_findWorst_29 rfl rfl ?_
          refine LW_iadd dX0_findWorst_30 ?_
          rw [show ((nI x) + (nI w)) = nI (x + w) from nI_add x w]
          refine LW_bipush (v := 8) dX0_findWorst_31 (by decide) ?_
          refine LW_icmp_gt (tgt := 92) dX0_findWorst_33 (by decide) (fun c33 => absurd c33 (fun q => absurd ((hc_lt (a := 8) (by omega) (by omega)).mp q) (by omega))) (fun c33 => ?_)
          have h1 : St Λ I1 L1 R s A := h.jki (fun k hk => (hL1 _ (hsa k hk)).trans (hL2 _ (ha.nj k hk))) (fun k hk => hI1 _ (hsa k hk)) (fun r hr => hI1 r (fun q => by rw [q, ha.2.1] at hr; rcases hr with hr | hr <;> cases hr))
          refine LW_aloadn 0 dX0_findWorst_36 rfl rfl ?_
          refine LW_iload 5 dX0_findWorst_37 rfl ?_
          refine LW_iload 4 dX0_findWorst_39 rfl ?_
          refine LW_iload 5 dX0_findWorst_41 rfl ?_
          refine LW_iloadn 1 dX0_findWorst_43 rfl rfl ?_
          refine LW_iadd dX0_findWorst_44 ?_
          rw [show ((nI x) + (nI w)) = nI (x + w) from nI_add x w]
          refine LW_iconst (v := 1) dX0_findWorst_45 (by decide) ?_
          refine LW_isub dX0_findWorst_46 ?_
          rw [show ((nI (x + w)) - 1) = nI (x + w - 1) from (nI_sub (b := 1) (by omega))]
          refine LW_iload 4 dX0_findWorst_47 rfl ?_
          refine LW_iloadn 2 dX0_findWorst_49 rfl rfl ?_
          refine LW_iadd dX0_findWorst_50 ?_
          rw [show ((nI y) + (nI h0)) = nI (y + h0) from nI_add y h0]
          refine LW_iconst (v := 1) dX0_findWorst_51 (by decide) ?_
          refine LW_isub dX0_findWorst_52 ?_
          rw [show ((nI (y + h0)) - 1) = nI (y + h0 - 1) from (nI_sub (b := 1) (by omega))]
          refine LW_callV (As := [.int (nI x), .int (nI y), .int (nI (x + w - 1)), .int (nI (y + h0 - 1))]) (b := a) (st := []) (ci := 0) (r := (RX0, TX0, 7)) (r_lossesWith (g := wG x y w h0) ha h1 ⟨by show x < 8; omega, by show y < 8; omega, by show x + w - 1 < 8; omega, by show y + h0 - 1 < 8; omega⟩) YX0_lossesWith rfl dX0_findWorst_53 mlX0_140 ha.lt0 ha.2.1 ⟨rfl, rfl⟩ (by decide) ⟨Nat.le_refl _, Nat.le_refl _⟩ (Nat.le_of_ble_eq_true rfl) rfl (fun r53 Λc53 Ic53 Lc53 Rc53 hq53 => ?_)
          obtain ⟨rfl, rfl, rfl, rfl, rfl⟩ := hq53
          rw [show abWith A (L1 (a + 1)) (L1 (a + 2)) (wG x y w h0) (aF A) = (wW A P str w h0) x y from abWith_congr h.w (fun j hj => by rw [hL1 _ (by omega)]; exact hw1 j hj) (fun j hj => by rw [hL1 _ (by omega)]; exact hw2 j hj)]
          refine LW_lstore (ls' := [(0, .ref a), (1, .int (nI w)), (2, .int (nI h0)), (3, .int (nI str)), (4, .int (nI y)), (5, .int (nI x)), (6, .long ((wW A P str w h0) x y))]) dX0_findWorst_56 (by decide) rfl ?_
          refine LW_lload 6 dX0_findWorst_58 rfl ?_
          refine LW_aloadn 0 dX0_findWorst_60 rfl rfl ?_
          refine gX0_6 dX0_findWorst_61 flX0_136 ha.lt0 ha.2.1 ?_
          refine LW_lcmp dX0_findWorst_64 ?_
          refine LW_lif_le (tgt := 86) dX0_findWorst_65 (by decide) (fun c65 => ?_) (fun c65 => ?_)
          · refine LW_iinc (n := 5) (v := nI (x + 1)) (ls' := [(0, .ref a), (1, .int (nI w)), (2, .int (nI h0)), (3, .int (nI str)), (4, .int (nI y)), (5, .int (nI (x + 1))), (6, .long ((wW A P str w h0) x y))]) dX0_findWorst_86 rfl (hc_inc _) (by decide) rfl ?_
            refine LW_goto (tgt := 27) dX0_findWorst_89 (by decide) ?_
            refine LW_ls [0, 1, 2, 3, 4, 5] rfl ?_
            rw [bRow_n (by rw [← q6]; exact Int64.not_lt.mpr c65)] at ihX
            exact ihX I1 L1 hI1 hL1 q6 q4 q5
          · refine LW_aloadn 0 dX0_findWorst_68 rfl rfl ?_
            refine LW_lload 6 dX0_findWorst_69 rfl ?_
            refine pX0_6 dX0_findWorst_71 flX0_136 ha.lt0 ha.2.1 ?_
            generalize hL71 : hc_u L1 a 6 ((wW A P str w h0) x y) = L71
            refine LW_aloadn 0 dX0_findWorst_74 rfl rfl ?_
            refine LW_iload 5 dX0_findWorst_75 rfl ?_
            refine pX0_4 dX0_findWorst_77 flX0_143 ha.lt0 ha.2.1 ?_
            generalize hI77 : hc_u I1 a 4 (nI x) = I77
            refine LW_aloadn 0 dX0_findWorst_80 rfl rfl ?_
            refine LW_iload 4 dX0_findWorst_81 rfl ?_
            refine pX0_5 dX0_findWorst_83 flX0_146 ha.lt0 ha.2.1 ?_
            generalize hI83 : hc_u I77 a 5 (nI y) = I83
            refine LW_iinc (n := 5) (v := nI (x + 1)) (ls' := [(0, .ref a), (1, .int (nI w)), (2, .int (nI h0)), (3, .int (nI str)), (4, .int (nI y)), (5, .int (nI (x + 1))), (6, .long ((wW A P str w h0) x y))]) dX0_findWorst_86 rfl (hc_inc _) (by decide) rfl ?_
            refine LW_goto (tgt := 27) dX0_findWorst_89 (by decide) ?_
            refine LW_ls [0, 1, 2, 3, 4, 5] rfl ?_
            rw [bRow_y (by rw [← q6]; exact Int64.not_le.mp c65)] at ihX
            exact ihX I83 L71 (fun z hz => by rw [← hI83, hc_u_row _ _ _ _ hz, ← hI77, hc_u_row _ _ _ _ hz]; exact hI1 z hz) (fun z hz => by rw [← hL71, hc_u_row _ _ _ _ hz]; exact hL1 z hz) (by rw [← hL71, hc_u_at, if_pos rfl]) (by rw [← hI83, hc_u_at, if_neg (by decide), ← hI77, hc_u_at, if_pos rfl]) (by rw [← hI83, hc_u_at, if_pos rfl])
      refine LW_iload 4 dX0_findWorst_15 rfl ?_
      refine LW_iloadn 2 dX0_findWorst_17 rfl rfl ?_
      refine LW_iadd dX0_findWorst_18 ?_
      rw [show ((nI y) + (nI h0)) = nI (y + h0) from nI_add y h0]
      refine LW_bipush (v := 8) dX0_findWorst_19 (by decide) ?_
      refine LW_icmp_gt (tgt := 98) dX0_findWorst_21 (by decide) (fun c21 => absurd c21 (fun q => absurd ((hc_lt (a := 8) (by omega) (by omega)).mp q) (by omega))) (fun c21 => ?_)
      refine LW_iconst (v := 0) dX0_findWorst_24 (by decide) ?_
      refine LW_istore (ls' := [(0, .ref a), (1, .int (nI w)), (2, .int (nI h0)), (3, .int (nI str)), (4, .int (nI y)), (5, .int 0)]) dX0_findWorst_25 (by decide) rfl ?_
      exact loopX 0 (Nat.zero_le _) I1 L1 hI1 hL1 q6 q4 q5
  exact loopY 0 (Nat.zero_le _) I L9 (fun _ _ => rfl) (fun z hz => by rw [← hL9, hc_u_row _ _ _ _ hz]) (by rw [← hL9, hc_u_at, if_pos rfl]; rfl) rfl rfl
