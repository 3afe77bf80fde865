/-! the law: its program, what it tells -/
/-- a law: how many operations, their kind (0 a number, 1 a word, 2 min, 3 max, 4 if, else the sign's byte), what a number or word is -/
abbrev LwP : Type := Nat × (Nat → Nat) × (Nat → Nat)
def lpK (k : Nat) : Bool := k == 0 || k == 1 || k == 2 || k == 3 || k == 4 || k == 42 || k == 43 || k == 45 || k == 47
def lpAr (k : Nat) : Nat := if k = 0 then 0 else if k = 1 then 0 else if k = 4 then 3 else 2
/-- the class's code of an operation -/
def lpEnc (k v : Nat) : Int32 := if k = 0 then nI v else if k = 1 then (if v = 0 then -1011 else if v = 1 then -1002 else if v = 2 then -1012 else -1003) else if k = 2 then -1013 else if k = 3 then -1014 else if k = 4 then -1015 else if k = 42 then -42 else if k = 43 then -43 else if k = 45 then -45 else -47
def lpBin (k : Nat) (a b : Int64) : Int64 := if k = 42 then a * b else if k = 43 then a + b else if k = 45 then a - b else if k = 47 then (if b = 0 then 0 else a / b) else if k = 2 then (if a < b then a else b) else (if b < a then a else b)
def lpUp {α : Type} (f : Nat → α) (k : Nat) (v : α) : Nat → α := fun j => if j = k then v else f j
/-- how many values lie there behind i operations -/
def lpT (P : LwP) : Nat → Nat
  | 0 => 0
  | i + 1 => lpT P i - lpAr (P.2.1 i) + 1
def lpS (P : LwP) (q : Nat → Int64) : Nat → Nat → Int64
  | 0 => fun _ => 0
  | i + 1 => let f := lpS P q i; let b := lpT P i - lpAr (P.2.1 i)
    lpUp f b (if P.2.1 i = 0 then lN (P.2.2 i) else if P.2.1 i = 1 then q (P.2.2 i) else if P.2.1 i = 4 then (if 0 < f b then f (b + 1) else f (b + 2)) else lpBin (P.2.1 i) (f b) (f (b + 1)))
def lpVal (P : LwP) (q : Nat → Int64) : Int64 := lpS P q P.1 0
/-- a law that can be told: kinds that there are, values enough for each operation, never too many -/
def lpOk (P : LwP) : Prop := P.1 ≤ 700 ∧ (∀ i, i < P.1 → lpK (P.2.1 i) = true ∧ lpAr (P.2.1 i) ≤ lpT P i ∧ lpT P i - lpAr (P.2.1 i) + 2 < 40 ∧ P.2.2 i < 100000000 ∧ (P.2.1 i = 1 → P.2.2 i < 4)) ∧ (0 < P.1 → 0 < lpT P P.1)
theorem nI_sub {a b : Nat} (h : b ≤ a) : nI a - nI b = nI (a - b) := by
  obtain ⟨c, rfl⟩ : ∃ c, a = b + c := ⟨a - b, by omega⟩
  rw [Nat.add_sub_cancel_left, ← nI_add]
  rw [Int32.add_comm]
  exact Int32.add_sub_cancel _ _
theorem lpK_c {k : Nat} (h : lpK k = true) : k = 0 ∨ k = 1 ∨ k = 2 ∨ k = 3 ∨ k = 4 ∨ k = 42 ∨ k = 43 ∨ k = 45 ∨ k = 47 := by
  simp only [lpK, Bool.or_eq_true, beq_iff_eq] at h
  omega
theorem lu_dflt {x : Int32} {n : Nat} (hx : x = nI n) (hn : n < 100000000) {dflt : Int} : ∀ (ps : List (Int × Int)), (∀ q ∈ ps, q.1 < 0) → Op.lookupswitch.offset ps dflt x.toInt = dflt := by
  intro ps
  subst hx
  rw [nI_toInt (by omega)]
  induction ps with
  | nil => intro _; rfl
  | cons a t ih =>
    intro h
    have h1 := h a List.mem_cons_self
    have h2 := ih (fun q hq => h q (List.mem_cons_of_mem _ hq))
    simp only [Op.lookupswitch.offset] at h2 ⊢
    first
      | (rw [if_neg (by omega)]; exact h2)
      | (rw [if_neg (by simp; omega)]; exact h2)
      | (simp only [List.find?_cons]; rw [show (a.1 == (n : Int)) = false by simp; omega]; exact h2)
set_option maxRecDepth 100000 in
theorem r_operands_1015 {Λ : hc_L} {I : hc_I} {L : hc_J} {R : hc_R}  : Run xX4_operands [.int (-1015)] Λ I L R (Qr (some (.int (nI 3))) Λ I L R) := by
  refine Run.of (by decide +kernel) (Nat.le_of_ble_eq_true rfl) ?_
  show LW _ _ _ [(0, .int (-1015))] _ _ _ _ _ _
  refine LW_iloadn 0 dX4_operands_0 rfl rfl ?_
  refine LW_lookup (off := 67) (tgt := 68) dX4_operands_1 (by decide) (by decide) (by decide) ?_
  refine LW_iconst (v := 3) dX4_operands_68 (by decide) ?_
  refine LW_iret dX4_operands_69 rfl (Nat.le_of_ble_eq_true rfl) (Nat.le_of_ble_eq_true rfl) ?_
  exact Qr.mk rfl
set_option maxRecDepth 100000 in
theorem r_operands_1014 {Λ : hc_L} {I : hc_I} {L : hc_J} {R : hc_R}  : Run xX4_operands [.int (-1014)] Λ I L R (Qr (some (.int (nI 2))) Λ I L R) := by
  refine Run.of (by decide +kernel) (Nat.le_of_ble_eq_true rfl) ?_
  show LW _ _ _ [(0, .int (-1014))] _ _ _ _ _ _
  refine LW_iloadn 0 dX4_operands_0 rfl rfl ?_
  refine LW_lookup (off := 69) (tgt := 70) dX4_operands_1 (by decide) (by decide) (by decide) ?_
  refine LW_iconst (v := 2) dX4_operands_70 (by decide) ?_
  refine LW_iret dX4_operands_71 rfl (Nat.le_of_ble_eq_true rfl) (Nat.le_of_ble_eq_true rfl) ?_
  exact Qr.mk rfl
set_option maxRecDepth 100000 in
theorem r_operands_1013 {Λ : hc_L} {I : hc_I} {L : hc_J} {R : hc_R}  : Run xX4_operands [.int (-1013)] Λ I L R (Qr (some (.int (nI 2))) Λ I L R) := by
  refine Run.of (by decide +kernel) (Nat.le_of_ble_eq_true rfl) ?_
  show LW _ _ _ [(0, .int (-1013))] _ _ _ _ _ _
  refine LW_iloadn 0 dX4_operands_0 rfl rfl ?_
  refine LW_lookup (off := 69) (tgt := 70) dX4_operands_1 (by decide) (by decide) (by decide) ?_
  refine LW_iconst (v := 2) dX4_operands_70 (by decide) ?_
  refine LW_iret dX4_operands_71 rfl (Nat.le_of_ble_eq_true rfl) (Nat.le_of_ble_eq_true rfl) ?_
  exact Qr.mk rfl
set_option maxRecDepth 100000 in
theorem r_operands_47 {Λ : hc_L} {I : hc_I} {L : hc_J} {R : hc_R}  : Run xX4_operands [.int (-47)] Λ I L R (Qr (some (.int (nI 2))) Λ I L R) := by
  refine Run.of (by decide +kernel) (Nat.le_of_ble_eq_true rfl) ?_
  show LW _ _ _ [(0, .int (-47))] _ _ _ _ _ _
  refine LW_iloadn 0 dX4_operands_0 rfl rfl ?_
  refine LW_lookup (off := 69) (tgt := 70) dX4_operands_1 (by decide) (by decide) (by decide) ?_
  refine LW_iconst (v := 2) dX4_operands_70 (by decide) ?_
  refine LW_iret dX4_operands_71 rfl (Nat.le_of_ble_eq_true rfl) (Nat.le_of_ble_eq_true rfl) ?_
  exact Qr.mk rfl
set_option maxRecDepth 100000 in
theorem r_operands_45 {Λ : hc_L} {I : hc_I} {L : hc_J} {R : hc_R}  : Run xX4_operands [.int (-45)] Λ I L R (Qr (some (.int (nI 2))) Λ I L R) := by
  refine Run.of (by decide +kernel) (Nat.le_of_ble_eq_true rfl) ?_
  show LW _ _ _ [(0, .int (-45))] _ _ _ _ _ _
  refine LW_iloadn 0 dX4_operands_0 rfl rfl ?_
  refine LW_lookup (off := 69) (tgt := 70) dX4_operands_1 (by decide) (by decide) (by decide) ?_
  refine LW_iconst (v := 2) dX4_operands_70 (by decide) ?_
  refine LW_iret dX4_operands_71 rfl (Nat.le_of_ble_eq_true rfl) (Nat.le_of_ble_eq_true rfl) ?_
  exact Qr.mk rfl
set_option maxRecDepth 100000 in
theorem r_operands_43 {Λ : hc_L} {I : hc_I} {L : hc_J} {R : hc_R}  : Run xX4_operands [.int (-43)] Λ I L R (Qr (some (.int (nI 2))) Λ I L R) := by
  refine Run.of (by decide +kernel) (Nat.le_of_ble_eq_true rfl) ?_
  show LW _ _ _ [(0, .int (-43))] _ _ _ _ _ _
  refine LW_iloadn 0 dX4_operands_0 rfl rfl ?_
  refine LW_lookup (off := 69) (tgt := 70) dX4_operands_1 (by decide) (by decide) (by decide) ?_
  refine LW_iconst (v := 2) dX4_operands_70 (by decide) ?_
  refine LW_iret dX4_operands_71 rfl (Nat.le_of_ble_eq_true rfl) (Nat.le_of_ble_eq_true rfl) ?_
  exact Qr.mk rfl
set_option maxRecDepth 100000 in
theorem r_operands_42 {Λ : hc_L} {I : hc_I} {L : hc_J} {R : hc_R}  : Run xX4_operands [.int (-42)] Λ I L R (Qr (some (.int (nI 2))) Λ I L R) := by
  refine Run.of (by decide +kernel) (Nat.le_of_ble_eq_true rfl) ?_
  show LW _ _ _ [(0, .int (-42))] _ _ _ _ _ _
  refine LW_iloadn 0 dX4_operands_0 rfl rfl ?_
  refine LW_lookup (off := 69) (tgt := 70) dX4_operands_1 (by decide) (by decide) (by decide) ?_
  refine LW_iconst (v := 2) dX4_operands_70 (by decide) ?_
  refine LW_iret dX4_operands_71 rfl (Nat.le_of_ble_eq_true rfl) (Nat.le_of_ble_eq_true rfl) ?_
  exact Qr.mk rfl
set_option maxRecDepth 100000 in
theorem r_operands_1011 {Λ : hc_L} {I : hc_I} {L : hc_J} {R : hc_R}  : Run xX4_operands [.int (-1011)] Λ I L R (Qr (some (.int (nI 0))) Λ I L R) := by
  refine Run.of (by decide +kernel) (Nat.le_of_ble_eq_true rfl) ?_
  show LW _ _ _ [(0, .int (-1011))] _ _ _ _ _ _
  refine LW_iloadn 0 dX4_operands_0 rfl rfl ?_
  refine LW_lookup (off := 71) (tgt := 72) dX4_operands_1 (by decide) (by decide) (by decide) ?_
  refine LW_iconst (v := 0) dX4_operands_72 (by decide) ?_
  refine LW_iret dX4_operands_73 rfl (Nat.le_of_ble_eq_true rfl) (Nat.le_of_ble_eq_true rfl) ?_
  exact Qr.mk rfl
set_option maxRecDepth 100000 in
theorem r_operands_1002 {Λ : hc_L} {I : hc_I} {L : hc_J} {R : hc_R}  : Run xX4_operands [.int (-1002)] Λ I L R (Qr (some (.int (nI 0))) Λ I L R) := by
  refine Run.of (by decide +kernel) (Nat.le_of_ble_eq_true rfl) ?_
  show LW _ _ _ [(0, .int (-1002))] _ _ _ _ _ _
  refine LW_iloadn 0 dX4_operands_0 rfl rfl ?_
  refine LW_lookup (off := 71) (tgt := 72) dX4_operands_1 (by decide) (by decide) (by decide) ?_
  refine LW_iconst (v := 0) dX4_operands_72 (by decide) ?_
  refine LW_iret dX4_operands_73 rfl (Nat.le_of_ble_eq_true rfl) (Nat.le_of_ble_eq_true rfl) ?_
  exact Qr.mk rfl
set_option maxRecDepth 100000 in
theorem r_operands_1012 {Λ : hc_L} {I : hc_I} {L : hc_J} {R : hc_R}  : Run xX4_operands [.int (-1012)] Λ I L R (Qr (some (.int (nI 0))) Λ I L R) := by
  refine Run.of (by decide +kernel) (Nat.le_of_ble_eq_true rfl) ?_
  show LW _ _ _ [(0, .int (-1012))] _ _ _ _ _ _
  refine LW_iloadn 0 dX4_operands_0 rfl rfl ?_
  refine LW_lookup (off := 71) (tgt := 72) dX4_operands_1 (by decide) (by decide) (by decide) ?_
  refine LW_iconst (v := 0) dX4_operands_72 (by decide) ?_
  refine LW_iret dX4_operands_73 rfl (Nat.le_of_ble_eq_true rfl) (Nat.le_of_ble_eq_true rfl) ?_
  exact Qr.mk rfl
set_option maxRecDepth 100000 in
theorem r_operands_1003 {Λ : hc_L} {I : hc_I} {L : hc_J} {R : hc_R}  : Run xX4_operands [.int (-1003)] Λ I L R (Qr (some (.int (nI 0))) Λ I L R) := by
  refine Run.of (by decide +kernel) (Nat.le_of_ble_eq_true rfl) ?_
  show LW _ _ _ [(0, .int (-1003))] _ _ _ _ _ _
  refine LW_iloadn 0 dX4_operands_0 rfl rfl ?_
  refine LW_lookup (off := 71) (tgt := 72) dX4_operands_1 (by decide) (by decide) (by decide) ?_
  refine LW_iconst (v := 0) dX4_operands_72 (by decide) ?_
  refine LW_iret dX4_operands_73 rfl (Nat.le_of_ble_eq_true rfl) (Nat.le_of_ble_eq_true rfl) ?_
  exact Qr.mk rfl
set_option maxRecDepth 100000 in
theorem r_operands_0 {Λ : hc_L} {I : hc_I} {L : hc_J} {R : hc_R} {n : Nat} (hn : n < 100000000) : Run xX4_operands [.int (nI n)] Λ I L R (Qr (some (.int (nI 0))) Λ I L R) := by
  refine Run.of (by decide +kernel) (Nat.le_of_ble_eq_true rfl) ?_
  show LW _ _ _ [(0, .int (nI n))] _ _ _ _ _ _
  refine LW_iloadn 0 dX4_operands_0 rfl rfl ?_
  refine LW_lookup (off := 71) (tgt := 72) dX4_operands_1 (by decide) (lu_dflt rfl hn _ (by decide)) (by decide) ?_
  refine LW_iconst (v := 0) dX4_operands_72 (by decide) ?_
  refine LW_iret dX4_operands_73 rfl (Nat.le_of_ble_eq_true rfl) (Nat.le_of_ble_eq_true rfl) ?_
  exact Qr.mk rfl
set_option maxRecDepth 100000 in
theorem r_leaf_1011 {Λ : hc_L} {I : hc_I} {L : hc_J} {R : hc_R} (a b c d : Int32) : Run xX4_leaf [.int (-1011), .int a, .int b, .int c, .int d] Λ I L R (Qr (some (.long a.toInt64)) Λ I L R) := by
  refine Run.of (by decide +kernel) (Nat.le_of_ble_eq_true rfl) ?_
  show LW _ _ _ [(0, .int (-1011)), (1, .int a), (2, .int b), (3, .int c), (4, .int d)] _ _ _ _ _ _
  refine LW_iloadn 0 dX4_leaf_0 rfl rfl ?_
  refine LW_lookup (off := 43) (tgt := 44) dX4_leaf_1 (by decide) (by decide) (by decide) ?_
  refine LW_iloadn 1 dX4_leaf_44 rfl rfl ?_
  refine LW_i2l dX4_leaf_45 ?_
  refine LW_lret dX4_leaf_46 rfl (Nat.le_of_ble_eq_true rfl) (Nat.le_of_ble_eq_true rfl) ?_
  exact Qr.mk rfl
set_option maxRecDepth 100000 in
theorem r_leaf_1002 {Λ : hc_L} {I : hc_I} {L : hc_J} {R : hc_R} (a b c d : Int32) : Run xX4_leaf [.int (-1002), .int a, .int b, .int c, .int d] Λ I L R (Qr (some (.long b.toInt64)) Λ I L R) := by
  refine Run.of (by decide +kernel) (Nat.le_of_ble_eq_true rfl) ?_
  show LW _ _ _ [(0, .int (-1002)), (1, .int a), (2, .int b), (3, .int c), (4, .int d)] _ _ _ _ _ _
  refine LW_iloadn 0 dX4_leaf_0 rfl rfl ?_
  refine LW_lookup (off := 46) (tgt := 47) dX4_leaf_1 (by decide) (by decide) (by decide) ?_
  refine LW_iloadn 2 dX4_leaf_47 rfl rfl ?_
  refine LW_i2l dX4_leaf_48 ?_
  refine LW_lret dX4_leaf_49 rfl (Nat.le_of_ble_eq_true rfl) (Nat.le_of_ble_eq_true rfl) ?_
  exact Qr.mk rfl
set_option maxRecDepth 100000 in
theorem r_leaf_1012 {Λ : hc_L} {I : hc_I} {L : hc_J} {R : hc_R} (a b c d : Int32) : Run xX4_leaf [.int (-1012), .int a, .int b, .int c, .int d] Λ I L R (Qr (some (.long c.toInt64)) Λ I L R) := by
  refine Run.of (by decide +kernel) (Nat.le_of_ble_eq_true rfl) ?_
  show LW _ _ _ [(0, .int (-1012)), (1, .int a), (2, .int b), (3, .int c), (4, .int d)] _ _ _ _ _ _
  refine LW_iloadn 0 dX4_leaf_0 rfl rfl ?_
  refine LW_lookup (off := 49) (tgt := 50) dX4_leaf_1 (by decide) (by decide) (by decide) ?_
  refine LW_iloadn 3 dX4_leaf_50 rfl rfl ?_
  refine LW_i2l dX4_leaf_51 ?_
  refine LW_lret dX4_leaf_52 rfl (Nat.le_of_ble_eq_true rfl) (Nat.le_of_ble_eq_true rfl) ?_
  exact Qr.mk rfl
set_option maxRecDepth 100000 in
theorem r_leaf_1003 {Λ : hc_L} {I : hc_I} {L : hc_J} {R : hc_R} (a b c d : Int32) : Run xX4_leaf [.int (-1003), .int a, .int b, .int c, .int d] Λ I L R (Qr (some (.long d.toInt64)) Λ I L R) := by
  refine Run.of (by decide +kernel) (Nat.le_of_ble_eq_true rfl) ?_
  show LW _ _ _ [(0, .int (-1003)), (1, .int a), (2, .int b), (3, .int c), (4, .int d)] _ _ _ _ _ _
  refine LW_iloadn 0 dX4_leaf_0 rfl rfl ?_
  refine LW_lookup (off := 52) (tgt := 53) dX4_leaf_1 (by decide) (by decide) (by decide) ?_
  refine LW_iload 4 dX4_leaf_53 rfl ?_
  refine LW_i2l dX4_leaf_55 ?_
  refine LW_lret dX4_leaf_56 rfl (Nat.le_of_ble_eq_true rfl) (Nat.le_of_ble_eq_true rfl) ?_
  exact Qr.mk rfl
set_option maxRecDepth 100000 in
theorem r_leaf_0 {Λ : hc_L} {I : hc_I} {L : hc_J} {R : hc_R} {n : Nat} (hn : n < 100000000) (a b c d : Int32) : Run xX4_leaf [.int (nI n), .int a, .int b, .int c, .int d] Λ I L R (Qr (some (.long (lN n))) Λ I L R) := by
  refine Run.of (by decide +kernel) (Nat.le_of_ble_eq_true rfl) ?_
  show LW _ _ _ [(0, .int (nI n)), (1, .int a), (2, .int b), (3, .int c), (4, .int d)] _ _ _ _ _ _
  refine LW_iloadn 0 dX4_leaf_0 rfl rfl ?_
  refine LW_lookup (off := 56) (tgt := 57) dX4_leaf_1 (by decide) (lu_dflt rfl hn _ (by decide)) (by decide) ?_
  refine LW_iloadn 0 dX4_leaf_57 rfl rfl ?_
  refine LW_i2l dX4_leaf_58 ?_
  refine LW_lret dX4_leaf_59 rfl (Nat.le_of_ble_eq_true rfl) (Nat.le_of_ble_eq_true rfl) ?_
  exact Qr.mk (by rw [nI_l (by omega)])
set_option maxRecDepth 100000 in
theorem r_operate_43 {Λ : hc_L} {I : hc_I} {L : hc_J} {R : hc_R} (a b c : Int64) : Run xX4_operate [.int (-43), .long a, .long b, .long c] Λ I L R (Qr (some (.long (a + b))) Λ I L R) := by
  refine Run.of (by decide +kernel) (Nat.le_of_ble_eq_true rfl) ?_
  show LW _ _ _ [(0, .int (-43)), (1, .long a), (3, .long b), (5, .long c)] _ _ _ _ _ _
  refine LW_iloadn 0 dX4_operate_0 rfl rfl ?_
  refine LW_lookup (off := 59) (tgt := 60) dX4_operate_1 (by decide) (by decide) (by decide) ?_
  refine LW_lloadn 1 dX4_operate_60 rfl rfl ?_
  refine LW_lloadn 2 dX4_operate_61 rfl rfl ?_
  refine LW_ladd dX4_operate_62 ?_
  refine LW_lret dX4_operate_63 rfl (Nat.le_of_ble_eq_true rfl) (Nat.le_of_ble_eq_true rfl) ?_
  refine Qr.mk ?_
  first | rfl | (rw [if_neg c75]; done) | (rw [if_pos (Classical.not_not.mp c75)]; done) | (rw [if_neg (Int64.not_lt.mpr c75)]; done) | (rw [if_pos (Int64.not_le.mp c75)]; done)
set_option maxRecDepth 100000 in
theorem r_operate_45 {Λ : hc_L} {I : hc_I} {L : hc_J} {R : hc_R} (a b c : Int64) : Run xX4_operate [.int (-45), .long a, .long b, .long c] Λ I L R (Qr (some (.long (a - b))) Λ I L R) := by
  refine Run.of (by decide +kernel) (Nat.le_of_ble_eq_true rfl) ?_
  show LW _ _ _ [(0, .int (-45)), (1, .long a), (3, .long b), (5, .long c)] _ _ _ _ _ _
  refine LW_iloadn 0 dX4_operate_0 rfl rfl ?_
  refine LW_lookup (off := 63) (tgt := 64) dX4_operate_1 (by decide) (by decide) (by decide) ?_
  refine LW_lloadn 1 dX4_operate_64 rfl rfl ?_
  refine LW_lloadn 2 dX4_operate_65 rfl rfl ?_
  refine LW_lsub dX4_operate_66 ?_
  refine LW_lret dX4_operate_67 rfl (Nat.le_of_ble_eq_true rfl) (Nat.le_of_ble_eq_true rfl) ?_
  refine Qr.mk ?_
  first | rfl | (rw [if_neg c75]; done) | (rw [if_pos (Classical.not_not.mp c75)]; done) | (rw [if_neg (Int64.not_lt.mpr c75)]; done) | (rw [if_pos (Int64.not_le.mp c75)]; done)
set_option maxRecDepth 100000 in
theorem r_operate_42 {Λ : hc_L} {I : hc_I} {L : hc_J} {R : hc_R} (a b c : Int64) : Run xX4_operate [.int (-42), .long a, .long b, .long c] Λ I L R (Qr (some (.long (a * b))) Λ I L R) := by
  refine Run.of (by decide +kernel) (Nat.le_of_ble_eq_true rfl) ?_
  show LW _ _ _ [(0, .int (-42)), (1, .long a), (3, .long b), (5, .long c)] _ _ _ _ _ _
  refine LW_iloadn 0 dX4_operate_0 rfl rfl ?_
  refine LW_lookup (off := 67) (tgt := 68) dX4_operate_1 (by decide) (by decide) (by decide) ?_
  refine LW_lloadn 1 dX4_operate_68 rfl rfl ?_
  refine LW_lloadn 2 dX4_operate_69 rfl rfl ?_
  refine LW_lmul dX4_operate_70 ?_
  refine LW_lret dX4_operate_71 rfl (Nat.le_of_ble_eq_true rfl) (Nat.le_of_ble_eq_true rfl) ?_
  refine Qr.mk ?_
  first | rfl | (rw [if_neg c75]; done) | (rw [if_pos (Classical.not_not.mp c75)]; done) | (rw [if_neg (Int64.not_lt.mpr c75)]; done) | (rw [if_pos (Int64.not_le.mp c75)]; done)
set_option maxRecDepth 100000 in
theorem r_operate_47 {Λ : hc_L} {I : hc_I} {L : hc_J} {R : hc_R} (a b c : Int64) : Run xX4_operate [.int (-47), .long a, .long b, .long c] Λ I L R (Qr (some (.long (if b = 0 then 0 else a / b))) Λ I L R) := by
  refine Run.of (by decide +kernel) (Nat.le_of_ble_eq_true rfl) ?_
  show LW _ _ _ [(0, .int (-47)), (1, .long a), (3, .long b), (5, .long c)] _ _ _ _ _ _
  refine LW_iloadn 0 dX4_operate_0 rfl rfl ?_
  refine LW_lookup (off := 71) (tgt := 72) dX4_operate_1 (by decide) (by decide) (by decide) ?_
  refine LW_lloadn 2 dX4_operate_72 rfl rfl ?_
  refine LW_lconst (v := 0) dX4_operate_73 (by decide) ?_
  refine LW_lcmp dX4_operate_74 ?_
  refine LW_lif_ne (tgt := 82) dX4_operate_75 (by decide) (fun c75 => ?_) (fun c75 => ?_)
  · refine LW_lloadn 1 dX4_operate_82 rfl rfl ?_
    refine LW_lloadn 2 dX4_operate_83 rfl rfl ?_
    refine LW_ldiv dX4_operate_84 c75 ?_
    refine LW_lret dX4_operate_85 rfl (Nat.le_of_ble_eq_true rfl) (Nat.le_of_ble_eq_true rfl) ?_
    refine Qr.mk ?_
    first | rfl | (rw [if_neg c75]; done) | (rw [if_pos (Classical.not_not.mp c75)]; done) | (rw [if_neg (Int64.not_lt.mpr c75)]; done) | (rw [if_pos (Int64.not_le.mp c75)]; done)
  · refine LW_lconst (v := 0) dX4_operate_78 (by decide) ?_
    refine LW_goto (tgt := 85) dX4_operate_79 (by decide) ?_
    refine LW_lret dX4_operate_85 rfl (Nat.le_of_ble_eq_true rfl) (Nat.le_of_ble_eq_true rfl) ?_
    refine Qr.mk ?_
    first | rfl | (rw [if_neg c75]; done) | (rw [if_pos (Classical.not_not.mp c75)]; done) | (rw [if_neg (Int64.not_lt.mpr c75)]; done) | (rw [if_pos (Int64.not_le.mp c75)]; done)
set_option maxRecDepth 100000 in
theorem r_operate_1013 {Λ : hc_L} {I : hc_I} {L : hc_J} {R : hc_R} (a b c : Int64) : Run xX4_operate [.int (-1013), .long a, .long b, .long c] Λ I L R (Qr (some (.long (if a < b then a else b))) Λ I L R) := by
  refine Run.of (by decide +kernel) (Nat.le_of_ble_eq_true rfl) ?_
  show LW _ _ _ [(0, .int (-1013)), (1, .long a), (3, .long b), (5, .long c)] _ _ _ _ _ _
  refine LW_iloadn 0 dX4_operate_0 rfl rfl ?_
  refine LW_lookup (off := 85) (tgt := 86) dX4_operate_1 (by decide) (by decide) (by decide) ?_
  refine LW_lloadn 1 dX4_operate_86 rfl rfl ?_
  refine LW_lloadn 2 dX4_operate_87 rfl rfl ?_
  refine LW_lcmp dX4_operate_88 ?_
  refine LW_lif_ge (tgt := 96) dX4_operate_89 (by decide) (fun c89 => ?_) (fun c89 => ?_)
  · refine LW_lloadn 2 dX4_operate_96 rfl rfl ?_
    refine LW_lret dX4_operate_97 rfl (Nat.le_of_ble_eq_true rfl) (Nat.le_of_ble_eq_true rfl) ?_
    refine Qr.mk ?_
    first | rfl | (rw [if_neg c75]; done) | (rw [if_pos (Classical.not_not.mp c75)]; done) | (rw [if_neg (Int64.not_lt.mpr c89)]; done) | (rw [if_pos (Int64.not_le.mp c89)]; done)
  · refine LW_lloadn 1 dX4_operate_92 rfl rfl ?_
    refine LW_goto (tgt := 97) dX4_operate_93 (by decide) ?_
    refine LW_lret dX4_operate_97 rfl (Nat.le_of_ble_eq_true rfl) (Nat.le_of_ble_eq_true rfl) ?_
    refine Qr.mk ?_
    first | rfl | (rw [if_neg c75]; done) | (rw [if_pos (Classical.not_not.mp c75)]; done) | (rw [if_neg (Int64.not_lt.mpr c89)]; done) | (rw [if_pos (Int64.not_le.mp c89)]; done)
set_option maxRecDepth 100000 in
theorem r_operate_1014 {Λ : hc_L} {I : hc_I} {L : hc_J} {R : hc_R} (a b c : Int64) : Run xX4_operate [.int (-1014), .long a, .long b, .long c] Λ I L R (Qr (some (.long (if b < a then a else b))) Λ I L R) := by
  refine Run.of (by decide +kernel) (Nat.le_of_ble_eq_true rfl) ?_
  show LW _ _ _ [(0, .int (-1014)), (1, .long a), (3, .long b), (5, .long c)] _ _ _ _ _ _
  refine LW_iloadn 0 dX4_operate_0 rfl rfl ?_
  refine LW_lookup (off := 97) (tgt := 98) dX4_operate_1 (by decide) (by decide) (by decide) ?_
  refine LW_lloadn 1 dX4_operate_98 rfl rfl ?_
  refine LW_lloadn 2 dX4_operate_99 rfl rfl ?_
  refine LW_lcmp dX4_operate_100 ?_
  refine LW_lif_le (tgt := 108) dX4_operate_101 (by decide) (fun c101 => ?_) (fun c101 => ?_)
  · refine LW_lloadn 2 dX4_operate_108 rfl rfl ?_
    refine LW_lret dX4_operate_109 rfl (Nat.le_of_ble_eq_true rfl) (Nat.le_of_ble_eq_true rfl) ?_
    refine Qr.mk ?_
    first | rfl | (rw [if_neg c75]; done) | (rw [if_pos (Classical.not_not.mp c75)]; done) | (rw [if_neg (Int64.not_lt.mpr c101)]; done) | (rw [if_pos (Int64.not_le.mp c101)]; done)
  · refine LW_lloadn 1 dX4_operate_104 rfl rfl ?_
    refine LW_goto (tgt := 109) dX4_operate_105 (by decide) ?_
    refine LW_lret dX4_operate_109 rfl (Nat.le_of_ble_eq_true rfl) (Nat.le_of_ble_eq_true rfl) ?_
    refine Qr.mk ?_
    first | rfl | (rw [if_neg c75]; done) | (rw [if_pos (Classical.not_not.mp c75)]; done) | (rw [if_neg (Int64.not_lt.mpr c101)]; done) | (rw [if_pos (Int64.not_le.mp c101)]; done)
set_option maxRecDepth 100000 in
theorem r_operate_1015 {Λ : hc_L} {I : hc_I} {L : hc_J} {R : hc_R} (a b c : Int64) : Run xX4_operate [.int (-1015), .long a, .long b, .long c] Λ I L R (Qr (some (.long (if 0 < a then b else c))) Λ I L R) := by
  refine Run.of (by decide +kernel) (Nat.le_of_ble_eq_true rfl) ?_
  show LW _ _ _ [(0, .int (-1015)), (1, .long a), (3, .long b), (5, .long c)] _ _ _ _ _ _
  refine LW_iloadn 0 dX4_operate_0 rfl rfl ?_
  refine LW_lookup (off := 109) (tgt := 110) dX4_operate_1 (by decide) (by decide) (by decide) ?_
  refine LW_lloadn 1 dX4_operate_110 rfl rfl ?_
  refine LW_lconst (v := 0) dX4_operate_111 (by decide) ?_
  refine LW_lcmp dX4_operate_112 ?_
  refine LW_lif_le (tgt := 120) dX4_operate_113 (by decide) (fun c113 => ?_) (fun c113 => ?_)
  · refine LW_lload 3 dX4_operate_120 rfl ?_
    refine LW_lret dX4_operate_122 rfl (Nat.le_of_ble_eq_true rfl) (Nat.le_of_ble_eq_true rfl) ?_
    refine Qr.mk ?_
    first | rfl | (rw [if_neg c75]; done) | (rw [if_pos (Classical.not_not.mp c75)]; done) | (rw [if_neg (Int64.not_lt.mpr c113)]; done) | (rw [if_pos (Int64.not_le.mp c113)]; done)
  · refine LW_lloadn 2 dX4_operate_116 rfl rfl ?_
    refine LW_goto (tgt := 122) dX4_operate_117 (by decide) ?_
    refine LW_lret dX4_operate_122 rfl (Nat.le_of_ble_eq_true rfl) (Nat.le_of_ble_eq_true rfl) ?_
    refine Qr.mk ?_
    first | rfl | (rw [if_neg c75]; done) | (rw [if_pos (Classical.not_not.mp c75)]; done) | (rw [if_neg (Int64.not_lt.mpr c113)]; done) | (rw [if_pos (Int64.not_le.mp c113)]; done)
theorem lpT_s (P : LwP) (i : Nat) : lpT P (i + 1) = lpT P i - lpAr (P.2.1 i) + 1 := rfl
/-- what the four words are -/
def lpQ (a b c d : Int64) (v : Nat) : Int64 := if v = 0 then a else if v = 1 then b else if v = 2 then c else d
/-- the class's Law at l -/
def LwL (Λ : hc_L) (l : Nat) : Prop := l + 3 ≤ Λ.1 ∧ Λ.2.1 l = (104, 0) ∧ Λ.2.1 (l + 1) = (2, 700) ∧ Λ.2.1 (l + 2) = (3, 40) ∧ Λ.2.2 l 0 = some (l + 1) ∧ Λ.2.2 l 1 = some (l + 2)
def LwAt (Λ : hc_L) (I : hc_I) (l : Nat) (P : LwP) : Prop := LwL Λ l ∧ I l 2 = nI P.1 ∧ (∀ i, i < P.1 → I (l + 1) i = lpEnc (P.2.1 i) (P.2.2 i))
/-- only the rows of J may have changed among the longs -/
def Qj (J : Nat → Prop) (v : Option Value) (Λ : hc_L) (I : hc_I) (L : hc_J) (R : hc_R) : hc_Q := fun r Λ' I' L' R' => r = v ∧ Λ = Λ' ∧ I = I' ∧ (∀ a, ¬ J a → L' a = L a) ∧ R = R'
theorem Qj.mk {J : Nat → Prop} {v v' : Option Value} {Λ : hc_L} {I : hc_I} {L L' : hc_J} {R : hc_R} (h : v' = v) (hL : ∀ a, ¬ J a → L' a = L a) : Qj J v Λ I L R v' Λ I L' R := ⟨h, rfl, rfl, hL, rfl⟩
theorem r_operands {Λ : hc_L} {I : hc_I} {L : hc_J} {R : hc_R} {k v : Nat} (hk : lpK k = true) (hv : v < 100000000) (hq : k = 1 → v < 4) : Run xX4_operands [.int (lpEnc k v)] Λ I L R (Qr (some (.int (nI (lpAr k)))) Λ I L R) := by
  rcases lpK_c hk with rfl | rfl | rfl | rfl | rfl | rfl | rfl | rfl | rfl
  · exact r_operands_0 hv
  · have := hq rfl
    rcases (show v = 0 ∨ v = 1 ∨ v = 2 ∨ v = 3 by omega) with rfl | rfl | rfl | rfl
    · exact r_operands_1011
    · exact r_operands_1002
    · exact r_operands_1012
    · exact r_operands_1003
  · exact r_operands_1013
  · exact r_operands_1014
  · exact r_operands_1015
  · exact r_operands_42
  · exact r_operands_43
  · exact r_operands_45
  · exact r_operands_47
theorem r_leafN {Λ : hc_L} {I : hc_I} {L : hc_J} {R : hc_R} {k v : Nat} (hk : k = 0 ∨ k = 1) (hv : v < 100000000) (hq : k = 1 → v < 4) (a b c d : Int32) : Run xX4_leaf [.int (lpEnc k v), .int a, .int b, .int c, .int d] Λ I L R (Qr (some (.long (if k = 0 then lN v else lpQ a.toInt64 b.toInt64 c.toInt64 d.toInt64 v))) Λ I L R) := by
  rcases hk with rfl | rfl
  · exact r_leaf_0 hv a b c d
  · have := hq rfl
    rcases (show v = 0 ∨ v = 1 ∨ v = 2 ∨ v = 3 by omega) with rfl | rfl | rfl | rfl
    · exact r_leaf_1011 a b c d
    · exact r_leaf_1002 a b c d
    · exact r_leaf_1012 a b c d
    · exact r_leaf_1003 a b c d
theorem r_operateN {Λ : hc_L} {I : hc_I} {L : hc_J} {R : hc_R} {k v : Nat} (hk : lpK k = true) (h0 : k ≠ 0) (h1 : k ≠ 1) (a b c : Int64) : Run xX4_operate [.int (lpEnc k v), .long a, .long b, .long c] Λ I L R (Qr (some (.long (if k = 4 then (if 0 < a then b else c) else lpBin k a b))) Λ I L R) := by
  rcases lpK_c hk with rfl | rfl | rfl | rfl | rfl | rfl | rfl | rfl | rfl
  · exact absurd rfl h0
  · exact absurd rfl h1
  · exact r_operate_1013 a b c
  · exact r_operate_1014 a b c
  · exact r_operate_1015 a b c
  · exact r_operate_42 a b c
  · exact r_operate_43 a b c
  · exact r_operate_45 a b c
  · exact r_operate_47 a b c
theorem lpAr_le (k : Nat) : lpAr k ≤ 3 := by
  unfold lpAr
  split; omega; split; omega; split <;> omega
theorem lpAr_0 {k : Nat} (h : lpK k = true) (h0 : lpAr k = 0) : k = 0 ∨ k = 1 := by
  rcases lpK_c h with rfl | rfl | rfl | rfl | rfl | rfl | rfl | rfl | rfl <;> first | exact Or.inl rfl | exact Or.inr rfl | exact absurd h0 (by decide)
theorem LwL.lt {Λ : hc_L} {l : Nat} (h : LwL Λ l) (k : Nat) (hk : k < 3) : l + k < Λ.1 := Nat.lt_of_lt_of_le (by omega) h.1
theorem LwL.lt0 {Λ : hc_L} {l : Nat} (h : LwL Λ l) : l < Λ.1 := h.lt 0 (by omega)
theorem lp_val0 {P : LwP} {q f : Nat → Int64} {i b : Nat} (hb : b = lpT P i - lpAr (P.2.1 i)) (hT : lpAr (P.2.1 i) ≤ lpT P i) (hf : ∀ j, j < lpT P i → f j = lpS P q i j) {v : Int64} (hk : lpK (P.2.1 i) = true)
    (hv : v = if P.2.1 i = 0 then lN (P.2.2 i) else if P.2.1 i = 1 then q (P.2.2 i) else if P.2.1 i = 4 then (if 0 < f b then f (b + 1) else f (b + 2)) else lpBin (P.2.1 i) (f b) (f (b + 1))) :
    ∀ j, j < lpT P (i + 1) → (if j = b then v else f j) = lpS P q (i + 1) j := by
  intro j hj
  have hT1 : lpT P (i + 1) = b + 1 := by rw [hb]; rfl
  show _ = lpUp (lpS P q i) (lpT P i - lpAr (P.2.1 i)) _ j
  rw [← hb]
  unfold lpUp
  by_cases e : j = b
  · rw [if_pos e, if_pos e, hv]
    by_cases h0 : P.2.1 i = 0
    · rw [if_pos h0, if_pos h0]
    · rw [if_neg h0, if_neg h0]
      by_cases h1 : P.2.1 i = 1
      · rw [if_pos h1, if_pos h1]
      · rw [if_neg h1, if_neg h1]
        by_cases h4 : P.2.1 i = 4
        · have h3 : lpAr (P.2.1 i) = 3 := by rw [h4]; rfl
          rw [if_pos h4, if_pos h4, hf b (by omega), hf (b + 1) (by omega), hf (b + 2) (by omega)]
        · have h2 : lpAr (P.2.1 i) = 2 := by unfold lpAr; rw [if_neg h0, if_neg h1, if_neg h4]
          rw [if_neg h4, if_neg h4, hf b (by omega), hf (b + 1) (by omega)]
  · rw [if_neg e, if_neg e]
    exact hf j (by omega)
set_option maxRecDepth 100000 in
theorem r_value {l : Nat} {Λ : hc_L} {I : hc_I} {L : hc_J} {R : hc_R} {P : LwP} (hl : LwAt Λ I l P) (hP : lpOk P) (hn : 0 < P.1) (a b c d : Int32) : Run xX4_value [.ref l, .int a, .int b, .int c, .int d] Λ I L R (Qj (fun z => z = l + 2) (some (.long (lpVal P (lpQ a.toInt64 b.toInt64 c.toInt64 d.toInt64)))) Λ I L R) := by
  refine Run.of (by decide +kernel) (Nat.le_of_ble_eq_true rfl) ?_
  show LW _ _ _ [(0, .ref l), (1, .int a), (2, .int b), (3, .int c), (4, .int d)] _ _ _ _ _ _
  have h7 := hP.1
  refine LW_iconst (v := 0) dX4_value_0 (by decide) ?_
  refine LW_istore (ls' := [(0, .ref l), (1, .int a), (2, .int b), (3, .int c), (4, .int d), (5, .int 0)]) dX4_value_1 (by decide) rfl ?_
  refine LW_iconst (v := 0) dX4_value_3 (by decide) ?_
  refine LW_istore (ls' := [(0, .ref l), (1, .int a), (2, .int b), (3, .int c), (4, .int d), (5, .int 0), (6, .int 0)]) dX4_value_4 (by decide) rfl ?_
  have loop : ∀ i, i ≤ P.1 → ∀ L1 : hc_J, (∀ z, ¬ z = l + 2 → L1 z = L z) → (∀ j, j < lpT P i → L1 (l + 2) j = lpS P (lpQ a.toInt64 b.toInt64 c.toInt64 d.toInt64) i j) → LW xX4_value (0, 0) 6 [(0, .ref l), (1, .int a), (2, .int b), (3, .int c), (4, .int d), (5, .int (nI (lpT P i))), (6, .int (nI i))] [] Λ I L1 R (Qj (fun z => z = l + 2) (some (.long (lpVal P (lpQ a.toInt64 b.toInt64 c.toInt64 d.toInt64)))) Λ I L R) := by
    refine hc_down ?_ ?_
    · intro L1 hL1 hin
      refine LW_iload 6 dX4_value_6 rfl ?_
      refine LW_aloadn 0 dX4_value_8 rfl rfl ?_
      refine gX4_2 dX4_value_9 flX4_19 hl.1.lt0 hl.1.2.1 ?_
      rw [show I l 2 = nI P.1 from hl.2.1]
      refine LW_icmp_ge (tgt := 136) dX4_value_12 (by decide) (fun c12 => ?_) (fun c12 => absurd (Int32.le_refl _) c12)
      refine LW_aloadn 0 dX4_value_136 rfl rfl ?_
      refine gX4_1 dX4_value_137 flX4_15 hl.1.lt0 hl.1.2.1 hl.1.2.2.2.2.2 ?_
      refine LW_iconst (v := 0) dX4_value_140 (by decide) ?_
      refine LW_lald dX4_value_141 (hl.1.lt 2 (by decide)) hl.1.2.2.2.1 rfl (by decide) (Nat.le_of_ble_eq_true rfl) ?_
      refine LW_lret dX4_value_142 rfl (Nat.le_of_ble_eq_true rfl) (Nat.le_of_ble_eq_true rfl) ?_
      refine Qj.mk ?_ hL1
      rw [hin 0 (hP.2.2 hn)]
      rfl
    · intro i hi ih L1 hL1 hin
      obtain ⟨hk, hT, h40, hv, hq⟩ := hP.2.1 i hi
      obtain ⟨bb, hbb⟩ : ∃ z, z = lpT P i - lpAr (P.2.1 i) := ⟨_, rfl⟩
      rw [← hbb] at h40
      have har := lpAr_le (P.2.1 i)
      refine LW_iload 6 dX4_value_6 rfl ?_
      refine LW_aloadn 0 dX4_value_8 rfl rfl ?_
      refine gX4_2 dX4_value_9 flX4_19 hl.1.lt0 hl.1.2.1 ?_
      rw [show I l 2 = nI P.1 from hl.2.1]
      refine LW_icmp_ge (tgt := 136) dX4_value_12 (by decide) (fun c12 => absurd c12 (hc_nle (by omega) (by omega) hi)) (fun c12 => ?_)
      refine LW_iload 6 dX4_value_15 rfl ?_
      refine LW_aloadn 0 dX4_value_17 rfl rfl ?_
      refine gX4_0 dX4_value_18 flX4_9 hl.1.lt0 hl.1.2.1 hl.1.2.2.2.2.1 ?_
      refine LW_alen (idx := 0) dX4_value_21 (hl.1.lt 1 (by decide)) hl.1.2.2.1 (by decide) ?_
      refine LW_icmp_ge (tgt := 136) dX4_value_22 (by decide) (fun c22 => absurd c22 (hc_nle (by decide) (by omega) (by omega))) (fun c22 => ?_)
      refine LW_aloadn 0 dX4_value_25 rfl rfl ?_
      refine gX4_0 dX4_value_26 flX4_9 hl.1.lt0 hl.1.2.1 hl.1.2.2.2.2.1 ?_
      refine LW_iload 6 dX4_value_29 rfl ?_
      refine LW_iald dX4_value_31 (hl.1.lt 1 (by decide)) hl.1.2.2.1 rfl (by omega) (Nat.le_of_ble_eq_true rfl) ?_
      rw [show I (l + 1) i = lpEnc (P.2.1 i) (P.2.2 i) from hl.2.2 i hi]
      refine LW_istore (ls' := [(0, .ref l), (1, .int a), (2, .int b), (3, .int c), (4, .int d), (5, .int (nI (lpT P i))), (6, .int (nI i)), (7, .int (lpEnc (P.2.1 i) (P.2.2 i)))]) dX4_value_32 (by decide) rfl ?_
      refine LW_iload 5 dX4_value_34 rfl ?_
      refine LW_iload 7 dX4_value_36 rfl ?_
      refine LW_callS (As := [.int (lpEnc (P.2.1 i) (P.2.2 i))]) (st := [.int (nI (lpT P i))]) (r_operands hk hv hq) YX4_operands rfl dX4_value_38 mlX4_29 (by decide) ⟨Nat.le_refl _, Nat.le_refl _⟩ (Nat.le_of_ble_eq_true rfl) rfl (fun r38 Λc38 Ic38 Lc38 Rc38 hq38 => ?_)
      obtain ⟨rfl, rfl, rfl, rfl, rfl⟩ := hq38
      refine LW_isub dX4_value_41 ?_
      rw [show ((nI (lpT P i)) - (nI (lpAr (P.2.1 i)))) = nI bb from (by rw [nI_sub hT, hbb])]
      refine LW_istore (ls' := [(0, .ref l), (1, .int a), (2, .int b), (3, .int c), (4, .int d), (5, .int (nI (lpT P i))), (6, .int (nI i)), (7, .int (lpEnc (P.2.1 i) (P.2.2 i))), (8, .int (nI bb))]) dX4_value_42 (by decide) rfl ?_
      refine LW_iload 8 dX4_value_44 rfl ?_
      refine LW_if_lt (tgt := 58) dX4_value_46 (by decide) (fun c46 => absurd c46 (hc_nlt (b := 0) (by omega) (by omega) (Nat.zero_le _))) (fun c46 => ?_)
      refine LW_iload 8 dX4_value_49 rfl ?_
      refine LW_iconst (v := 2) dX4_value_51 (by decide) ?_
      refine LW_iadd dX4_value_52 ?_
      rw [show ((nI bb) + 2) = nI (bb + 2) from nI_add bb 2]
      refine LW_bipush (v := 40) dX4_value_53 (by decide) ?_
      refine LW_icmp_lt (tgt := 60) dX4_value_55 (by decide) (fun c55 => ?_) (fun c55 => absurd ((hc_lt (b := 40) (by omega) (by omega)).mpr h40) c55)
      refine LW_iload 8 dX4_value_60 rfl ?_
      refine LW_iload 5 dX4_value_62 rfl ?_
      refine LW_icmp_ne (tgt := 87) dX4_value_64 (by decide) (fun c64 => ?_) (fun c64 => ?_)
      · have h01 : P.2.1 i ≠ 0 ∧ P.2.1 i ≠ 1 := by
          constructor <;> intro h <;> exact c64 (by rw [hbb, h]; rfl)
        obtain ⟨h0, h1⟩ := h01
        refine LW_aloadn 0 dX4_value_87 rfl rfl ?_
        refine gX4_1 dX4_value_88 flX4_15 hl.1.lt0 hl.1.2.1 hl.1.2.2.2.2.2 ?_
        refine LW_iload 8 dX4_value_91 rfl ?_
        refine LW_iload 7 dX4_value_93 rfl ?_
        refine LW_aloadn 0 dX4_value_95 rfl rfl ?_
        refine gX4_1 dX4_value_96 flX4_15 hl.1.lt0 hl.1.2.1 hl.1.2.2.2.2.2 ?_
        refine LW_iload 8 dX4_value_99 rfl ?_
        refine LW_lald dX4_value_101 (hl.1.lt 2 (by decide)) hl.1.2.2.2.1 rfl (by omega) (Nat.le_of_ble_eq_true rfl) ?_
        refine LW_aloadn 0 dX4_value_102 rfl rfl ?_
        refine gX4_1 dX4_value_103 flX4_15 hl.1.lt0 hl.1.2.1 hl.1.2.2.2.2.2 ?_
        refine LW_iload 8 dX4_value_106 rfl ?_
        refine LW_iconst (v := 1) dX4_value_108 (by decide) ?_
        refine LW_iadd dX4_value_109 ?_
        rw [show ((nI bb) + 1) = nI (bb + 1) from nI_add bb 1]
        refine LW_lald dX4_value_110 (hl.1.lt 2 (by decide)) hl.1.2.2.2.1 rfl (by omega) (Nat.le_of_ble_eq_true rfl) ?_
        refine LW_aloadn 0 dX4_value_111 rfl rfl ?_
        refine gX4_1 dX4_value_112 flX4_15 hl.1.lt0 hl.1.2.1 hl.1.2.2.2.2.2 ?_
        refine LW_iload 8 dX4_value_115 rfl ?_
        refine LW_iconst (v := 2) dX4_value_117 (by decide) ?_
        refine LW_iadd dX4_value_118 ?_
        rw [show ((nI bb) + 2) = nI (bb + 2) from nI_add bb 2]
        refine LW_lald dX4_value_119 (hl.1.lt 2 (by decide)) hl.1.2.2.2.1 rfl (by omega) (Nat.le_of_ble_eq_true rfl) ?_
        refine LW_callS (As := [.int (lpEnc (P.2.1 i) (P.2.2 i)), .long (L1 (l + 2) bb), .long (L1 (l + 2) (bb + 1)), .long (L1 (l + 2) (bb + 2))]) (st := [.int (nI bb), .ref (l + 2)]) (r_operateN hk h0 h1 (L1 (l + 2) bb) (L1 (l + 2) (bb + 1)) (L1 (l + 2) (bb + 2))) YX4_operate rfl dX4_value_120 mlX4_37 (by decide) ⟨Nat.le_refl _, Nat.le_refl _⟩ (Nat.le_of_ble_eq_true rfl) rfl (fun r120 Λc120 Ic120 Lc120 Rc120 hq120 => ?_)
        obtain ⟨rfl, rfl, rfl, rfl, rfl⟩ := hq120
        refine LW_last dX4_value_123 (hl.1.lt 2 (by decide)) hl.1.2.2.2.1 rfl (by omega) (Nat.le_of_ble_eq_true rfl) ?_
        generalize hL123 : hc_u L1 (l + 2) bb (if P.2.1 i = 4 then (if 0 < L1 (l + 2) bb then L1 (l + 2) (bb + 1) else L1 (l + 2) (bb + 2)) else lpBin (P.2.1 i) (L1 (l + 2) bb) (L1 (l + 2) (bb + 1))) = L123
        refine LW_iload 8 dX4_value_124 rfl ?_
        refine LW_iconst (v := 1) dX4_value_126 (by decide) ?_
        refine LW_iadd dX4_value_127 ?_
        rw [show ((nI bb) + 1) = nI (bb + 1) from nI_add bb 1]
        refine LW_istore (ls' := [(0, .ref l), (1, .int a), (2, .int b), (3, .int c), (4, .int d), (5, .int (nI (bb + 1))), (6, .int (nI i)), (7, .int (lpEnc (P.2.1 i) (P.2.2 i))), (8, .int (nI bb))]) dX4_value_128 (by decide) rfl ?_
        refine LW_iinc (n := 6) (v := nI (i + 1)) (ls' := [(0, .ref l), (1, .int a), (2, .int b), (3, .int c), (4, .int d), (5, .int (nI (bb + 1))), (6, .int (nI (i + 1))), (7, .int (lpEnc (P.2.1 i) (P.2.2 i))), (8, .int (nI bb))]) dX4_value_130 rfl (hc_inc _) (by decide) rfl ?_
        refine LW_goto (tgt := 6) dX4_value_133 (by decide) ?_
        refine LW_ls [0, 1, 2, 3, 4, 5, 6] rfl ?_
        refine hc_lsc ?_ (ih L123 (fun z hz => by rw [← hL123, hc_u_row _ _ _ _ hz]; exact hL1 z hz) (fun j hj => ?_))
        · rw [hbb]
          rfl
        · rw [← hL123, hc_u_at]
          exact lp_val0 hbb hT hin hk (by first | (rcases h01 with h | h <;> simp [h]; done) | simp [h0, h1]) j hj
      · have h01 : P.2.1 i = 0 ∨ P.2.1 i = 1 := lpAr_0 hk (by
          have e := (hc_eq (by omega) (by omega)).mp (Classical.not_not.mp c64)
          omega)
        refine LW_aloadn 0 dX4_value_67 rfl rfl ?_
        refine gX4_1 dX4_value_68 flX4_15 hl.1.lt0 hl.1.2.1 hl.1.2.2.2.2.2 ?_
        refine LW_iload 8 dX4_value_71 rfl ?_
        refine LW_iload 7 dX4_value_73 rfl ?_
        refine LW_iloadn 1 dX4_value_75 rfl rfl ?_
        refine LW_iloadn 2 dX4_value_76 rfl rfl ?_
        refine LW_iloadn 3 dX4_value_77 rfl rfl ?_
        refine LW_iload 4 dX4_value_78 rfl ?_
        refine LW_callS (As := [.int (lpEnc (P.2.1 i) (P.2.2 i)), .int a, .int b, .int c, .int d]) (st := [.int (nI bb), .ref (l + 2)]) (r_leafN h01 hv hq a b c d) YX4_leaf rfl dX4_value_80 mlX4_33 (by decide) ⟨Nat.le_refl _, Nat.le_refl _⟩ (Nat.le_of_ble_eq_true rfl) rfl (fun r80 Λc80 Ic80 Lc80 Rc80 hq80 => ?_)
        obtain ⟨rfl, rfl, rfl, rfl, rfl⟩ := hq80
        refine LW_last dX4_value_83 (hl.1.lt 2 (by decide)) hl.1.2.2.2.1 rfl (by omega) (Nat.le_of_ble_eq_true rfl) ?_
        generalize hL83 : hc_u L1 (l + 2) bb (if P.2.1 i = 0 then lN (P.2.2 i) else lpQ a.toInt64 b.toInt64 c.toInt64 d.toInt64 (P.2.2 i)) = L83
        refine LW_goto (tgt := 124) dX4_value_84 (by decide) ?_
        refine LW_iload 8 dX4_value_124 rfl ?_
        refine LW_iconst (v := 1) dX4_value_126 (by decide) ?_
        refine LW_iadd dX4_value_127 ?_
        rw [show ((nI bb) + 1) = nI (bb + 1) from nI_add bb 1]
        refine LW_istore (ls' := [(0, .ref l), (1, .int a), (2, .int b), (3, .int c), (4, .int d), (5, .int (nI (bb + 1))), (6, .int (nI i)), (7, .int (lpEnc (P.2.1 i) (P.2.2 i))), (8, .int (nI bb))]) dX4_value_128 (by decide) rfl ?_
        refine LW_iinc (n := 6) (v := nI (i + 1)) (ls' := [(0, .ref l), (1, .int a), (2, .int b), (3, .int c), (4, .int d), (5, .int (nI (bb + 1))), (6, .int (nI (i + 1))), (7, .int (lpEnc (P.2.1 i) (P.2.2 i))), (8, .int (nI bb))]) dX4_value_130 rfl (hc_inc _) (by decide) rfl ?_
        refine LW_goto (tgt := 6) dX4_value_133 (by decide) ?_
        refine LW_ls [0, 1, 2, 3, 4, 5, 6] rfl ?_
        refine hc_lsc ?_ (ih L83 (fun z hz => by rw [← hL83, hc_u_row _ _ _ _ hz]; exact hL1 z hz) (fun j hj => ?_))
        · rw [hbb]
          rfl
        · rw [← hL83, hc_u_at]
          exact lp_val0 hbb hT hin hk (by first | (rcases h01 with h | h <;> simp [h]; done) | simp [h0, h1]) j hj
  exact loop 0 (Nat.zero_le _) L (fun _ _ => rfl) (fun j hj => absurd hj (Nat.not_lt_zero _))
