/-! Tokens: the tape cut -/
def TpAt (Λ : hc_L) (I : hc_I) (t n : Nat) (B : Nat → Nat) : Prop := TpL Λ t ∧ I t 1 = nI n ∧ n ≤ 700 ∧ ∀ j, j < n → I (t + 1) j = sb (B j) ∧ B j < 256
theorem TpAt.b {Λ : hc_L} {I : hc_I} {t n : Nat} {B : Nat → Nat} (h : TpAt Λ I t n B) : ∀ j, j < n → B j < 256 := fun j hj => (h.2.2.2 j hj).2
def TkL (Λ : hc_L) (k t : Nat) : Prop := k + 5 ≤ Λ.1 ∧ Λ.2.1 k = (109, 0) ∧ Λ.2.1 (k + 1) = (2, 701) ∧ Λ.2.1 (k + 2) = (2, 701) ∧ Λ.2.1 (k + 3) = (3, 701) ∧ Λ.2.1 (k + 4) = (3, 18) ∧ Λ.2.2 k 0 = some (k + 1) ∧ Λ.2.2 k 1 = some (k + 2) ∧ Λ.2.2 k 2 = some (k + 3) ∧ Λ.2.2 k 4 = some (k + 4) ∧ Λ.2.2 k 5 = some t ∧ (t + 2 ≤ k ∨ k + 5 ≤ t)
/-- a token laid at place i -/
def tkAdd (k i : Nat) (x y : Int32) (z : Int64) (I : hc_I) (L : hc_J) (I' : hc_I) (L' : hc_J) : Prop := (∀ j, I' k j = if j = 3 then nI (i + 1) else I k j) ∧ (∀ j, I' (k + 1) j = if j = i then x else I (k + 1) j) ∧ (∀ j, I' (k + 2) j = if j = i then y else I (k + 2) j) ∧ ∀ j, L' (k + 3) j = if j = i then z else L (k + 3) j
set_option maxRecDepth 100000 in
theorem r_isLetter {Λ : hc_L} {I : hc_I} {L : hc_J} {R : hc_R} {c : Nat} (hc : c < 256) : Run xX9_isLetter [.int (sb c)] Λ I L R (Qr (some (.int (hc_b (isL c)))) Λ I L R) := by
  refine Run.of (by decide +kernel) (Nat.le_of_ble_eq_true rfl) ?_
  show LW _ _ _ [(0, .int (sb c))] _ _ _ _ _ _
  refine LW_iloadn 0 dX9_isLetter_0 rfl rfl ?_
  refine LW_bipush (v := 97) dX9_isLetter_1 (by decide) ?_
  refine LW_icmp_lt (tgt := 16) dX9_isLetter_3 (by decide) (fun c3 => ?_) (fun c3 => ?_)
  · refine LW_iconst (v := 0) dX9_isLetter_16 (by decide) ?_
    refine LW_zret dX9_isLetter_17 rfl (Nat.le_of_ble_eq_true rfl) (Nat.le_of_ble_eq_true rfl) (Or.inl rfl) ?_
    refine Qr.mk ?_
    rw [← sb_L c hc]
    first | (rw [decide_eq_true (Int32.not_lt.mp c3), decide_eq_true (Int32.not_lt.mp c9)]; rfl) | (rw [decide_eq_true (Int32.not_lt.mp c3), decide_eq_false (Int32.not_le.mpr c9)]; rfl) | (rw [decide_eq_false (Int32.not_le.mpr c3)]; rfl)
  · refine LW_iloadn 0 dX9_isLetter_6 rfl rfl ?_
    refine LW_bipush (v := 122) dX9_isLetter_7 (by decide) ?_
    refine LW_icmp_gt (tgt := 16) dX9_isLetter_9 (by decide) (fun c9 => ?_) (fun c9 => ?_)
    · refine LW_iconst (v := 0) dX9_isLetter_16 (by decide) ?_
      refine LW_zret dX9_isLetter_17 rfl (Nat.le_of_ble_eq_true rfl) (Nat.le_of_ble_eq_true rfl) (Or.inl rfl) ?_
      refine Qr.mk ?_
      rw [← sb_L c hc]
      first | (rw [decide_eq_true (Int32.not_lt.mp c3), decide_eq_true (Int32.not_lt.mp c9)]; rfl) | (rw [decide_eq_true (Int32.not_lt.mp c3), decide_eq_false (Int32.not_le.mpr c9)]; rfl) | (rw [decide_eq_false (Int32.not_le.mpr c3)]; rfl)
    · refine LW_iconst (v := 1) dX9_isLetter_12 (by decide) ?_
      refine LW_goto (tgt := 17) dX9_isLetter_13 (by decide) ?_
      refine LW_zret dX9_isLetter_17 rfl (Nat.le_of_ble_eq_true rfl) (Nat.le_of_ble_eq_true rfl) (Or.inr rfl) ?_
      refine Qr.mk ?_
      rw [← sb_L c hc]
      first | (rw [decide_eq_true (Int32.not_lt.mp c3), decide_eq_true (Int32.not_lt.mp c9)]; rfl) | (rw [decide_eq_true (Int32.not_lt.mp c3), decide_eq_false (Int32.not_le.mpr c9)]; rfl) | (rw [decide_eq_false (Int32.not_le.mpr c3)]; rfl)
set_option maxRecDepth 100000 in
theorem r_isDigit {Λ : hc_L} {I : hc_I} {L : hc_J} {R : hc_R} {c : Nat} (hc : c < 256) : Run xX9_isDigit [.int (sb c)] Λ I L R (Qr (some (.int (hc_b (isD c)))) Λ I L R) := by
  refine Run.of (by decide +kernel) (Nat.le_of_ble_eq_true rfl) ?_
  show LW _ _ _ [(0, .int (sb c))] _ _ _ _ _ _
  refine LW_iloadn 0 dX9_isDigit_0 rfl rfl ?_
  refine LW_bipush (v := 48) dX9_isDigit_1 (by decide) ?_
  refine LW_icmp_lt (tgt := 16) dX9_isDigit_3 (by decide) (fun c3 => ?_) (fun c3 => ?_)
  · refine LW_iconst (v := 0) dX9_isDigit_16 (by decide) ?_
    refine LW_zret dX9_isDigit_17 rfl (Nat.le_of_ble_eq_true rfl) (Nat.le_of_ble_eq_true rfl) (Or.inl rfl) ?_
    refine Qr.mk ?_
    rw [← sb_D c hc]
    first | (rw [decide_eq_true (Int32.not_lt.mp c3), decide_eq_true (Int32.not_lt.mp c9)]; rfl) | (rw [decide_eq_true (Int32.not_lt.mp c3), decide_eq_false (Int32.not_le.mpr c9)]; rfl) | (rw [decide_eq_false (Int32.not_le.mpr c3)]; rfl)
  · refine LW_iloadn 0 dX9_isDigit_6 rfl rfl ?_
    refine LW_bipush (v := 57) dX9_isDigit_7 (by decide) ?_
    refine LW_icmp_gt (tgt := 16) dX9_isDigit_9 (by decide) (fun c9 => ?_) (fun c9 => ?_)
    · refine LW_iconst (v := 0) dX9_isDigit_16 (by decide) ?_
      refine LW_zret dX9_isDigit_17 rfl (Nat.le_of_ble_eq_true rfl) (Nat.le_of_ble_eq_true rfl) (Or.inl rfl) ?_
      refine Qr.mk ?_
      rw [← sb_D c hc]
      first | (rw [decide_eq_true (Int32.not_lt.mp c3), decide_eq_true (Int32.not_lt.mp c9)]; rfl) | (rw [decide_eq_true (Int32.not_lt.mp c3), decide_eq_false (Int32.not_le.mpr c9)]; rfl) | (rw [decide_eq_false (Int32.not_le.mpr c3)]; rfl)
    · refine LW_iconst (v := 1) dX9_isDigit_12 (by decide) ?_
      refine LW_goto (tgt := 17) dX9_isDigit_13 (by decide) ?_
      refine LW_zret dX9_isDigit_17 rfl (Nat.le_of_ble_eq_true rfl) (Nat.le_of_ble_eq_true rfl) (Or.inr rfl) ?_
      refine Qr.mk ?_
      rw [← sb_D c hc]
      first | (rw [decide_eq_true (Int32.not_lt.mp c3), decide_eq_true (Int32.not_lt.mp c9)]; rfl) | (rw [decide_eq_true (Int32.not_lt.mp c3), decide_eq_false (Int32.not_le.mpr c9)]; rfl) | (rw [decide_eq_false (Int32.not_le.mpr c3)]; rfl)
set_option maxRecDepth 100000 in
theorem r_signAt {Λ : hc_L} {I : hc_I} {L : hc_J} {R : hc_R} {k t n : Nat} {B : Nat → Nat} (hk : TkL Λ k t) (ht : TpAt Λ I t n B) {j : Nat} (hj : j < n) : Run xX9_signAt [.ref k, .int (nI j)] Λ I L R (Qr (some (.int (sb (B j)))) Λ I L R) := by
  refine Run.of (by decide +kernel) (Nat.le_of_ble_eq_true rfl) ?_
  show LW _ _ _ [(0, .ref k), (1, .int (nI j))] _ _ _ _ _ _
  have h7 := ht.2.2.1
  refine LW_iloadn 1 dX9_signAt_0 rfl rfl ?_
  refine LW_if_lt (tgt := 23) dX9_signAt_1 (by decide) (fun c1 => absurd c1 (Int32.not_lt.mpr (nI_nn (by omega)))) (fun c1 => ?_)
  refine LW_iloadn 1 dX9_signAt_4 rfl rfl ?_
  refine LW_sipush (v := 700) dX9_signAt_5 (by decide) ?_
  refine LW_icmp_ge (tgt := 23) dX9_signAt_8 (by decide) (fun c8 => absurd c8 (hc_nle (a := 700) (by omega) (by omega) (by omega))) (fun c8 => ?_)
  refine LW_aloadn 0 dX9_signAt_11 rfl rfl ?_
  refine gX9_5 dX9_signAt_12 flX9_25 (Nat.lt_of_lt_of_le (by omega) hk.1) hk.2.1 hk.2.2.2.2.2.2.2.2.2.2.1 ?_
  refine gX8_0 dX9_signAt_15 flX9_91 (Nat.lt_of_lt_of_le (by omega) ht.1.1) ht.1.2.1 ht.1.2.2.2 ?_
  refine LW_iloadn 1 dX9_signAt_18 rfl rfl ?_
  refine LW_bald dX9_signAt_19 (Nat.lt_of_lt_of_le (by omega) ht.1.1) ht.1.2.2.1 rfl (by omega) (Nat.le_of_ble_eq_true rfl) ?_
  rw [show I (t + 1) j = sb (B j) from (ht.2.2.2 j hj).1]
  refine LW_goto (tgt := 24) dX9_signAt_20 (by decide) ?_
  refine LW_iret dX9_signAt_24 rfl (Nat.le_of_ble_eq_true rfl) (Nat.le_of_ble_eq_true rfl) ?_
  exact Qr.mk rfl
set_option maxRecDepth 100000 in
theorem r_packed {Λ : hc_L} {I : hc_I} {L : hc_J} {R : hc_R} {a c : Nat} (hc : c < 256) (hl : isL c = true) : Run xX9_packed [.long (lN a), .int (sb c)] Λ I L R (Qr (some (.long (lN (a * 32 + (c - 96))))) Λ I L R) := by
  refine Run.of (by decide +kernel) (Nat.le_of_ble_eq_true rfl) ?_
  show LW _ _ _ [(0, .long (lN a)), (2, .int (sb c))] _ _ _ _ _ _
  refine LW_lloadn 0 dX9_packed_0 rfl rfl ?_
  refine LW_ldc2 dX9_packed_1 klX9_45 ?_
  refine LW_lmul dX9_packed_4 ?_
  refine LW_iloadn 1 dX9_packed_5 rfl rfl ?_
  refine LW_bipush (v := 97) dX9_packed_6 (by decide) ?_
  refine LW_isub dX9_packed_8 ?_
  refine LW_iconst (v := 1) dX9_packed_9 (by decide) ?_
  refine LW_iadd dX9_packed_10 ?_
  refine LW_i2l dX9_packed_11 ?_
  rw [show (((sb c) - 97) + 1).toInt64 = lN (c - 96) from sb_Ls c hc hl]
  refine LW_ladd dX9_packed_12 ?_
  rw [show (((lN a) * 32) + (lN (c - 96))) = lN (a * 32 + (c - 96)) from (by rw [show (32 : Int64) = lN 32 from rfl, lN_mul, lN_add])]
  refine LW_lret dX9_packed_13 rfl (Nat.le_of_ble_eq_true rfl) (Nat.le_of_ble_eq_true rfl) ?_
  exact Qr.mk rfl
theorem qw_lt (i : Nat) : qw i < 2 ^ 63 := by
  rcases Nat.lt_or_ge i 18 with h | h
  · revert h
    revert i
    decide +kernel
  · unfold qw
    rw [List.getD_eq_getElem?_getD, List.getElem?_eq_none (by simpa using h)]
    decide
theorem wkF_y {w d i : Nat} (h : qw i = w) : wkF w (d + 1) i = 1000 + i := if_pos h
theorem wkF_n {w d i : Nat} (h : ¬ qw i = w) : wkF w (d + 1) i = wkF w d (i + 1) := if_neg h
theorem wkF_e {w i : Nat} : wkF w 0 i = 2000 := rfl
theorem kEnc_w {k : Nat} (h : 256 ≤ k) : kEnc k = nI k := if_neg (by omega)
set_option maxRecDepth 100000 in
theorem r_kindOf {Λ : hc_L} {I : hc_I} {L : hc_J} {R : hc_R} {k t n : Nat} {B : Nat → Nat} (hk : TkL Λ k t) (ht : TpAt Λ I t n B) (hq : ∀ i, i < 18 → L (k + 4) i = lN (qw i)) {w : Nat} (hw63 : w < 2 ^ 63) : Run xX9_kindOf [.ref k, .long (lN w)] Λ I L R (Qr (some (.int (kEnc (wkd w)))) Λ I L R) := by
  refine Run.of (by decide +kernel) (Nat.le_of_ble_eq_true rfl) ?_
  show LW _ _ _ [(0, .ref k), (1, .long (lN w))] _ _ _ _ _ _
  have loop : ∀ i, i ≤ 18 → (wkF w (18 - i) i = wkd w) → LW xX9_kindOf (0, 0) 2 [(0, .ref k), (1, .long (lN w)), (3, .int (nI i))] [] Λ I L R (Qr (some (.int (kEnc (wkd w)))) Λ I L R) := by
    refine hc_down ?_ ?_
    · intro hw
      refine LW_iloadn 2 dX9_kindOf_2 rfl rfl ?_
      refine LW_bipush (v := 18) dX9_kindOf_3 (by decide) ?_
      refine LW_icmp_ge (tgt := 31) dX9_kindOf_5 (by decide) (fun c5 => ?_) (fun c5 => absurd (Int32.le_refl _) c5)
      refine LW_sipush (v := 2000) dX9_kindOf_31 (by decide) ?_
      refine LW_iret dX9_kindOf_34 rfl (Nat.le_of_ble_eq_true rfl) (Nat.le_of_ble_eq_true rfl) ?_
      refine Qr.mk ?_
      rw [← hw]
      rfl
    · intro i hi0 ih hw
      rw [show 18 - i = (18 - (i + 1)) + 1 by omega] at hw
      refine LW_iloadn 2 dX9_kindOf_2 rfl rfl ?_
      refine LW_bipush (v := 18) dX9_kindOf_3 (by decide) ?_
      refine LW_icmp_ge (tgt := 31) dX9_kindOf_5 (by decide) (fun c5 => absurd c5 (hc_nle (a := 18) (by omega) (by omega) hi0)) (fun c5 => ?_)
      refine LW_aloadn 0 dX9_kindOf_8 rfl rfl ?_
      refine gX9_4 dX9_kindOf_9 flX9_22 (Nat.lt_of_lt_of_le (by omega) hk.1) hk.2.1 hk.2.2.2.2.2.2.2.2.2.1 ?_
      refine LW_iloadn 2 dX9_kindOf_12 rfl rfl ?_
      refine LW_lald dX9_kindOf_13 (Nat.lt_of_lt_of_le (by omega) hk.1) hk.2.2.2.2.2.1 rfl hi0 (Nat.le_of_ble_eq_true rfl) ?_
      rw [show L (k + 4) i = lN (qw i) from hq i hi0]
      refine LW_lloadn 1 dX9_kindOf_14 rfl rfl ?_
      refine LW_lcmp dX9_kindOf_15 ?_
      refine LW_lif_ne (tgt := 25) dX9_kindOf_16 (by decide) (fun c16 => ?_) (fun c16 => ?_)
      · refine LW_iinc (n := 2) (v := nI (i + 1)) (ls' := [(0, .ref k), (1, .long (lN w)), (3, .int (nI (i + 1)))]) dX9_kindOf_25 rfl (hc_inc _) (by decide) rfl ?_
        refine LW_goto (tgt := 2) dX9_kindOf_28 (by decide) ?_
        exact ih (by rw [← hw, wkF_n (fun e => c16 (by rw [e]))])
      · refine LW_sipush (v := 1000) dX9_kindOf_19 (by decide) ?_
        refine LW_iloadn 2 dX9_kindOf_22 rfl rfl ?_
        refine LW_iadd dX9_kindOf_23 ?_
        rw [show (1000 + (nI i)) = nI (1000 + i) from (by rw [show (1000 : Int32) = nI 1000 from rfl, nI_add])]
        refine LW_iret dX9_kindOf_24 rfl (Nat.le_of_ble_eq_true rfl) (Nat.le_of_ble_eq_true rfl) ?_
        refine Qr.mk ?_
        have e := (lN_eqb (qw_lt i) hw63).mp (Classical.not_not.mp c16)
        rw [← hw, wkF_y e, kEnc_w (by omega)]
  refine LW_iconst (v := 0) dX9_kindOf_0 (by decide) ?_
  refine LW_istoren (ls' := [(0, .ref k), (1, .long (lN w)), (3, .int 0)]) dX9_kindOf_1 rfl (by decide) rfl ?_
  exact loop 0 (Nat.zero_le _) rfl
set_option maxRecDepth 100000 in
theorem r_tkAdd {Λ : hc_L} {I : hc_I} {L : hc_J} {R : hc_R} {k t n : Nat} {B : Nat → Nat} (hk : TkL Λ k t) (ht : TpAt Λ I t n B) {i : Nat} (hc : I k 3 = nI i) (hi : i < 701) (x y : Int32) (z : Int64) : Run xX9_add [.ref k, .int x, .int y, .long z] Λ I L R (Qf (fun z => z = k ∨ z = k + 1 ∨ z = k + 2) (fun z => z = k + 3) (fun _ => False) none (fun I' L' _ => tkAdd k i x y z I L I' L') Λ I L R) := by
  refine Run.of (by decide +kernel) (Nat.le_of_ble_eq_true rfl) ?_
  show LW _ _ _ [(0, .ref k), (1, .int x), (2, .int y), (3, .long z)] _ _ _ _ _ _
  refine LW_aloadn 0 dX9_add_0 rfl rfl ?_
  refine gX9_3 dX9_add_1 flX9_47 (Nat.lt_of_lt_of_le (by omega) hk.1) hk.2.1 ?_
  rw [show I k 3 = nI i from (by exact hc)]
  refine LW_aloadn 0 dX9_add_4 rfl rfl ?_
  refine gX9_0 dX9_add_5 flX9_9 (Nat.lt_of_lt_of_le (by omega) hk.1) hk.2.1 hk.2.2.2.2.2.2.1 ?_
  refine LW_alen (idx := 0) dX9_add_8 (Nat.lt_of_lt_of_le (by omega) hk.1) hk.2.2.1 (by decide) ?_
  refine LW_icmp_ge (tgt := 52) dX9_add_9 (by decide) (fun c9 => absurd c9 (hc_nle (a := 701) (by omega) (by omega) hi)) (fun c9 => ?_)
  refine LW_aloadn 0 dX9_add_12 rfl rfl ?_
  refine gX9_0 dX9_add_13 flX9_9 (Nat.lt_of_lt_of_le (by omega) hk.1) hk.2.1 hk.2.2.2.2.2.2.1 ?_
  refine LW_aloadn 0 dX9_add_16 rfl rfl ?_
  refine gX9_3 dX9_add_17 flX9_47 (Nat.lt_of_lt_of_le (by omega) hk.1) hk.2.1 ?_
  rw [show I k 3 = nI i from (by exact hc)]
  refine LW_iloadn 1 dX9_add_20 rfl rfl ?_
  refine LW_iast dX9_add_21 (Nat.lt_of_lt_of_le (by omega) hk.1) hk.2.2.1 rfl hi (Nat.le_of_ble_eq_true rfl) ?_
  generalize hI21 : hc_u I (k + 1) i x = I21
  refine LW_aloadn 0 dX9_add_22 rfl rfl ?_
  refine gX9_1 dX9_add_23 flX9_15 (Nat.lt_of_lt_of_le (by omega) hk.1) hk.2.1 hk.2.2.2.2.2.2.2.1 ?_
  refine LW_aloadn 0 dX9_add_26 rfl rfl ?_
  refine gX9_3 dX9_add_27 flX9_47 (Nat.lt_of_lt_of_le (by omega) hk.1) hk.2.1 ?_
  rw [show I21 k 3 = nI i from (by rw [← hI21, hc_u_row _ _ _ _ (by omega)]; exact hc)]
  refine LW_iloadn 2 dX9_add_30 rfl rfl ?_
  refine LW_iast dX9_add_31 (Nat.lt_of_lt_of_le (by omega) hk.1) hk.2.2.2.1 rfl hi (Nat.le_of_ble_eq_true rfl) ?_
  generalize hI31 : hc_u I21 (k + 2) i y = I31
  refine LW_aloadn 0 dX9_add_32 rfl rfl ?_
  refine gX9_2 dX9_add_33 flX9_18 (Nat.lt_of_lt_of_le (by omega) hk.1) hk.2.1 hk.2.2.2.2.2.2.2.2.1 ?_
  refine LW_aloadn 0 dX9_add_36 rfl rfl ?_
  refine gX9_3 dX9_add_37 flX9_47 (Nat.lt_of_lt_of_le (by omega) hk.1) hk.2.1 ?_
  rw [show I31 k 3 = nI i from (by rw [← hI31, hc_u_row _ _ _ _ (by omega), ← hI21, hc_u_row _ _ _ _ (by omega)]; exact hc)]
  refine LW_lloadn 3 dX9_add_40 rfl rfl ?_
  refine LW_last dX9_add_41 (Nat.lt_of_lt_of_le (by omega) hk.1) hk.2.2.2.2.1 rfl hi (Nat.le_of_ble_eq_true rfl) ?_
  generalize hL41 : hc_u L (k + 3) i z = L41
  refine LW_aloadn 0 dX9_add_42 rfl rfl ?_
  refine LW_dup dX9_add_43 rfl ?_
  refine gX9_3 dX9_add_44 flX9_47 (Nat.lt_of_lt_of_le (by omega) hk.1) hk.2.1 ?_
  rw [show I31 k 3 = nI i from (by rw [← hI31, hc_u_row _ _ _ _ (by omega), ← hI21, hc_u_row _ _ _ _ (by omega)]; exact hc)]
  refine LW_iconst (v := 1) dX9_add_47 (by decide) ?_
  refine LW_iadd dX9_add_48 ?_
  rw [show ((nI i) + 1) = nI (i + 1) from (nI_1 _)]
  refine pX9_3 dX9_add_49 flX9_47 (Nat.lt_of_lt_of_le (by omega) hk.1) hk.2.1 ?_
  generalize hI49 : hc_u I31 k 3 (nI (i + 1)) = I49
  refine LW_vret dX9_add_52 rfl (Nat.le_of_ble_eq_true rfl) (Nat.le_of_ble_eq_true rfl) ?_
  refine ⟨rfl, rfl, fun z hz => ?_, fun z hz => ?_, fun _ _ => rfl, fun j => ?_, fun j => ?_, fun j => ?_, fun j => ?_⟩
  · rw [← hI49, hc_u_row _ _ _ _ (by omega), ← hI31, hc_u_row _ _ _ _ (by omega), ← hI21, hc_u_row _ _ _ _ (by omega)]
  · rw [← hL41, hc_u_row _ _ _ _ hz]
  · rw [← hI49, hc_u_at, ← hI31, hc_u_row _ _ _ _ (by omega), ← hI21, hc_u_row _ _ _ _ (by omega)]
  · rw [← hI49, hc_u_row _ _ _ _ (by omega), ← hI31, hc_u_row _ _ _ _ (by omega), ← hI21, hc_u_at]
  · rw [← hI49, hc_u_row _ _ _ _ (by omega), ← hI31, hc_u_at, ← hI21, hc_u_row _ _ _ _ (by omega)]
  · rw [← hL41, hc_u_at]
set_option maxRecDepth 100000 in
theorem r_cutWordE {Λ : hc_L} {I : hc_I} {L : hc_J} {R : hc_R} {k t n : Nat} {B : Nat → Nat} (hk : TkL Λ k t) (ht : TpAt Λ I t n B) (hq : ∀ i, i < 18 → L (k + 4) i = lN (qw i)) {q i e : Nat} (hqn : q < n) (hqL : isL (B q) = true) (hc : I k 3 = nI i) (hi : i < 701) (he : scan (fun j => isL (B j)) (n - q) q = q + e) (hen : q + e ≤ n) (hall : ∀ j, j < e → isL (B (q + j)) = true) (hend : q + e < n → isL (B (q + e)) = false) : Run xX9_cutWord [.ref k, .int (nI q)] Λ I L R (Qf (fun z => z = k ∨ z = k + 1 ∨ z = k + 2) (fun z => z = k + 3) (fun _ => False) (some (.int (nI (tkE B n q)))) (fun I' L' _ => tkAdd k i (kEnc (tkK B n q)) (nI q) (lN (tkV B n q)) I L I' L') Λ I L R) := by
  refine Run.of (by decide +kernel) (Nat.le_of_ble_eq_true rfl) ?_
  show LW _ _ _ [(0, .ref k), (1, .int (nI q))] _ _ _ _ _ _
  have h7 := ht.2.2.1
  have hee : tkE B n q = q + e := by rw [tkE_L hqn hqL]; exact he
  have hV : tkV B n q = wdV B q e := by unfold tkV; rw [if_pos hqn, if_pos hqL, hee, Nat.add_sub_cancel_left]
  have hK : tkK B n q = (if 7 < e then 2002 else wkd (wdV B q e)) := by unfold tkK; rw [if_pos hqn, if_pos hqL, hee, Nat.add_sub_cancel_left]
  have loop : ∀ j, j ≤ e → LW xX9_cutWord (0, 0) 5 [(0, .ref k), (1, .int (nI q)), (2, .long (lN (wdV B q j))), (4, .int (nI (q + j)))] [] Λ I L R (Qf (fun z => z = k ∨ z = k + 1 ∨ z = k + 2) (fun z => z = k + 3) (fun _ => False) (some (.int (nI (tkE B n q)))) (fun I' L' _ => tkAdd k i (kEnc (tkK B n q)) (nI q) (lN (tkV B n q)) I L I' L') Λ I L R) := by
    refine hc_down ?_ ?_
    · have tail : LW xX9_cutWord (0, 0) 46 [(0, .ref k), (1, .int (nI q)), (2, .long (lN (wdV B q e))), (4, .int (nI (q + e)))] [] Λ I L R (Qf (fun z => z = k ∨ z = k + 1 ∨ z = k + 2) (fun z => z = k + 3) (fun _ => False) (some (.int (nI (tkE B n q)))) (fun I' L' _ => tkAdd k i (kEnc (tkK B n q)) (nI q) (lN (tkV B n q)) I L I' L') Λ I L R) := by
        refine LW_aloadn 0 dX9_cutWord_46 rfl rfl ?_
        refine LW_iload 3 dX9_cutWord_47 rfl ?_
        refine LW_iloadn 1 dX9_cutWord_49 rfl rfl ?_
        refine LW_isub dX9_cutWord_50 ?_
        rw [show ((nI (q + e)) - (nI q)) = nI e from (by rw [nI_sub (by omega), Nat.add_sub_cancel_left])]
        refine LW_bipush (v := 7) dX9_cutWord_51 (by decide) ?_
        refine LW_icmp_le (tgt := 62) dX9_cutWord_53 (by decide) (fun c53 => ?_) (fun c53 => ?_)
        · have hsm := (hc_le (a := e) (b := 7) (by omega) (by omega)).mp c53
          have hw63 : wdV B q e < 2 ^ 63 := Nat.lt_trans (Nat.lt_of_lt_of_le (wdV_lt e (fun j hj => hall j hj)) (Nat.pow_le_pow_right (by decide) hsm)) (by decide)
          refine LW_aloadn 0 dX9_cutWord_62 rfl rfl ?_
          refine LW_lloadn 2 dX9_cutWord_63 rfl rfl ?_
          refine LW_callV (As := [.long (lN (wdV B q e))]) (b := k) (st := [.ref k]) (ci := 9) (r := (RX9, TX9, 6)) (r_kindOf hk ht hq (w := wdV B q e) hw63) YX9_kindOf rfl dX9_cutWord_64 mlX9_85 (Nat.lt_of_lt_of_le (by omega) hk.1) hk.2.1 ⟨rfl, rfl⟩ (by decide) ⟨Nat.le_refl _, Nat.le_refl _⟩ (Nat.le_of_ble_eq_true rfl) rfl (fun r64 Λc64 Ic64 Lc64 Rc64 hq64 => ?_)
          obtain ⟨rfl, rfl, rfl, rfl, rfl⟩ := hq64
          refine LW_iloadn 1 dX9_cutWord_67 rfl rfl ?_
          refine LW_lloadn 2 dX9_cutWord_68 rfl rfl ?_
          refine LW_callV (As := [.int (kEnc (wkd (wdV B q e))), .int (nI q), .long (lN (wdV B q e))]) (b := k) (st := []) (ci := 9) (r := (RX9, TX9, 6)) (r_tkAdd hk ht hc hi (kEnc (wkd (wdV B q e))) (nI q) (lN (wdV B q e))) YX9_add rfl dX9_cutWord_69 mlX9_65 (Nat.lt_of_lt_of_le (by omega) hk.1) hk.2.1 ⟨rfl, rfl⟩ (by decide) ⟨Nat.le_refl _, Nat.le_refl _⟩ (Nat.le_of_ble_eq_true rfl) rfl (fun r69 Λc69 Ic69 Lc69 Rc69 hq69 => ?_)
          obtain ⟨rfl, rfl, hI69, hL69, hR69, hA69⟩ := hq69
          obtain rfl : R = Rc69 := funext fun z => (hR69 z (fun q => q)).symm
          refine LW_iload 3 dX9_cutWord_72 rfl ?_
          refine LW_iret dX9_cutWord_74 rfl (Nat.le_of_ble_eq_true rfl) (Nat.le_of_ble_eq_true rfl) ?_
          have hK2 : tkK B n q = wkd (wdV B q e) := by rw [hK, if_neg (by omega)]
          refine ⟨by rw [hee], rfl, hI69, hL69, fun _ _ => rfl, ?_⟩
          rw [hK2, hV]
          exact hA69
        · have hbig : ¬ e ≤ 7 := fun z => c53 ((hc_le (a := e) (b := 7) (by omega) (by omega)).mpr z)
          refine LW_sipush (v := 2002) dX9_cutWord_56 (by decide) ?_
          refine LW_goto (tgt := 67) dX9_cutWord_59 (by decide) ?_
          refine LW_iloadn 1 dX9_cutWord_67 rfl rfl ?_
          refine LW_lloadn 2 dX9_cutWord_68 rfl rfl ?_
          refine LW_callV (As := [.int 2002, .int (nI q), .long (lN (wdV B q e))]) (b := k) (st := []) (ci := 9) (r := (RX9, TX9, 6)) (r_tkAdd hk ht hc hi 2002 (nI q) (lN (wdV B q e))) YX9_add rfl dX9_cutWord_69 mlX9_65 (Nat.lt_of_lt_of_le (by omega) hk.1) hk.2.1 ⟨rfl, rfl⟩ (by decide) ⟨Nat.le_refl _, Nat.le_refl _⟩ (Nat.le_of_ble_eq_true rfl) rfl (fun r69 Λc69 Ic69 Lc69 Rc69 hq69 => ?_)
          obtain ⟨rfl, rfl, hI69, hL69, hR69, hA69⟩ := hq69
          obtain rfl : R = Rc69 := funext fun z => (hR69 z (fun q => q)).symm
          refine LW_iload 3 dX9_cutWord_72 rfl ?_
          refine LW_iret dX9_cutWord_74 rfl (Nat.le_of_ble_eq_true rfl) (Nat.le_of_ble_eq_true rfl) ?_
          have hK2 : tkK B n q = 2002 := by rw [hK, if_pos (by omega)]
          refine ⟨by rw [hee], rfl, hI69, hL69, fun _ _ => rfl, ?_⟩
          rw [hK2, hV]
          exact hA69
      refine LW_iload 3 dX9_cutWord_5 rfl ?_
      refine LW_aloadn 0 dX9_cutWord_7 rfl rfl ?_
      refine gX9_5 dX9_cutWord_8 flX9_25 (Nat.lt_of_lt_of_le (by omega) hk.1) hk.2.1 hk.2.2.2.2.2.2.2.2.2.2.1 ?_
      refine gX8_1 dX9_cutWord_11 flX9_51 (Nat.lt_of_lt_of_le (by omega) ht.1.1) ht.1.2.1 ?_
      rw [show I t 1 = nI n from ht.2.1]
      refine LW_icmp_ge (tgt := 46) dX9_cutWord_14 (by decide) (fun c14 => ?_) (fun c14 => ?_)
      · exact tail
      · have hlt : q + e < n := by have := mt (hc_le (a := n) (b := q + e) (by omega) (by omega)).mpr c14; omega
        refine LW_aloadn 0 dX9_cutWord_17 rfl rfl ?_
        refine LW_iload 3 dX9_cutWord_18 rfl ?_
        refine LW_callV (As := [.int (nI (q + e))]) (b := k) (st := []) (ci := 9) (r := (RX9, TX9, 6)) (r_signAt hk ht (j := q + e) hlt) YX9_signAt rfl dX9_cutWord_20 mlX9_69 (Nat.lt_of_lt_of_le (by omega) hk.1) hk.2.1 ⟨rfl, rfl⟩ (by decide) ⟨Nat.le_refl _, Nat.le_refl _⟩ (Nat.le_of_ble_eq_true rfl) rfl (fun r20 Λc20 Ic20 Lc20 Rc20 hq20 => ?_)
        obtain ⟨rfl, rfl, rfl, rfl, rfl⟩ := hq20
        refine LW_callS (As := [.int (sb (B (q + e)))]) (st := []) (r_isLetter (c := B (q + e)) (ht.b _ hlt)) YX9_isLetter rfl dX9_cutWord_23 mlX9_72 (by decide) ⟨Nat.le_refl _, Nat.le_refl _⟩ (Nat.le_of_ble_eq_true rfl) rfl (fun r23 Λc23 Ic23 Lc23 Rc23 hq23 => ?_)
        obtain ⟨rfl, rfl, rfl, rfl, rfl⟩ := hq23
        refine LW_bif_eq (tgt := 46) dX9_cutWord_26 (by decide) (fun c26 => ?_) (fun c26 => absurd (c26.symm.trans (hend hlt)) (by decide))
        exact tail
    · intro j hi0 ih
      refine LW_iload 3 dX9_cutWord_5 rfl ?_
      refine LW_aloadn 0 dX9_cutWord_7 rfl rfl ?_
      refine gX9_5 dX9_cutWord_8 flX9_25 (Nat.lt_of_lt_of_le (by omega) hk.1) hk.2.1 hk.2.2.2.2.2.2.2.2.2.2.1 ?_
      refine gX8_1 dX9_cutWord_11 flX9_51 (Nat.lt_of_lt_of_le (by omega) ht.1.1) ht.1.2.1 ?_
      rw [show I t 1 = nI n from ht.2.1]
      refine LW_icmp_ge (tgt := 46) dX9_cutWord_14 (by decide) (fun c14 => absurd c14 (hc_nle (by omega) (by omega) (by omega))) (fun c14 => ?_)
      refine LW_aloadn 0 dX9_cutWord_17 rfl rfl ?_
      refine LW_iload 3 dX9_cutWord_18 rfl ?_
      refine LW_callV (As := [.int (nI (q + j))]) (b := k) (st := []) (ci := 9) (r := (RX9, TX9, 6)) (r_signAt hk ht (j := (q + j)) (by omega)) YX9_signAt rfl dX9_cutWord_20 mlX9_69 (Nat.lt_of_lt_of_le (by omega) hk.1) hk.2.1 ⟨rfl, rfl⟩ (by decide) ⟨Nat.le_refl _, Nat.le_refl _⟩ (Nat.le_of_ble_eq_true rfl) rfl (fun r20 Λc20 Ic20 Lc20 Rc20 hq20 => ?_)
      obtain ⟨rfl, rfl, rfl, rfl, rfl⟩ := hq20
      refine LW_callS (As := [.int (sb (B (q + j)))]) (st := []) (r_isLetter (c := B (q + j)) (ht.b _ (by omega))) YX9_isLetter rfl dX9_cutWord_23 mlX9_72 (by decide) ⟨Nat.le_refl _, Nat.le_refl _⟩ (Nat.le_of_ble_eq_true rfl) rfl (fun r23 Λc23 Ic23 Lc23 Rc23 hq23 => ?_)
      obtain ⟨rfl, rfl, rfl, rfl, rfl⟩ := hq23
      refine LW_bif_eq (tgt := 46) dX9_cutWord_26 (by decide) (fun c26 => absurd (c26.symm.trans (hall j hi0)) (by decide)) (fun c26 => ?_)
      refine LW_lloadn 2 dX9_cutWord_29 rfl rfl ?_
      refine LW_aloadn 0 dX9_cutWord_30 rfl rfl ?_
      refine LW_iload 3 dX9_cutWord_31 rfl ?_
      refine LW_callV (As := [.int (nI (q + j))]) (b := k) (st := [.long (lN (wdV B q j))]) (ci := 9) (r := (RX9, TX9, 6)) (r_signAt hk ht (j := (q + j)) (by omega)) YX9_signAt rfl dX9_cutWord_33 mlX9_69 (Nat.lt_of_lt_of_le (by omega) hk.1) hk.2.1 ⟨rfl, rfl⟩ (by decide) ⟨Nat.le_refl _, Nat.le_refl _⟩ (Nat.le_of_ble_eq_true rfl) rfl (fun r33 Λc33 Ic33 Lc33 Rc33 hq33 => ?_)
      obtain ⟨rfl, rfl, rfl, rfl, rfl⟩ := hq33
      refine LW_callS (As := [.long (lN (wdV B q j)), .int (sb (B (q + j)))]) (st := []) (r_packed (a := wdV B q j) (c := B (q + j)) (ht.b _ (by omega)) (hall j hi0)) YX9_packed rfl dX9_cutWord_36 mlX9_41 (by decide) ⟨Nat.le_refl _, Nat.le_refl _⟩ (Nat.le_of_ble_eq_true rfl) rfl (fun r36 Λc36 Ic36 Lc36 Rc36 hq36 => ?_)
      obtain ⟨rfl, rfl, rfl, rfl, rfl⟩ := hq36
      refine LW_lstoren (ls' := [(0, .ref k), (1, .int (nI q)), (2, .long (lN (wdV B q (j + 1)))), (4, .int (nI (q + j)))]) dX9_cutWord_39 rfl (by decide) rfl ?_
      refine LW_iinc (n := 3) (v := nI (q + (j + 1))) (ls' := [(0, .ref k), (1, .int (nI q)), (2, .long (lN (wdV B q (j + 1)))), (4, .int (nI (q + (j + 1))))]) dX9_cutWord_40 rfl (by rw [hc_inc]; rfl) (by decide) rfl ?_
      refine LW_goto (tgt := 5) dX9_cutWord_43 (by decide) ?_
      exact ih
  refine LW_lconst (v := 0) dX9_cutWord_0 (by decide) ?_
  refine LW_lstoren (ls' := [(0, .ref k), (1, .int (nI q)), (2, .long 0)]) dX9_cutWord_1 rfl (by decide) rfl ?_
  refine LW_iloadn 1 dX9_cutWord_2 rfl rfl ?_
  refine LW_istore (ls' := [(0, .ref k), (1, .int (nI q)), (2, .long 0), (4, .int (nI q))]) dX9_cutWord_3 (by decide) rfl ?_
  exact loop 0 (Nat.zero_le _)
set_option maxRecDepth 100000 in
theorem r_cutNumberE {Λ : hc_L} {I : hc_I} {L : hc_J} {R : hc_R} {k t n : Nat} {B : Nat → Nat} (hk : TkL Λ k t) (ht : TpAt Λ I t n B) (hq : ∀ i, i < 18 → L (k + 4) i = lN (qw i)) {q i e : Nat} (hqn : q < n) (hqL : isD (B q) = true) (hc : I k 3 = nI i) (hi : i < 701) (he : scan (fun j => isD (B j)) (n - q) q = q + e) (hen : q + e ≤ n) (hall : ∀ j, j < e → isD (B (q + j)) = true) (hend : q + e < n → isD (B (q + e)) = false) : Run xX9_cutNumber [.ref k, .int (nI q)] Λ I L R (Qf (fun z => z = k ∨ z = k + 1 ∨ z = k + 2) (fun z => z = k + 3) (fun _ => False) (some (.int (nI (tkE B n q)))) (fun I' L' _ => tkAdd k i (kEnc (tkK B n q)) (nI q) (lN (tkV B n q)) I L I' L') Λ I L R) := by
  refine Run.of (by decide +kernel) (Nat.le_of_ble_eq_true rfl) ?_
  show LW _ _ _ [(0, .ref k), (1, .int (nI q))] _ _ _ _ _ _
  have h7 := ht.2.2.1
  have hee : tkE B n q = q + e := by rw [tkE_D hqn hqL]; exact he
  have hV : tkV B n q = nmV B q e := by unfold tkV; rw [if_pos hqn, if_neg (by rw [(isD_not hqL).1]; decide), if_pos hqL, hee, Nat.add_sub_cancel_left]
  have hK : tkK B n q = (if 8 < e then 2002 else 2001) := by unfold tkK; rw [if_pos hqn, if_neg (by rw [(isD_not hqL).1]; decide), if_pos hqL, hee, Nat.add_sub_cancel_left]
  have loop : ∀ j, j ≤ e → LW xX9_cutNumber (0, 0) 5 [(0, .ref k), (1, .int (nI q)), (2, .long (lN (nmV B q j))), (4, .int (nI (q + j)))] [] Λ I L R (Qf (fun z => z = k ∨ z = k + 1 ∨ z = k + 2) (fun z => z = k + 3) (fun _ => False) (some (.int (nI (tkE B n q)))) (fun I' L' _ => tkAdd k i (kEnc (tkK B n q)) (nI q) (lN (tkV B n q)) I L I' L') Λ I L R) := by
    refine hc_down ?_ ?_
    · have tail : LW xX9_cutNumber (0, 0) 52 [(0, .ref k), (1, .int (nI q)), (2, .long (lN (nmV B q e))), (4, .int (nI (q + e)))] [] Λ I L R (Qf (fun z => z = k ∨ z = k + 1 ∨ z = k + 2) (fun z => z = k + 3) (fun _ => False) (some (.int (nI (tkE B n q)))) (fun I' L' _ => tkAdd k i (kEnc (tkK B n q)) (nI q) (lN (tkV B n q)) I L I' L') Λ I L R) := by
        refine LW_aloadn 0 dX9_cutNumber_52 rfl rfl ?_
        refine LW_iload 3 dX9_cutNumber_53 rfl ?_
        refine LW_iloadn 1 dX9_cutNumber_55 rfl rfl ?_
        refine LW_isub dX9_cutNumber_56 ?_
        rw [show ((nI (q + e)) - (nI q)) = nI e from (by rw [nI_sub (by omega), Nat.add_sub_cancel_left])]
        refine LW_bipush (v := 8) dX9_cutNumber_57 (by decide) ?_
        refine LW_icmp_le (tgt := 68) dX9_cutNumber_59 (by decide) (fun c59 => ?_) (fun c59 => ?_)
        · have hsm := (hc_le (a := e) (b := 8) (by omega) (by omega)).mp c59
          refine LW_sipush (v := 2001) dX9_cutNumber_68 (by decide) ?_
          refine LW_iloadn 1 dX9_cutNumber_71 rfl rfl ?_
          refine LW_lloadn 2 dX9_cutNumber_72 rfl rfl ?_
          refine LW_callV (As := [.int 2001, .int (nI q), .long (lN (nmV B q e))]) (b := k) (st := []) (ci := 9) (r := (RX9, TX9, 6)) (r_tkAdd hk ht hc hi 2001 (nI q) (lN (nmV B q e))) YX9_add rfl dX9_cutNumber_73 mlX9_65 (Nat.lt_of_lt_of_le (by omega) hk.1) hk.2.1 ⟨rfl, rfl⟩ (by decide) ⟨Nat.le_refl _, Nat.le_refl _⟩ (Nat.le_of_ble_eq_true rfl) rfl (fun r73 Λc73 Ic73 Lc73 Rc73 hq73 => ?_)
          obtain ⟨rfl, rfl, hI73, hL73, hR73, hA73⟩ := hq73
          obtain rfl : R = Rc73 := funext fun z => (hR73 z (fun q => q)).symm
          refine LW_iload 3 dX9_cutNumber_76 rfl ?_
          refine LW_iret dX9_cutNumber_78 rfl (Nat.le_of_ble_eq_true rfl) (Nat.le_of_ble_eq_true rfl) ?_
          have hK2 : tkK B n q = 2001 := by rw [hK, if_neg (by omega)]
          refine ⟨by rw [hee], rfl, hI73, hL73, fun _ _ => rfl, ?_⟩
          rw [hK2, hV]
          exact hA73
        · have hbig : ¬ e ≤ 8 := fun z => c59 ((hc_le (a := e) (b := 8) (by omega) (by omega)).mpr z)
          refine LW_sipush (v := 2002) dX9_cutNumber_62 (by decide) ?_
          refine LW_goto (tgt := 71) dX9_cutNumber_65 (by decide) ?_
          refine LW_iloadn 1 dX9_cutNumber_71 rfl rfl ?_
          refine LW_lloadn 2 dX9_cutNumber_72 rfl rfl ?_
          refine LW_callV (As := [.int 2002, .int (nI q), .long (lN (nmV B q e))]) (b := k) (st := []) (ci := 9) (r := (RX9, TX9, 6)) (r_tkAdd hk ht hc hi 2002 (nI q) (lN (nmV B q e))) YX9_add rfl dX9_cutNumber_73 mlX9_65 (Nat.lt_of_lt_of_le (by omega) hk.1) hk.2.1 ⟨rfl, rfl⟩ (by decide) ⟨Nat.le_refl _, Nat.le_refl _⟩ (Nat.le_of_ble_eq_true rfl) rfl (fun r73 Λc73 Ic73 Lc73 Rc73 hq73 => ?_)
          obtain ⟨rfl, rfl, hI73, hL73, hR73, hA73⟩ := hq73
          obtain rfl : R = Rc73 := funext fun z => (hR73 z (fun q => q)).symm
          refine LW_iload 3 dX9_cutNumber_76 rfl ?_
          refine LW_iret dX9_cutNumber_78 rfl (Nat.le_of_ble_eq_true rfl) (Nat.le_of_ble_eq_true rfl) ?_
          have hK2 : tkK B n q = 2002 := by rw [hK, if_pos (by omega)]
          refine ⟨by rw [hee], rfl, hI73, hL73, fun _ _ => rfl, ?_⟩
          rw [hK2, hV]
          exact hA73
      refine LW_iload 3 dX9_cutNumber_5 rfl ?_
      refine LW_aloadn 0 dX9_cutNumber_7 rfl rfl ?_
      refine gX9_5 dX9_cutNumber_8 flX9_25 (Nat.lt_of_lt_of_le (by omega) hk.1) hk.2.1 hk.2.2.2.2.2.2.2.2.2.2.1 ?_
      refine gX8_1 dX9_cutNumber_11 flX9_51 (Nat.lt_of_lt_of_le (by omega) ht.1.1) ht.1.2.1 ?_
      rw [show I t 1 = nI n from ht.2.1]
      refine LW_icmp_ge (tgt := 52) dX9_cutNumber_14 (by decide) (fun c14 => ?_) (fun c14 => ?_)
      · exact tail
      · have hlt : q + e < n := by have := mt (hc_le (a := n) (b := q + e) (by omega) (by omega)).mpr c14; omega
        refine LW_aloadn 0 dX9_cutNumber_17 rfl rfl ?_
        refine LW_iload 3 dX9_cutNumber_18 rfl ?_
        refine LW_callV (As := [.int (nI (q + e))]) (b := k) (st := []) (ci := 9) (r := (RX9, TX9, 6)) (r_signAt hk ht (j := q + e) hlt) YX9_signAt rfl dX9_cutNumber_20 mlX9_69 (Nat.lt_of_lt_of_le (by omega) hk.1) hk.2.1 ⟨rfl, rfl⟩ (by decide) ⟨Nat.le_refl _, Nat.le_refl _⟩ (Nat.le_of_ble_eq_true rfl) rfl (fun r20 Λc20 Ic20 Lc20 Rc20 hq20 => ?_)
        obtain ⟨rfl, rfl, rfl, rfl, rfl⟩ := hq20
        refine LW_callS (As := [.int (sb (B (q + e)))]) (st := []) (r_isDigit (c := B (q + e)) (ht.b _ hlt)) YX9_isDigit rfl dX9_cutNumber_23 mlX9_79 (by decide) ⟨Nat.le_refl _, Nat.le_refl _⟩ (Nat.le_of_ble_eq_true rfl) rfl (fun r23 Λc23 Ic23 Lc23 Rc23 hq23 => ?_)
        obtain ⟨rfl, rfl, rfl, rfl, rfl⟩ := hq23
        refine LW_bif_eq (tgt := 52) dX9_cutNumber_26 (by decide) (fun c26 => ?_) (fun c26 => absurd (c26.symm.trans (hend hlt)) (by decide))
        exact tail
    · intro j hi0 ih
      refine LW_iload 3 dX9_cutNumber_5 rfl ?_
      refine LW_aloadn 0 dX9_cutNumber_7 rfl rfl ?_
      refine gX9_5 dX9_cutNumber_8 flX9_25 (Nat.lt_of_lt_of_le (by omega) hk.1) hk.2.1 hk.2.2.2.2.2.2.2.2.2.2.1 ?_
      refine gX8_1 dX9_cutNumber_11 flX9_51 (Nat.lt_of_lt_of_le (by omega) ht.1.1) ht.1.2.1 ?_
      rw [show I t 1 = nI n from ht.2.1]
      refine LW_icmp_ge (tgt := 52) dX9_cutNumber_14 (by decide) (fun c14 => absurd c14 (hc_nle (by omega) (by omega) (by omega))) (fun c14 => ?_)
      refine LW_aloadn 0 dX9_cutNumber_17 rfl rfl ?_
      refine LW_iload 3 dX9_cutNumber_18 rfl ?_
      refine LW_callV (As := [.int (nI (q + j))]) (b := k) (st := []) (ci := 9) (r := (RX9, TX9, 6)) (r_signAt hk ht (j := (q + j)) (by omega)) YX9_signAt rfl dX9_cutNumber_20 mlX9_69 (Nat.lt_of_lt_of_le (by omega) hk.1) hk.2.1 ⟨rfl, rfl⟩ (by decide) ⟨Nat.le_refl _, Nat.le_refl _⟩ (Nat.le_of_ble_eq_true rfl) rfl (fun r20 Λc20 Ic20 Lc20 Rc20 hq20 => ?_)
      obtain ⟨rfl, rfl, rfl, rfl, rfl⟩ := hq20
      refine LW_callS (As := [.int (sb (B (q + j)))]) (st := []) (r_isDigit (c := B (q + j)) (ht.b _ (by omega))) YX9_isDigit rfl dX9_cutNumber_23 mlX9_79 (by decide) ⟨Nat.le_refl _, Nat.le_refl _⟩ (Nat.le_of_ble_eq_true rfl) rfl (fun r23 Λc23 Ic23 Lc23 Rc23 hq23 => ?_)
      obtain ⟨rfl, rfl, rfl, rfl, rfl⟩ := hq23
      refine LW_bif_eq (tgt := 52) dX9_cutNumber_26 (by decide) (fun c26 => absurd (c26.symm.trans (hall j hi0)) (by decide)) (fun c26 => ?_)
      refine LW_lloadn 2 dX9_cutNumber_29 rfl rfl ?_
      refine LW_ldc2 dX9_cutNumber_30 klX9_89 ?_
      refine LW_lmul dX9_cutNumber_33 ?_
      refine LW_aloadn 0 dX9_cutNumber_34 rfl rfl ?_
      refine LW_iload 3 dX9_cutNumber_35 rfl ?_
      refine LW_callV (As := [.int (nI (q + j))]) (b := k) (st := [.long ((lN (nmV B q j)) * 10)]) (ci := 9) (r := (RX9, TX9, 6)) (r_signAt hk ht (j := (q + j)) (by omega)) YX9_signAt rfl dX9_cutNumber_37 mlX9_69 (Nat.lt_of_lt_of_le (by omega) hk.1) hk.2.1 ⟨rfl, rfl⟩ (by decide) ⟨Nat.le_refl _, Nat.le_refl _⟩ (Nat.le_of_ble_eq_true rfl) rfl (fun r37 Λc37 Ic37 Lc37 Rc37 hq37 => ?_)
      obtain ⟨rfl, rfl, rfl, rfl, rfl⟩ := hq37
      refine LW_bipush (v := 48) dX9_cutNumber_40 (by decide) ?_
      refine LW_isub dX9_cutNumber_42 ?_
      refine LW_i2l dX9_cutNumber_43 ?_
      rw [show ((sb (B (q + j))) - 48).toInt64 = lN (B (q + j) - 48) from sb_Ds _ (ht.b _ (by omega)) (hall j hi0)]
      refine LW_ladd dX9_cutNumber_44 ?_
      rw [show (((lN (nmV B q j)) * 10) + (lN (B (q + j) - 48))) = lN (nmV B q (j + 1)) from (by rw [show (10 : Int64) = lN 10 from rfl, lN_mul, lN_add]; rfl)]
      refine LW_lstoren (ls' := [(0, .ref k), (1, .int (nI q)), (2, .long (lN (nmV B q (j + 1)))), (4, .int (nI (q + j)))]) dX9_cutNumber_45 rfl (by decide) rfl ?_
      refine LW_iinc (n := 3) (v := nI (q + (j + 1))) (ls' := [(0, .ref k), (1, .int (nI q)), (2, .long (lN (nmV B q (j + 1)))), (4, .int (nI (q + (j + 1))))]) dX9_cutNumber_46 rfl (by rw [hc_inc]; rfl) (by decide) rfl ?_
      refine LW_goto (tgt := 5) dX9_cutNumber_49 (by decide) ?_
      exact ih
  refine LW_lconst (v := 0) dX9_cutNumber_0 (by decide) ?_
  refine LW_lstoren (ls' := [(0, .ref k), (1, .int (nI q)), (2, .long 0)]) dX9_cutNumber_1 rfl (by decide) rfl ?_
  refine LW_iloadn 1 dX9_cutNumber_2 rfl rfl ?_
  refine LW_istore (ls' := [(0, .ref k), (1, .int (nI q)), (2, .long 0), (4, .int (nI q))]) dX9_cutNumber_3 (by decide) rfl ?_
  exact loop 0 (Nat.zero_le _)
theorem r_cutWord {Λ : hc_L} {I : hc_I} {L : hc_J} {R : hc_R} {k t n : Nat} {B : Nat → Nat} (hk : TkL Λ k t) (ht : TpAt Λ I t n B) (hq : ∀ i, i < 18 → L (k + 4) i = lN (qw i)) {q i : Nat} (hqn : q < n) (hqL : isL (B q) = true) (hc : I k 3 = nI i) (hi : i < 701) : Run xX9_cutWord [.ref k, .int (nI q)] Λ I L R (Qf (fun z => z = k ∨ z = k + 1 ∨ z = k + 2) (fun z => z = k + 3) (fun _ => False) (some (.int (nI (tkE B n q)))) (fun I' L' _ => tkAdd k i (kEnc (tkK B n q)) (nI q) (lN (tkV B n q)) I L I' L') Λ I L R) := by
  obtain ⟨a1, a2, a3, a4⟩ := scan_spec (fun j => isL (B j)) (n - q) q
  obtain ⟨e, he⟩ := Nat.exists_eq_add_of_le a1
  exact r_cutWordE hk ht hq hqn hqL hc hi he (by omega) (fun j hj => a3 (q + j) (by omega) (by omega)) (fun z => by have := a4 (by omega); rw [he] at this; exact this)
theorem r_cutNumber {Λ : hc_L} {I : hc_I} {L : hc_J} {R : hc_R} {k t n : Nat} {B : Nat → Nat} (hk : TkL Λ k t) (ht : TpAt Λ I t n B) (hq : ∀ i, i < 18 → L (k + 4) i = lN (qw i)) {q i : Nat} (hqn : q < n) (hqL : isD (B q) = true) (hc : I k 3 = nI i) (hi : i < 701) : Run xX9_cutNumber [.ref k, .int (nI q)] Λ I L R (Qf (fun z => z = k ∨ z = k + 1 ∨ z = k + 2) (fun z => z = k + 3) (fun _ => False) (some (.int (nI (tkE B n q)))) (fun I' L' _ => tkAdd k i (kEnc (tkK B n q)) (nI q) (lN (tkV B n q)) I L I' L') Λ I L R) := by
  obtain ⟨a1, a2, a3, a4⟩ := scan_spec (fun j => isD (B j)) (n - q) q
  obtain ⟨e, he⟩ := Nat.exists_eq_add_of_le a1
  exact r_cutNumberE hk ht hq hqn hqL hc hi he (by omega) (fun j hj => a3 (q + j) (by omega) (by omega)) (fun z => by have := a4 (by omega); rw [he] at this; exact this)
