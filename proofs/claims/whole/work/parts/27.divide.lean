/-! dividing by weights: the class's Ending.divide -/
theorem sumJ_congr {f g : Nat → Int64} : ∀ {n : Nat}, (∀ j, j < n → f j = g j) → sumJ f n = sumJ g n
  | 0, _ => rfl
  | n + 1, h => by
    show sumJ f n + f n = sumJ g n + g n
    rw [sumJ_congr (fun j hj => h j (by omega)), h n (by omega)]
/-- the first of the greatest among 0 .. n -/
def pgr (f : Nat → Int64) : Nat → Nat
  | 0 => 0
  | n + 1 => if f (pgr f n) < f (n + 1) then n + 1 else pgr f n
theorem pgr_le (f : Nat → Int64) : ∀ n, pgr f n ≤ n
  | 0 => Nat.le_refl 0
  | n + 1 => by
    have := pgr_le f n
    unfold pgr
    split <;> omega
theorem pgr_congr {f g : Nat → Int64} : ∀ {n : Nat}, (∀ j, j ≤ n → f j = g j) → pgr f n = pgr g n
  | 0, _ => rfl
  | n + 1, h => by
    have ih := pgr_congr (n := n) (fun j hj => h j (by omega))
    have hl := pgr_le g n
    unfold pgr
    rw [ih, h _ (by omega), h (n + 1) (by omega)]
def dvW (wt : Nat → Int64) (am : Nat → Bool) (m : Nat) : Int64 := if am m = true then wt m else 0
def dvA (wt : Nat → Int64) (am : Nat → Bool) : Int64 := sumJ (dvW wt am) 12
def dvP (x : Int64) (wt : Nat → Int64) (am : Nat → Bool) (m : Nat) : Int64 := if am m = true ∧ 0 < dvA wt am then x * wt m else 0
def dvS (x : Int64) (wt : Nat → Int64) (am : Nat → Bool) (m : Nat) : Int64 := if 0 < dvA wt am then dvP x wt am m / dvA wt am else 0
def dvT (x : Int64) (wt : Nat → Int64) (am : Nat → Bool) (m : Nat) : Int64 := if 0 < dvA wt am then dvP x wt am m - dvP x wt am m / dvA wt am * dvA wt am else 0
def dvL (x : Int64) (wt : Nat → Int64) (am : Nat → Bool) : Nat → Int64
  | 0 => if 0 < dvA wt am then x else 0
  | m + 1 => dvL x wt am m - dvS x wt am m
def dvR (x : Int64) (wt : Nat → Int64) (am : Nat → Bool) : Nat → (Nat → Int64) × (Nat → Int64) × Int64
  | 0 => (dvS x wt am, dvT x wt am, dvL x wt am 12)
  | r + 1 => if 0 < (dvR x wt am r).2.2 then (lpUp (dvR x wt am r).1 (pgr (dvR x wt am r).2.1 11) ((dvR x wt am r).1 (pgr (dvR x wt am r).2.1 11) + 1), lpUp (dvR x wt am r).2.1 (pgr (dvR x wt am r).2.1 11) (-1), (dvR x wt am r).2.2 - 1) else dvR x wt am r
def dv (x : Int64) (wt : Nat → Int64) (am : Nat → Bool) : Nat → Int64 := (dvR x wt am 12).1
theorem dvR_stop {x : Int64} {wt : Nat → Int64} {am : Nat → Bool} {r : Nat} (h : ¬ 0 < (dvR x wt am r).2.2) : ∀ k, dvR x wt am (r + k) = dvR x wt am r
  | 0 => rfl
  | k + 1 => by
    have ih := dvR_stop h k
    show (if 0 < (dvR x wt am (r + k)).2.2 then _ else dvR x wt am (r + k)) = _
    rw [ih, if_neg h]
def Qd (sh rs : Nat) (f : Nat → Int64) (Λ : hc_L) (I : hc_I) (L : hc_J) (R : hc_R) : hc_Q := fun r Λ' I' L' R' => r = none ∧ Λ = Λ' ∧ I = I' ∧ (∀ z, ¬ (z = sh ∨ z = rs) → L' z = L z) ∧ R = R' ∧ (∀ j, j < 12 → L' sh j = f j)
set_option maxRecDepth 100000 in
theorem r_total {Λ : hc_L} {I : hc_I} {L : hc_J} {R : hc_R} {k : Nat} (hk : k < Λ.1) (hy : Λ.2.1 k = (3, 12)) : Run xX1_total [.ref k] Λ I L R (Qr (some (.long (sumJ (L k) 12))) Λ I L R) := by
  refine Run.of (by decide +kernel) (Nat.le_of_ble_eq_true rfl) ?_
  show LW _ _ _ [(0, .ref k)] _ _ _ _ _ _
  refine LW_lconst (v := 0) dX1_total_0 (by decide) ?_
  refine LW_lstoren (ls' := [(0, .ref k), (1, .long 0)]) dX1_total_1 rfl (by decide) rfl ?_
  refine LW_iconst (v := 0) dX1_total_2 (by decide) ?_
  refine LW_istoren (ls' := [(0, .ref k), (1, .long 0), (3, .int 0)]) dX1_total_3 rfl (by decide) rfl ?_
  have loop : ∀ i, i ≤ 12 → LW xX1_total (0, 0) 4 [(0, .ref k), (1, .long (sumJ (L k) i)), (3, .int (nI i))] [] Λ I L R (Qr (some (.long (sumJ (L k) 12))) Λ I L R) := by
    refine hc_down ?_ ?_
    · refine LW_iloadn 2 dX1_total_4 rfl rfl ?_
      refine LW_bipush (v := 12) dX1_total_5 (by decide) ?_
      refine LW_icmp_ge (tgt := 22) dX1_total_7 (by decide) (fun c7 => ?_) (fun c7 => absurd (Int32.le_refl _) c7)
      refine LW_lloadn 1 dX1_total_22 rfl rfl ?_
      refine LW_lret dX1_total_23 rfl (Nat.le_of_ble_eq_true rfl) (Nat.le_of_ble_eq_true rfl) ?_
      exact Qr.mk rfl
    · intro i hi ih
      refine LW_iloadn 2 dX1_total_4 rfl rfl ?_
      refine LW_bipush (v := 12) dX1_total_5 (by decide) ?_
      refine LW_icmp_ge (tgt := 22) dX1_total_7 (by decide) (fun c7 => absurd c7 (hc_nle (by decide) (by omega) hi)) (fun c7 => ?_)
      refine LW_lloadn 1 dX1_total_10 rfl rfl ?_
      refine LW_aloadn 0 dX1_total_11 rfl rfl ?_
      refine LW_iloadn 2 dX1_total_12 rfl rfl ?_
      refine LW_lald dX1_total_13 hk hy rfl (by omega) (Nat.le_of_ble_eq_true rfl) ?_
      refine LW_ladd dX1_total_14 ?_
      refine LW_lstoren (ls' := [(0, .ref k), (1, .long ((sumJ (L k) i) + (L k i))), (3, .int (nI i))]) dX1_total_15 rfl (by decide) rfl ?_
      refine LW_iinc (n := 2) (v := nI (i + 1)) (ls' := [(0, .ref k), (1, .long ((sumJ (L k) i) + (L k i))), (3, .int (nI (i + 1)))]) dX1_total_16 rfl (hc_inc _) (by decide) rfl ?_
      refine LW_goto (tgt := 4) dX1_total_19 (by decide) ?_
      exact ih
  exact loop 0 (Nat.zero_le _)
set_option maxRecDepth 100000 in
theorem r_pog {Λ : hc_L} {I : hc_I} {L : hc_J} {R : hc_R} {k : Nat} (hk : k < Λ.1) (hy : Λ.2.1 k = (3, 12)) {f : Nat → Int64} (hf : ∀ j, j < 12 → L k j = f j) : Run xX1_placeOfGreatest [.ref k] Λ I L R (Qr (some (.int (nI (pgr f 11)))) Λ I L R) := by
  refine Run.of (by decide +kernel) (Nat.le_of_ble_eq_true rfl) ?_
  show LW _ _ _ [(0, .ref k)] _ _ _ _ _ _
  refine LW_iconst (v := 0) dX1_placeOfGreatest_0 (by decide) ?_
  refine LW_istoren (ls' := [(0, .ref k), (1, .int 0)]) dX1_placeOfGreatest_1 rfl (by decide) rfl ?_
  refine LW_iconst (v := 1) dX1_placeOfGreatest_2 (by decide) ?_
  refine LW_istoren (ls' := [(0, .ref k), (1, .int 0), (2, .int 1)]) dX1_placeOfGreatest_3 rfl (by decide) rfl ?_
  have loop : ∀ i, i ≤ 11 → LW xX1_placeOfGreatest (0, 0) 4 [(0, .ref k), (1, .int (nI (pgr f i))), (2, .int (nI (i + 1)))] [] Λ I L R (Qr (some (.int (nI (pgr f 11)))) Λ I L R) := by
    refine hc_down ?_ ?_
    · refine LW_iloadn 2 dX1_placeOfGreatest_4 rfl rfl ?_
      refine LW_bipush (v := 12) dX1_placeOfGreatest_5 (by decide) ?_
      refine LW_icmp_ge (tgt := 28) dX1_placeOfGreatest_7 (by decide) (fun c7 => ?_) (fun c7 => absurd (Int32.le_refl _) c7)
      refine LW_iloadn 1 dX1_placeOfGreatest_28 rfl rfl ?_
      refine LW_iret dX1_placeOfGreatest_29 rfl (Nat.le_of_ble_eq_true rfl) (Nat.le_of_ble_eq_true rfl) ?_
      exact Qr.mk rfl
    · intro i hi ih
      refine LW_iloadn 2 dX1_placeOfGreatest_4 rfl rfl ?_
      refine LW_bipush (v := 12) dX1_placeOfGreatest_5 (by decide) ?_
      refine LW_icmp_ge (tgt := 28) dX1_placeOfGreatest_7 (by decide) (fun c7 => absurd c7 (hc_nle (a := 12) (by omega) (by omega) (by omega))) (fun c7 => ?_)
      refine LW_aloadn 0 dX1_placeOfGreatest_10 rfl rfl ?_
      refine LW_iloadn 2 dX1_placeOfGreatest_11 rfl rfl ?_
      refine LW_lald dX1_placeOfGreatest_12 hk hy rfl (by omega) (Nat.le_of_ble_eq_true rfl) ?_
      rw [show L k (i + 1) = f (i + 1) from hf _ (by omega)]
      refine LW_aloadn 0 dX1_placeOfGreatest_13 rfl rfl ?_
      refine LW_iloadn 1 dX1_placeOfGreatest_14 rfl rfl ?_
      refine LW_lald dX1_placeOfGreatest_15 hk hy rfl (Nat.lt_of_le_of_lt (pgr_le f i) (by omega)) (Nat.le_of_ble_eq_true rfl) ?_
      rw [show L k (pgr f i) = f (pgr f i) from hf _ (Nat.lt_of_le_of_lt (pgr_le f i) (by omega))]
      refine LW_lcmp dX1_placeOfGreatest_16 ?_
      refine LW_lif_le (tgt := 22) dX1_placeOfGreatest_17 (by decide) (fun c17 => ?_) (fun c17 => ?_)
      · refine LW_iinc (n := 2) (v := nI ((i + 1) + 1)) (ls' := [(0, .ref k), (1, .int (nI (pgr f i))), (2, .int (nI ((i + 1) + 1)))]) dX1_placeOfGreatest_22 rfl (hc_inc _) (by decide) rfl ?_
        refine LW_goto (tgt := 4) dX1_placeOfGreatest_25 (by decide) ?_
        exact hc_lsc (by first | (simp [pgr, Int64.not_lt.mpr c17]; done) | (simp [pgr, Int64.not_le.mp c17]; done)) ih
      · refine LW_iloadn 2 dX1_placeOfGreatest_20 rfl rfl ?_
        refine LW_istoren (ls' := [(0, .ref k), (1, .int (nI (i + 1))), (2, .int (nI (i + 1)))]) dX1_placeOfGreatest_21 rfl (by decide) rfl ?_
        refine LW_iinc (n := 2) (v := nI ((i + 1) + 1)) (ls' := [(0, .ref k), (1, .int (nI (i + 1))), (2, .int (nI ((i + 1) + 1)))]) dX1_placeOfGreatest_22 rfl (hc_inc _) (by decide) rfl ?_
        refine LW_goto (tgt := 4) dX1_placeOfGreatest_25 (by decide) ?_
        exact hc_lsc (by first | (simp [pgr, Int64.not_lt.mpr c17]; done) | (simp [pgr, Int64.not_le.mp c17]; done)) ih
  exact loop 0 (Nat.zero_le _)
set_option maxRecDepth 100000 in
theorem r_divide {Λ : hc_L} {I : hc_I} {L : hc_J} {R : hc_R} {e w m sh rs : Nat} {x : Int64} {wt : Nat → Int64} {am : Nat → Bool} (he : e < Λ.1) (hey : Λ.2.1 e = (101, 0)) (heF : Λ.2.2 e 10 = some rs) (hw : w < Λ.1) (hwy : Λ.2.1 w = (3, 12)) (hm : m < Λ.1) (hmy : Λ.2.1 m = (0, 12)) (hsh : sh < Λ.1) (hshy : Λ.2.1 sh = (3, 12)) (hrs : rs < Λ.1) (hrsy : Λ.2.1 rs = (3, 12)) (hne : sh ≠ rs) (hw1 : w ≠ sh) (hw2 : w ≠ rs) (hwt : ∀ j, j < 12 → L w j = wt j) (hma : ∀ j, j < 12 → I m j = hc_b (am j)) : Run xX1_divide [.ref e, .long x, .ref w, .ref m, .ref sh] Λ I L R (Qd sh rs (dv x wt am) Λ I L R) := by
  refine Run.of (by decide +kernel) (Nat.le_of_ble_eq_true rfl) ?_
  show LW _ _ _ [(0, .ref e), (1, .long x), (3, .ref w), (4, .ref m), (5, .ref sh)] _ _ _ _ _ _
  refine LW_lconst (v := 0) dX1_divide_0 (by decide) ?_
  refine LW_lstore (ls' := [(0, .ref e), (1, .long x), (3, .ref w), (4, .ref m), (5, .ref sh), (6, .long 0)]) dX1_divide_1 (by decide) rfl ?_
  refine LW_iconst (v := 0) dX1_divide_3 (by decide) ?_
  refine LW_istore (ls' := [(0, .ref e), (1, .long x), (3, .ref w), (4, .ref m), (5, .ref sh), (6, .long 0), (8, .int 0)]) dX1_divide_4 (by decide) rfl ?_
  have loop3 : ∀ i, i ≤ 12 → ∀ L1 : hc_J, (∀ z, ¬ (z = sh ∨ z = rs) → L1 z = L z) → (∀ j, j < 12 → L1 sh j = (dvR x wt am i).1 j) → (∀ j, j < 12 → L1 rs j = (dvR x wt am i).2.1 j) → LW xX1_divide (0, 0) 154 [(0, .ref e), (1, .long x), (3, .ref w), (4, .ref m), (5, .ref sh), (6, .long (dvA wt am)), (8, .long ((dvR x wt am i).2.2)), (10, .int (nI i))] [] Λ I L1 R (Qd sh rs (dv x wt am) Λ I L R) := by
    refine hc_down ?_ ?_
    · intro L1 hL1 hs1 hr1
      refine LW_iload 7 dX1_divide_154 rfl ?_
      refine LW_bipush (v := 12) dX1_divide_156 (by decide) ?_
      refine LW_icmp_ge (tgt := 208) dX1_divide_158 (by decide) (fun c158 => ?_) (fun c158 => absurd (Int32.le_refl _) c158)
      refine LW_vret dX1_divide_208 rfl (Nat.le_of_ble_eq_true rfl) (Nat.le_of_ble_eq_true rfl) ?_
      exact ⟨rfl, rfl, rfl, hL1, rfl, fun j hj => hs1 j hj⟩
    · intro i hi ih L1 hL1 hs1 hr1
      refine LW_iload 7 dX1_divide_154 rfl ?_
      refine LW_bipush (v := 12) dX1_divide_156 (by decide) ?_
      refine LW_icmp_ge (tgt := 208) dX1_divide_158 (by decide) (fun c158 => absurd c158 (hc_nle (by decide) (by omega) hi)) (fun c158 => ?_)
      refine LW_lload 6 dX1_divide_161 rfl ?_
      refine LW_lconst (v := 0) dX1_divide_163 (by decide) ?_
      refine LW_lcmp dX1_divide_164 ?_
      refine LW_lif_le (tgt := 208) dX1_divide_165 (by decide) (fun c165 => ?_) (fun c165 => ?_)
      · refine LW_vret dX1_divide_208 rfl (Nat.le_of_ble_eq_true rfl) (Nat.le_of_ble_eq_true rfl) ?_
        exact ⟨rfl, rfl, rfl, hL1, rfl, fun j hj => by rw [hs1 j hj]; unfold dv; rw [show 12 = i + (12 - i) by omega, dvR_stop (Int64.not_lt.mpr c165)]⟩
      · have hg := Nat.lt_of_le_of_lt (pgr_le (dvR x wt am i).2.1 11) (show 11 < 12 by omega)
        refine LW_aloadn 0 dX1_divide_168 rfl rfl ?_
        refine gX1_10 dX1_divide_169 flX1_39 he hey heF ?_
        refine LW_callS (As := [.ref rs]) (st := []) (r_pog hrs hrsy hr1) YX1_placeOfGreatest rfl dX1_divide_172 mlX1_142 (by decide) ⟨Nat.le_refl _, Nat.le_refl _⟩ (Nat.le_of_ble_eq_true rfl) rfl (fun r172 Λc172 Ic172 Lc172 Rc172 hq172 => ?_)
        obtain ⟨rfl, rfl, rfl, rfl, rfl⟩ := hq172
        refine LW_istore (ls' := [(0, .ref e), (1, .long x), (3, .ref w), (4, .ref m), (5, .ref sh), (6, .long (dvA wt am)), (8, .long ((dvR x wt am i).2.2)), (10, .int (nI i)), (11, .int (nI (pgr (dvR x wt am i).2.1 11)))]) dX1_divide_175 (by decide) rfl ?_
        refine LW_aload 4 dX1_divide_177 rfl ?_
        refine LW_iload 8 dX1_divide_179 rfl ?_
        refine LW_dup2 dX1_divide_181 rfl rfl ?_
        refine LW_lald dX1_divide_182 hsh hshy rfl hg (Nat.le_of_ble_eq_true rfl) ?_
        rw [show L1 sh (pgr (dvR x wt am i).2.1 11) = (dvR x wt am i).1 (pgr (dvR x wt am i).2.1 11) from hs1 _ hg]
        refine LW_lconst (v := 1) dX1_divide_183 (by decide) ?_
        refine LW_ladd dX1_divide_184 ?_
        refine LW_last dX1_divide_185 hsh hshy rfl hg (Nat.le_of_ble_eq_true rfl) ?_
        generalize hL185 : hc_u L1 sh (pgr (dvR x wt am i).2.1 11) (((dvR x wt am i).1 (pgr (dvR x wt am i).2.1 11)) + 1) = L185
        refine LW_aloadn 0 dX1_divide_186 rfl rfl ?_
        refine gX1_10 dX1_divide_187 flX1_39 he hey heF ?_
        refine LW_iload 8 dX1_divide_190 rfl ?_
        refine LW_ldc2 dX1_divide_192 klX1_128 ?_
        refine LW_last dX1_divide_195 hrs hrsy rfl hg (Nat.le_of_ble_eq_true rfl) ?_
        generalize hL195 : hc_u L185 rs (pgr (dvR x wt am i).2.1 11) (-1) = L195
        refine LW_lload 6 dX1_divide_196 rfl ?_
        refine LW_lconst (v := 1) dX1_divide_198 (by decide) ?_
        refine LW_lsub dX1_divide_199 ?_
        refine LW_lstore (ls' := [(0, .ref e), (1, .long x), (3, .ref w), (4, .ref m), (5, .ref sh), (6, .long (dvA wt am)), (8, .long (((dvR x wt am i).2.2) - 1)), (10, .int (nI i)), (11, .int (nI (pgr (dvR x wt am i).2.1 11)))]) dX1_divide_200 (by decide) rfl ?_
        refine LW_iinc (n := 7) (v := nI (i + 1)) (ls' := [(0, .ref e), (1, .long x), (3, .ref w), (4, .ref m), (5, .ref sh), (6, .long (dvA wt am)), (8, .long (((dvR x wt am i).2.2) - 1)), (10, .int (nI (i + 1))), (11, .int (nI (pgr (dvR x wt am i).2.1 11)))]) dX1_divide_202 rfl (hc_inc _) (by decide) rfl ?_
        refine LW_goto (tgt := 154) dX1_divide_205 (by decide) ?_
        refine LW_ls [0, 1, 2, 3, 4, 5, 6, 7] rfl ?_
        have e1 : dvR x wt am (i + 1) = (lpUp (dvR x wt am i).1 (pgr (dvR x wt am i).2.1 11) ((dvR x wt am i).1 (pgr (dvR x wt am i).2.1 11) + 1), lpUp (dvR x wt am i).2.1 (pgr (dvR x wt am i).2.1 11) (-1), (dvR x wt am i).2.2 - 1) := if_pos (Int64.not_le.mp c165)
        refine hc_lsc ?_ (ih _ (fun z hz => ?_) (fun j hj => ?_) (fun j hj => ?_))
        · rw [e1]
          rfl
        · rw [← hL195, hc_u_row _ _ _ _ (fun q => hz (Or.inr q)), ← hL185, hc_u_row _ _ _ _ (fun q => hz (Or.inl q))]
          exact hL1 z hz
        · rw [e1, ← hL195, hc_u_row _ _ _ _ hne, ← hL185, hc_u_at]
          show _ = lpUp _ _ _ j
          unfold lpUp
          rw [hs1 j hj]
        · rw [e1, ← hL195, hc_u_at]
          show _ = lpUp _ _ _ j
          unfold lpUp
          rw [← hL185, hc_u_row _ _ _ _ (Ne.symm hne), hr1 j hj]
  have loop2 : ∀ i, i ≤ 12 → ∀ L1 : hc_J, (∀ z, ¬ (z = sh ∨ z = rs) → L1 z = L z) → (∀ j, j < i → L1 sh j = dvS x wt am j) → (∀ j, j < i → L1 rs j = dvT x wt am j) → LW xX1_divide (0, 0) 57 [(0, .ref e), (1, .long x), (3, .ref w), (4, .ref m), (5, .ref sh), (6, .long (dvA wt am)), (8, .long (dvL x wt am i)), (10, .int (nI i))] [] Λ I L1 R (Qd sh rs (dv x wt am) Λ I L R) := by
    refine hc_down ?_ ?_
    · intro L1 hL1 hs1 hr1
      refine LW_iload 7 dX1_divide_57 rfl ?_
      refine LW_bipush (v := 12) dX1_divide_59 (by decide) ?_
      refine LW_icmp_ge (tgt := 151) dX1_divide_61 (by decide) (fun c61 => ?_) (fun c61 => absurd (Int32.le_refl _) c61)
      refine LW_iconst (v := 0) dX1_divide_151 (by decide) ?_
      refine LW_istore (ls' := [(0, .ref e), (1, .long x), (3, .ref w), (4, .ref m), (5, .ref sh), (6, .long (dvA wt am)), (8, .long (dvL x wt am 12)), (10, .int 0)]) dX1_divide_152 (by decide) rfl ?_
      exact loop3 0 (Nat.zero_le _) L1 hL1 hs1 hr1
    · intro i hi ih L1 hL1 hs1 hr1
      refine LW_iload 7 dX1_divide_57 rfl ?_
      refine LW_bipush (v := 12) dX1_divide_59 (by decide) ?_
      refine LW_icmp_ge (tgt := 151) dX1_divide_61 (by decide) (fun c61 => absurd c61 (hc_nle (by decide) (by omega) hi)) (fun c61 => ?_)
      refine LW_aload 3 dX1_divide_64 rfl ?_
      refine LW_iload 7 dX1_divide_66 rfl ?_
      refine LW_zald dX1_divide_68 hm hmy rfl (by omega) (Nat.le_of_ble_eq_true rfl) ?_
      rw [show I m i = hc_b (am i) from hma i (by omega)]
      refine LW_bif_eq (tgt := 88) dX1_divide_69 (by decide) (fun c69 => ?_) (fun c69 => ?_)
      · refine LW_lconst (v := 0) dX1_divide_88 (by decide) ?_
        have hP : 0 = dvP x wt am i := by
          unfold dvP
          first | (rw [if_pos ⟨c69, Int64.not_le.mp c76⟩]; done) | (rw [if_neg (fun q => absurd q.2 (Int64.not_lt.mpr c76))]; done) | (rw [if_neg (fun q => absurd (c69.symm.trans q.1) (by decide))]; done)
        rw [hP]
        refine LW_lstore (ls' := [(0, .ref e), (1, .long x), (3, .ref w), (4, .ref m), (5, .ref sh), (6, .long (dvA wt am)), (8, .long (dvL x wt am i)), (10, .int (nI i)), (11, .long (dvP x wt am i))]) dX1_divide_89 (by decide) rfl ?_
        refine LW_aload 4 dX1_divide_91 rfl ?_
        refine LW_iload 7 dX1_divide_93 rfl ?_
        refine LW_lload 5 dX1_divide_95 rfl ?_
        refine LW_lconst (v := 0) dX1_divide_97 (by decide) ?_
        refine LW_lcmp dX1_divide_98 ?_
        refine LW_lif_le (tgt := 110) dX1_divide_99 (by decide) (fun c99 => ?_) (fun c99 => ?_)
        · refine LW_lconst (v := 0) dX1_divide_110 (by decide) ?_
          have hS : dvS x wt am i = 0 := by
            unfold dvS
            first | (rw [if_pos (Int64.not_le.mp c99)]; done) | (rw [if_neg (Int64.not_lt.mpr c99)]; done)
          refine LW_last dX1_divide_111 hsh hshy rfl (by omega) (Nat.le_of_ble_eq_true rfl) ?_
          generalize hL111 : hc_u L1 sh i 0 = L111
          refine LW_aloadn 0 dX1_divide_112 rfl rfl ?_
          refine gX1_10 dX1_divide_113 flX1_39 he hey heF ?_
          refine LW_iload 7 dX1_divide_116 rfl ?_
          refine LW_lload 5 dX1_divide_118 rfl ?_
          refine LW_lconst (v := 0) dX1_divide_120 (by decide) ?_
          refine LW_lcmp dX1_divide_121 ?_
          refine LW_lif_le (tgt := 133) dX1_divide_122 (by decide) (fun c122 => ?_) (fun c122 => ?_)
          · refine LW_lconst (v := 0) dX1_divide_133 (by decide) ?_
            have hT : dvT x wt am i = 0 := by
              unfold dvT
              first | (rw [if_pos (Int64.not_le.mp c122)]; done) | (rw [if_neg (Int64.not_lt.mpr c122)]; done)
            refine LW_last dX1_divide_134 hrs hrsy rfl (by omega) (Nat.le_of_ble_eq_true rfl) ?_
            generalize hL134 : hc_u L111 rs i 0 = L134
            refine LW_lload 6 dX1_divide_135 rfl ?_
            refine LW_aload 4 dX1_divide_137 rfl ?_
            refine LW_iload 7 dX1_divide_139 rfl ?_
            refine LW_lald dX1_divide_141 hsh hshy rfl (by omega) (Nat.le_of_ble_eq_true rfl) ?_
            rw [show L134 sh i = dvS x wt am i from (by rw [← hL134, hc_u_row _ _ _ _ hne, ← hL111, hc_u_at, if_pos rfl, hS])]
            refine LW_lsub dX1_divide_142 ?_
            refine LW_lstore (ls' := [(0, .ref e), (1, .long x), (3, .ref w), (4, .ref m), (5, .ref sh), (6, .long (dvA wt am)), (8, .long ((dvL x wt am i) - (dvS x wt am i))), (10, .int (nI i)), (11, .long (dvP x wt am i))]) dX1_divide_143 (by decide) rfl ?_
            refine LW_iinc (n := 7) (v := nI (i + 1)) (ls' := [(0, .ref e), (1, .long x), (3, .ref w), (4, .ref m), (5, .ref sh), (6, .long (dvA wt am)), (8, .long ((dvL x wt am i) - (dvS x wt am i))), (10, .int (nI (i + 1))), (11, .long (dvP x wt am i))]) dX1_divide_145 rfl (hc_inc _) (by decide) rfl ?_
            refine LW_goto (tgt := 57) dX1_divide_148 (by decide) ?_
            refine LW_ls [0, 1, 2, 3, 4, 5, 6, 7] rfl ?_
            refine hc_lsc ?_ (ih _ (fun z hz => ?_) (fun j hj => ?_) (fun j hj => ?_))
            · simp only [lv_pick, dvL]
              simp [hS]
            · rw [← hL134, hc_u_row _ _ _ _ (fun q => hz (Or.inr q)), ← hL111, hc_u_row _ _ _ _ (fun q => hz (Or.inl q))]
              exact hL1 z hz
            · rw [← hL134, hc_u_row _ _ _ _ hne, ← hL111, hc_u_at]
              by_cases e : j = i
              · rw [if_pos e, e, hS]
              · rw [if_neg e]
                exact hs1 j (by omega)
            · rw [← hL134, hc_u_at]
              by_cases e : j = i
              · rw [if_pos e, e, hT]
              · rw [if_neg e, ← hL111, hc_u_row _ _ _ _ (Ne.symm hne)]
                exact hr1 j (by omega)
          · refine LW_lload 8 dX1_divide_125 rfl ?_
            refine LW_lload 5 dX1_divide_127 rfl ?_
            refine LW_lrem dX1_divide_129 (fun q => absurd (Int64.not_le.mp c122) (by rw [q]; exact Int64.lt_irrefl)) ?_
            refine LW_goto (tgt := 134) dX1_divide_130 (by decide) ?_
            have hT : dvT x wt am i = (dvP x wt am i) - (dvP x wt am i) / (dvA wt am) * (dvA wt am) := by
              unfold dvT
              first | (rw [if_pos (Int64.not_le.mp c122)]; done) | (rw [if_neg (Int64.not_lt.mpr c122)]; done)
            refine LW_last dX1_divide_134 hrs hrsy rfl (by omega) (Nat.le_of_ble_eq_true rfl) ?_
            generalize hL134 : hc_u L111 rs i ((dvP x wt am i) - (dvP x wt am i) / (dvA wt am) * (dvA wt am)) = L134
            refine LW_lload 6 dX1_divide_135 rfl ?_
            refine LW_aload 4 dX1_divide_137 rfl ?_
            refine LW_iload 7 dX1_divide_139 rfl ?_
            refine LW_lald dX1_divide_141 hsh hshy rfl (by omega) (Nat.le_of_ble_eq_true rfl) ?_
            rw [show L134 sh i = dvS x wt am i from (by rw [← hL134, hc_u_row _ _ _ _ hne, ← hL111, hc_u_at, if_pos rfl, hS])]
            refine LW_lsub dX1_divide_142 ?_
            refine LW_lstore (ls' := [(0, .ref e), (1, .long x), (3, .ref w), (4, .ref m), (5, .ref sh), (6, .long (dvA wt am)), (8, .long ((dvL x wt am i) - (dvS x wt am i))), (10, .int (nI i)), (11, .long (dvP x wt am i))]) dX1_divide_143 (by decide) rfl ?_
            refine LW_iinc (n := 7) (v := nI (i + 1)) (ls' := [(0, .ref e), (1, .long x), (3, .ref w), (4, .ref m), (5, .ref sh), (6, .long (dvA wt am)), (8, .long ((dvL x wt am i) - (dvS x wt am i))), (10, .int (nI (i + 1))), (11, .long (dvP x wt am i))]) dX1_divide_145 rfl (hc_inc _) (by decide) rfl ?_
            refine LW_goto (tgt := 57) dX1_divide_148 (by decide) ?_
            refine LW_ls [0, 1, 2, 3, 4, 5, 6, 7] rfl ?_
            refine hc_lsc ?_ (ih _ (fun z hz => ?_) (fun j hj => ?_) (fun j hj => ?_))
            · simp only [lv_pick, dvL]
              simp [hS]
            · rw [← hL134, hc_u_row _ _ _ _ (fun q => hz (Or.inr q)), ← hL111, hc_u_row _ _ _ _ (fun q => hz (Or.inl q))]
              exact hL1 z hz
            · rw [← hL134, hc_u_row _ _ _ _ hne, ← hL111, hc_u_at]
              by_cases e : j = i
              · rw [if_pos e, e, hS]
              · rw [if_neg e]
                exact hs1 j (by omega)
            · rw [← hL134, hc_u_at]
              by_cases e : j = i
              · rw [if_pos e, e, hT]
              · rw [if_neg e, ← hL111, hc_u_row _ _ _ _ (Ne.symm hne)]
                exact hr1 j (by omega)
        · refine LW_lload 8 dX1_divide_102 rfl ?_
          refine LW_lload 5 dX1_divide_104 rfl ?_
          refine LW_ldiv dX1_divide_106 (fun q => absurd (Int64.not_le.mp c99) (by rw [q]; exact Int64.lt_irrefl)) ?_
          refine LW_goto (tgt := 111) dX1_divide_107 (by decide) ?_
          have hS : dvS x wt am i = (dvP x wt am i) / (dvA wt am) := by
            unfold dvS
            first | (rw [if_pos (Int64.not_le.mp c99)]; done) | (rw [if_neg (Int64.not_lt.mpr c99)]; done)
          refine LW_last dX1_divide_111 hsh hshy rfl (by omega) (Nat.le_of_ble_eq_true rfl) ?_
          generalize hL111 : hc_u L1 sh i ((dvP x wt am i) / (dvA wt am)) = L111
          refine LW_aloadn 0 dX1_divide_112 rfl rfl ?_
          refine gX1_10 dX1_divide_113 flX1_39 he hey heF ?_
          refine LW_iload 7 dX1_divide_116 rfl ?_
          refine LW_lload 5 dX1_divide_118 rfl ?_
          refine LW_lconst (v := 0) dX1_divide_120 (by decide) ?_
          refine LW_lcmp dX1_divide_121 ?_
          refine LW_lif_le (tgt := 133) dX1_divide_122 (by decide) (fun c122 => ?_) (fun c122 => ?_)
          · refine LW_lconst (v := 0) dX1_divide_133 (by decide) ?_
            have hT : dvT x wt am i = 0 := by
              unfold dvT
              first | (rw [if_pos (Int64.not_le.mp c122)]; done) | (rw [if_neg (Int64.not_lt.mpr c122)]; done)
            refine LW_last dX1_divide_134 hrs hrsy rfl (by omega) (Nat.le_of_ble_eq_true rfl) ?_
            generalize hL134 : hc_u L111 rs i 0 = L134
            refine LW_lload 6 dX1_divide_135 rfl ?_
            refine LW_aload 4 dX1_divide_137 rfl ?_
            refine LW_iload 7 dX1_divide_139 rfl ?_
            refine LW_lald dX1_divide_141 hsh hshy rfl (by omega) (Nat.le_of_ble_eq_true rfl) ?_
            rw [show L134 sh i = dvS x wt am i from (by rw [← hL134, hc_u_row _ _ _ _ hne, ← hL111, hc_u_at, if_pos rfl, hS])]
            refine LW_lsub dX1_divide_142 ?_
            refine LW_lstore (ls' := [(0, .ref e), (1, .long x), (3, .ref w), (4, .ref m), (5, .ref sh), (6, .long (dvA wt am)), (8, .long ((dvL x wt am i) - (dvS x wt am i))), (10, .int (nI i)), (11, .long (dvP x wt am i))]) dX1_divide_143 (by decide) rfl ?_
            refine LW_iinc (n := 7) (v := nI (i + 1)) (ls' := [(0, .ref e), (1, .long x), (3, .ref w), (4, .ref m), (5, .ref sh), (6, .long (dvA wt am)), (8, .long ((dvL x wt am i) - (dvS x wt am i))), (10, .int (nI (i + 1))), (11, .long (dvP x wt am i))]) dX1_divide_145 rfl (hc_inc _) (by decide) rfl ?_
            refine LW_goto (tgt := 57) dX1_divide_148 (by decide) ?_
            refine LW_ls [0, 1, 2, 3, 4, 5, 6, 7] rfl ?_
            refine hc_lsc ?_ (ih _ (fun z hz => ?_) (fun j hj => ?_) (fun j hj => ?_))
            · simp only [lv_pick, dvL]
              simp [hS]
            · rw [← hL134, hc_u_row _ _ _ _ (fun q => hz (Or.inr q)), ← hL111, hc_u_row _ _ _ _ (fun q => hz (Or.inl q))]
              exact hL1 z hz
            · rw [← hL134, hc_u_row _ _ _ _ hne, ← hL111, hc_u_at]
              by_cases e : j = i
              · rw [if_pos e, e, hS]
              · rw [if_neg e]
                exact hs1 j (by omega)
            · rw [← hL134, hc_u_at]
              by_cases e : j = i
              · rw [if_pos e, e, hT]
              · rw [if_neg e, ← hL111, hc_u_row _ _ _ _ (Ne.symm hne)]
                exact hr1 j (by omega)
          · refine LW_lload 8 dX1_divide_125 rfl ?_
            refine LW_lload 5 dX1_divide_127 rfl ?_
            refine LW_lrem dX1_divide_129 (fun q => absurd (Int64.not_le.mp c122) (by rw [q]; exact Int64.lt_irrefl)) ?_
            refine LW_goto (tgt := 134) dX1_divide_130 (by decide) ?_
            have hT : dvT x wt am i = (dvP x wt am i) - (dvP x wt am i) / (dvA wt am) * (dvA wt am) := by
              unfold dvT
              first | (rw [if_pos (Int64.not_le.mp c122)]; done) | (rw [if_neg (Int64.not_lt.mpr c122)]; done)
            refine LW_last dX1_divide_134 hrs hrsy rfl (by omega) (Nat.le_of_ble_eq_true rfl) ?_
            generalize hL134 : hc_u L111 rs i ((dvP x wt am i) - (dvP x wt am i) / (dvA wt am) * (dvA wt am)) = L134
            refine LW_lload 6 dX1_divide_135 rfl ?_
            refine LW_aload 4 dX1_divide_137 rfl ?_
            refine LW_iload 7 dX1_divide_139 rfl ?_
            refine LW_lald dX1_divide_141 hsh hshy rfl (by omega) (Nat.le_of_ble_eq_true rfl) ?_
            rw [show L134 sh i = dvS x wt am i from (by rw [← hL134, hc_u_row _ _ _ _ hne, ← hL111, hc_u_at, if_pos rfl, hS])]
            refine LW_lsub dX1_divide_142 ?_
            refine LW_lstore (ls' := [(0, .ref e), (1, .long x), (3, .ref w), (4, .ref m), (5, .ref sh), (6, .long (dvA wt am)), (8, .long ((dvL x wt am i) - (dvS x wt am i))), (10, .int (nI i)), (11, .long (dvP x wt am i))]) dX1_divide_143 (by decide) rfl ?_
            refine LW_iinc (n := 7) (v := nI (i + 1)) (ls' := [(0, .ref e), (1, .long x), (3, .ref w), (4, .ref m), (5, .ref sh), (6, .long (dvA wt am)), (8, .long ((dvL x wt am i) - (dvS x wt am i))), (10, .int (nI (i + 1))), (11, .long (dvP x wt am i))]) dX1_divide_145 rfl (hc_inc _) (by decide) rfl ?_
            refine LW_goto (tgt := 57) dX1_divide_148 (by decide) ?_
            refine LW_ls [0, 1, 2, 3, 4, 5, 6, 7] rfl ?_
            refine hc_lsc ?_ (ih _ (fun z hz => ?_) (fun j hj => ?_) (fun j hj => ?_))
            · simp only [lv_pick, dvL]
              simp [hS]
            · rw [← hL134, hc_u_row _ _ _ _ (fun q => hz (Or.inr q)), ← hL111, hc_u_row _ _ _ _ (fun q => hz (Or.inl q))]
              exact hL1 z hz
            · rw [← hL134, hc_u_row _ _ _ _ hne, ← hL111, hc_u_at]
              by_cases e : j = i
              · rw [if_pos e, e, hS]
              · rw [if_neg e]
                exact hs1 j (by omega)
            · rw [← hL134, hc_u_at]
              by_cases e : j = i
              · rw [if_pos e, e, hT]
              · rw [if_neg e, ← hL111, hc_u_row _ _ _ _ (Ne.symm hne)]
                exact hr1 j (by omega)
      · refine LW_lload 5 dX1_divide_72 rfl ?_
        refine LW_lconst (v := 0) dX1_divide_74 (by decide) ?_
        refine LW_lcmp dX1_divide_75 ?_
        refine LW_lif_le (tgt := 88) dX1_divide_76 (by decide) (fun c76 => ?_) (fun c76 => ?_)
        · refine LW_lconst (v := 0) dX1_divide_88 (by decide) ?_
          have hP : 0 = dvP x wt am i := by
            unfold dvP
            first | (rw [if_pos ⟨c69, Int64.not_le.mp c76⟩]; done) | (rw [if_neg (fun q => absurd q.2 (Int64.not_lt.mpr c76))]; done) | (rw [if_neg (fun q => absurd (c69.symm.trans q.1) (by decide))]; done)
          rw [hP]
          refine LW_lstore (ls' := [(0, .ref e), (1, .long x), (3, .ref w), (4, .ref m), (5, .ref sh), (6, .long (dvA wt am)), (8, .long (dvL x wt am i)), (10, .int (nI i)), (11, .long (dvP x wt am i))]) dX1_divide_89 (by decide) rfl ?_
          refine LW_aload 4 dX1_divide_91 rfl ?_
          refine LW_iload 7 dX1_divide_93 rfl ?_
          refine LW_lload 5 dX1_divide_95 rfl ?_
          refine LW_lconst (v := 0) dX1_divide_97 (by decide) ?_
          refine LW_lcmp dX1_divide_98 ?_
          refine LW_lif_le (tgt := 110) dX1_divide_99 (by decide) (fun c99 => ?_) (fun c99 => ?_)
          · refine LW_lconst (v := 0) dX1_divide_110 (by decide) ?_
            have hS : dvS x wt am i = 0 := by
              unfold dvS
              first | (rw [if_pos (Int64.not_le.mp c99)]; done) | (rw [if_neg (Int64.not_lt.mpr c99)]; done)
            refine LW_last dX1_divide_111 hsh hshy rfl (by omega) (Nat.le_of_ble_eq_true rfl) ?_
            generalize hL111 : hc_u L1 sh i 0 = L111
            refine LW_aloadn 0 dX1_divide_112 rfl rfl ?_
            refine gX1_10 dX1_divide_113 flX1_39 he hey heF ?_
            refine LW_iload 7 dX1_divide_116 rfl ?_
            refine LW_lload 5 dX1_divide_118 rfl ?_
            refine LW_lconst (v := 0) dX1_divide_120 (by decide) ?_
            refine LW_lcmp dX1_divide_121 ?_
            refine LW_lif_le (tgt := 133) dX1_divide_122 (by decide) (fun c122 => ?_) (fun c122 => ?_)
            · refine LW_lconst (v := 0) dX1_divide_133 (by decide) ?_
              have hT : dvT x wt am i = 0 := by
                unfold dvT
                first | (rw [if_pos (Int64.not_le.mp c122)]; done) | (rw [if_neg (Int64.not_lt.mpr c122)]; done)
              refine LW_last dX1_divide_134 hrs hrsy rfl (by omega) (Nat.le_of_ble_eq_true rfl) ?_
              generalize hL134 : hc_u L111 rs i 0 = L134
              refine LW_lload 6 dX1_divide_135 rfl ?_
              refine LW_aload 4 dX1_divide_137 rfl ?_
              refine LW_iload 7 dX1_divide_139 rfl ?_
              refine LW_lald dX1_divide_141 hsh hshy rfl (by omega) (Nat.le_of_ble_eq_true rfl) ?_
              rw [show L134 sh i = dvS x wt am i from (by rw [← hL134, hc_u_row _ _ _ _ hne, ← hL111, hc_u_at, if_pos rfl, hS])]
              refine LW_lsub dX1_divide_142 ?_
              refine LW_lstore (ls' := [(0, .ref e), (1, .long x), (3, .ref w), (4, .ref m), (5, .ref sh), (6, .long (dvA wt am)), (8, .long ((dvL x wt am i) - (dvS x wt am i))), (10, .int (nI i)), (11, .long (dvP x wt am i))]) dX1_divide_143 (by decide) rfl ?_
              refine LW_iinc (n := 7) (v := nI (i + 1)) (ls' := [(0, .ref e), (1, .long x), (3, .ref w), (4, .ref m), (5, .ref sh), (6, .long (dvA wt am)), (8, .long ((dvL x wt am i) - (dvS x wt am i))), (10, .int (nI (i + 1))), (11, .long (dvP x wt am i))]) dX1_divide_145 rfl (hc_inc _) (by decide) rfl ?_
              refine LW_goto (tgt := 57) dX1_divide_148 (by decide) ?_
              refine LW_ls [0, 1, 2, 3, 4, 5, 6, 7] rfl ?_
              refine hc_lsc ?_ (ih _ (fun z hz => ?_) (fun j hj => ?_) (fun j hj => ?_))
              · simp only [lv_pick, dvL]
                simp [hS]
              · rw [← hL134, hc_u_row _ _ _ _ (fun q => hz (Or.inr q)), ← hL111, hc_u_row _ _ _ _ (fun q => hz (Or.inl q))]
                exact hL1 z hz
              · rw [← hL134, hc_u_row _ _ _ _ hne, ← hL111, hc_u_at]
                by_cases e : j = i
                · rw [if_pos e, e, hS]
                · rw [if_neg e]
                  exact hs1 j (by omega)
              · rw [← hL134, hc_u_at]
                by_cases e : j = i
                · rw [if_pos e, e, hT]
                · rw [if_neg e, ← hL111, hc_u_row _ _ _ _ (Ne.symm hne)]
                  exact hr1 j (by omega)
            · refine LW_lload 8 dX1_divide_125 rfl ?_
              refine LW_lload 5 dX1_divide_127 rfl ?_
              refine LW_lrem dX1_divide_129 (fun q => absurd (Int64.not_le.mp c122) (by rw [q]; exact Int64.lt_irrefl)) ?_
              refine LW_goto (tgt := 134) dX1_divide_130 (by decide) ?_
              have hT : dvT x wt am i = (dvP x wt am i) - (dvP x wt am i) / (dvA wt am) * (dvA wt am) := by
                unfold dvT
                first | (rw [if_pos (Int64.not_le.mp c122)]; done) | (rw [if_neg (Int64.not_lt.mpr c122)]; done)
              refine LW_last dX1_divide_134 hrs hrsy rfl (by omega) (Nat.le_of_ble_eq_true rfl) ?_
              generalize hL134 : hc_u L111 rs i ((dvP x wt am i) - (dvP x wt am i) / (dvA wt am) * (dvA wt am)) = L134
              refine LW_lload 6 dX1_divide_135 rfl ?_
              refine LW_aload 4 dX1_divide_137 rfl ?_
              refine LW_iload 7 dX1_divide_139 rfl ?_
              refine LW_lald dX1_divide_141 hsh hshy rfl (by omega) (Nat.le_of_ble_eq_true rfl) ?_
              rw [show L134 sh i = dvS x wt am i from (by rw [← hL134, hc_u_row _ _ _ _ hne, ← hL111, hc_u_at, if_pos rfl, hS])]
              refine LW_lsub dX1_divide_142 ?_
              refine LW_lstore (ls' := [(0, .ref e), (1, .long x), (3, .ref w), (4, .ref m), (5, .ref sh), (6, .long (dvA wt am)), (8, .long ((dvL x wt am i) - (dvS x wt am i))), (10, .int (nI i)), (11, .long (dvP x wt am i))]) dX1_divide_143 (by decide) rfl ?_
              refine LW_iinc (n := 7) (v := nI (i + 1)) (ls' := [(0, .ref e), (1, .long x), (3, .ref w), (4, .ref m), (5, .ref sh), (6, .long (dvA wt am)), (8, .long ((dvL x wt am i) - (dvS x wt am i))), (10, .int (nI (i + 1))), (11, .long (dvP x wt am i))]) dX1_divide_145 rfl (hc_inc _) (by decide) rfl ?_
              refine LW_goto (tgt := 57) dX1_divide_148 (by decide) ?_
              refine LW_ls [0, 1, 2, 3, 4, 5, 6, 7] rfl ?_
              refine hc_lsc ?_ (ih _ (fun z hz => ?_) (fun j hj => ?_) (fun j hj => ?_))
              · simp only [lv_pick, dvL]
                simp [hS]
              · rw [← hL134, hc_u_row _ _ _ _ (fun q => hz (Or.inr q)), ← hL111, hc_u_row _ _ _ _ (fun q => hz (Or.inl q))]
                exact hL1 z hz
              · rw [← hL134, hc_u_row _ _ _ _ hne, ← hL111, hc_u_at]
                by_cases e : j = i
                · rw [if_pos e, e, hS]
                · rw [if_neg e]
                  exact hs1 j (by omega)
              · rw [← hL134, hc_u_at]
                by_cases e : j = i
                · rw [if_pos e, e, hT]
                · rw [if_neg e, ← hL111, hc_u_row _ _ _ _ (Ne.symm hne)]
                  exact hr1 j (by omega)
          · refine LW_lload 8 dX1_divide_102 rfl ?_
            refine LW_lload 5 dX1_divide_104 rfl ?_
            refine LW_ldiv dX1_divide_106 (fun q => absurd (Int64.not_le.mp c99) (by rw [q]; exact Int64.lt_irrefl)) ?_
            refine LW_goto (tgt := 111) dX1_divide_107 (by decide) ?_
            have hS : dvS x wt am i = (dvP x wt am i) / (dvA wt am) := by
              unfold dvS
              first | (rw [if_pos (Int64.not_le.mp c99)]; done) | (rw [if_neg (Int64.not_lt.mpr c99)]; done)
            refine LW_last dX1_divide_111 hsh hshy rfl (by omega) (Nat.le_of_ble_eq_true rfl) ?_
            generalize hL111 : hc_u L1 sh i ((dvP x wt am i) / (dvA wt am)) = L111
            refine LW_aloadn 0 dX1_divide_112 rfl rfl ?_
            refine gX1_10 dX1_divide_113 flX1_39 he hey heF ?_
            refine LW_iload 7 dX1_divide_116 rfl ?_
            refine LW_lload 5 dX1_divide_118 rfl ?_
            refine LW_lconst (v := 0) dX1_divide_120 (by decide) ?_
            refine LW_lcmp dX1_divide_121 ?_
            refine LW_lif_le (tgt := 133) dX1_divide_122 (by decide) (fun c122 => ?_) (fun c122 => ?_)
            · refine LW_lconst (v := 0) dX1_divide_133 (by decide) ?_
              have hT : dvT x wt am i = 0 := by
                unfold dvT
                first | (rw [if_pos (Int64.not_le.mp c122)]; done) | (rw [if_neg (Int64.not_lt.mpr c122)]; done)
              refine LW_last dX1_divide_134 hrs hrsy rfl (by omega) (Nat.le_of_ble_eq_true rfl) ?_
              generalize hL134 : hc_u L111 rs i 0 = L134
              refine LW_lload 6 dX1_divide_135 rfl ?_
              refine LW_aload 4 dX1_divide_137 rfl ?_
              refine LW_iload 7 dX1_divide_139 rfl ?_
              refine LW_lald dX1_divide_141 hsh hshy rfl (by omega) (Nat.le_of_ble_eq_true rfl) ?_
              rw [show L134 sh i = dvS x wt am i from (by rw [← hL134, hc_u_row _ _ _ _ hne, ← hL111, hc_u_at, if_pos rfl, hS])]
              refine LW_lsub dX1_divide_142 ?_
              refine LW_lstore (ls' := [(0, .ref e), (1, .long x), (3, .ref w), (4, .ref m), (5, .ref sh), (6, .long (dvA wt am)), (8, .long ((dvL x wt am i) - (dvS x wt am i))), (10, .int (nI i)), (11, .long (dvP x wt am i))]) dX1_divide_143 (by decide) rfl ?_
              refine LW_iinc (n := 7) (v := nI (i + 1)) (ls' := [(0, .ref e), (1, .long x), (3, .ref w), (4, .ref m), (5, .ref sh), (6, .long (dvA wt am)), (8, .long ((dvL x wt am i) - (dvS x wt am i))), (10, .int (nI (i + 1))), (11, .long (dvP x wt am i))]) dX1_divide_145 rfl (hc_inc _) (by decide) rfl ?_
              refine LW_goto (tgt := 57) dX1_divide_148 (by decide) ?_
              refine LW_ls [0, 1, 2, 3, 4, 5, 6, 7] rfl ?_
              refine hc_lsc ?_ (ih _ (fun z hz => ?_) (fun j hj => ?_) (fun j hj => ?_))
              · simp only [lv_pick, dvL]
                simp [hS]
              · rw [← hL134, hc_u_row _ _ _ _ (fun q => hz (Or.inr q)), ← hL111, hc_u_row _ _ _ _ (fun q => hz (Or.inl q))]
                exact hL1 z hz
              · rw [← hL134, hc_u_row _ _ _ _ hne, ← hL111, hc_u_at]
                by_cases e : j = i
                · rw [if_pos e, e, hS]
                · rw [if_neg e]
                  exact hs1 j (by omega)
              · rw [← hL134, hc_u_at]
                by_cases e : j = i
                · rw [if_pos e, e, hT]
                · rw [if_neg e, ← hL111, hc_u_row _ _ _ _ (Ne.symm hne)]
                  exact hr1 j (by omega)
            · refine LW_lload 8 dX1_divide_125 rfl ?_
              refine LW_lload 5 dX1_divide_127 rfl ?_
              refine LW_lrem dX1_divide_129 (fun q => absurd (Int64.not_le.mp c122) (by rw [q]; exact Int64.lt_irrefl)) ?_
              refine LW_goto (tgt := 134) dX1_divide_130 (by decide) ?_
              have hT : dvT x wt am i = (dvP x wt am i) - (dvP x wt am i) / (dvA wt am) * (dvA wt am) := by
                unfold dvT
                first | (rw [if_pos (Int64.not_le.mp c122)]; done) | (rw [if_neg (Int64.not_lt.mpr c122)]; done)
              refine LW_last dX1_divide_134 hrs hrsy rfl (by omega) (Nat.le_of_ble_eq_true rfl) ?_
              generalize hL134 : hc_u L111 rs i ((dvP x wt am i) - (dvP x wt am i) / (dvA wt am) * (dvA wt am)) = L134
              refine LW_lload 6 dX1_divide_135 rfl ?_
              refine LW_aload 4 dX1_divide_137 rfl ?_
              refine LW_iload 7 dX1_divide_139 rfl ?_
              refine LW_lald dX1_divide_141 hsh hshy rfl (by omega) (Nat.le_of_ble_eq_true rfl) ?_
              rw [show L134 sh i = dvS x wt am i from (by rw [← hL134, hc_u_row _ _ _ _ hne, ← hL111, hc_u_at, if_pos rfl, hS])]
              refine LW_lsub dX1_divide_142 ?_
              refine LW_lstore (ls' := [(0, .ref e), (1, .long x), (3, .ref w), (4, .ref m), (5, .ref sh), (6, .long (dvA wt am)), (8, .long ((dvL x wt am i) - (dvS x wt am i))), (10, .int (nI i)), (11, .long (dvP x wt am i))]) dX1_divide_143 (by decide) rfl ?_
              refine LW_iinc (n := 7) (v := nI (i + 1)) (ls' := [(0, .ref e), (1, .long x), (3, .ref w), (4, .ref m), (5, .ref sh), (6, .long (dvA wt am)), (8, .long ((dvL x wt am i) - (dvS x wt am i))), (10, .int (nI (i + 1))), (11, .long (dvP x wt am i))]) dX1_divide_145 rfl (hc_inc _) (by decide) rfl ?_
              refine LW_goto (tgt := 57) dX1_divide_148 (by decide) ?_
              refine LW_ls [0, 1, 2, 3, 4, 5, 6, 7] rfl ?_
              refine hc_lsc ?_ (ih _ (fun z hz => ?_) (fun j hj => ?_) (fun j hj => ?_))
              · simp only [lv_pick, dvL]
                simp [hS]
              · rw [← hL134, hc_u_row _ _ _ _ (fun q => hz (Or.inr q)), ← hL111, hc_u_row _ _ _ _ (fun q => hz (Or.inl q))]
                exact hL1 z hz
              · rw [← hL134, hc_u_row _ _ _ _ hne, ← hL111, hc_u_at]
                by_cases e : j = i
                · rw [if_pos e, e, hS]
                · rw [if_neg e]
                  exact hs1 j (by omega)
              · rw [← hL134, hc_u_at]
                by_cases e : j = i
                · rw [if_pos e, e, hT]
                · rw [if_neg e, ← hL111, hc_u_row _ _ _ _ (Ne.symm hne)]
                  exact hr1 j (by omega)
        · refine LW_lloadn 1 dX1_divide_79 rfl rfl ?_
          refine LW_aloadn 2 dX1_divide_80 rfl rfl ?_
          refine LW_iload 7 dX1_divide_81 rfl ?_
          refine LW_lald dX1_divide_83 hw hwy rfl (by omega) (Nat.le_of_ble_eq_true rfl) ?_
          rw [show L1 w i = wt i from (by rw [hL1 w (fun q => by rcases q with q | q; exact hw1 q; exact hw2 q)]; exact hwt i (by omega))]
          refine LW_lmul dX1_divide_84 ?_
          refine LW_goto (tgt := 89) dX1_divide_85 (by decide) ?_
          have hP : x * (wt i) = dvP x wt am i := by
            unfold dvP
            first | (rw [if_pos ⟨c69, Int64.not_le.mp c76⟩]; done) | (rw [if_neg (fun q => absurd q.2 (Int64.not_lt.mpr c76))]; done) | (rw [if_neg (fun q => absurd (c69.symm.trans q.1) (by decide))]; done)
          rw [hP]
          refine LW_lstore (ls' := [(0, .ref e), (1, .long x), (3, .ref w), (4, .ref m), (5, .ref sh), (6, .long (dvA wt am)), (8, .long (dvL x wt am i)), (10, .int (nI i)), (11, .long (dvP x wt am i))]) dX1_divide_89 (by decide) rfl ?_
          refine LW_aload 4 dX1_divide_91 rfl ?_
          refine LW_iload 7 dX1_divide_93 rfl ?_
          refine LW_lload 5 dX1_divide_95 rfl ?_
          refine LW_lconst (v := 0) dX1_divide_97 (by decide) ?_
          refine LW_lcmp dX1_divide_98 ?_
          refine LW_lif_le (tgt := 110) dX1_divide_99 (by decide) (fun c99 => ?_) (fun c99 => ?_)
          · refine LW_lconst (v := 0) dX1_divide_110 (by decide) ?_
            have hS : dvS x wt am i = 0 := by
              unfold dvS
              first | (rw [if_pos (Int64.not_le.mp c99)]; done) | (rw [if_neg (Int64.not_lt.mpr c99)]; done)
            refine LW_last dX1_divide_111 hsh hshy rfl (by omega) (Nat.le_of_ble_eq_true rfl) ?_
            generalize hL111 : hc_u L1 sh i 0 = L111
            refine LW_aloadn 0 dX1_divide_112 rfl rfl ?_
            refine gX1_10 dX1_divide_113 flX1_39 he hey heF ?_
            refine LW_iload 7 dX1_divide_116 rfl ?_
            refine LW_lload 5 dX1_divide_118 rfl ?_
            refine LW_lconst (v := 0) dX1_divide_120 (by decide) ?_
            refine LW_lcmp dX1_divide_121 ?_
            refine LW_lif_le (tgt := 133) dX1_divide_122 (by decide) (fun c122 => ?_) (fun c122 => ?_)
            · refine LW_lconst (v := 0) dX1_divide_133 (by decide) ?_
              have hT : dvT x wt am i = 0 := by
                unfold dvT
                first | (rw [if_pos (Int64.not_le.mp c122)]; done) | (rw [if_neg (Int64.not_lt.mpr c122)]; done)
              refine LW_last dX1_divide_134 hrs hrsy rfl (by omega) (Nat.le_of_ble_eq_true rfl) ?_
              generalize hL134 : hc_u L111 rs i 0 = L134
              refine LW_lload 6 dX1_divide_135 rfl ?_
              refine LW_aload 4 dX1_divide_137 rfl ?_
              refine LW_iload 7 dX1_divide_139 rfl ?_
              refine LW_lald dX1_divide_141 hsh hshy rfl (by omega) (Nat.le_of_ble_eq_true rfl) ?_
              rw [show L134 sh i = dvS x wt am i from (by rw [← hL134, hc_u_row _ _ _ _ hne, ← hL111, hc_u_at, if_pos rfl, hS])]
              refine LW_lsub dX1_divide_142 ?_
              refine LW_lstore (ls' := [(0, .ref e), (1, .long x), (3, .ref w), (4, .ref m), (5, .ref sh), (6, .long (dvA wt am)), (8, .long ((dvL x wt am i) - (dvS x wt am i))), (10, .int (nI i)), (11, .long (dvP x wt am i))]) dX1_divide_143 (by decide) rfl ?_
              refine LW_iinc (n := 7) (v := nI (i + 1)) (ls' := [(0, .ref e), (1, .long x), (3, .ref w), (4, .ref m), (5, .ref sh), (6, .long (dvA wt am)), (8, .long ((dvL x wt am i) - (dvS x wt am i))), (10, .int (nI (i + 1))), (11, .long (dvP x wt am i))]) dX1_divide_145 rfl (hc_inc _) (by decide) rfl ?_
              refine LW_goto (tgt := 57) dX1_divide_148 (by decide) ?_
              refine LW_ls [0, 1, 2, 3, 4, 5, 6, 7] rfl ?_
              refine hc_lsc ?_ (ih _ (fun z hz => ?_) (fun j hj => ?_) (fun j hj => ?_))
              · simp only [lv_pick, dvL]
                simp [hS]
              · rw [← hL134, hc_u_row _ _ _ _ (fun q => hz (Or.inr q)), ← hL111, hc_u_row _ _ _ _ (fun q => hz (Or.inl q))]
                exact hL1 z hz
              · rw [← hL134, hc_u_row _ _ _ _ hne, ← hL111, hc_u_at]
                by_cases e : j = i
                · rw [if_pos e, e, hS]
                · rw [if_neg e]
                  exact hs1 j (by omega)
              · rw [← hL134, hc_u_at]
                by_cases e : j = i
                · rw [if_pos e, e, hT]
                · rw [if_neg e, ← hL111, hc_u_row _ _ _ _ (Ne.symm hne)]
                  exact hr1 j (by omega)
            · refine LW_lload 8 dX1_divide_125 rfl ?_
              refine LW_lload 5 dX1_divide_127 rfl ?_
              refine LW_lrem dX1_divide_129 (fun q => absurd (Int64.not_le.mp c122) (by rw [q]; exact Int64.lt_irrefl)) ?_
              refine LW_goto (tgt := 134) dX1_divide_130 (by decide) ?_
              have hT : dvT x wt am i = (dvP x wt am i) - (dvP x wt am i) / (dvA wt am) * (dvA wt am) := by
                unfold dvT
                first | (rw [if_pos (Int64.not_le.mp c122)]; done) | (rw [if_neg (Int64.not_lt.mpr c122)]; done)
              refine LW_last dX1_divide_134 hrs hrsy rfl (by omega) (Nat.le_of_ble_eq_true rfl) ?_
              generalize hL134 : hc_u L111 rs i ((dvP x wt am i) - (dvP x wt am i) / (dvA wt am) * (dvA wt am)) = L134
              refine LW_lload 6 dX1_divide_135 rfl ?_
              refine LW_aload 4 dX1_divide_137 rfl ?_
              refine LW_iload 7 dX1_divide_139 rfl ?_
              refine LW_lald dX1_divide_141 hsh hshy rfl (by omega) (Nat.le_of_ble_eq_true rfl) ?_
              rw [show L134 sh i = dvS x wt am i from (by rw [← hL134, hc_u_row _ _ _ _ hne, ← hL111, hc_u_at, if_pos rfl, hS])]
              refine LW_lsub dX1_divide_142 ?_
              refine LW_lstore (ls' := [(0, .ref e), (1, .long x), (3, .ref w), (4, .ref m), (5, .ref sh), (6, .long (dvA wt am)), (8, .long ((dvL x wt am i) - (dvS x wt am i))), (10, .int (nI i)), (11, .long (dvP x wt am i))]) dX1_divide_143 (by decide) rfl ?_
              refine LW_iinc (n := 7) (v := nI (i + 1)) (ls' := [(0, .ref e), (1, .long x), (3, .ref w), (4, .ref m), (5, .ref sh), (6, .long (dvA wt am)), (8, .long ((dvL x wt am i) - (dvS x wt am i))), (10, .int (nI (i + 1))), (11, .long (dvP x wt am i))]) dX1_divide_145 rfl (hc_inc _) (by decide) rfl ?_
              refine LW_goto (tgt := 57) dX1_divide_148 (by decide) ?_
              refine LW_ls [0, 1, 2, 3, 4, 5, 6, 7] rfl ?_
              refine hc_lsc ?_ (ih _ (fun z hz => ?_) (fun j hj => ?_) (fun j hj => ?_))
              · simp only [lv_pick, dvL]
                simp [hS]
              · rw [← hL134, hc_u_row _ _ _ _ (fun q => hz (Or.inr q)), ← hL111, hc_u_row _ _ _ _ (fun q => hz (Or.inl q))]
                exact hL1 z hz
              · rw [← hL134, hc_u_row _ _ _ _ hne, ← hL111, hc_u_at]
                by_cases e : j = i
                · rw [if_pos e, e, hS]
                · rw [if_neg e]
                  exact hs1 j (by omega)
              · rw [← hL134, hc_u_at]
                by_cases e : j = i
                · rw [if_pos e, e, hT]
                · rw [if_neg e, ← hL111, hc_u_row _ _ _ _ (Ne.symm hne)]
                  exact hr1 j (by omega)
          · refine LW_lload 8 dX1_divide_102 rfl ?_
            refine LW_lload 5 dX1_divide_104 rfl ?_
            refine LW_ldiv dX1_divide_106 (fun q => absurd (Int64.not_le.mp c99) (by rw [q]; exact Int64.lt_irrefl)) ?_
            refine LW_goto (tgt := 111) dX1_divide_107 (by decide) ?_
            have hS : dvS x wt am i = (dvP x wt am i) / (dvA wt am) := by
              unfold dvS
              first | (rw [if_pos (Int64.not_le.mp c99)]; done) | (rw [if_neg (Int64.not_lt.mpr c99)]; done)
            refine LW_last dX1_divide_111 hsh hshy rfl (by omega) (Nat.le_of_ble_eq_true rfl) ?_
            generalize hL111 : hc_u L1 sh i ((dvP x wt am i) / (dvA wt am)) = L111
            refine LW_aloadn 0 dX1_divide_112 rfl rfl ?_
            refine gX1_10 dX1_divide_113 flX1_39 he hey heF ?_
            refine LW_iload 7 dX1_divide_116 rfl ?_
            refine LW_lload 5 dX1_divide_118 rfl ?_
            refine LW_lconst (v := 0) dX1_divide_120 (by decide) ?_
            refine LW_lcmp dX1_divide_121 ?_
            refine LW_lif_le (tgt := 133) dX1_divide_122 (by decide) (fun c122 => ?_) (fun c122 => ?_)
            · refine LW_lconst (v := 0) dX1_divide_133 (by decide) ?_
              have hT : dvT x wt am i = 0 := by
                unfold dvT
                first | (rw [if_pos (Int64.not_le.mp c122)]; done) | (rw [if_neg (Int64.not_lt.mpr c122)]; done)
              refine LW_last dX1_divide_134 hrs hrsy rfl (by omega) (Nat.le_of_ble_eq_true rfl) ?_
              generalize hL134 : hc_u L111 rs i 0 = L134
              refine LW_lload 6 dX1_divide_135 rfl ?_
              refine LW_aload 4 dX1_divide_137 rfl ?_
              refine LW_iload 7 dX1_divide_139 rfl ?_
              refine LW_lald dX1_divide_141 hsh hshy rfl (by omega) (Nat.le_of_ble_eq_true rfl) ?_
              rw [show L134 sh i = dvS x wt am i from (by rw [← hL134, hc_u_row _ _ _ _ hne, ← hL111, hc_u_at, if_pos rfl, hS])]
              refine LW_lsub dX1_divide_142 ?_
              refine LW_lstore (ls' := [(0, .ref e), (1, .long x), (3, .ref w), (4, .ref m), (5, .ref sh), (6, .long (dvA wt am)), (8, .long ((dvL x wt am i) - (dvS x wt am i))), (10, .int (nI i)), (11, .long (dvP x wt am i))]) dX1_divide_143 (by decide) rfl ?_
              refine LW_iinc (n := 7) (v := nI (i + 1)) (ls' := [(0, .ref e), (1, .long x), (3, .ref w), (4, .ref m), (5, .ref sh), (6, .long (dvA wt am)), (8, .long ((dvL x wt am i) - (dvS x wt am i))), (10, .int (nI (i + 1))), (11, .long (dvP x wt am i))]) dX1_divide_145 rfl (hc_inc _) (by decide) rfl ?_
              refine LW_goto (tgt := 57) dX1_divide_148 (by decide) ?_
              refine LW_ls [0, 1, 2, 3, 4, 5, 6, 7] rfl ?_
              refine hc_lsc ?_ (ih _ (fun z hz => ?_) (fun j hj => ?_) (fun j hj => ?_))
              · simp only [lv_pick, dvL]
                simp [hS]
              · rw [← hL134, hc_u_row _ _ _ _ (fun q => hz (Or.inr q)), ← hL111, hc_u_row _ _ _ _ (fun q => hz (Or.inl q))]
                exact hL1 z hz
              · rw [← hL134, hc_u_row _ _ _ _ hne, ← hL111, hc_u_at]
                by_cases e : j = i
                · rw [if_pos e, e, hS]
                · rw [if_neg e]
                  exact hs1 j (by omega)
              · rw [← hL134, hc_u_at]
                by_cases e : j = i
                · rw [if_pos e, e, hT]
                · rw [if_neg e, ← hL111, hc_u_row _ _ _ _ (Ne.symm hne)]
                  exact hr1 j (by omega)
            · refine LW_lload 8 dX1_divide_125 rfl ?_
              refine LW_lload 5 dX1_divide_127 rfl ?_
              refine LW_lrem dX1_divide_129 (fun q => absurd (Int64.not_le.mp c122) (by rw [q]; exact Int64.lt_irrefl)) ?_
              refine LW_goto (tgt := 134) dX1_divide_130 (by decide) ?_
              have hT : dvT x wt am i = (dvP x wt am i) - (dvP x wt am i) / (dvA wt am) * (dvA wt am) := by
                unfold dvT
                first | (rw [if_pos (Int64.not_le.mp c122)]; done) | (rw [if_neg (Int64.not_lt.mpr c122)]; done)
              refine LW_last dX1_divide_134 hrs hrsy rfl (by omega) (Nat.le_of_ble_eq_true rfl) ?_
              generalize hL134 : hc_u L111 rs i ((dvP x wt am i) - (dvP x wt am i) / (dvA wt am) * (dvA wt am)) = L134
              refine LW_lload 6 dX1_divide_135 rfl ?_
              refine LW_aload 4 dX1_divide_137 rfl ?_
              refine LW_iload 7 dX1_divide_139 rfl ?_
              refine LW_lald dX1_divide_141 hsh hshy rfl (by omega) (Nat.le_of_ble_eq_true rfl) ?_
              rw [show L134 sh i = dvS x wt am i from (by rw [← hL134, hc_u_row _ _ _ _ hne, ← hL111, hc_u_at, if_pos rfl, hS])]
              refine LW_lsub dX1_divide_142 ?_
              refine LW_lstore (ls' := [(0, .ref e), (1, .long x), (3, .ref w), (4, .ref m), (5, .ref sh), (6, .long (dvA wt am)), (8, .long ((dvL x wt am i) - (dvS x wt am i))), (10, .int (nI i)), (11, .long (dvP x wt am i))]) dX1_divide_143 (by decide) rfl ?_
              refine LW_iinc (n := 7) (v := nI (i + 1)) (ls' := [(0, .ref e), (1, .long x), (3, .ref w), (4, .ref m), (5, .ref sh), (6, .long (dvA wt am)), (8, .long ((dvL x wt am i) - (dvS x wt am i))), (10, .int (nI (i + 1))), (11, .long (dvP x wt am i))]) dX1_divide_145 rfl (hc_inc _) (by decide) rfl ?_
              refine LW_goto (tgt := 57) dX1_divide_148 (by decide) ?_
              refine LW_ls [0, 1, 2, 3, 4, 5, 6, 7] rfl ?_
              refine hc_lsc ?_ (ih _ (fun z hz => ?_) (fun j hj => ?_) (fun j hj => ?_))
              · simp only [lv_pick, dvL]
                simp [hS]
              · rw [← hL134, hc_u_row _ _ _ _ (fun q => hz (Or.inr q)), ← hL111, hc_u_row _ _ _ _ (fun q => hz (Or.inl q))]
                exact hL1 z hz
              · rw [← hL134, hc_u_row _ _ _ _ hne, ← hL111, hc_u_at]
                by_cases e : j = i
                · rw [if_pos e, e, hS]
                · rw [if_neg e]
                  exact hs1 j (by omega)
              · rw [← hL134, hc_u_at]
                by_cases e : j = i
                · rw [if_pos e, e, hT]
                · rw [if_neg e, ← hL111, hc_u_row _ _ _ _ (Ne.symm hne)]
                  exact hr1 j (by omega)
  have loop : ∀ i, i ≤ 12 → LW xX1_divide (0, 0) 6 [(0, .ref e), (1, .long x), (3, .ref w), (4, .ref m), (5, .ref sh), (6, .long (sumJ (dvW wt am) i)), (8, .int (nI i))] [] Λ I L R (Qd sh rs (dv x wt am) Λ I L R) := by
    refine hc_down ?_ ?_
    · refine LW_iload 6 dX1_divide_6 rfl ?_
      refine LW_bipush (v := 12) dX1_divide_8 (by decide) ?_
      refine LW_icmp_ge (tgt := 40) dX1_divide_10 (by decide) (fun c10 => ?_) (fun c10 => absurd (Int32.le_refl _) c10)
      refine LW_lload 5 dX1_divide_40 rfl ?_
      refine LW_lconst (v := 0) dX1_divide_42 (by decide) ?_
      refine LW_lcmp dX1_divide_43 ?_
      refine LW_lif_le (tgt := 51) dX1_divide_44 (by decide) (fun c44 => ?_) (fun c44 => ?_)
      · refine LW_lconst (v := 0) dX1_divide_51 (by decide) ?_
        refine LW_lstore (ls' := [(0, .ref e), (1, .long x), (3, .ref w), (4, .ref m), (5, .ref sh), (6, .long (sumJ (dvW wt am) 12)), (8, .long 0)]) dX1_divide_52 (by decide) rfl ?_
        refine LW_iconst (v := 0) dX1_divide_54 (by decide) ?_
        refine LW_istore (ls' := [(0, .ref e), (1, .long x), (3, .ref w), (4, .ref m), (5, .ref sh), (6, .long (sumJ (dvW wt am) 12)), (8, .long 0), (10, .int 0)]) dX1_divide_55 (by decide) rfl ?_
        exact hc_lsc (by simp only [dvL]; first | (rw [show (if 0 < dvA wt am then x else 0) = x from if_pos (Int64.not_le.mp c44)]; rfl) | (rw [show (if 0 < dvA wt am then x else 0) = 0 from if_neg (Int64.not_lt.mpr c44)]; rfl)) (loop2 0 (Nat.zero_le _) L (fun _ _ => rfl) (fun j hj => absurd hj (Nat.not_lt_zero _)) (fun j hj => absurd hj (Nat.not_lt_zero _)))
      · refine LW_lloadn 1 dX1_divide_47 rfl rfl ?_
        refine LW_goto (tgt := 52) dX1_divide_48 (by decide) ?_
        refine LW_lstore (ls' := [(0, .ref e), (1, .long x), (3, .ref w), (4, .ref m), (5, .ref sh), (6, .long (sumJ (dvW wt am) 12)), (8, .long x)]) dX1_divide_52 (by decide) rfl ?_
        refine LW_iconst (v := 0) dX1_divide_54 (by decide) ?_
        refine LW_istore (ls' := [(0, .ref e), (1, .long x), (3, .ref w), (4, .ref m), (5, .ref sh), (6, .long (sumJ (dvW wt am) 12)), (8, .long x), (10, .int 0)]) dX1_divide_55 (by decide) rfl ?_
        exact hc_lsc (by simp only [dvL]; first | (rw [show (if 0 < dvA wt am then x else 0) = x from if_pos (Int64.not_le.mp c44)]; rfl) | (rw [show (if 0 < dvA wt am then x else 0) = 0 from if_neg (Int64.not_lt.mpr c44)]; rfl)) (loop2 0 (Nat.zero_le _) L (fun _ _ => rfl) (fun j hj => absurd hj (Nat.not_lt_zero _)) (fun j hj => absurd hj (Nat.not_lt_zero _)))
    · intro i hi ih
      refine LW_iload 6 dX1_divide_6 rfl ?_
      refine LW_bipush (v := 12) dX1_divide_8 (by decide) ?_
      refine LW_icmp_ge (tgt := 40) dX1_divide_10 (by decide) (fun c10 => absurd c10 (hc_nle (by decide) (by omega) hi)) (fun c10 => ?_)
      refine LW_lload 5 dX1_divide_13 rfl ?_
      refine LW_aload 3 dX1_divide_15 rfl ?_
      refine LW_iload 6 dX1_divide_17 rfl ?_
      refine LW_zald dX1_divide_19 hm hmy rfl (by omega) (Nat.le_of_ble_eq_true rfl) ?_
      rw [show I m i = hc_b (am i) from hma i (by omega)]
      refine LW_bif_eq (tgt := 30) dX1_divide_20 (by decide) (fun c20 => ?_) (fun c20 => ?_)
      · refine LW_lconst (v := 0) dX1_divide_30 (by decide) ?_
        refine LW_ladd dX1_divide_31 ?_
        refine LW_lstore (ls' := [(0, .ref e), (1, .long x), (3, .ref w), (4, .ref m), (5, .ref sh), (6, .long ((sumJ (dvW wt am) i) + 0)), (8, .int (nI i))]) dX1_divide_32 (by decide) rfl ?_
        refine LW_iinc (n := 6) (v := nI (i + 1)) (ls' := [(0, .ref e), (1, .long x), (3, .ref w), (4, .ref m), (5, .ref sh), (6, .long ((sumJ (dvW wt am) i) + 0)), (8, .int (nI (i + 1)))]) dX1_divide_34 rfl (hc_inc _) (by decide) rfl ?_
        refine LW_goto (tgt := 6) dX1_divide_37 (by decide) ?_
        exact hc_lsc (by simp [sumJ, dvW, c20]) ih
      · refine LW_aloadn 2 dX1_divide_23 rfl rfl ?_
        refine LW_iload 6 dX1_divide_24 rfl ?_
        refine LW_lald dX1_divide_26 hw hwy rfl (by omega) (Nat.le_of_ble_eq_true rfl) ?_
        rw [show L w i = wt i from hwt i (by omega)]
        refine LW_goto (tgt := 31) dX1_divide_27 (by decide) ?_
        refine LW_ladd dX1_divide_31 ?_
        refine LW_lstore (ls' := [(0, .ref e), (1, .long x), (3, .ref w), (4, .ref m), (5, .ref sh), (6, .long ((sumJ (dvW wt am) i) + (wt i))), (8, .int (nI i))]) dX1_divide_32 (by decide) rfl ?_
        refine LW_iinc (n := 6) (v := nI (i + 1)) (ls' := [(0, .ref e), (1, .long x), (3, .ref w), (4, .ref m), (5, .ref sh), (6, .long ((sumJ (dvW wt am) i) + (wt i))), (8, .int (nI (i + 1)))]) dX1_divide_34 rfl (hc_inc _) (by decide) rfl ?_
        refine LW_goto (tgt := 6) dX1_divide_37 (by decide) ?_
        exact hc_lsc (by simp [sumJ, dvW, c20]) ih
  exact loop 0 (Nat.zero_le _)
