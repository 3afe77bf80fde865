/-! the reference: the tape -/
theorem MW.tape {Λ : hc_L} {I I' : hc_I} {L : hc_J} {S : HS} (h : MW Λ I L S) {n : Nat} {B : Nat → Nat} (hn : n ≤ 700) (hI : ∀ z, z ≠ 217 → z ≠ 227 → I' z = I z) (hJ : ∀ j, j ≠ 20 → I' 217 j = I 217 j) (h20 : I' 217 20 = nI n) (h27 : ∀ j, j < n → I' 227 j = nI (B j) ∧ B j < 256) : MW Λ I' L (sTape S n B) := by
  obtain ⟨m, l, r, nm, ⟨c1, c2, c3⟩, -, f1, f2⟩ := h
  refine ⟨m.kp rfl (hI 221 (by decide) (by decide)) (hI 222 (by decide) (by decide)) (hI 223 (by decide) (by decide)) (hJ 35 (by decide)), l.kp (hJ 10 (by decide)) (hI 226 (by decide) (by decide)) rfl, ?_, nm, ⟨(hJ 2 (by decide)).trans c1, c2, c3⟩, ⟨h20, hn, h27⟩, (hJ 21 (by decide)).trans f1, (hJ 22 (by decide)).trans f2⟩
  rw [hI 224 (by decide) (by decide)]; exact r
theorem MPost.tape {v v' : Option Value} {Λ : hc_L} {I I' : hc_I} {L : hc_J} {R : hc_R} {S : HS} (h : MW Λ I L S) {n : Nat} {B : Nat → Nat} (hn : n ≤ 700) (hI : ∀ z, z ≠ 217 → z ≠ 227 → I' z = I z) (hJ : ∀ j, j ≠ 20 → I' 217 j = I 217 j) (h20 : I' 217 20 = nI n) (h27 : ∀ j, j < n → I' 227 j = nI (B j) ∧ B j < 256) (hv : v' = v) : MPost v (sTape S n B) Λ I L R v' Λ I' L R :=
  ⟨hv, rfl, rfl, fun z hz => hI z (fun e => hz ⟨by omega, by omega⟩) (fun e => hz ⟨by omega, by omega⟩), fun _ _ => rfl, h.tape hn hI hJ h20 h27⟩
def F4 (n : Nat) (y : Int32) (Λ : hc_L) (I : hc_I) (L : hc_J) (R : hc_R) : hc_Q := fun r Λ' I' L' R' => r = none ∧ Λ = Λ' ∧ L = L' ∧ R = R' ∧ (∀ z, z ≠ 217 → z ≠ 227 → I' z = I z) ∧ (∀ j, j ≠ 20 → I' 217 j = I 217 j) ∧ I' 217 20 = nI (n + 4) ∧ ∀ j, I' 227 j = if n ≤ j ∧ j < n + 4 then nI (byN y (j - n)) else I 227 j
theorem T4 {I I' : hc_I} {m : Nat} {B : Nat → Nat} {y : Int32} (h : ∀ j, j < m → I 227 j = nI (B j) ∧ B j < 256) (h2 : ∀ j, I' 227 j = if m ≤ j ∧ j < m + 4 then nI (byN y (j - m)) else I 227 j) : ∀ j, j < m + 4 → I' 227 j = nI (fd4 B m y j) ∧ fd4 B m y j < 256 := fun j hj => by
  rw [h2]
  unfold fd4
  by_cases c : m ≤ j ∧ j < m + 4
  · rw [if_pos c, if_pos c]; exact ⟨rfl, (byN_sb y (j - m)).1⟩
  · rw [if_neg c, if_neg c]; exact h j (by omega)
set_option maxRecDepth 100000 in
theorem m_end {Λ : hc_L} {I : hc_I} {L : hc_J} {R : hc_R} {S : HS} (hW : MW Λ I L S) (x : Int32) : Run xX11_end [.ref 217, .int x] Λ I L R (MPost (some (.int (hc_b (qEndB S x)))) (nEnd S x) Λ I L R) := by
  refine Run.of (by decide +kernel) (Nat.le_of_ble_eq_true rfl) ?_
  show LW _ _ _ [(0, .ref 217), (1, .int x)] _ _ _ _ _ _
  have hM := hW.m
  have hP := hW.l
  have hY := hM.y
  have n7 := hW.n7
  refine LW_iloadn 1 dX11_end_0 rfl rfl ?_
  refine LW_i2l dX11_end_1 ?_
  refine LW_lconst (v := 0) dX11_end_2 (by decide) ?_
  refine LW_aloadn 0 dX11_end_3 rfl rfl ?_
  refine gX11_20 dX11_end_4 flX11_119 (hY.lt (k := 217) (by decide)) (ly217 hY) ?_
  rw [show I 217 20 = nI (sN S) from hW.t]
  refine LW_i2l dX11_end_7 ?_
  rw [show (nI (sN S)).toInt64 = lN (sN S) from (nI_l (by omega))]
  refine LW_callS (As := [.long x.toInt64, .long 0, .long (lN (sN S))]) (st := []) (r_isIn (x.toInt64) 0 (lN (sN S))) YX11_isIn rfl dX11_end_8 mlX11_126 (by decide) ⟨Nat.le_of_ble_eq_true rfl, Nat.le_of_ble_eq_true rfl⟩ (Nat.le_of_ble_eq_true rfl) rfl (fun r8 Λc8 Ic8 Lc8 Rc8 hq8 => ?_)
  obtain ⟨rfl, rfl, rfl, rfl, rfl⟩ := hq8
  refine LW_bif_ne (tgt := 16) dX11_end_11 (by decide) (fun c11 => ?_) (fun c11 => ?_)
  · refine LW_aloadn 0 dX11_end_16 rfl rfl ?_
    refine LW_iloadn 1 dX11_end_17 rfl rfl ?_
    refine pX11_20 dX11_end_18 flX11_119 (hY.lt (k := 217) (by decide)) (ly217 hY) ?_
    generalize hI18 : hc_u I 217 20 x = I18
    refine LW_iconst (v := 1) dX11_end_21 (by decide) ?_
    refine LW_zret dX11_end_22 rfl (Nat.le_of_ble_eq_true rfl) (Nat.le_of_ble_eq_true rfl) (Or.inr rfl) ?_
    have hb : qEndB S x = true := by unfold qEndB; rw [← lIn_i (by omega)]; exact c11
    obtain ⟨k, hk, rfl⟩ := lIn_k (by omega) c11
    rw [show nEnd S (nI k) = sTape S k (sB S) from by unfold nEnd; rw [if_pos hb, hc_cl (by omega)]]
    exact MPost.tape hW (by omega) (fun z z1 _ => by rw [← hI18, hc_u_row _ _ _ _ z1]) (fun j hj => by rw [← hI18, hc_u_at, if_neg hj]) (by rw [← hI18, hc_u_at, if_pos rfl]) (fun j hj => by rw [← hI18, hc_u_row _ _ _ _ (by decide)]; exact hW.2.2.2.2.2.1.2.2 j (by omega)) (by rw [hb]; rfl)
  · refine LW_iconst (v := 0) dX11_end_14 (by decide) ?_
    refine LW_zret dX11_end_15 rfl (Nat.le_of_ble_eq_true rfl) (Nat.le_of_ble_eq_true rfl) (Or.inl rfl) ?_
    have hb : qEndB S x = false := by unfold qEndB; rw [← lIn_i (by omega)]; exact c11
    rw [show nEnd S x = S from if_neg (by rw [hb]; decide)]
    exact MPost.r hW (by rw [hb]; rfl)
set_option maxRecDepth 100000 in
theorem r_four {Λ : hc_L} {I : hc_I} {L : hc_J} {R : hc_R} {n : Nat} (hY : LY Λ) (hn : n + 4 ≤ 700) (h20 : I 217 20 = nI n) (y : Int32) : Run xX11_four [.ref 217, .int y] Λ I L R (F4 n y Λ I L R) := by
  refine Run.of (by decide +kernel) (Nat.le_of_ble_eq_true rfl) ?_
  show LW _ _ _ [(0, .ref 217), (1, .int y)] _ _ _ _ _ _
  have loop : ∀ i, i ≤ 4 → ∀ I2 : hc_I, (∀ z, z ≠ 217 → z ≠ 227 → I2 z = I z) → (∀ j, j ≠ 20 → I2 217 j = I 217 j) → I2 217 20 = nI (n + i) → (∀ j, I2 227 j = if n ≤ j ∧ j < n + i then nI (byN y (j - n)) else I 227 j) → LW xX11_four (0, 0) 3 [(0, .ref 217), (1, .int y), (2, .int (tsh i))] [] Λ I2 L R (F4 n y Λ I L R) := by
    refine hc_down ?_ ?_
    · intro I2 q1 q2 q3 q4
      refine LW_iloadn 2 dX11_four_3 rfl rfl ?_
      refine LW_if_lt (tgt := 39) dX11_four_4 (by decide) (fun c4 => ?_) (fun c4 => absurd (show tsh 4 < 0 by decide) c4)
      refine LW_vret dX11_four_39 rfl (Nat.le_of_ble_eq_true rfl) (Nat.le_of_ble_eq_true rfl) ?_
      exact ⟨rfl, rfl, rfl, rfl, q1, q2, q3, q4⟩
    · intro i hi ih I2 q1 q2 q3 q4
      refine LW_iloadn 2 dX11_four_3 rfl rfl ?_
      refine LW_if_lt (tgt := 39) dX11_four_4 (by decide) (fun c4 => absurd c4 (tsh_n hi)) (fun c4 => ?_)
      refine LW_aloadn 0 dX11_four_7 rfl rfl ?_
      refine gX11_19 dX11_four_8 flX11_40 (hY.lt (k := 217) (by decide)) (ly217 hY) (lf217_19 hY) ?_
      refine LW_aloadn 0 dX11_four_11 rfl rfl ?_
      refine gX11_20 dX11_four_12 flX11_119 (hY.lt (k := 217) (by decide)) (ly217 hY) ?_
      rw [show I2 217 20 = nI (n + i) from q3]
      refine LW_iloadn 1 dX11_four_15 rfl rfl ?_
      refine LW_iloadn 2 dX11_four_16 rfl rfl ?_
      refine LW_ishr dX11_four_17 ?_
      refine LW_sipush (v := 255) dX11_four_18 (by decide) ?_
      refine LW_iand dX11_four_21 ?_
      rw [show ((y >>> ((tsh i) &&& 31)) &&& 255) = nI (byN y i) from (byN_sb y i).2.2]
      refine LW_iast dX11_four_22 (hY.lt (k := 227) (by decide)) (ly227 hY) rfl (by omega) (Nat.le_of_ble_eq_true rfl) ?_
      generalize hI22 : hc_u I2 227 (n + i) (nI (byN y i)) = I22
      refine LW_aloadn 0 dX11_four_23 rfl rfl ?_
      refine LW_dup dX11_four_24 rfl ?_
      refine gX11_20 dX11_four_25 flX11_119 (hY.lt (k := 217) (by decide)) (ly217 hY) ?_
      rw [show I22 217 20 = nI (n + i) from (by rw [← hI22, hc_u_row _ _ _ _ (by decide)]; exact q3)]
      refine LW_iconst (v := 1) dX11_four_28 (by decide) ?_
      refine LW_iadd dX11_four_29 ?_
      rw [show ((nI (n + i)) + 1) = nI (n + i + 1) from (nI_add _ 1)]
      refine pX11_20 dX11_four_30 flX11_119 (hY.lt (k := 217) (by decide)) (ly217 hY) ?_
      generalize hI30 : hc_u I22 217 20 (nI (n + i + 1)) = I30
      refine LW_iinc (n := 2) (v := tsh (i + 1)) (ls' := [(0, .ref 217), (1, .int y), (2, .int (tsh (i + 1)))]) dX11_four_33 rfl (tsh_s i) (by decide) rfl ?_
      refine LW_goto (tgt := 3) dX11_four_36 (by decide) ?_
      exact ih I30 (fun z z1 z2 => by rw [← hI30, hc_u_row _ _ _ _ z1, ← hI22, hc_u_row _ _ _ _ z2]; exact q1 z z1 z2) (fun j hj => by rw [← hI30, hc_u_at, if_neg hj, ← hI22, hc_u_row _ _ _ _ (by decide)]; exact q2 j hj) (by rw [← hI30, hc_u_at, if_pos rfl]; rfl) (fun j => by
        rw [← hI30, hc_u_row _ _ _ _ (by decide), ← hI22, hc_u_at, q4 j]
        by_cases c : j = n + i
        · rw [if_pos c, if_pos ⟨by omega, by omega⟩, show j - n = i by omega]
        · rw [if_neg c]
          by_cases d : n ≤ j ∧ j < n + i
          · rw [if_pos d, if_pos ⟨d.1, by omega⟩]
          · rw [if_neg d, if_neg (by omega)])
  refine LW_bipush (v := 24) dX11_four_0 (by decide) ?_
  refine LW_istoren (ls' := [(0, .ref 217), (1, .int y), (2, .int 24)]) dX11_four_2 rfl (by decide) rfl ?_
  refine LW_ls (ls' := [(0, .ref 217), (1, .int y), (2, .int 24)]) [0, 1, 2] rfl ?_
  exact loop 0 (Nat.zero_le _) I (fun _ _ _ => rfl) (fun _ _ => rfl) h20 (fun j => by rw [if_neg (by omega)])
set_option maxRecDepth 100000 in
theorem m_feed {Λ : hc_L} {I : hc_I} {L : hc_J} {R : hc_R} {S : HS} (hW : MW Λ I L S) (a b c d e : Int32) : Run xX11_feed [.ref 217, .int a, .int b, .int c, .int d, .int e] Λ I L R (MPost (some (.int (qFeed S))) (nFeed S a b c d e) Λ I L R) := by
  refine Run.of (by decide +kernel) (Nat.le_of_ble_eq_true rfl) ?_
  show LW _ _ _ [(0, .ref 217), (1, .int a), (2, .int b), (3, .int c), (4, .int d), (5, .int e)] _ _ _ _ _ _
  have hM := hW.m
  have hP := hW.l
  have hY := hM.y
  have n7 := hW.n7
  refine LW_aloadn 0 dX11_feed_0 rfl rfl ?_
  refine gX11_20 dX11_feed_1 flX11_119 (hY.lt (k := 217) (by decide)) (ly217 hY) ?_
  rw [show I 217 20 = nI (sN S) from hW.t]
  refine LW_bipush (v := 20) dX11_feed_4 (by decide) ?_
  refine LW_iadd dX11_feed_6 ?_
  rw [show ((nI (sN S)) + 20) = nI (sN S + 20) from (nI_add _ 20)]
  refine LW_sipush (v := 700) dX11_feed_7 (by decide) ?_
  refine LW_icmp_le (tgt := 15) dX11_feed_10 (by decide) (fun c10 => ?_) (fun c10 => ?_)
  · have h20 : sN S + 20 ≤ 700 := (hc_le (a := sN S + 20) (b := 700) (by omega) (by decide)).mp c10
    refine LW_aloadn 0 dX11_feed_15 rfl rfl ?_
    refine LW_iloadn 1 dX11_feed_16 rfl rfl ?_
    refine LW_callV (As := [.int a]) (b := 217) (st := []) (ci := 11) (r := (RX11, TX11, 44)) (r_four hY (n := (sN S)) (by omega) hW.t a) YX11_four rfl dX11_feed_17 mlX11_122 (hY.lt (k := 217) (by decide)) (ly217 hY) ⟨rfl, rfl⟩ (by decide) ⟨Nat.le_of_ble_eq_true rfl, Nat.le_of_ble_eq_true rfl⟩ (Nat.le_of_ble_eq_true rfl) rfl (fun r17 Λc17 Ic17 Lc17 Rc17 hq17 => ?_)
    obtain ⟨rfl, rfl, rfl, rfl, hI17, hJ17, hP17, hT17⟩ := hq17
    have t17 := T4 hW.2.2.2.2.2.1.2.2 hT17
    refine LW_aloadn 0 dX11_feed_20 rfl rfl ?_
    refine LW_iloadn 2 dX11_feed_21 rfl rfl ?_
    refine LW_callV (As := [.int b]) (b := 217) (st := []) (ci := 11) (r := (RX11, TX11, 44)) (r_four hY (n := (sN S + 4)) (by omega) hP17 b) YX11_four rfl dX11_feed_22 mlX11_122 (hY.lt (k := 217) (by decide)) (ly217 hY) ⟨rfl, rfl⟩ (by decide) ⟨Nat.le_of_ble_eq_true rfl, Nat.le_of_ble_eq_true rfl⟩ (Nat.le_of_ble_eq_true rfl) rfl (fun r22 Λc22 Ic22 Lc22 Rc22 hq22 => ?_)
    obtain ⟨rfl, rfl, rfl, rfl, hI22, hJ22, hP22, hT22⟩ := hq22
    have t22 := T4 t17 hT22
    refine LW_aloadn 0 dX11_feed_25 rfl rfl ?_
    refine LW_iloadn 3 dX11_feed_26 rfl rfl ?_
    refine LW_callV (As := [.int c]) (b := 217) (st := []) (ci := 11) (r := (RX11, TX11, 44)) (r_four hY (n := (sN S + 8)) (by omega) hP22 c) YX11_four rfl dX11_feed_27 mlX11_122 (hY.lt (k := 217) (by decide)) (ly217 hY) ⟨rfl, rfl⟩ (by decide) ⟨Nat.le_of_ble_eq_true rfl, Nat.le_of_ble_eq_true rfl⟩ (Nat.le_of_ble_eq_true rfl) rfl (fun r27 Λc27 Ic27 Lc27 Rc27 hq27 => ?_)
    obtain ⟨rfl, rfl, rfl, rfl, hI27, hJ27, hP27, hT27⟩ := hq27
    have t27 := T4 t22 hT27
    refine LW_aloadn 0 dX11_feed_30 rfl rfl ?_
    refine LW_iload 4 dX11_feed_31 rfl ?_
    refine LW_callV (As := [.int d]) (b := 217) (st := []) (ci := 11) (r := (RX11, TX11, 44)) (r_four hY (n := (sN S + 12)) (by omega) hP27 d) YX11_four rfl dX11_feed_33 mlX11_122 (hY.lt (k := 217) (by decide)) (ly217 hY) ⟨rfl, rfl⟩ (by decide) ⟨Nat.le_of_ble_eq_true rfl, Nat.le_of_ble_eq_true rfl⟩ (Nat.le_of_ble_eq_true rfl) rfl (fun r33 Λc33 Ic33 Lc33 Rc33 hq33 => ?_)
    obtain ⟨rfl, rfl, rfl, rfl, hI33, hJ33, hP33, hT33⟩ := hq33
    have t33 := T4 t27 hT33
    refine LW_aloadn 0 dX11_feed_36 rfl rfl ?_
    refine LW_iload 5 dX11_feed_37 rfl ?_
    refine LW_callV (As := [.int e]) (b := 217) (st := []) (ci := 11) (r := (RX11, TX11, 44)) (r_four hY (n := (sN S + 16)) (by omega) hP33 e) YX11_four rfl dX11_feed_39 mlX11_122 (hY.lt (k := 217) (by decide)) (ly217 hY) ⟨rfl, rfl⟩ (by decide) ⟨Nat.le_of_ble_eq_true rfl, Nat.le_of_ble_eq_true rfl⟩ (Nat.le_of_ble_eq_true rfl) rfl (fun r39 Λc39 Ic39 Lc39 Rc39 hq39 => ?_)
    obtain ⟨rfl, rfl, rfl, rfl, hI39, hJ39, hP39, hT39⟩ := hq39
    have t39 := T4 t33 hT39
    refine LW_aloadn 0 dX11_feed_42 rfl rfl ?_
    refine gX11_20 dX11_feed_43 flX11_119 (hY.lt (k := 217) (by decide)) (ly217 hY) ?_
    rw [show Ic39 217 20 = nI (sN S + 20) from hP39]
    refine LW_iret dX11_feed_46 rfl (Nat.le_of_ble_eq_true rfl) (Nat.le_of_ble_eq_true rfl) ?_
    rw [show nFeed S a b c d e = sTape S (sN S + 20) (fd20 (sB S) (sN S) a b c d e) from if_pos h20]
    exact MPost.tape hW h20 (fun z z1 z2 => by rw [hI39 z z1 z2, hI33 z z1 z2, hI27 z z1 z2, hI22 z z1 z2, hI17 z z1 z2]) (fun j hj => by rw [hJ39 j hj, hJ33 j hj, hJ27 j hj, hJ22 j hj, hJ17 j hj]) hP39 t39 (by unfold qFeed; rw [if_pos h20])
  · refine LW_iconst (v := -1) dX11_feed_13 (by decide) ?_
    refine LW_iret dX11_feed_14 rfl (Nat.le_of_ble_eq_true rfl) (Nat.le_of_ble_eq_true rfl) ?_
    have h20 : ¬ sN S + 20 ≤ 700 := fun z => c10 ((hc_le (a := sN S + 20) (b := 700) (by omega) (by decide)).mpr z)
    rw [show nFeed S a b c d e = S from if_neg h20]
    exact MPost.r hW (by unfold qFeed; rw [if_neg h20])
