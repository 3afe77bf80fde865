/-! the reference: packed -/
def cN (i n : Nat) : Nat := (chV i n).toNatClampNeg
def pkS (i : Nat) : Nat → Nat
  | 0 => 0
  | k + 1 => pkS i k * 32 + (cN i k - 96)
theorem chV_ok : ∀ i, 1 ≤ i → i < 19 → hc_len.getD i 0 ≤ 7 ∧ ∀ n, n < hc_len.getD i 0 → chV i n = nI (cN i n) ∧ 97 ≤ cN i n ∧ cN i n ≤ 122 ∧ Jvm.narrow .char (.int (chV i n)) = .int (chV i n) := by
  have h : ∀ i, i < 19 → 1 ≤ i → hc_len.getD i 0 ≤ 7 ∧ ∀ n, n < hc_len.getD i 0 → chV i n = nI (cN i n) ∧ 97 ≤ cN i n ∧ cN i n ≤ 122 ∧ Jvm.narrow .char (.int (chV i n)) = .int (chV i n) := by decide +kernel
  exact fun i h1 h2 => h i h2 h1
theorem pkS_lt : ∀ i, 1 ≤ i → i < 19 → ∀ k, k ≤ hc_len.getD i 0 → pkS i k < 2 ^ 40 := by
  have h : ∀ i, i < 19 → 1 ≤ i → ∀ k, k < hc_len.getD i 0 + 1 → pkS i k < 2 ^ 40 := by decide +kernel
  exact fun i h1 h2 k hk => h i h2 h1 k (by omega)
set_option maxRecDepth 100000 in
theorem r_mPacked {i : Nat} (h1 : 1 ≤ i) (hi : i < 19) {Λ : hc_L} {I : hc_I} {L : hc_J} {R : hc_R} : Run xX11_packed [.ref (1000000 + i)] Λ I L R (Qr (some (.long (lN (pkS i (hc_len.getD i 0))))) Λ I L R) := by
  refine Run.of (by decide +kernel) (Nat.le_of_ble_eq_true rfl) ?_
  show LW _ _ _ [(0, .ref (1000000 + i))] _ _ _ _ _ _
  obtain ⟨hlen, hch⟩ := chV_ok i h1 hi
  have loop : ∀ k, k ≤ hc_len.getD i 0 → LW xX11_packed (0, 0) 4 [(0, .ref (1000000 + i)), (1, .long (lN (pkS i k))), (3, .int (nI k))] [] Λ I L R (Qr (some (.long (lN (pkS i (hc_len.getD i 0))))) Λ I L R) := by
    refine hc_down ?_ ?_
    · refine LW_iloadn 2 dX11_packed_4 rfl rfl ?_
      refine LW_aloadn 0 dX11_packed_5 rfl rfl ?_
      refine LW_callT (As := []) (b := i) (st := [.int (nI (hc_len.getD i 0))]) (by omega) (r_slength hi) YJ0_length_8abf5 rfl dX11_packed_6 mlX11_167 rfl (by decide) ⟨Nat.le_of_ble_eq_true rfl, Nat.le_of_ble_eq_true rfl⟩ (Nat.le_of_ble_eq_true rfl) rfl (fun r6 Λc6 Ic6 Lc6 Rc6 hq6 => ?_)
      obtain ⟨rfl, rfl, rfl, rfl, rfl⟩ := hq6
      refine LW_icmp_ge (tgt := 32) dX11_packed_9 (by decide) (fun c9 => ?_) (fun c9 => absurd (Int32.le_refl _) c9)
      refine LW_lloadn 1 dX11_packed_32 rfl rfl ?_
      refine LW_lret dX11_packed_33 rfl (Nat.le_of_ble_eq_true rfl) (Nat.le_of_ble_eq_true rfl) ?_
      exact Qr.mk rfl
    · intro k hk ih
      obtain ⟨e1, e2, e3, e4⟩ := hch k hk
      have hlt := pkS_lt i h1 hi k (Nat.le_of_lt hk)
      refine LW_iloadn 2 dX11_packed_4 rfl rfl ?_
      refine LW_aloadn 0 dX11_packed_5 rfl rfl ?_
      refine LW_callT (As := []) (b := i) (st := [.int (nI k)]) (by omega) (r_slength hi) YJ0_length_8abf5 rfl dX11_packed_6 mlX11_167 rfl (by decide) ⟨Nat.le_of_ble_eq_true rfl, Nat.le_of_ble_eq_true rfl⟩ (Nat.le_of_ble_eq_true rfl) rfl (fun r6 Λc6 Ic6 Lc6 Rc6 hq6 => ?_)
      obtain ⟨rfl, rfl, rfl, rfl, rfl⟩ := hq6
      refine LW_icmp_ge (tgt := 32) dX11_packed_9 (by decide) (fun c9 => absurd c9 (hc_nle (a := hc_len.getD i 0) (b := k) (by omega) (by omega) hk)) (fun c9 => ?_)
      refine LW_lloadn 1 dX11_packed_12 rfl rfl ?_
      refine LW_iconst (v := 5) dX11_packed_13 (by decide) ?_
      refine LW_lshl dX11_packed_14 ?_
      refine LW_aloadn 0 dX11_packed_15 rfl rfl ?_
      refine LW_iloadn 2 dX11_packed_16 rfl rfl ?_
      refine LW_callT (As := [.int (nI k)]) (b := i) (st := [.long ((lN (pkS i k)) <<< ((5 : Int32).toInt64 &&& 63))]) (by omega) (r_schar hi hk (by omega) e4) YJ0_charAt_5068e rfl dX11_packed_17 mlX11_173 rfl (by decide) ⟨Nat.le_of_ble_eq_true rfl, Nat.le_of_ble_eq_true rfl⟩ (Nat.le_of_ble_eq_true rfl) rfl (fun r17 Λc17 Ic17 Lc17 Rc17 hq17 => ?_)
      obtain ⟨rfl, rfl, rfl, rfl, rfl⟩ := hq17
      rw [e1]
      refine LW_bipush (v := 96) dX11_packed_20 (by decide) ?_
      refine LW_isub dX11_packed_22 ?_
      rw [show ((nI (cN i k)) - 96) = nI (cN i k - 96) from (nI_sb (q := 96) (by omega))]
      refine LW_i2l dX11_packed_23 ?_
      rw [show (nI (cN i k - 96)).toInt64 = lN (cN i k - 96) from (nI_l (by omega))]
      refine LW_lor dX11_packed_24 ?_
      rw [show (((lN (pkS i k)) <<< ((5 : Int32).toInt64 &&& 63)) ||| (lN (cN i k - 96))) = lN (pkS i (k + 1)) from (shl_or hlt (by omega))]
      refine LW_lstoren (ls' := [(0, .ref (1000000 + i)), (1, .long (lN (pkS i (k + 1)))), (3, .int (nI k))]) dX11_packed_25 rfl (by decide) rfl ?_
      refine LW_iinc (n := 2) (v := nI (k + 1)) (ls' := [(0, .ref (1000000 + i)), (1, .long (lN (pkS i (k + 1)))), (3, .int (nI (k + 1)))]) dX11_packed_26 rfl (hc_inc _) (by decide) rfl ?_
      refine LW_goto (tgt := 4) dX11_packed_29 (by decide) ?_
      exact ih
  refine LW_lconst (v := 0) dX11_packed_0 (by decide) ?_
  refine LW_lstoren (ls' := [(0, .ref (1000000 + i)), (1, .long 0)]) dX11_packed_1 rfl (by decide) rfl ?_
  refine LW_iconst (v := 0) dX11_packed_2 (by decide) ?_
  refine LW_istoren (ls' := [(0, .ref (1000000 + i)), (1, .long 0), (3, .int 0)]) dX11_packed_3 rfl (by decide) rfl ?_
  exact loop 0 (Nat.zero_le _)
