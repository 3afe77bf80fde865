/-! Tokens: the whole tape cut -/
theorem sb_eq {c d : Nat} (hc : c < 256) (hd : d < 128) : sb c = nI d ↔ c = d := by
  have := kE_eq (k := c) (c := d) (by omega) (Or.inl hd)
  unfold kEnc at this
  rw [if_pos hc] at this
  exact this
theorem isSp_l {c : Nat} (h : isSp c = true) : isL c = false ∧ isD c = false := by
  constructor
  · cases q : isL c
    · rfl
    · rw [(isL_not q).2] at h; cases h
  · cases q : isD c
    · rfl
    · rw [(isD_not q).2] at h; cases h
theorem TpAt.kp {Λ : hc_L} {I I' : hc_I} {t n : Nat} {B : Nat → Nat} (h : TpAt Λ I t n B) (e1 : I' t = I t) (e2 : I' (t + 1) = I (t + 1)) : TpAt Λ I' t n B := ⟨h.1, by rw [e1]; exact h.2.1, h.2.2.1, fun j hj => by rw [e2]; exact h.2.2.2 j hj⟩
theorem hc_mx {a b : Nat} (h : a ≤ b) (hb : b < 2 ^ 31) : (if nI a < nI b then nI b else nI a) = nI b := by
  split
  · rfl
  · rename_i c
    have := mt (hc_lt (by omega) hb).mpr c
    rw [show a = b by omega]
def tkDone (I : hc_I) (L : hc_J) (k : Nat) (B : Nat → Nat) (n cn : Nat) : Prop := I k 3 = nI cn ∧ 1 ≤ cn ∧ cn ≤ 701 ∧ tp B n (cn - 1) = n ∧ (∀ j, j + 1 < cn → tp B n j < n) ∧ ∀ j, j < cn → I (k + 1) j = kEnc (kd B n j) ∧ I (k + 2) j = nI (tp B n j) ∧ L (k + 3) j = lN (vl B n j)
set_option maxRecDepth 100000 in
theorem r_cutOneS {Λ : hc_L} {I : hc_I} {L : hc_J} {R : hc_R} {k t n : Nat} {B : Nat → Nat} (hk : TkL Λ k t) (ht : TpAt Λ I t n B) {p : Nat} (hp : p < n) (hs : isSp (B p) = true) : Run xX9_cutOne [.ref k, .int (nI p)] Λ I L R (Qr (some (.int (nI (p + 1)))) Λ I L R) := by
  refine Run.of (by decide +kernel) (Nat.le_of_ble_eq_true rfl) ?_
  show LW _ _ _ [(0, .ref k), (1, .int (nI p))] _ _ _ _ _ _
  refine LW_aloadn 0 dX9_cutOne_0 rfl rfl ?_
  refine LW_iloadn 1 dX9_cutOne_1 rfl rfl ?_
  refine LW_callV (As := [.int (nI p)]) (b := k) (st := []) (ci := 9) (r := (RX9, TX9, 6)) (r_signAt hk ht (j := p) hp) YX9_signAt rfl dX9_cutOne_2 mlX9_69 (Nat.lt_of_lt_of_le (by omega) hk.1) hk.2.1 ⟨rfl, rfl⟩ (by decide) ⟨Nat.le_refl _, Nat.le_refl _⟩ (Nat.le_of_ble_eq_true rfl) rfl (fun r2 Λc2 Ic2 Lc2 Rc2 hq2 => ?_)
  obtain ⟨rfl, rfl, rfl, rfl, rfl⟩ := hq2
  refine LW_istoren (ls' := [(0, .ref k), (1, .int (nI p)), (2, .int (sb (B p)))]) dX9_cutOne_5 rfl (by decide) rfl ?_
  refine LW_iloadn 2 dX9_cutOne_6 rfl rfl ?_
  refine LW_callS (As := [.int (sb (B p))]) (st := []) (r_isLetter (c := B p) (ht.b _ hp)) YX9_isLetter rfl dX9_cutOne_7 mlX9_72 (by decide) ⟨Nat.le_refl _, Nat.le_refl _⟩ (Nat.le_of_ble_eq_true rfl) rfl (fun r7 Λc7 Ic7 Lc7 Rc7 hq7 => ?_)
  obtain ⟨rfl, rfl, rfl, rfl, rfl⟩ := hq7
  refine LW_bif_eq (tgt := 19) dX9_cutOne_10 (by decide) (fun c10 => ?_) (fun c10 => absurd (c10.symm.trans (isSp_l hs).1) (by decide))
  refine LW_iloadn 2 dX9_cutOne_19 rfl rfl ?_
  refine LW_callS (As := [.int (sb (B p))]) (st := []) (r_isDigit (c := B p) (ht.b _ hp)) YX9_isDigit rfl dX9_cutOne_20 mlX9_79 (by decide) ⟨Nat.le_refl _, Nat.le_refl _⟩ (Nat.le_of_ble_eq_true rfl) rfl (fun r20 Λc20 Ic20 Lc20 Rc20 hq20 => ?_)
  obtain ⟨rfl, rfl, rfl, rfl, rfl⟩ := hq20
  refine LW_bif_eq (tgt := 32) dX9_cutOne_23 (by decide) (fun c23 => ?_) (fun c23 => absurd (c23.symm.trans (isSp_l hs).2) (by decide))
  refine LW_iloadn 2 dX9_cutOne_32 rfl rfl ?_
  refine LW_bipush (v := 32) dX9_cutOne_33 (by decide) ?_
  refine LW_icmp_eq (tgt := 51) dX9_cutOne_35 (by decide) (fun c35 => ?_) (fun c35 => ?_)
  · refine LW_iloadn 1 dX9_cutOne_51 rfl rfl ?_
    refine LW_iconst (v := 1) dX9_cutOne_52 (by decide) ?_
    refine LW_iadd dX9_cutOne_53 ?_
    rw [show ((nI p) + 1) = nI (p + 1) from (nI_1 _)]
    refine LW_iret dX9_cutOne_54 rfl (Nat.le_of_ble_eq_true rfl) (Nat.le_of_ble_eq_true rfl) ?_
    exact Qr.mk rfl
  · refine LW_iloadn 2 dX9_cutOne_38 rfl rfl ?_
    refine LW_bipush (v := 10) dX9_cutOne_39 (by decide) ?_
    refine LW_icmp_eq (tgt := 51) dX9_cutOne_41 (by decide) (fun c41 => ?_) (fun c41 => ?_)
    · refine LW_iloadn 1 dX9_cutOne_51 rfl rfl ?_
      refine LW_iconst (v := 1) dX9_cutOne_52 (by decide) ?_
      refine LW_iadd dX9_cutOne_53 ?_
      rw [show ((nI p) + 1) = nI (p + 1) from (nI_1 _)]
      refine LW_iret dX9_cutOne_54 rfl (Nat.le_of_ble_eq_true rfl) (Nat.le_of_ble_eq_true rfl) ?_
      exact Qr.mk rfl
    · exfalso
      have e1 := mt (sb_eq (d := 32) (ht.b _ hp) (by omega)).mpr c35
      have e2 := mt (sb_eq (d := 10) (ht.b _ hp) (by omega)).mpr c41
      simp [isSp, e1, e2] at hs
set_option maxRecDepth 100000 in
theorem r_cutOneT {Λ : hc_L} {I : hc_I} {L : hc_J} {R : hc_R} {k t n : Nat} {B : Nat → Nat} (hk : TkL Λ k t) (ht : TpAt Λ I t n B) (hq : ∀ i, i < 18 → L (k + 4) i = lN (qw i)) {p i : Nat} (hp : p < n) (hs : isSp (B p) = false) (hc : I k 3 = nI i) (hi : i < 701) : Run xX9_cutOne [.ref k, .int (nI p)] Λ I L R (Qf (fun z => z = k ∨ z = k + 1 ∨ z = k + 2) (fun z => z = k + 3) (fun _ => False) (some (.int (nI (tkE B n p)))) (fun I' L' _ => tkAdd k i (kEnc (tkK B n p)) (nI p) (lN (tkV B n p)) I L I' L') Λ I L R) := by
  refine Run.of (by decide +kernel) (Nat.le_of_ble_eq_true rfl) ?_
  show LW _ _ _ [(0, .ref k), (1, .int (nI p))] _ _ _ _ _ _
  have hs2 : B p ≠ 32 ∧ B p ≠ 10 := by simpa [isSp] using hs
  refine LW_aloadn 0 dX9_cutOne_0 rfl rfl ?_
  refine LW_iloadn 1 dX9_cutOne_1 rfl rfl ?_
  refine LW_callV (As := [.int (nI p)]) (b := k) (st := []) (ci := 9) (r := (RX9, TX9, 6)) (r_signAt hk ht (j := p) hp) YX9_signAt rfl dX9_cutOne_2 mlX9_69 (Nat.lt_of_lt_of_le (by omega) hk.1) hk.2.1 ⟨rfl, rfl⟩ (by decide) ⟨Nat.le_refl _, Nat.le_refl _⟩ (Nat.le_of_ble_eq_true rfl) rfl (fun r2 Λc2 Ic2 Lc2 Rc2 hq2 => ?_)
  obtain ⟨rfl, rfl, rfl, rfl, rfl⟩ := hq2
  refine LW_istoren (ls' := [(0, .ref k), (1, .int (nI p)), (2, .int (sb (B p)))]) dX9_cutOne_5 rfl (by decide) rfl ?_
  refine LW_iloadn 2 dX9_cutOne_6 rfl rfl ?_
  refine LW_callS (As := [.int (sb (B p))]) (st := []) (r_isLetter (c := B p) (ht.b _ hp)) YX9_isLetter rfl dX9_cutOne_7 mlX9_72 (by decide) ⟨Nat.le_refl _, Nat.le_refl _⟩ (Nat.le_of_ble_eq_true rfl) rfl (fun r7 Λc7 Ic7 Lc7 Rc7 hq7 => ?_)
  obtain ⟨rfl, rfl, rfl, rfl, rfl⟩ := hq7
  refine LW_bif_eq (tgt := 19) dX9_cutOne_10 (by decide) (fun c10 => ?_) (fun c10 => ?_)
  · refine LW_iloadn 2 dX9_cutOne_19 rfl rfl ?_
    refine LW_callS (As := [.int (sb (B p))]) (st := []) (r_isDigit (c := B p) (ht.b _ hp)) YX9_isDigit rfl dX9_cutOne_20 mlX9_79 (by decide) ⟨Nat.le_refl _, Nat.le_refl _⟩ (Nat.le_of_ble_eq_true rfl) rfl (fun r20 Λc20 Ic20 Lc20 Rc20 hq20 => ?_)
    obtain ⟨rfl, rfl, rfl, rfl, rfl⟩ := hq20
    refine LW_bif_eq (tgt := 32) dX9_cutOne_23 (by decide) (fun c23 => ?_) (fun c23 => ?_)
    · refine LW_iloadn 2 dX9_cutOne_32 rfl rfl ?_
      refine LW_bipush (v := 32) dX9_cutOne_33 (by decide) ?_
      refine LW_icmp_eq (tgt := 51) dX9_cutOne_35 (by decide) (fun c35 => absurd c35 (fun e => hs2.1 ((sb_eq (d := 32) (ht.b _ hp) (by omega)).mp e))) (fun c35 => ?_)
      refine LW_iloadn 2 dX9_cutOne_38 rfl rfl ?_
      refine LW_bipush (v := 10) dX9_cutOne_39 (by decide) ?_
      refine LW_icmp_eq (tgt := 51) dX9_cutOne_41 (by decide) (fun c41 => absurd c41 (fun e => hs2.2 ((sb_eq (d := 10) (ht.b _ hp) (by omega)).mp e))) (fun c41 => ?_)
      refine LW_aloadn 0 dX9_cutOne_44 rfl rfl ?_
      refine LW_iloadn 2 dX9_cutOne_45 rfl rfl ?_
      refine LW_iloadn 1 dX9_cutOne_46 rfl rfl ?_
      refine LW_lconst (v := 0) dX9_cutOne_47 (by decide) ?_
      refine LW_callV (As := [.int (sb (B p)), .int (nI p), .long 0]) (b := k) (st := []) (ci := 9) (r := (RX9, TX9, 6)) (r_tkAdd hk ht hc hi (sb (B p)) (nI p) 0) YX9_add rfl dX9_cutOne_48 mlX9_65 (Nat.lt_of_lt_of_le (by omega) hk.1) hk.2.1 ⟨rfl, rfl⟩ (by decide) ⟨Nat.le_refl _, Nat.le_refl _⟩ (Nat.le_of_ble_eq_true rfl) rfl (fun r48 Λc48 Ic48 Lc48 Rc48 hq48 => ?_)
      obtain ⟨rfl, rfl, hI48, hL48, hR48, hA48⟩ := hq48
      obtain rfl : R = Rc48 := funext fun z => (hR48 z (fun q => q)).symm
      refine LW_iloadn 1 dX9_cutOne_51 rfl rfl ?_
      refine LW_iconst (v := 1) dX9_cutOne_52 (by decide) ?_
      refine LW_iadd dX9_cutOne_53 ?_
      refine LW_iret dX9_cutOne_54 rfl (Nat.le_of_ble_eq_true rfl) (Nat.le_of_ble_eq_true rfl) ?_
      have hE : tkE B n p = p + 1 := tkE_S hp c10 c23
      have hK : tkK B n p = B p := by unfold tkK; rw [if_pos hp, if_neg (by rw [c10]; decide), if_neg (by rw [c23]; decide)]
      have hV : tkV B n p = 0 := by unfold tkV; rw [if_pos hp, if_neg (by rw [c10]; decide), if_neg (by rw [c23]; decide)]
      refine ⟨by rw [hE, ← nI_1], rfl, hI48, hL48, fun _ _ => rfl, ?_⟩
      rw [hK, hV, show kEnc (B p) = sb (B p) from if_pos (ht.b _ hp)]
      exact hA48
    · refine LW_aloadn 0 dX9_cutOne_26 rfl rfl ?_
      refine LW_iloadn 1 dX9_cutOne_27 rfl rfl ?_
      refine LW_callV (As := [.int (nI p)]) (b := k) (st := []) (ci := 9) (r := (RX9, TX9, 6)) (r_cutNumber hk ht hq hp c23 hc hi) YX9_cutNumber rfl dX9_cutOne_28 mlX9_82 (Nat.lt_of_lt_of_le (by omega) hk.1) hk.2.1 ⟨rfl, rfl⟩ (by decide) ⟨Nat.le_refl _, Nat.le_refl _⟩ (Nat.le_of_ble_eq_true rfl) rfl (fun r28 Λc28 Ic28 Lc28 Rc28 hq28 => ?_)
      obtain ⟨rfl, rfl, hI28, hL28, hR28, hA28⟩ := hq28
      obtain rfl : R = Rc28 := funext fun z => (hR28 z (fun q => q)).symm
      refine LW_iret dX9_cutOne_31 rfl (Nat.le_of_ble_eq_true rfl) (Nat.le_of_ble_eq_true rfl) ?_
      exact ⟨rfl, rfl, hI28, hL28, fun _ _ => rfl, hA28⟩
  · refine LW_aloadn 0 dX9_cutOne_13 rfl rfl ?_
    refine LW_iloadn 1 dX9_cutOne_14 rfl rfl ?_
    refine LW_callV (As := [.int (nI p)]) (b := k) (st := []) (ci := 9) (r := (RX9, TX9, 6)) (r_cutWord hk ht hq hp c10 hc hi) YX9_cutWord rfl dX9_cutOne_15 mlX9_76 (Nat.lt_of_lt_of_le (by omega) hk.1) hk.2.1 ⟨rfl, rfl⟩ (by decide) ⟨Nat.le_refl _, Nat.le_refl _⟩ (Nat.le_of_ble_eq_true rfl) rfl (fun r15 Λc15 Ic15 Lc15 Rc15 hq15 => ?_)
    obtain ⟨rfl, rfl, hI15, hL15, hR15, hA15⟩ := hq15
    obtain rfl : R = Rc15 := funext fun z => (hR15 z (fun q => q)).symm
    refine LW_iret dX9_cutOne_18 rfl (Nat.le_of_ble_eq_true rfl) (Nat.le_of_ble_eq_true rfl) ?_
    exact ⟨rfl, rfl, hI15, hL15, fun _ _ => rfl, hA15⟩
set_option maxRecDepth 100000 in
theorem r_cut {Λ : hc_L} {I : hc_I} {L : hc_J} {R : hc_R} {k t n : Nat} {B : Nat → Nat} (hk : TkL Λ k t) (ht : TpAt Λ I t n B) (hq : ∀ i, i < 18 → L (k + 4) i = lN (qw i)) : Run xX9_cut [.ref k] Λ I L R (Qf (fun z => z = k ∨ z = k + 1 ∨ z = k + 2) (fun z => z = k + 3) (fun _ => False) none (fun I' L' _ => ∃ cn, tkDone I' L' k B n cn) Λ I L R) := by
  refine Run.of (by decide +kernel) (Nat.le_of_ble_eq_true rfl) ?_
  show LW _ _ _ [(0, .ref k)] _ _ _ _ _ _
  have h7 := ht.2.2.1
  have fin : ∀ i (I1 : hc_I) (L1 : hc_J), (∀ z, z ≠ k → z ≠ k + 1 → z ≠ k + 2 → I1 z = I z) → (∀ z, z ≠ k + 3 → L1 z = L z) → (I1 k 3 = nI i) → (tkF B n n = tp B n i) → (i ≤ n) → (∀ j, j < i → tp B n j < n ∧ I1 (k + 1) j = kEnc (kd B n j) ∧ I1 (k + 2) j = nI (tp B n j) ∧ L1 (k + 3) j = lN (vl B n j)) → LW xX9_cut (0, 0) 7 [(0, .ref k), (2, .int (nI n))] [] Λ I1 L1 R (Qf (fun z => z = k ∨ z = k + 1 ∨ z = k + 2) (fun z => z = k + 3) (fun _ => False) none (fun I' L' _ => ∃ cn, tkDone I' L' k B n cn) Λ I L R) := by
    intro i I1 L1 hI1 hL1 hc hnx hip hal
    have hkt := hk.2.2.2.2.2.2.2.2.2.2.2
    have ht1 : TpAt Λ I1 t n B := ht.kp (hI1 _ (by omega) (by omega) (by omega)) (hI1 _ (by omega) (by omega) (by omega))
    have hq1 : ∀ i, i < 18 → L1 (k + 4) i = lN (qw i) := fun i hi => by rw [hL1 _ (by omega)]; exact hq i hi
    rw [tkF_end (Nat.le_refl _)] at hnx
    refine LW_iloadn 1 dX9_cut_7 rfl rfl ?_
    refine LW_aloadn 0 dX9_cut_8 rfl rfl ?_
    refine gX9_5 dX9_cut_9 flX9_25 (Nat.lt_of_lt_of_le (by omega) hk.1) hk.2.1 hk.2.2.2.2.2.2.2.2.2.2.1 ?_
    refine gX8_1 dX9_cut_12 flX9_51 (Nat.lt_of_lt_of_le (by omega) ht1.1.1) ht1.1.2.1 ?_
    rw [show I1 t 1 = nI n from ht1.2.1]
    refine LW_icmp_ge (tgt := 35) dX9_cut_15 (by decide) (fun c15 => ?_) (fun c15 => absurd (Int32.le_refl _) c15)
    refine LW_aloadn 0 dX9_cut_35 rfl rfl ?_
    refine LW_sipush (v := 2003) dX9_cut_36 (by decide) ?_
    refine LW_aloadn 0 dX9_cut_39 rfl rfl ?_
    refine gX9_5 dX9_cut_40 flX9_25 (Nat.lt_of_lt_of_le (by omega) hk.1) hk.2.1 hk.2.2.2.2.2.2.2.2.2.2.1 ?_
    refine gX8_1 dX9_cut_43 flX9_51 (Nat.lt_of_lt_of_le (by omega) ht1.1.1) ht1.1.2.1 ?_
    rw [show I1 t 1 = nI n from ht1.2.1]
    refine LW_lconst (v := 0) dX9_cut_46 (by decide) ?_
    refine LW_callV (As := [.int 2003, .int (nI n), .long 0]) (b := k) (st := []) (ci := 9) (r := (RX9, TX9, 6)) (r_tkAdd hk ht1 hc (by omega) 2003 (nI n) 0) YX9_add rfl dX9_cut_47 mlX9_65 (Nat.lt_of_lt_of_le (by omega) hk.1) hk.2.1 ⟨rfl, rfl⟩ (by decide) ⟨Nat.le_refl _, Nat.le_refl _⟩ (Nat.le_of_ble_eq_true rfl) rfl (fun r47 Λc47 Ic47 Lc47 Rc47 hq47 => ?_)
    obtain ⟨rfl, rfl, hI47, hL47, hR47, hA47⟩ := hq47
    obtain rfl : R = Rc47 := funext fun z => (hR47 z (fun q => q)).symm
    refine LW_vret dX9_cut_50 rfl (Nat.le_of_ble_eq_true rfl) (Nat.le_of_ble_eq_true rfl) ?_
    refine ⟨rfl, rfl, fun z hz => ?_, fun z hz => ?_, fun _ _ => rfl, i + 1, ?_, by omega, by omega, ?_, fun j hj => (hal j (by omega)).1, fun j hj => ?_⟩
    · rw [hI47 z hz, hI1 z (by omega) (by omega) (by omega)]
    · rw [hL47 z hz, hL1 z hz]
    · rw [hA47.1, if_pos rfl]
    · rw [Nat.add_sub_cancel]; exact hnx.symm
    · rw [hA47.2.1, hA47.2.2.1, hA47.2.2.2]
      by_cases c : j = i
      · rw [if_pos c, if_pos c, if_pos c, c]
        refine ⟨?_, by rw [← hnx], ?_⟩
        · rw [(kd_end ht.b).mpr hnx.symm]; rfl
        · unfold vl tkV; rw [if_neg (by omega)]; rfl
      · rw [if_neg c, if_neg c, if_neg c]
        exact (hal j (by omega)).2
  have loop : ∀ d p i (I1 : hc_I) (L1 : hc_J), n ≤ p + d → p ≤ n → (∀ z, z ≠ k → z ≠ k + 1 → z ≠ k + 2 → I1 z = I z) → (∀ z, z ≠ k + 3 → L1 z = L z) → (I1 k 3 = nI i) → (tkF B n p = tp B n i) → (i ≤ p) → (∀ j, j < i → tp B n j < n ∧ I1 (k + 1) j = kEnc (kd B n j) ∧ I1 (k + 2) j = nI (tp B n j) ∧ L1 (k + 3) j = lN (vl B n j)) → LW xX9_cut (0, 0) 7 [(0, .ref k), (2, .int (nI p))] [] Λ I1 L1 R (Qf (fun z => z = k ∨ z = k + 1 ∨ z = k + 2) (fun z => z = k + 3) (fun _ => False) none (fun I' L' _ => ∃ cn, tkDone I' L' k B n cn) Λ I L R) := by
    intro d
    induction d with
    | zero =>
      intro p i I1 L1 hd hp hI1 hL1 hc hnx hip hal
      obtain rfl : p = n := by omega
      exact fin i I1 L1 hI1 hL1 hc hnx hip hal
    | succ d ih =>
      intro p i I1 L1 hd hp hI1 hL1 hc hnx hip hal
      by_cases hpn : p = n
      · subst hpn
        exact fin i I1 L1 hI1 hL1 hc hnx hip hal
      · have hp2 : p < n := by omega
        have hkt := hk.2.2.2.2.2.2.2.2.2.2.2
        have ht1 : TpAt Λ I1 t n B := ht.kp (hI1 _ (by omega) (by omega) (by omega)) (hI1 _ (by omega) (by omega) (by omega))
        have hq1 : ∀ i, i < 18 → L1 (k + 4) i = lN (qw i) := fun i hi => by rw [hL1 _ (by omega)]; exact hq i hi
        by_cases hs : isSp (B p) = true
        · refine LW_iloadn 1 dX9_cut_7 rfl rfl ?_
          refine LW_aloadn 0 dX9_cut_8 rfl rfl ?_
          refine gX9_5 dX9_cut_9 flX9_25 (Nat.lt_of_lt_of_le (by omega) hk.1) hk.2.1 hk.2.2.2.2.2.2.2.2.2.2.1 ?_
          refine gX8_1 dX9_cut_12 flX9_51 (Nat.lt_of_lt_of_le (by omega) ht1.1.1) ht1.1.2.1 ?_
          rw [show I1 t 1 = nI n from ht1.2.1]
          refine LW_icmp_ge (tgt := 35) dX9_cut_15 (by decide) (fun c15 => absurd c15 (hc_nle (by omega) (by omega) hp2)) (fun c15 => ?_)
          refine LW_aloadn 0 dX9_cut_18 rfl rfl ?_
          refine LW_iloadn 1 dX9_cut_19 rfl rfl ?_
          refine LW_callV (As := [.int (nI p)]) (b := k) (st := []) (ci := 9) (r := (RX9, TX9, 6)) (r_cutOneS hk ht1 hp2 hs) YX9_cutOne rfl dX9_cut_20 mlX9_55 (Nat.lt_of_lt_of_le (by omega) hk.1) hk.2.1 ⟨rfl, rfl⟩ (by decide) ⟨Nat.le_refl _, Nat.le_refl _⟩ (Nat.le_of_ble_eq_true rfl) rfl (fun r20 Λc20 Ic20 Lc20 Rc20 hq20 => ?_)
          obtain ⟨rfl, rfl, rfl, rfl, rfl⟩ := hq20
          refine LW_istoren (ls' := [(0, .ref k), (2, .int (nI p)), (1, .int (nI (p + 1)))]) dX9_cut_23 rfl (by decide) rfl ?_
          refine LW_iloadn 1 dX9_cut_24 rfl rfl ?_
          refine LW_iconst (v := 1) dX9_cut_25 (by decide) ?_
          refine LW_iadd dX9_cut_26 ?_
          rw [show ((nI p) + 1) = nI (p + 1) from (nI_1 _)]
          refine LW_iloadn 2 dX9_cut_27 rfl rfl ?_
          refine LW_imax dX9_cut_28 mlX9_59 (by decide) ⟨Nat.le_refl _, Nat.le_refl _⟩ (Nat.le_of_ble_eq_true rfl) ?_
          rw [show (if (nI (p + 1)) < (nI (p + 1)) then (nI (p + 1)) else (nI (p + 1))) = nI (p + 1) from (hc_mx (by omega) (by omega))]
          refine LW_istoren (ls' := [(0, .ref k), (2, .int (nI (p + 1))), (1, .int (nI (p + 1)))]) dX9_cut_31 rfl (by decide) rfl ?_
          refine LW_goto (tgt := 7) dX9_cut_32 (by decide) ?_
          refine LW_ls (ls' := [(0, .ref k), (2, .int (nI (p + 1)))]) [0, 1] rfl ?_
          exact ih (p + 1) i I1 L1 (by omega) (by omega) hI1 hL1 hc (by rw [← tkF_s hp2 hs]; exact hnx) (by omega) hal
        · replace hs : isSp (B p) = false := by cases q : isSp (B p); rfl; exact absurd q hs
          have hE := tkE_le (B := B) hp
          have hE2 := tkE_lt (B := B) hp2
          refine LW_iloadn 1 dX9_cut_7 rfl rfl ?_
          refine LW_aloadn 0 dX9_cut_8 rfl rfl ?_
          refine gX9_5 dX9_cut_9 flX9_25 (Nat.lt_of_lt_of_le (by omega) hk.1) hk.2.1 hk.2.2.2.2.2.2.2.2.2.2.1 ?_
          refine gX8_1 dX9_cut_12 flX9_51 (Nat.lt_of_lt_of_le (by omega) ht1.1.1) ht1.1.2.1 ?_
          rw [show I1 t 1 = nI n from ht1.2.1]
          refine LW_icmp_ge (tgt := 35) dX9_cut_15 (by decide) (fun c15 => absurd c15 (hc_nle (by omega) (by omega) hp2)) (fun c15 => ?_)
          refine LW_aloadn 0 dX9_cut_18 rfl rfl ?_
          refine LW_iloadn 1 dX9_cut_19 rfl rfl ?_
          refine LW_callV (As := [.int (nI p)]) (b := k) (st := []) (ci := 9) (r := (RX9, TX9, 6)) (r_cutOneT hk ht1 hq1 hp2 hs hc (by omega)) YX9_cutOne rfl dX9_cut_20 mlX9_55 (Nat.lt_of_lt_of_le (by omega) hk.1) hk.2.1 ⟨rfl, rfl⟩ (by decide) ⟨Nat.le_refl _, Nat.le_refl _⟩ (Nat.le_of_ble_eq_true rfl) rfl (fun r20 Λc20 Ic20 Lc20 Rc20 hq20 => ?_)
          obtain ⟨rfl, rfl, hI20, hL20, hR20, hA20⟩ := hq20
          obtain rfl : R = Rc20 := funext fun z => (hR20 z (fun q => q)).symm
          refine LW_istoren (ls' := [(0, .ref k), (2, .int (nI p)), (1, .int (nI (tkE B n p)))]) dX9_cut_23 rfl (by decide) rfl ?_
          refine LW_iloadn 1 dX9_cut_24 rfl rfl ?_
          refine LW_iconst (v := 1) dX9_cut_25 (by decide) ?_
          refine LW_iadd dX9_cut_26 ?_
          rw [show ((nI p) + 1) = nI (p + 1) from (nI_1 _)]
          refine LW_iloadn 2 dX9_cut_27 rfl rfl ?_
          refine LW_imax dX9_cut_28 mlX9_59 (by decide) ⟨Nat.le_refl _, Nat.le_refl _⟩ (Nat.le_of_ble_eq_true rfl) ?_
          rw [show (if (nI (p + 1)) < (nI (tkE B n p)) then (nI (tkE B n p)) else (nI (p + 1))) = nI (tkE B n p) from (hc_mx (by omega) (by omega))]
          refine LW_istoren (ls' := [(0, .ref k), (2, .int (nI (tkE B n p))), (1, .int (nI (tkE B n p)))]) dX9_cut_31 rfl (by decide) rfl ?_
          refine LW_goto (tgt := 7) dX9_cut_32 (by decide) ?_
          refine LW_ls (ls' := [(0, .ref k), (2, .int (nI (tkE B n p)))]) [0, 1] rfl ?_
          rw [tkF_n hp2 hs] at hnx
          exact ih (tkE B n p) (i + 1) Ic20 Lc20 (by omega) hE.2 (fun z z1 z2 z3 => by rw [hI20 z (by omega)]; exact hI1 z z1 z2 z3) (fun z z1 => by rw [hL20 z z1]; exact hL1 z z1) (by rw [hA20.1, if_pos rfl]) (by rw [hnx]; rfl) (by omega) (fun j hj => by
            rw [hA20.2.1, hA20.2.2.1, hA20.2.2.2]
            by_cases c : j = i
            · rw [if_pos c, if_pos c, if_pos c, c]
              unfold kd vl
              rw [← hnx]
              exact ⟨hp2, rfl, rfl, rfl⟩
            · rw [if_neg c, if_neg c, if_neg c]
              exact hal j (by omega))
  refine LW_aloadn 0 dX9_cut_0 rfl rfl ?_
  refine LW_iconst (v := 0) dX9_cut_1 (by decide) ?_
  refine pX9_3 dX9_cut_2 flX9_47 (Nat.lt_of_lt_of_le (by omega) hk.1) hk.2.1 ?_
  generalize hI2 : hc_u I k 3 0 = I2
  refine LW_iconst (v := 0) dX9_cut_5 (by decide) ?_
  refine LW_istoren (ls' := [(0, .ref k), (2, .int 0)]) dX9_cut_6 rfl (by decide) rfl ?_
  exact loop n 0 0 I2 L (by omega) (Nat.zero_le _) (fun z z1 z2 z3 => by rw [← hI2, hc_u_row _ _ _ _ z1]) (fun _ _ => rfl) (by rw [← hI2, hc_u_at, if_pos rfl]; rfl) rfl (Nat.zero_le _) (fun j hj => absurd hj (Nat.not_lt_zero _))
