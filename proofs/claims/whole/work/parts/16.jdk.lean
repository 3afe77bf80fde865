/-! the JDK's own methods of a text -/
set_option maxRecDepth 100000 in
theorem r_coder {i : Nat} (hi : i < 19) {Λ : hc_L} {I : hc_I} {L : hc_J} {R : hc_R} : Run xJ0_coder_7d493 [.ref (1000000 + i)] Λ I L R (Qr (some (.int 0)) Λ I L R) := by
  refine Run.of (by decide +kernel) (Nat.le_of_ble_eq_true rfl) ?_
  show LW _ _ _ [(0, .ref (1000000 + i))] _ _ _ _ _ _
  refine LW_getsC dJ0_coder_7d493_0 flJ0_38 ?_
  refine LW_if_eq (tgt := 13) dJ0_coder_7d493_3 (by decide) (fun c3 => absurd c3 (by decide)) (fun c3 => ?_)
  refine LW_aloadn 0 dJ0_coder_7d493_6 rfl rfl ?_
  refine LW_getSc (by omega) dJ0_coder_7d493_7 flJ0_15 ?_
  refine LW_goto (tgt := 14) dJ0_coder_7d493_10 (by decide) ?_
  refine LW_nret dJ0_coder_7d493_14 rfl (Nat.le_of_ble_eq_true rfl) (Nat.le_of_ble_eq_true rfl) rfl ?_
  exact Qr.mk rfl
set_option maxRecDepth 100000 in
theorem r_isLatin1 {i : Nat} (hi : i < 19) {Λ : hc_L} {I : hc_I} {L : hc_J} {R : hc_R} : Run xJ0_isLatin1_aae02 [.ref (1000000 + i)] Λ I L R (Qr (some (.int 1)) Λ I L R) := by
  refine Run.of (by decide +kernel) (Nat.le_of_ble_eq_true rfl) ?_
  show LW _ _ _ [(0, .ref (1000000 + i))] _ _ _ _ _ _
  refine LW_getsC dJ0_isLatin1_aae02_0 flJ0_38 ?_
  refine LW_if_eq (tgt := 17) dJ0_isLatin1_aae02_3 (by decide) (fun c3 => absurd c3 (by decide)) (fun c3 => ?_)
  refine LW_aloadn 0 dJ0_isLatin1_aae02_6 rfl rfl ?_
  refine LW_getSc (by omega) dJ0_isLatin1_aae02_7 flJ0_15 ?_
  refine LW_if_ne (tgt := 17) dJ0_isLatin1_aae02_10 (by decide) (fun c10 => absurd c10 (fun h => h rfl)) (fun c10 => ?_)
  refine LW_iconst (v := 1) dJ0_isLatin1_aae02_13 (by decide) ?_
  refine LW_goto (tgt := 18) dJ0_isLatin1_aae02_14 (by decide) ?_
  refine LW_zret dJ0_isLatin1_aae02_18 rfl (Nat.le_of_ble_eq_true rfl) (Nat.le_of_ble_eq_true rfl) (Or.inr rfl) ?_
  exact Qr.mk rfl
theorem hc_shr0 (n : Nat) : nI n >>> ((0 : Int32) &&& 31) = nI n := by
  have : (0 : Int32) &&& 31 = 0 := by decide
  rw [this]
  simp
set_option maxRecDepth 100000 in
theorem r_slength {i : Nat} (hi : i < 19) {Λ : hc_L} {I : hc_I} {L : hc_J} {R : hc_R} : Run xJ0_length_8abf5 [.ref (1000000 + i)] Λ I L R (Qr (some (.int (nI (hc_len.getD i 0)))) Λ I L R) := by
  refine Run.of (by decide +kernel) (Nat.le_of_ble_eq_true rfl) ?_
  show LW _ _ _ [(0, .ref (1000000 + i))] _ _ _ _ _ _
  refine LW_aloadn 0 dJ0_length_8abf5_0 rfl rfl ?_
  refine LW_getSv (by omega) dJ0_length_8abf5_1 flJ0_9 ?_
  refine LW_alenS (by omega) dJ0_length_8abf5_4 ?_
  refine LW_aloadn 0 dJ0_length_8abf5_5 rfl rfl ?_
  refine LW_callT (As := []) (b := i) (st := [.int (nI (hc_len.getD i 0))]) (by omega) (r_coder hi) YJ0_coder_7d493 rfl dJ0_length_8abf5_6 mlJ0_335 rfl (by decide) ⟨Nat.le_refl _, Nat.le_refl _⟩ (Nat.le_of_ble_eq_true rfl) rfl (fun r6 Λc6 Ic6 Lc6 Rc6 hq6 => ?_)
  obtain ⟨rfl, rfl, rfl, rfl, rfl⟩ := hq6
  refine LW_ishr dJ0_length_8abf5_9 ?_
  refine LW_iret dJ0_length_8abf5_10 rfl (Nat.le_of_ble_eq_true rfl) (Nat.le_of_ble_eq_true rfl) ?_
  exact Qr.mk (by rw [hc_shr0])
