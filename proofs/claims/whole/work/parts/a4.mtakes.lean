/-! the reference: what was read is taken over -/
set_option maxRecDepth 100000 in
theorem to_1 {Λ : hc_L} {I : hc_I} {L : hc_J} {R : hc_R} {Q : hc_Q} (hY : LY Λ) (hend : ∀ I' : hc_I, (∀ z, z ≠ 222 → I' z = I z) → (∀ j, I' 222 j = if j < 64 then I 222 (64 + j) else I 222 j) → LW xX11_takesOver (0, 0) 29 [(0, .ref 217), (1, .int (nI 64))] [] Λ I' L R Q) : LW xX11_takesOver (0, 0) 2 [(0, .ref 217), (1, .int (nI 0))] [] Λ I L R Q := by
  have loop : ∀ k, k ≤ 64 → ∀ I1 : hc_I, (∀ z, z ≠ 222 → I1 z = I z) → (∀ j, I1 222 j = if j < k then I 222 (64 + j) else I 222 j) → LW xX11_takesOver (0, 0) 2 [(0, .ref 217), (1, .int (nI k))] [] Λ I1 L R Q := by
    refine hc_down ?_ ?_
    · intro I1 h1 h2
      refine LW_iloadn 1 dX11_takesOver_2 rfl rfl ?_
      refine LW_bipush (v := 64) dX11_takesOver_3 (by decide) ?_
      refine LW_icmp_ge (tgt := 29) dX11_takesOver_5 (by decide) (fun c5 => ?_) (fun c5 => absurd (Int32.le_refl _) c5)
      exact hend I1 h1 h2
    · intro k hk ih I1 h1 h2
      refine LW_iloadn 1 dX11_takesOver_2 rfl rfl ?_
      refine LW_bipush (v := 64) dX11_takesOver_3 (by decide) ?_
      refine LW_icmp_ge (tgt := 29) dX11_takesOver_5 (by decide) (fun c5 => absurd c5 (hc_nle (a := 64) (b := k) (by omega) (by omega) hk)) (fun c5 => ?_)
      refine LW_aloadn 0 dX11_takesOver_8 rfl rfl ?_
      refine gX11_5 dX11_takesOver_9 flX11_25 (hY.lt (k := 217) (by decide)) (ly217 hY) (lf217_5 hY) ?_
      refine LW_iloadn 1 dX11_takesOver_12 rfl rfl ?_
      refine LW_aloadn 0 dX11_takesOver_13 rfl rfl ?_
      refine gX11_5 dX11_takesOver_14 flX11_25 (hY.lt (k := 217) (by decide)) (ly217 hY) (lf217_5 hY) ?_
      refine LW_bipush (v := 64) dX11_takesOver_17 (by decide) ?_
      refine LW_iloadn 1 dX11_takesOver_19 rfl rfl ?_
      refine LW_iadd dX11_takesOver_20 ?_
      rw [show (64 + (nI k)) = nI (64 + k) from (nI_add 64 _)]
      refine LW_iald dX11_takesOver_21 (hY.lt (k := 222) (by decide)) (ly222 hY) rfl (by omega) (Nat.le_of_ble_eq_true rfl) ?_
      rw [show I1 222 (64 + k) = I 222 (64 + k) from (by rw [h2, if_neg (by omega)])]
      refine LW_iast dX11_takesOver_22 (hY.lt (k := 222) (by decide)) (ly222 hY) rfl (by omega) (Nat.le_of_ble_eq_true rfl) ?_
      generalize hI22 : hc_u I1 222 k (I 222 (64 + k)) = I22
      refine LW_iinc (n := 1) (v := nI (k + 1)) (ls' := [(0, .ref 217), (1, .int (nI (k + 1)))]) dX11_takesOver_23 rfl (hc_inc _) (by decide) rfl ?_
      refine LW_goto (tgt := 2) dX11_takesOver_26 (by decide) ?_
      exact ih I22 (fun z hz => by rw [← hI22, hc_u_row _ _ _ _ hz]; exact h1 z hz) (fun j => by
        rw [← hI22, hc_u_at]
        by_cases c : j = k
        · rw [if_pos c, if_pos (by omega), c]
        · rw [if_neg c, h2 j]
          by_cases d : j < k
          · rw [if_pos d, if_pos (by omega)]
          · rw [if_neg d, if_neg (by omega)])
  exact loop 0 (Nat.zero_le _) I (fun _ _ => rfl) (fun j => by rw [if_neg (Nat.not_lt_zero j)])
set_option maxRecDepth 100000 in
theorem to_2 {Λ : hc_L} {I : hc_I} {L : hc_J} {R : hc_R} {Q : hc_Q} (hY : LY Λ) (hend : ∀ I' : hc_I, (∀ z, z ≠ 223 → I' z = I z) → (∀ j, I' 223 j = if j < 4 then I 223 (4 + j) else I 223 j) → LW xX11_takesOver (0, 0) 56 [(0, .ref 217), (1, .int (nI 4))] [] Λ I' L R Q) : LW xX11_takesOver (0, 0) 31 [(0, .ref 217), (1, .int (nI 0))] [] Λ I L R Q := by
  have loop : ∀ k, k ≤ 4 → ∀ I1 : hc_I, (∀ z, z ≠ 223 → I1 z = I z) → (∀ j, I1 223 j = if j < k then I 223 (4 + j) else I 223 j) → LW xX11_takesOver (0, 0) 31 [(0, .ref 217), (1, .int (nI k))] [] Λ I1 L R Q := by
    refine hc_down ?_ ?_
    · intro I1 h1 h2
      refine LW_iloadn 1 dX11_takesOver_31 rfl rfl ?_
      refine LW_iconst (v := 4) dX11_takesOver_32 (by decide) ?_
      refine LW_icmp_ge (tgt := 56) dX11_takesOver_33 (by decide) (fun c33 => ?_) (fun c33 => absurd (Int32.le_refl _) c33)
      exact hend I1 h1 h2
    · intro k hk ih I1 h1 h2
      refine LW_iloadn 1 dX11_takesOver_31 rfl rfl ?_
      refine LW_iconst (v := 4) dX11_takesOver_32 (by decide) ?_
      refine LW_icmp_ge (tgt := 56) dX11_takesOver_33 (by decide) (fun c33 => absurd c33 (hc_nle (a := 4) (b := k) (by omega) (by omega) hk)) (fun c33 => ?_)
      refine LW_aloadn 0 dX11_takesOver_36 rfl rfl ?_
      refine gX11_6 dX11_takesOver_37 flX11_28 (hY.lt (k := 217) (by decide)) (ly217 hY) (lf217_6 hY) ?_
      refine LW_iloadn 1 dX11_takesOver_40 rfl rfl ?_
      refine LW_aloadn 0 dX11_takesOver_41 rfl rfl ?_
      refine gX11_6 dX11_takesOver_42 flX11_28 (hY.lt (k := 217) (by decide)) (ly217 hY) (lf217_6 hY) ?_
      refine LW_iconst (v := 4) dX11_takesOver_45 (by decide) ?_
      refine LW_iloadn 1 dX11_takesOver_46 rfl rfl ?_
      refine LW_iadd dX11_takesOver_47 ?_
      rw [show (4 + (nI k)) = nI (4 + k) from (nI_add 4 _)]
      refine LW_iald dX11_takesOver_48 (hY.lt (k := 223) (by decide)) (ly223 hY) rfl (by omega) (Nat.le_of_ble_eq_true rfl) ?_
      rw [show I1 223 (4 + k) = I 223 (4 + k) from (by rw [h2, if_neg (by omega)])]
      refine LW_iast dX11_takesOver_49 (hY.lt (k := 223) (by decide)) (ly223 hY) rfl (by omega) (Nat.le_of_ble_eq_true rfl) ?_
      generalize hI49 : hc_u I1 223 k (I 223 (4 + k)) = I49
      refine LW_iinc (n := 1) (v := nI (k + 1)) (ls' := [(0, .ref 217), (1, .int (nI (k + 1)))]) dX11_takesOver_50 rfl (hc_inc _) (by decide) rfl ?_
      refine LW_goto (tgt := 31) dX11_takesOver_53 (by decide) ?_
      exact ih I49 (fun z hz => by rw [← hI49, hc_u_row _ _ _ _ hz]; exact h1 z hz) (fun j => by
        rw [← hI49, hc_u_at]
        by_cases c : j = k
        · rw [if_pos c, if_pos (by omega), c]
        · rw [if_neg c, h2 j]
          by_cases d : j < k
          · rw [if_pos d, if_pos (by omega)]
          · rw [if_neg d, if_neg (by omega)])
  exact loop 0 (Nat.zero_le _) I (fun _ _ => rfl) (fun j => by rw [if_neg (Nat.not_lt_zero j)])
set_option maxRecDepth 100000 in
theorem to_3 {Λ : hc_L} {I : hc_I} {L : hc_J} {R : hc_R} {Q : hc_Q} (hY : LY Λ) (hend : ∀ I' : hc_I, (∀ z, z ≠ 224 → I' z = I z) → (∀ j, I' 224 j = if j < 3 then I 224 (3 + j) else I 224 j) → LW xX11_takesOver (0, 0) 83 [(0, .ref 217), (1, .int (nI 3))] [] Λ I' L R Q) : LW xX11_takesOver (0, 0) 58 [(0, .ref 217), (1, .int (nI 0))] [] Λ I L R Q := by
  have loop : ∀ k, k ≤ 3 → ∀ I1 : hc_I, (∀ z, z ≠ 224 → I1 z = I z) → (∀ j, I1 224 j = if j < k then I 224 (3 + j) else I 224 j) → LW xX11_takesOver (0, 0) 58 [(0, .ref 217), (1, .int (nI k))] [] Λ I1 L R Q := by
    refine hc_down ?_ ?_
    · intro I1 h1 h2
      refine LW_iloadn 1 dX11_takesOver_58 rfl rfl ?_
      refine LW_iconst (v := 3) dX11_takesOver_59 (by decide) ?_
      refine LW_icmp_ge (tgt := 83) dX11_takesOver_60 (by decide) (fun c60 => ?_) (fun c60 => absurd (Int32.le_refl _) c60)
      exact hend I1 h1 h2
    · intro k hk ih I1 h1 h2
      refine LW_iloadn 1 dX11_takesOver_58 rfl rfl ?_
      refine LW_iconst (v := 3) dX11_takesOver_59 (by decide) ?_
      refine LW_icmp_ge (tgt := 83) dX11_takesOver_60 (by decide) (fun c60 => absurd c60 (hc_nle (a := 3) (b := k) (by omega) (by omega) hk)) (fun c60 => ?_)
      refine LW_aloadn 0 dX11_takesOver_63 rfl rfl ?_
      refine gX11_7 dX11_takesOver_64 flX11_31 (hY.lt (k := 217) (by decide)) (ly217 hY) (lf217_7 hY) ?_
      refine LW_iloadn 1 dX11_takesOver_67 rfl rfl ?_
      refine LW_aloadn 0 dX11_takesOver_68 rfl rfl ?_
      refine gX11_7 dX11_takesOver_69 flX11_31 (hY.lt (k := 217) (by decide)) (ly217 hY) (lf217_7 hY) ?_
      refine LW_iconst (v := 3) dX11_takesOver_72 (by decide) ?_
      refine LW_iloadn 1 dX11_takesOver_73 rfl rfl ?_
      refine LW_iadd dX11_takesOver_74 ?_
      rw [show (3 + (nI k)) = nI (3 + k) from (nI_add 3 _)]
      refine LW_iald dX11_takesOver_75 (hY.lt (k := 224) (by decide)) (ly224 hY) rfl (by omega) (Nat.le_of_ble_eq_true rfl) ?_
      rw [show I1 224 (3 + k) = I 224 (3 + k) from (by rw [h2, if_neg (by omega)])]
      refine LW_iast dX11_takesOver_76 (hY.lt (k := 224) (by decide)) (ly224 hY) rfl (by omega) (Nat.le_of_ble_eq_true rfl) ?_
      generalize hI76 : hc_u I1 224 k (I 224 (3 + k)) = I76
      refine LW_iinc (n := 1) (v := nI (k + 1)) (ls' := [(0, .ref 217), (1, .int (nI (k + 1)))]) dX11_takesOver_77 rfl (hc_inc _) (by decide) rfl ?_
      refine LW_goto (tgt := 58) dX11_takesOver_80 (by decide) ?_
      exact ih I76 (fun z hz => by rw [← hI76, hc_u_row _ _ _ _ hz]; exact h1 z hz) (fun j => by
        rw [← hI76, hc_u_at]
        by_cases c : j = k
        · rw [if_pos c, if_pos (by omega), c]
        · rw [if_neg c, h2 j]
          by_cases d : j < k
          · rw [if_pos d, if_pos (by omega)]
          · rw [if_neg d, if_neg (by omega)])
  exact loop 0 (Nat.zero_le _) I (fun _ _ => rfl) (fun j => by rw [if_neg (Nat.not_lt_zero j)])
set_option maxRecDepth 100000 in
theorem to_7 {Λ : hc_L} {I : hc_I} {L : hc_J} {R : hc_R} {Q : hc_Q} (hY : LY Λ) (hend : ∀ I' : hc_I, (∀ z, z ≠ 221 → I' z = I z) → (∀ j, I' 221 j = if j < 144 then I 221 (144 + j) else I 221 j) → LW xX11_takesOver (0, 0) 199 [(0, .ref 217), (1, .int (nI 144))] [] Λ I' L R Q) : LW xX11_takesOver (0, 0) 170 [(0, .ref 217), (1, .int (nI 0))] [] Λ I L R Q := by
  have loop : ∀ k, k ≤ 144 → ∀ I1 : hc_I, (∀ z, z ≠ 221 → I1 z = I z) → (∀ j, I1 221 j = if j < k then I 221 (144 + j) else I 221 j) → LW xX11_takesOver (0, 0) 170 [(0, .ref 217), (1, .int (nI k))] [] Λ I1 L R Q := by
    refine hc_down ?_ ?_
    · intro I1 h1 h2
      refine LW_iloadn 1 dX11_takesOver_170 rfl rfl ?_
      refine LW_sipush (v := 144) dX11_takesOver_171 (by decide) ?_
      refine LW_icmp_ge (tgt := 199) dX11_takesOver_174 (by decide) (fun c174 => ?_) (fun c174 => absurd (Int32.le_refl _) c174)
      exact hend I1 h1 h2
    · intro k hk ih I1 h1 h2
      refine LW_iloadn 1 dX11_takesOver_170 rfl rfl ?_
      refine LW_sipush (v := 144) dX11_takesOver_171 (by decide) ?_
      refine LW_icmp_ge (tgt := 199) dX11_takesOver_174 (by decide) (fun c174 => absurd c174 (hc_nle (a := 144) (b := k) (by omega) (by omega) hk)) (fun c174 => ?_)
      refine LW_aloadn 0 dX11_takesOver_177 rfl rfl ?_
      refine gX11_4 dX11_takesOver_178 flX11_21 (hY.lt (k := 217) (by decide)) (ly217 hY) (lf217_4 hY) ?_
      refine LW_iloadn 1 dX11_takesOver_181 rfl rfl ?_
      refine LW_aloadn 0 dX11_takesOver_182 rfl rfl ?_
      refine gX11_4 dX11_takesOver_183 flX11_21 (hY.lt (k := 217) (by decide)) (ly217 hY) (lf217_4 hY) ?_
      refine LW_sipush (v := 144) dX11_takesOver_186 (by decide) ?_
      refine LW_iloadn 1 dX11_takesOver_189 rfl rfl ?_
      refine LW_iadd dX11_takesOver_190 ?_
      rw [show (144 + (nI k)) = nI (144 + k) from (nI_add 144 _)]
      refine LW_iald dX11_takesOver_191 (hY.lt (k := 221) (by decide)) (ly221 hY) rfl (by omega) (Nat.le_of_ble_eq_true rfl) ?_
      rw [show I1 221 (144 + k) = I 221 (144 + k) from (by rw [h2, if_neg (by omega)])]
      refine LW_iast dX11_takesOver_192 (hY.lt (k := 221) (by decide)) (ly221 hY) rfl (by omega) (Nat.le_of_ble_eq_true rfl) ?_
      generalize hI192 : hc_u I1 221 k (I 221 (144 + k)) = I192
      refine LW_iinc (n := 1) (v := nI (k + 1)) (ls' := [(0, .ref 217), (1, .int (nI (k + 1)))]) dX11_takesOver_193 rfl (hc_inc _) (by decide) rfl ?_
      refine LW_goto (tgt := 170) dX11_takesOver_196 (by decide) ?_
      exact ih I192 (fun z hz => by rw [← hI192, hc_u_row _ _ _ _ hz]; exact h1 z hz) (fun j => by
        rw [← hI192, hc_u_at]
        by_cases c : j = k
        · rw [if_pos c, if_pos (by omega), c]
        · rw [if_neg c, h2 j]
          by_cases d : j < k
          · rw [if_pos d, if_pos (by omega)]
          · rw [if_neg d, if_neg (by omega)])
  exact loop 0 (Nat.zero_le _) I (fun _ _ => rfl) (fun j => by rw [if_neg (Nat.not_lt_zero j)])
set_option maxRecDepth 100000 in
theorem to_6 {Λ : hc_L} {I : hc_I} {L : hc_J} {R : hc_R} {Q : hc_Q} (hY : LY Λ) (hend : ∀ L' : hc_J, (∀ z, z ≠ 220 → L' z = L z) → (∀ j, L' 220 j = if j < 12 then L 220 (12 + j) else L 220 j) → LW xX11_takesOver (0, 0) 168 [(0, .ref 217), (1, .int (nI 12))] [] Λ I L' R Q) : LW xX11_takesOver (0, 0) 141 [(0, .ref 217), (1, .int (nI 0))] [] Λ I L R Q := by
  have loop : ∀ k, k ≤ 12 → ∀ L1 : hc_J, (∀ z, z ≠ 220 → L1 z = L z) → (∀ j, L1 220 j = if j < k then L 220 (12 + j) else L 220 j) → LW xX11_takesOver (0, 0) 141 [(0, .ref 217), (1, .int (nI k))] [] Λ I L1 R Q := by
    refine hc_down ?_ ?_
    · intro L1 h1 h2
      refine LW_iloadn 1 dX11_takesOver_141 rfl rfl ?_
      refine LW_bipush (v := 12) dX11_takesOver_142 (by decide) ?_
      refine LW_icmp_ge (tgt := 168) dX11_takesOver_144 (by decide) (fun c144 => ?_) (fun c144 => absurd (Int32.le_refl _) c144)
      exact hend L1 h1 h2
    · intro k hk ih L1 h1 h2
      refine LW_iloadn 1 dX11_takesOver_141 rfl rfl ?_
      refine LW_bipush (v := 12) dX11_takesOver_142 (by decide) ?_
      refine LW_icmp_ge (tgt := 168) dX11_takesOver_144 (by decide) (fun c144 => absurd c144 (hc_nle (a := 12) (b := k) (by omega) (by omega) hk)) (fun c144 => ?_)
      refine LW_aloadn 0 dX11_takesOver_147 rfl rfl ?_
      refine gX11_3 dX11_takesOver_148 flX11_18 (hY.lt (k := 217) (by decide)) (ly217 hY) (lf217_3 hY) ?_
      refine LW_iloadn 1 dX11_takesOver_151 rfl rfl ?_
      refine LW_aloadn 0 dX11_takesOver_152 rfl rfl ?_
      refine gX11_3 dX11_takesOver_153 flX11_18 (hY.lt (k := 217) (by decide)) (ly217 hY) (lf217_3 hY) ?_
      refine LW_bipush (v := 12) dX11_takesOver_156 (by decide) ?_
      refine LW_iloadn 1 dX11_takesOver_158 rfl rfl ?_
      refine LW_iadd dX11_takesOver_159 ?_
      rw [show (12 + (nI k)) = nI (12 + k) from (nI_add 12 _)]
      refine LW_lald dX11_takesOver_160 (hY.lt (k := 220) (by decide)) (ly220 hY) rfl (by omega) (Nat.le_of_ble_eq_true rfl) ?_
      rw [show L1 220 (12 + k) = L 220 (12 + k) from (by rw [h2, if_neg (by omega)])]
      refine LW_last dX11_takesOver_161 (hY.lt (k := 220) (by decide)) (ly220 hY) rfl (by omega) (Nat.le_of_ble_eq_true rfl) ?_
      generalize hL161 : hc_u L1 220 k (L 220 (12 + k)) = L161
      refine LW_iinc (n := 1) (v := nI (k + 1)) (ls' := [(0, .ref 217), (1, .int (nI (k + 1)))]) dX11_takesOver_162 rfl (hc_inc _) (by decide) rfl ?_
      refine LW_goto (tgt := 141) dX11_takesOver_165 (by decide) ?_
      exact ih L161 (fun z hz => by rw [← hL161, hc_u_row _ _ _ _ hz]; exact h1 z hz) (fun j => by
        rw [← hL161, hc_u_at]
        by_cases c : j = k
        · rw [if_pos c, if_pos (by omega), c]
        · rw [if_neg c, h2 j]
          by_cases d : j < k
          · rw [if_pos d, if_pos (by omega)]
          · rw [if_neg d, if_neg (by omega)])
  exact loop 0 (Nat.zero_le _) L (fun _ _ => rfl) (fun j => by rw [if_neg (Nat.not_lt_zero j)])
set_option maxRecDepth 100000 in
theorem to_8 {Λ : hc_L} {I : hc_I} {L : hc_J} {R : hc_R} {Q : hc_Q} (hY : LY Λ) (hend : ∀ L' : hc_J, (∀ z, z ≠ 218 → L' z = L z) → (∀ j, j < 210 → L' 218 j = 0) → LW xX11_takesOver (0, 0) 221 [(0, .ref 217), (1, .int (nI 210))] [] Λ I L' R Q) : LW xX11_takesOver (0, 0) 201 [(0, .ref 217), (1, .int (nI 0))] [] Λ I L R Q := by
  have loop : ∀ k, k ≤ 210 → ∀ L1 : hc_J, (∀ z, z ≠ 218 → L1 z = L z) → (∀ j, j < k → L1 218 j = 0) → LW xX11_takesOver (0, 0) 201 [(0, .ref 217), (1, .int (nI k))] [] Λ I L1 R Q := by
    refine hc_down ?_ ?_
    · intro L1 h1 h2
      refine LW_iloadn 1 dX11_takesOver_201 rfl rfl ?_
      refine LW_sipush (v := 210) dX11_takesOver_202 (by decide) ?_
      refine LW_icmp_ge (tgt := 221) dX11_takesOver_205 (by decide) (fun c205 => ?_) (fun c205 => absurd (Int32.le_refl _) c205)
      exact hend L1 h1 h2
    · intro k hk ih L1 h1 h2
      refine LW_iloadn 1 dX11_takesOver_201 rfl rfl ?_
      refine LW_sipush (v := 210) dX11_takesOver_202 (by decide) ?_
      refine LW_icmp_ge (tgt := 221) dX11_takesOver_205 (by decide) (fun c205 => absurd c205 (hc_nle (a := 210) (b := k) (by omega) (by omega) hk)) (fun c205 => ?_)
      refine LW_aloadn 0 dX11_takesOver_208 rfl rfl ?_
      refine gX11_0 dX11_takesOver_209 flX11_9 (hY.lt (k := 217) (by decide)) (ly217 hY) (lf217_0 hY) ?_
      refine LW_iloadn 1 dX11_takesOver_212 rfl rfl ?_
      refine LW_lconst (v := 0) dX11_takesOver_213 (by decide) ?_
      refine LW_last dX11_takesOver_214 (hY.lt (k := 218) (by decide)) (ly218 hY) rfl (by omega) (Nat.le_of_ble_eq_true rfl) ?_
      generalize hL214 : hc_u L1 218 k 0 = L214
      refine LW_iinc (n := 1) (v := nI (k + 1)) (ls' := [(0, .ref 217), (1, .int (nI (k + 1)))]) dX11_takesOver_215 rfl (hc_inc _) (by decide) rfl ?_
      refine LW_goto (tgt := 201) dX11_takesOver_218 (by decide) ?_
      exact ih L214 (fun z hz => by rw [← hL214, hc_u_row _ _ _ _ hz]; exact h1 z hz) (fun j hj => by
        rw [← hL214, hc_u_at]
        by_cases c : j = k
        · rw [if_pos c]
        · rw [if_neg c]; exact h2 j (by omega))
  exact loop 0 (Nat.zero_le _) L (fun _ _ => rfl) (fun j hj => absurd hj (Nat.not_lt_zero j))
set_option maxRecDepth 100000 in
theorem to_9 {Λ : hc_L} {I : hc_I} {L : hc_J} {R : hc_R} {Q : hc_Q} {M : Nat} (hY : LY Λ) (hM : M ≤ 12) (h12 : I 217 12 = nI M) (hend : ∀ L' : hc_J, (∀ z, z ≠ 218 → L' z = L z) → (∀ j, L' 218 j = if 10 ≤ j ∧ j < 10 + M then 1 else L 218 j) → LW xX11_takesOver (0, 0) 314 [(0, .ref 217), (1, .int (nI M))] [] Λ I L' R Q) : LW xX11_takesOver (0, 0) 290 [(0, .ref 217), (1, .int (nI 0))] [] Λ I L R Q := by
  have loop : ∀ k, k ≤ M → ∀ L1 : hc_J, (∀ z, z ≠ 218 → L1 z = L z) → (∀ j, L1 218 j = if 10 ≤ j ∧ j < 10 + k then 1 else L 218 j) → LW xX11_takesOver (0, 0) 290 [(0, .ref 217), (1, .int (nI k))] [] Λ I L1 R Q := by
    refine hc_down ?_ ?_
    · intro L1 h1 h2
      refine LW_iloadn 1 dX11_takesOver_290 rfl rfl ?_
      refine LW_aloadn 0 dX11_takesOver_291 rfl rfl ?_
      refine gX11_12 dX11_takesOver_292 flX11_94 (hY.lt (k := 217) (by decide)) (ly217 hY) ?_
      rw [show I 217 12 = nI M from h12]
      refine LW_icmp_ge (tgt := 314) dX11_takesOver_295 (by decide) (fun c295 => ?_) (fun c295 => absurd (Int32.le_refl _) c295)
      exact hend L1 h1 h2
    · intro k hk ih L1 h1 h2
      refine LW_iloadn 1 dX11_takesOver_290 rfl rfl ?_
      refine LW_aloadn 0 dX11_takesOver_291 rfl rfl ?_
      refine gX11_12 dX11_takesOver_292 flX11_94 (hY.lt (k := 217) (by decide)) (ly217 hY) ?_
      rw [show I 217 12 = nI M from h12]
      refine LW_icmp_ge (tgt := 314) dX11_takesOver_295 (by decide) (fun c295 => absurd c295 (hc_nle (a := M) (b := k) (by omega) (by omega) hk)) (fun c295 => ?_)
      refine LW_aloadn 0 dX11_takesOver_298 rfl rfl ?_
      refine gX11_0 dX11_takesOver_299 flX11_9 (hY.lt (k := 217) (by decide)) (ly217 hY) (lf217_0 hY) ?_
      refine LW_bipush (v := 10) dX11_takesOver_302 (by decide) ?_
      refine LW_iloadn 1 dX11_takesOver_304 rfl rfl ?_
      refine LW_iadd dX11_takesOver_305 ?_
      rw [show (10 + (nI k)) = nI (10 + k) from (nI_add 10 _)]
      refine LW_lconst (v := 1) dX11_takesOver_306 (by decide) ?_
      refine LW_last dX11_takesOver_307 (hY.lt (k := 218) (by decide)) (ly218 hY) rfl (by omega) (Nat.le_of_ble_eq_true rfl) ?_
      generalize hL307 : hc_u L1 218 (10 + k) 1 = L307
      refine LW_iinc (n := 1) (v := nI (k + 1)) (ls' := [(0, .ref 217), (1, .int (nI (k + 1)))]) dX11_takesOver_308 rfl (hc_inc _) (by decide) rfl ?_
      refine LW_goto (tgt := 290) dX11_takesOver_311 (by decide) ?_
      exact ih L307 (fun z hz => by rw [← hL307, hc_u_row _ _ _ _ hz]; exact h1 z hz) (fun j => by
        rw [← hL307, hc_u_at]
        by_cases c : j = 10 + k
        · rw [if_pos c, if_pos (by omega)]
        · rw [if_neg c, h2 j]
          by_cases d : 10 ≤ j ∧ j < 10 + k
          · rw [if_pos d, if_pos (by omega)]
          · rw [if_neg d, if_neg (by omega)])
  exact loop 0 (Nat.zero_le _) L (fun _ _ => rfl) (fun j => by rw [if_neg (by omega)])
set_option maxRecDepth 100000 in
theorem to_4 {Λ : hc_L} {I : hc_I} {L : hc_J} {R : hc_R} {Q : hc_Q} {c0 : Nat} (hY : LY Λ) (hc : c0 ≤ 700) (h11 : I 217 11 = nI c0) (hend : ∀ (I' : hc_I) (L' : hc_J), (∀ z, z ≠ 226 → I' z = I z) → (∀ z, z ≠ 225 → L' z = L z) → (∀ j, I' 226 j = if j < c0 then I 226 (700 + j) else I 226 j) → (∀ j, L' 225 j = if j < c0 then L 225 (700 + j) else L 225 j) → LW xX11_takesOver (0, 0) 131 [(0, .ref 217), (1, .int (nI c0))] [] Λ I' L' R Q) : LW xX11_takesOver (0, 0) 85 [(0, .ref 217), (1, .int (nI 0))] [] Λ I L R Q := by
  have loop : ∀ k, k ≤ c0 → ∀ (I1 : hc_I) (L1 : hc_J), (∀ z, z ≠ 226 → I1 z = I z) → (∀ z, z ≠ 225 → L1 z = L z) → (∀ j, I1 226 j = if j < k then I 226 (700 + j) else I 226 j) → (∀ j, L1 225 j = if j < k then L 225 (700 + j) else L 225 j) → LW xX11_takesOver (0, 0) 85 [(0, .ref 217), (1, .int (nI k))] [] Λ I1 L1 R Q := by
    refine hc_down ?_ ?_
    · intro I1 L1 h1 h2 h3 h4
      refine LW_iloadn 1 dX11_takesOver_85 rfl rfl ?_
      refine LW_aloadn 0 dX11_takesOver_86 rfl rfl ?_
      refine gX11_11 dX11_takesOver_87 flX11_91 (hY.lt (k := 217) (by decide)) (ly217 hY) ?_
      rw [show I1 217 11 = nI c0 from (by rw [h1 217 (by decide)]; exact h11)]
      refine LW_icmp_ge (tgt := 131) dX11_takesOver_90 (by decide) (fun c90 => ?_) (fun c90 => absurd (Int32.le_refl _) c90)
      exact hend I1 L1 h1 h2 h3 h4
    · intro k hk ih I1 L1 h1 h2 h3 h4
      refine LW_iloadn 1 dX11_takesOver_85 rfl rfl ?_
      refine LW_aloadn 0 dX11_takesOver_86 rfl rfl ?_
      refine gX11_11 dX11_takesOver_87 flX11_91 (hY.lt (k := 217) (by decide)) (ly217 hY) ?_
      rw [show I1 217 11 = nI c0 from (by rw [h1 217 (by decide)]; exact h11)]
      refine LW_icmp_ge (tgt := 131) dX11_takesOver_90 (by decide) (fun c90 => absurd c90 (hc_nle (a := c0) (b := k) (by omega) (by omega) hk)) (fun c90 => ?_)
      refine LW_aloadn 0 dX11_takesOver_93 rfl rfl ?_
      refine gX11_8 dX11_takesOver_94 flX11_34 (hY.lt (k := 217) (by decide)) (ly217 hY) (lf217_8 hY) ?_
      refine LW_iloadn 1 dX11_takesOver_97 rfl rfl ?_
      refine LW_aloadn 0 dX11_takesOver_98 rfl rfl ?_
      refine gX11_8 dX11_takesOver_99 flX11_34 (hY.lt (k := 217) (by decide)) (ly217 hY) (lf217_8 hY) ?_
      refine LW_sipush (v := 700) dX11_takesOver_102 (by decide) ?_
      refine LW_iloadn 1 dX11_takesOver_105 rfl rfl ?_
      refine LW_iadd dX11_takesOver_106 ?_
      rw [show (700 + (nI k)) = nI (700 + k) from (nI_add 700 _)]
      refine LW_lald dX11_takesOver_107 (hY.lt (k := 225) (by decide)) (ly225 hY) rfl (by omega) (Nat.le_of_ble_eq_true rfl) ?_
      rw [show L1 225 (700 + k) = L 225 (700 + k) from (by rw [h4, if_neg (by omega)])]
      refine LW_last dX11_takesOver_108 (hY.lt (k := 225) (by decide)) (ly225 hY) rfl (by omega) (Nat.le_of_ble_eq_true rfl) ?_
      generalize hL108 : hc_u L1 225 k (L 225 (700 + k)) = L108
      refine LW_aloadn 0 dX11_takesOver_109 rfl rfl ?_
      refine gX11_9 dX11_takesOver_110 flX11_37 (hY.lt (k := 217) (by decide)) (ly217 hY) (lf217_9 hY) ?_
      refine LW_iloadn 1 dX11_takesOver_113 rfl rfl ?_
      refine LW_aloadn 0 dX11_takesOver_114 rfl rfl ?_
      refine gX11_9 dX11_takesOver_115 flX11_37 (hY.lt (k := 217) (by decide)) (ly217 hY) (lf217_9 hY) ?_
      refine LW_sipush (v := 700) dX11_takesOver_118 (by decide) ?_
      refine LW_iloadn 1 dX11_takesOver_121 rfl rfl ?_
      refine LW_iadd dX11_takesOver_122 ?_
      rw [show (700 + (nI k)) = nI (700 + k) from (nI_add 700 _)]
      refine LW_iald dX11_takesOver_123 (hY.lt (k := 226) (by decide)) (ly226 hY) rfl (by omega) (Nat.le_of_ble_eq_true rfl) ?_
      rw [show I1 226 (700 + k) = I 226 (700 + k) from (by rw [h3, if_neg (by omega)])]
      refine LW_iast dX11_takesOver_124 (hY.lt (k := 226) (by decide)) (ly226 hY) rfl (by omega) (Nat.le_of_ble_eq_true rfl) ?_
      generalize hI124 : hc_u I1 226 k (I 226 (700 + k)) = I124
      refine LW_iinc (n := 1) (v := nI (k + 1)) (ls' := [(0, .ref 217), (1, .int (nI (k + 1)))]) dX11_takesOver_125 rfl (hc_inc _) (by decide) rfl ?_
      refine LW_goto (tgt := 85) dX11_takesOver_128 (by decide) ?_
      exact ih I124 L108 (fun z hz => by rw [← hI124, hc_u_row _ _ _ _ hz]; exact h1 z hz) (fun z hz => by rw [← hL108, hc_u_row _ _ _ _ hz]; exact h2 z hz) (fun j => by
        rw [← hI124, hc_u_at]
        by_cases c : j = k
        · rw [if_pos c, if_pos (by omega), c]
        · rw [if_neg c, h3 j]
          by_cases d : j < k
          · rw [if_pos d, if_pos (by omega)]
          · rw [if_neg d, if_neg (by omega)]) (fun j => by
        rw [← hL108, hc_u_at]
        by_cases c : j = k
        · rw [if_pos c, if_pos (by omega), c]
        · rw [if_neg c, h4 j]
          by_cases d : j < k
          · rw [if_pos d, if_pos (by omega)]
          · rw [if_neg d, if_neg (by omega)])
  exact loop 0 (Nat.zero_le _) I L (fun _ _ => rfl) (fun _ _ => rfl) (fun j => by rw [if_neg (Nat.not_lt_zero j)]) (fun j => by rw [if_neg (Nat.not_lt_zero j)])
set_option maxRecDepth 100000 in
theorem r_takesOver {Λ : hc_L} {I : hc_I} {L : hc_J} {R : hc_R} {A : AS} {P : LwP} {Bt : Nat → Nat} {H : Nat → AS} {fc : Nat} {q : Int32} (hY : LY Λ) (hW : TD I L A P) (hA : wf A) (hP : lpOk P) (h20 : I 217 20 = nI 0) (h21 : I 217 21 = nI fc) (h22 : I 217 22 = q) (h35 : I 217 35 = -1) : Run xX11_takesOver [.ref 217] Λ I L R (fun r Λ' I' L' R' => r = none ∧ Λ = Λ' ∧ R = R' ∧ (∀ z, ¬ MJ z → I' z = I z) ∧ (∀ z, ¬ MJ z → L' z = L z) ∧ MW Λ I' L' (A, P, Bt, 0, H, 0, fc, q) ∧ I' 217 13 = I 217 13) := by
  refine Run.of (by decide +kernel) (Nat.le_of_ble_eq_true rfl) ?_
  show LW _ _ _ [(0, .ref 217)] _ _ _ _ _ _
  obtain ⟨⟨⟨q1, q2, q3, q4, q5, q6⟩, ⟨w2, w3⟩, ⟨⟨w4, w5, w6, w7⟩, w8, w9, w10⟩, w11, w12, w13, w14⟩, hDp, h18⟩ := hW
  refine LW_iconst (v := 0) dX11_takesOver_0 (by decide) ?_
  refine LW_istoren (ls' := [(0, .ref 217), (1, .int 0)]) dX11_takesOver_1 rfl (by decide) rfl ?_
  refine to_1 hY (fun Ia a1 a2 => ?_)
  refine LW_iconst (v := 0) dX11_takesOver_29 (by decide) ?_
  refine LW_istoren (ls' := [(0, .ref 217), (1, .int 0)]) dX11_takesOver_30 rfl (by decide) rfl ?_
  refine to_2 hY (fun Ib b1 b2 => ?_)
  refine LW_iconst (v := 0) dX11_takesOver_56 (by decide) ?_
  refine LW_istoren (ls' := [(0, .ref 217), (1, .int 0)]) dX11_takesOver_57 rfl (by decide) rfl ?_
  refine to_3 hY (fun Ic c1 c2 => ?_)
  refine LW_iconst (v := 0) dX11_takesOver_83 (by decide) ?_
  refine LW_istoren (ls' := [(0, .ref 217), (1, .int 0)]) dX11_takesOver_84 rfl (by decide) rfl ?_
  refine to_4 hY hP.1 (by rw [c1 217 (by decide), b1 217 (by decide), a1 217 (by decide)]; exact hDp.1) (fun Id Ld d1 d2 d3 d4 => ?_)
  refine LW_aloadn 0 dX11_takesOver_131 rfl rfl ?_
  refine LW_aloadn 0 dX11_takesOver_132 rfl rfl ?_
  refine gX11_11 dX11_takesOver_133 flX11_91 (hY.lt (k := 217) (by decide)) (ly217 hY) ?_
  rw [show Id 217 11 = nI P.1 from (by rw [d1 217 (by decide), c1 217 (by decide), b1 217 (by decide), a1 217 (by decide)]; exact hDp.1)]
  refine pX11_10 dX11_takesOver_136 flX11_116 (hY.lt (k := 217) (by decide)) (ly217 hY) ?_
  generalize hI136 : hc_u Id 217 10 (nI P.1) = I136
  refine LW_iconst (v := 0) dX11_takesOver_139 (by decide) ?_
  refine LW_istoren (ls' := [(0, .ref 217), (1, .int 0)]) dX11_takesOver_140 rfl (by decide) rfl ?_
  refine to_6 hY (fun Le e1 e2 => ?_)
  refine LW_iconst (v := 0) dX11_takesOver_168 (by decide) ?_
  refine LW_istoren (ls' := [(0, .ref 217), (1, .int 0)]) dX11_takesOver_169 rfl (by decide) rfl ?_
  refine to_7 hY (fun If f1 f2 => ?_)
  refine LW_iconst (v := 0) dX11_takesOver_199 (by decide) ?_
  refine LW_istoren (ls' := [(0, .ref 217), (1, .int 0)]) dX11_takesOver_200 rfl (by decide) rfl ?_
  refine to_8 hY (fun Lg g1 g2 => ?_)
  have g7 : ∀ j, j ≠ 10 → If 217 j = I 217 j := fun j hj => by rw [f1 217 (by decide), ← hI136, hc_u_at, if_neg hj, d1 217 (by decide), c1 217 (by decide), b1 217 (by decide), a1 217 (by decide)]
  refine LW_aloadn 0 dX11_takesOver_221 rfl rfl ?_
  refine gX11_0 dX11_takesOver_222 flX11_9 (hY.lt (k := 217) (by decide)) (ly217 hY) (lf217_0 hY) ?_
  refine LW_iconst (v := 0) dX11_takesOver_225 (by decide) ?_
  refine LW_aloadn 0 dX11_takesOver_226 rfl rfl ?_
  refine gX11_14 dX11_takesOver_227 flX11_100 (hY.lt (k := 217) (by decide)) (ly217 hY) ?_
  refine LW_i2l dX11_takesOver_230 ?_
  rw [show (If 217 14).toInt64 = aRu A 0 from (by rw [g7 14 (by decide)]; exact w4)]
  refine LW_last dX11_takesOver_231 (hY.lt (k := 218) (by decide)) (ly218 hY) rfl (by decide) (Nat.le_of_ble_eq_true rfl) ?_
  generalize hL231 : hc_u Lg 218 0 (aRu A 0) = L231
  refine LW_aloadn 0 dX11_takesOver_232 rfl rfl ?_
  refine gX11_0 dX11_takesOver_233 flX11_9 (hY.lt (k := 217) (by decide)) (ly217 hY) (lf217_0 hY) ?_
  refine LW_iconst (v := 1) dX11_takesOver_236 (by decide) ?_
  refine LW_aloadn 0 dX11_takesOver_237 rfl rfl ?_
  refine gX11_15 dX11_takesOver_238 flX11_103 (hY.lt (k := 217) (by decide)) (ly217 hY) ?_
  refine LW_i2l dX11_takesOver_241 ?_
  rw [show (If 217 15).toInt64 = aRu A 1 from (by rw [g7 15 (by decide)]; exact w5)]
  refine LW_last dX11_takesOver_242 (hY.lt (k := 218) (by decide)) (ly218 hY) rfl (by decide) (Nat.le_of_ble_eq_true rfl) ?_
  generalize hL242 : hc_u L231 218 1 (aRu A 1) = L242
  refine LW_aloadn 0 dX11_takesOver_243 rfl rfl ?_
  refine gX11_0 dX11_takesOver_244 flX11_9 (hY.lt (k := 217) (by decide)) (ly217 hY) (lf217_0 hY) ?_
  refine LW_iconst (v := 2) dX11_takesOver_247 (by decide) ?_
  refine LW_aloadn 0 dX11_takesOver_248 rfl rfl ?_
  refine gX11_16 dX11_takesOver_249 flX11_106 (hY.lt (k := 217) (by decide)) (ly217 hY) ?_
  refine LW_i2l dX11_takesOver_252 ?_
  rw [show (If 217 16).toInt64 = aRu A 5 from (by rw [g7 16 (by decide)]; exact w6)]
  refine LW_last dX11_takesOver_253 (hY.lt (k := 218) (by decide)) (ly218 hY) rfl (by decide) (Nat.le_of_ble_eq_true rfl) ?_
  generalize hL253 : hc_u L242 218 2 (aRu A 5) = L253
  refine LW_aloadn 0 dX11_takesOver_254 rfl rfl ?_
  refine gX11_0 dX11_takesOver_255 flX11_9 (hY.lt (k := 217) (by decide)) (ly217 hY) (lf217_0 hY) ?_
  refine LW_iconst (v := 3) dX11_takesOver_258 (by decide) ?_
  refine LW_aloadn 0 dX11_takesOver_259 rfl rfl ?_
  refine gX11_17 dX11_takesOver_260 flX11_109 (hY.lt (k := 217) (by decide)) (ly217 hY) ?_
  refine LW_i2l dX11_takesOver_263 ?_
  rw [show (If 217 17).toInt64 = aRu A 6 from (by rw [g7 17 (by decide)]; exact w7)]
  refine LW_last dX11_takesOver_264 (hY.lt (k := 218) (by decide)) (ly218 hY) rfl (by decide) (Nat.le_of_ble_eq_true rfl) ?_
  generalize hL264 : hc_u L253 218 3 (aRu A 6) = L264
  refine LW_aloadn 0 dX11_takesOver_265 rfl rfl ?_
  refine gX11_0 dX11_takesOver_266 flX11_9 (hY.lt (k := 217) (by decide)) (ly217 hY) (lf217_0 hY) ?_
  refine LW_iconst (v := 5) dX11_takesOver_269 (by decide) ?_
  refine LW_aloadn 0 dX11_takesOver_270 rfl rfl ?_
  refine gX11_12 dX11_takesOver_271 flX11_94 (hY.lt (k := 217) (by decide)) (ly217 hY) ?_
  rw [show If 217 12 = nI (aM A) from (by rw [g7 12 (by decide)]; exact w2)]
  refine LW_i2l dX11_takesOver_274 ?_
  rw [show (nI (aM A)).toInt64 = lN (aM A) from (nI_l (by omega))]
  refine LW_last dX11_takesOver_275 (hY.lt (k := 218) (by decide)) (ly218 hY) rfl (by decide) (Nat.le_of_ble_eq_true rfl) ?_
  generalize hL275 : hc_u L264 218 5 (lN (aM A)) = L275
  refine LW_aloadn 0 dX11_takesOver_276 rfl rfl ?_
  refine gX11_0 dX11_takesOver_277 flX11_9 (hY.lt (k := 217) (by decide)) (ly217 hY) (lf217_0 hY) ?_
  refine LW_bipush (v := 6) dX11_takesOver_280 (by decide) ?_
  refine LW_aloadn 0 dX11_takesOver_282 rfl rfl ?_
  refine gX11_13 dX11_takesOver_283 flX11_97 (hY.lt (k := 217) (by decide)) (ly217 hY) ?_
  rw [show If 217 13 = nI (aF A) from (by rw [g7 13 (by decide)]; exact w3)]
  refine LW_i2l dX11_takesOver_286 ?_
  rw [show (nI (aF A)).toInt64 = lN (aF A) from (nI_l (by omega))]
  refine LW_last dX11_takesOver_287 (hY.lt (k := 218) (by decide)) (ly218 hY) rfl (by decide) (Nat.le_of_ble_eq_true rfl) ?_
  generalize hL287 : hc_u L275 218 6 (lN (aF A)) = L287
  refine LW_iconst (v := 0) dX11_takesOver_288 (by decide) ?_
  refine LW_istoren (ls' := [(0, .ref 217), (1, .int 0)]) dX11_takesOver_289 rfl (by decide) rfl ?_
  refine to_9 hY q1 (by rw [g7 12 (by decide)]; exact w2) (fun Lh h1 h2 => ?_)
  refine LW_aloadn 0 dX11_takesOver_314 rfl rfl ?_
  refine LW_iconst (v := 0) dX11_takesOver_315 (by decide) ?_
  refine pX11_2 dX11_takesOver_316 flX11_87 (hY.lt (k := 217) (by decide)) (ly217 hY) ?_
  generalize hI316 : hc_u If 217 2 0 = I316
  refine LW_vret dX11_takesOver_319 rfl (Nat.le_of_ble_eq_true rfl) (Nat.le_of_ble_eq_true rfl) ?_
  have kI : ∀ z, z ≠ 217 → z ≠ 221 → z ≠ 222 → z ≠ 223 → z ≠ 224 → z ≠ 226 → I316 z = I z := fun z a b c d e f => by rw [← hI316, hc_u_row _ _ _ _ a, f1 z b, ← hI136, hc_u_row _ _ _ _ a, d1 z f, c1 z e, b1 z d, a1 z c]
  have k222 : I316 222 = Ia 222 := by rw [← hI316, hc_u_row _ _ _ _ (by decide), f1 222 (by decide), ← hI136, hc_u_row _ _ _ _ (by decide), d1 222 (by decide), c1 222 (by decide), b1 222 (by decide)]
  have k223 : I316 223 = Ib 223 := by rw [← hI316, hc_u_row _ _ _ _ (by decide), f1 223 (by decide), ← hI136, hc_u_row _ _ _ _ (by decide), d1 223 (by decide), c1 223 (by decide)]
  have k224 : I316 224 = Ic 224 := by rw [← hI316, hc_u_row _ _ _ _ (by decide), f1 224 (by decide), ← hI136, hc_u_row _ _ _ _ (by decide), d1 224 (by decide)]
  have k226 : I316 226 = Id 226 := by rw [← hI316, hc_u_row _ _ _ _ (by decide), f1 226 (by decide), ← hI136, hc_u_row _ _ _ _ (by decide)]
  have k221 : I316 221 = If 221 := by rw [← hI316, hc_u_row _ _ _ _ (by decide)]
  have k217 : ∀ j, I316 217 j = if j = 2 then 0 else if j = 10 then nI P.1 else I 217 j := fun j => by
    rw [← hI316, hc_u_at, f1 217 (by decide), ← hI136, hc_u_at, d1 217 (by decide), c1 217 (by decide), b1 217 (by decide), a1 217 (by decide)]
  have kL : ∀ z, z ≠ 218 → z ≠ 220 → z ≠ 225 → Lh z = L z := fun z a b c => by rw [h1 z a, ← hL287, hc_u_row _ _ _ _ a, ← hL275, hc_u_row _ _ _ _ a, ← hL264, hc_u_row _ _ _ _ a, ← hL253, hc_u_row _ _ _ _ a, ← hL242, hc_u_row _ _ _ _ a, ← hL231, hc_u_row _ _ _ _ a, g1 z a, e1 z b, d2 z c]
  have k220 : Lh 220 = Le 220 := by rw [h1 220 (by decide), ← hL287, hc_u_row _ _ _ _ (by decide), ← hL275, hc_u_row _ _ _ _ (by decide), ← hL264, hc_u_row _ _ _ _ (by decide), ← hL253, hc_u_row _ _ _ _ (by decide), ← hL242, hc_u_row _ _ _ _ (by decide), ← hL231, hc_u_row _ _ _ _ (by decide), g1 220 (by decide)]
  have k225 : Lh 225 = Ld 225 := by rw [h1 225 (by decide), ← hL287, hc_u_row _ _ _ _ (by decide), ← hL275, hc_u_row _ _ _ _ (by decide), ← hL264, hc_u_row _ _ _ _ (by decide), ← hL253, hc_u_row _ _ _ _ (by decide), ← hL242, hc_u_row _ _ _ _ (by decide), ← hL231, hc_u_row _ _ _ _ (by decide), g1 225 (by decide), e1 225 (by decide)]
  have k218 : ∀ j, j < 210 → Lh 218 j = if 10 ≤ j ∧ j < 10 + aM A then 1 else if j = 6 then lN (aF A) else if j = 5 then lN (aM A) else if j = 3 then aRu A 6 else if j = 2 then aRu A 5 else if j = 1 then aRu A 1 else if j = 0 then aRu A 0 else 0 := fun j hj => by
    rw [h2 j, ← hL287, hc_u_at, ← hL275, hc_u_at, ← hL264, hc_u_at, ← hL253, hc_u_at, ← hL242, hc_u_at, ← hL231, hc_u_at, g2 j hj]
  refine ⟨rfl, rfl, rfl, fun z hz => ?_, fun z hz => ?_, ⟨⟨hY, hA, ⟨⟨?_, ?_, ?_, ?_⟩, ⟨?_, ?_, ?_, ?_⟩, fun m hm => ?_, fun s hs => absurd hs (by rw [q3]; exact Nat.not_lt_zero s), fun m hm => ?_, fun m hm ht => absurd ht (by rw [q6 m hm]; decide)⟩, fun f hf a ha => ?_, fun c hc => ?_, fun c hc => ?_, ?_⟩, ⟨hP, ?_, fun k hk => ?_⟩, ⟨?_, ?_, ?_⟩, fun m hm => ?_, ⟨?_, Nat.zero_le _, fun k hk => absurd hk (Nat.not_lt_zero k)⟩, ⟨?_, Nat.zero_le _, fun j hj => absurd hj (Nat.not_lt_zero j)⟩, ?_, ?_⟩, ?_⟩
  · unfold MJ at hz; exact kI z (by omega) (by omega) (by omega) (by omega) (by omega) (by omega)
  · unfold MJ at hz; exact kL z (by omega) (by omega) (by omega)
  · rw [k218 0 (by decide)]; rfl
  · rw [k218 1 (by decide)]; rfl
  · rw [k218 2 (by decide)]; rfl
  · rw [k218 3 (by decide)]; rfl
  · rw [k218 4 (by decide)]; show _ = lN (aY A); rw [q4]; rfl
  · rw [k218 5 (by decide)]; rfl
  · rw [k218 6 (by decide)]; rfl
  · rw [k218 7 (by decide)]; show _ = lN (aS A); rw [q3]; rfl
  · obtain ⟨t1, t2, t3⟩ := q5 m hm
    have hm' : m < aM A := hm
    refine ⟨?_, ?_, ?_⟩
    · rw [k218 (10 + m) (by omega), if_pos (by omega)]; show _ = lB (aTh A m); rw [t1]; rfl
    · rw [k218 (22 + m) (by omega), if_neg (by omega), if_neg (by omega), if_neg (by omega), if_neg (by omega), if_neg (by omega), if_neg (by omega), if_neg (by omega)]; show _ = lB (aLv A m); rw [t2]; rfl
    · rw [k218 (34 + m) (by omega), if_neg (by omega), if_neg (by omega), if_neg (by omega), if_neg (by omega), if_neg (by omega), if_neg (by omega), if_neg (by omega)]; show _ = lN (aYs A m); rw [t3]; rfl
  · rw [k218 (198 + m) (by omega), if_neg (by omega), if_neg (by omega), if_neg (by omega), if_neg (by omega), if_neg (by omega), if_neg (by omega), if_neg (by omega)]; show _ = lB (aEt A m); rw [q6 m hm]; rfl
  · have hf' : f < aF A := hf
    rw [k221, f2, if_pos (by omega), ← hI136, hc_u_row _ _ _ _ (by decide), d1 221 (by decide), c1 221 (by decide), b1 221 (by decide), a1 221 (by decide), ← w14 f hf a ha]
    congr 1; omega
  · rw [k222, a2, if_pos hc]; exact w11 c hc
  · rw [k223, b2, if_pos hc, a1 223 (by decide)]; exact w12 c hc
  · rw [k217 35, if_neg (by decide), if_neg (by decide)]; exact h35
  · rw [k217 10, if_neg (by decide), if_pos rfl]
  · have hk' : k < P.1 := hk
    rw [k226, d3, if_pos hk', k225, d4, if_pos hk', c1 226 (by decide), b1 226 (by decide), a1 226 (by decide)]; exact hDp.2 k hk
  · rw [k224, c2, if_pos (by decide), b1 224 (by decide), a1 224 (by decide)]; exact w8
  · rw [k224, c2, if_pos (by decide), b1 224 (by decide), a1 224 (by decide)]; exact w9
  · rw [k224, c2, if_pos (by decide), b1 224 (by decide), a1 224 (by decide)]; exact w10
  · have hm' : m < aM A := hm
    rw [k220, e2, if_pos (by omega), d2 220 (by decide)]; exact w13 m hm
  · rw [k217 2, if_pos rfl]; rfl
  · rw [k217 20, if_neg (by decide), if_neg (by decide)]; exact h20
  · rw [k217 21, if_neg (by decide), if_neg (by decide)]; exact h21
  · rw [k217 22, if_neg (by decide), if_neg (by decide)]; exact h22
  · rw [k217 13, if_neg (by decide), if_neg (by decide)]
