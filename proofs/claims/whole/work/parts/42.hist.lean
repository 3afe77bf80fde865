/-! Law: written; the Tape; the History -/
def lpPush (P : LwP) (k v : Nat) : LwP := (P.1 + 1, lpUp P.2.1 P.1 k, lpUp P.2.2 P.1 v)
theorem LwAt.push {Λ : hc_L} {I I' : hc_I} {l : Nat} {P : LwP} {k v : Nat} (h : LwAt Λ I l P) (h1 : I' l 2 = nI (P.1 + 1)) (h2 : ∀ j, I' (l + 1) j = if j = P.1 then lpEnc k v else I (l + 1) j) : LwAt Λ I' l (lpPush P k v) := by
  refine ⟨h.1, h1, fun i hi => ?_⟩
  have hi' : i < P.1 + 1 := hi
  rw [h2]
  show _ = lpEnc (lpUp P.2.1 P.1 k i) (lpUp P.2.2 P.1 v i)
  unfold lpUp
  by_cases c : i = P.1
  · rw [if_pos c, if_pos c, if_pos c]
  · rw [if_neg c, if_neg c, if_neg c]
    exact h.2.2 i (by omega)
set_option maxRecDepth 100000 in
theorem r_lawAdd {Λ : hc_L} {I : hc_I} {L : hc_J} {R : hc_R} {l : Nat} {P : LwP} (h : LwAt Λ I l P) (hn : P.1 < 700) {k v : Nat} {c : Int32} (hc : c = lpEnc k v) : Run xX4_add [.ref l, .int c] Λ I L R (Qf (fun z => z = l ∨ z = l + 1) (fun _ => False) (fun _ => False) none (fun I' _ _ => LwAt Λ I' l (lpPush P k v)) Λ I L R) := by
  refine Run.of (by decide +kernel) (Nat.le_of_ble_eq_true rfl) ?_
  show LW _ _ _ [(0, .ref l), (1, .int c)] _ _ _ _ _ _
  refine LW_aloadn 0 dX4_add_0 rfl rfl ?_
  refine gX4_2 dX4_add_1 flX4_19 h.1.lt0 h.1.2.1 ?_
  rw [show I l 2 = nI P.1 from h.2.1]
  refine LW_aloadn 0 dX4_add_4 rfl rfl ?_
  refine gX4_0 dX4_add_5 flX4_9 h.1.lt0 h.1.2.1 h.1.2.2.2.2.1 ?_
  refine LW_alen (idx := 0) dX4_add_8 (h.1.lt 1 (by decide)) h.1.2.2.1 (by decide) ?_
  refine LW_icmp_ge (tgt := 32) dX4_add_9 (by decide) (fun c9 => absurd c9 (hc_nle (a := 700) (by omega) (by omega) hn)) (fun c9 => ?_)
  refine LW_aloadn 0 dX4_add_12 rfl rfl ?_
  refine gX4_0 dX4_add_13 flX4_9 h.1.lt0 h.1.2.1 h.1.2.2.2.2.1 ?_
  refine LW_aloadn 0 dX4_add_16 rfl rfl ?_
  refine gX4_2 dX4_add_17 flX4_19 h.1.lt0 h.1.2.1 ?_
  rw [show I l 2 = nI P.1 from h.2.1]
  refine LW_iloadn 1 dX4_add_20 rfl rfl ?_
  refine LW_iast dX4_add_21 (h.1.lt 1 (by decide)) h.1.2.2.1 rfl hn (Nat.le_of_ble_eq_true rfl) ?_
  generalize hI21 : hc_u I (l + 1) P.1 c = I21
  refine LW_aloadn 0 dX4_add_22 rfl rfl ?_
  refine LW_dup dX4_add_23 rfl ?_
  refine gX4_2 dX4_add_24 flX4_19 h.1.lt0 h.1.2.1 ?_
  rw [show I21 l 2 = nI P.1 from (by rw [← hI21, hc_u_row _ _ _ _ (by omega)]; exact h.2.1)]
  refine LW_iconst (v := 1) dX4_add_27 (by decide) ?_
  refine LW_iadd dX4_add_28 ?_
  rw [show ((nI P.1) + 1) = nI (P.1 + 1) from (nI_1 _)]
  refine pX4_2 dX4_add_29 flX4_19 h.1.lt0 h.1.2.1 ?_
  generalize hI29 : hc_u I21 l 2 (nI (P.1 + 1)) = I29
  refine LW_vret dX4_add_32 rfl (Nat.le_of_ble_eq_true rfl) (Nat.le_of_ble_eq_true rfl) ?_
  refine ⟨rfl, rfl, fun z hz => ?_, fun _ _ => rfl, fun _ _ => rfl, h.push ?_ (fun j => ?_)⟩
  · rw [← hI29, hc_u_row _ _ _ _ (by omega), ← hI21, hc_u_row _ _ _ _ (by omega)]
  · rw [← hI29, hc_u_at, if_pos rfl]
  · rw [← hI29, hc_u_row _ _ _ _ (by omega), ← hI21, hc_u_at, hc]
set_option maxRecDepth 100000 in
theorem r_lawCopy {Λ : hc_L} {I : hc_I} {L : hc_J} {R : hc_R} {l m : Nat} {P : LwP} (hl : LwL Λ l) (h : LwAt Λ I m P) (hap : l + 3 ≤ m ∨ m + 3 ≤ l) : Run xX4_copyFrom [.ref l, .ref m] Λ I L R (Qf (fun z => z = l ∨ z = l + 1) (fun _ => False) (fun _ => False) none (fun I' _ _ => LwAt Λ I' l P) Λ I L R) := by
  refine Run.of (by decide +kernel) (Nat.le_of_ble_eq_true rfl) ?_
  show LW _ _ _ [(0, .ref l), (1, .ref m)] _ _ _ _ _ _
  refine LW_aloadn 1 dX4_copyFrom_0 rfl rfl ?_
  refine gX4_0 dX4_copyFrom_1 flX4_9 h.1.lt0 h.1.2.1 h.1.2.2.2.2.1 ?_
  refine LW_iconst (v := 0) dX4_copyFrom_4 (by decide) ?_
  refine LW_aloadn 0 dX4_copyFrom_5 rfl rfl ?_
  refine gX4_0 dX4_copyFrom_6 flX4_9 hl.lt0 hl.2.1 hl.2.2.2.2.1 ?_
  refine LW_iconst (v := 0) dX4_copyFrom_9 (by decide) ?_
  refine LW_sipush (v := 700) dX4_copyFrom_10 (by decide) ?_
  refine LW_copyi (N := 700) dX4_copyFrom_13 mlX4_23 (h.1.lt 1 (by decide)) h.1.2.2.1 (hl.lt 1 (by decide)) hl.2.2.1 rfl (Nat.le_of_ble_eq_true rfl) (by decide) (Nat.le_of_ble_eq_true rfl) ?_
  generalize hI13 : hc_r I (l + 1) (I (m + 1)) = I13
  refine LW_aloadn 0 dX4_copyFrom_16 rfl rfl ?_
  refine LW_aloadn 1 dX4_copyFrom_17 rfl rfl ?_
  refine gX4_2 dX4_copyFrom_18 flX4_19 h.1.lt0 h.1.2.1 ?_
  rw [show I13 m 2 = nI P.1 from (by rw [← hI13, hc_r_ne _ _ _ (by omega)]; exact h.2.1)]
  refine pX4_2 dX4_copyFrom_21 flX4_19 hl.lt0 hl.2.1 ?_
  generalize hI21 : hc_u I13 l 2 (nI P.1) = I21
  refine LW_vret dX4_copyFrom_24 rfl (Nat.le_of_ble_eq_true rfl) (Nat.le_of_ble_eq_true rfl) ?_
  refine ⟨rfl, rfl, fun z hz => ?_, fun _ _ => rfl, fun _ _ => rfl, hl, ?_, fun i hi => ?_⟩
  · rw [← hI21, hc_u_row _ _ _ _ (by omega), ← hI13, hc_r_ne _ _ _ (by omega)]
  · rw [← hI21, hc_u_at, if_pos rfl]
  · rw [← hI21, hc_u_row _ _ _ _ (by omega), ← hI13, hc_r_eq]; exact h.2.2 i hi
def TpL (Λ : hc_L) (t : Nat) : Prop := t + 2 ≤ Λ.1 ∧ Λ.2.1 t = (108, 0) ∧ Λ.2.1 (t + 1) = (1, 700) ∧ Λ.2.2 t 0 = some (t + 1)
def tsh (i : Nat) : Int32 := Int32.ofInt (24 - 8 * (i : Int))
theorem tsh_s (i : Nat) : tsh i + Int32.ofInt (-8) = tsh (i + 1) := by
  unfold tsh
  rw [← Int32.ofInt_add]
  congr 1
  omega
theorem tsh_n {i : Nat} (h : i < 4) : ¬ tsh i < 0 := by
  rcases (show i = 0 ∨ i = 1 ∨ i = 2 ∨ i = 3 by omega) with rfl | rfl | rfl | rfl <;> decide
/-- the i-th byte of a number as the class lays it -/
def tcb (y : Int32) (i : Nat) : Int32 := (y >>> (tsh i &&& 31)).toInt8.toInt32
theorem narB (x : Int32) : vp_nar .byte x.toInt8.toInt32 = x.toInt8.toInt32 := by
  show x.toInt8.toInt32.toInt8.toInt32 = x.toInt8.toInt32
  rw [Int8.toInt8_toInt32]
set_option maxRecDepth 100000 in
theorem r_takes {Λ : hc_L} {I : hc_I} {L : hc_J} {R : hc_R} {t n : Nat} (ht : TpL Λ t) (hn : I t 1 = nI n) (h7 : n ≤ 700) : Run xX8_takes [.ref t, .int 20] Λ I L R (Qr (some (.int (hc_b (decide (n + 20 ≤ 700))))) Λ I L R) := by
  refine Run.of (by decide +kernel) (Nat.le_of_ble_eq_true rfl) ?_
  show LW _ _ _ [(0, .ref t), (1, .int 20)] _ _ _ _ _ _
  refine LW_aloadn 0 dX8_takes_0 rfl rfl ?_
  refine gX8_1 dX8_takes_1 flX8_15 (Nat.lt_of_lt_of_le (by omega) ht.1) ht.2.1 ?_
  rw [show I t 1 = nI n from hn]
  refine LW_sipush (v := 700) dX8_takes_4 (by decide) ?_
  refine LW_iloadn 1 dX8_takes_7 rfl rfl ?_
  refine LW_isub dX8_takes_8 ?_
  rw [show (700 - 20) = nI 680 from (by decide)]
  refine LW_icmp_gt (tgt := 16) dX8_takes_9 (by decide) (fun c9 => ?_) (fun c9 => ?_)
  · refine LW_iconst (v := 0) dX8_takes_16 (by decide) ?_
    refine LW_zret dX8_takes_17 rfl (Nat.le_of_ble_eq_true rfl) (Nat.le_of_ble_eq_true rfl) (Or.inl rfl) ?_
    refine Qr.mk ?_
    first | (rw [decide_eq_true (by have := mt (hc_lt (a := 680) (b := n) (by omega) (by omega)).mpr c9; omega)]; rfl) | (rw [decide_eq_false (by have := (hc_lt (a := 680) (b := n) (by omega) (by omega)).mp c9; omega)]; rfl)
  · refine LW_iconst (v := 1) dX8_takes_12 (by decide) ?_
    refine LW_goto (tgt := 17) dX8_takes_13 (by decide) ?_
    refine LW_zret dX8_takes_17 rfl (Nat.le_of_ble_eq_true rfl) (Nat.le_of_ble_eq_true rfl) (Or.inr rfl) ?_
    refine Qr.mk ?_
    first | (rw [decide_eq_true (by have := mt (hc_lt (a := 680) (b := n) (by omega) (by omega)).mpr c9; omega)]; rfl) | (rw [decide_eq_false (by have := (hc_lt (a := 680) (b := n) (by omega) (by omega)).mp c9; omega)]; rfl)
set_option maxRecDepth 100000 in
theorem r_append {Λ : hc_L} {I : hc_I} {L : hc_J} {R : hc_R} {t n : Nat} (ht : TpL Λ t) (hn : I t 1 = nI n) (h4 : n + 4 ≤ 700) (y : Int32) : Run xX8_append [.ref t, .int y] Λ I L R (Qf (fun z => z = t ∨ z = t + 1) (fun _ => False) (fun _ => False) none (fun I' _ _ => I' t 1 = nI (n + 4) ∧ ∀ j, I' (t + 1) j = if n ≤ j ∧ j < n + 4 then tcb y (j - n) else I (t + 1) j) Λ I L R) := by
  refine Run.of (by decide +kernel) (Nat.le_of_ble_eq_true rfl) ?_
  show LW _ _ _ [(0, .ref t), (1, .int y)] _ _ _ _ _ _
  have loop : ∀ i, i ≤ 4 → ∀ I1 : hc_I, (∀ z, z ≠ t → z ≠ t + 1 → I1 z = I z) → (I1 t 1 = nI (n + i)) → (∀ j, I1 (t + 1) j = if n ≤ j ∧ j < n + i then tcb y (j - n) else I (t + 1) j) → LW xX8_append (0, 0) 3 [(0, .ref t), (1, .int y), (2, .int (tsh i))] [] Λ I1 L R (Qf (fun z => z = t ∨ z = t + 1) (fun _ => False) (fun _ => False) none (fun I' _ _ => I' t 1 = nI (n + 4) ∧ ∀ j, I' (t + 1) j = if n ≤ j ∧ j < n + 4 then tcb y (j - n) else I (t + 1) j) Λ I L R) := by
    refine hc_down ?_ ?_
    · intro I1 hI1 k1 k2
      refine LW_iloadn 2 dX8_append_3 rfl rfl ?_
      refine LW_if_lt (tgt := 53) dX8_append_4 (by decide) (fun c4 => ?_) (fun c4 => absurd (by decide) c4)
      refine LW_vret dX8_append_53 rfl (Nat.le_of_ble_eq_true rfl) (Nat.le_of_ble_eq_true rfl) ?_
      exact ⟨rfl, rfl, fun z hz => hI1 z (fun e => hz (Or.inl e)) (fun e => hz (Or.inr e)), fun _ _ => rfl, fun _ _ => rfl, k1, k2⟩
    · intro i hi0 ih I1 hI1 k1 k2
      refine LW_iloadn 2 dX8_append_3 rfl rfl ?_
      refine LW_if_lt (tgt := 53) dX8_append_4 (by decide) (fun c4 => absurd c4 (tsh_n hi0)) (fun c4 => ?_)
      refine LW_aloadn 0 dX8_append_7 rfl rfl ?_
      refine gX8_1 dX8_append_8 flX8_15 (Nat.lt_of_lt_of_le (by omega) ht.1) ht.2.1 ?_
      rw [show I1 t 1 = nI (n + i) from k1]
      refine LW_if_lt (tgt := 47) dX8_append_11 (by decide) (fun c11 => absurd c11 (Int32.not_lt.mpr (nI_nn (by omega)))) (fun c11 => ?_)
      refine LW_aloadn 0 dX8_append_14 rfl rfl ?_
      refine gX8_1 dX8_append_15 flX8_15 (Nat.lt_of_lt_of_le (by omega) ht.1) ht.2.1 ?_
      rw [show I1 t 1 = nI (n + i) from k1]
      refine LW_sipush (v := 700) dX8_append_18 (by decide) ?_
      refine LW_icmp_ge (tgt := 47) dX8_append_21 (by decide) (fun c21 => absurd c21 (hc_nle (a := 700) (by omega) (by omega) (by omega))) (fun c21 => ?_)
      refine LW_aloadn 0 dX8_append_24 rfl rfl ?_
      refine gX8_0 dX8_append_25 flX8_9 (Nat.lt_of_lt_of_le (by omega) ht.1) ht.2.1 ht.2.2.2 ?_
      refine LW_aloadn 0 dX8_append_28 rfl rfl ?_
      refine gX8_1 dX8_append_29 flX8_15 (Nat.lt_of_lt_of_le (by omega) ht.1) ht.2.1 ?_
      rw [show I1 t 1 = nI (n + i) from k1]
      refine LW_iloadn 1 dX8_append_32 rfl rfl ?_
      refine LW_iloadn 2 dX8_append_33 rfl rfl ?_
      refine LW_ishr dX8_append_34 ?_
      refine LW_i2b dX8_append_35 ?_
      refine LW_bast dX8_append_36 (Nat.lt_of_lt_of_le (by omega) ht.1) ht.2.2.1 rfl (by omega) (Nat.le_of_ble_eq_true rfl) ?_
      generalize hI36 : hc_u I1 (t + 1) (n + i) (vp_nar .byte ((y >>> ((tsh i) &&& 31)).toInt8.toInt32)) = I36
      refine LW_aloadn 0 dX8_append_37 rfl rfl ?_
      refine LW_dup dX8_append_38 rfl ?_
      refine gX8_1 dX8_append_39 flX8_15 (Nat.lt_of_lt_of_le (by omega) ht.1) ht.2.1 ?_
      rw [show I36 t 1 = nI (n + i) from (by rw [← hI36, hc_u_row _ _ _ _ (by omega)]; exact k1)]
      refine LW_iconst (v := 1) dX8_append_42 (by decide) ?_
      refine LW_iadd dX8_append_43 ?_
      rw [show ((nI (n + i)) + 1) = nI (n + i + 1) from (nI_1 _)]
      refine pX8_1 dX8_append_44 flX8_15 (Nat.lt_of_lt_of_le (by omega) ht.1) ht.2.1 ?_
      generalize hI44 : hc_u I36 t 1 (nI (n + i + 1)) = I44
      refine LW_iinc (n := 2) (v := tsh (i + 1)) (ls' := [(0, .ref t), (1, .int y), (2, .int (tsh (i + 1)))]) dX8_append_47 rfl (tsh_s _) (by decide) rfl ?_
      refine LW_goto (tgt := 3) dX8_append_50 (by decide) ?_
      exact ih _ (fun z z1 z2 => by rw [← hI44, hc_u_row _ _ _ _ z1, ← hI36, hc_u_row _ _ _ _ z2]; exact hI1 z z1 z2) (by rw [← hI44, hc_u_at, if_pos rfl]; rfl) (fun j => by
        rw [← hI44, hc_u_row _ _ _ _ (by omega), ← hI36, hc_u_at]
        by_cases c : j = n + i
        · rw [if_pos c, if_pos (by omega), narB, c, Nat.add_sub_cancel_left]
          rfl
        · rw [if_neg c, k2]
          by_cases d : n ≤ j ∧ j < n + i
          · rw [if_pos d, if_pos (by omega)]
          · rw [if_neg d, if_neg (by omega)])
  refine LW_bipush (v := 24) dX8_append_0 (by decide) ?_
  refine LW_istoren (ls' := [(0, .ref t), (1, .int y), (2, .int 24)]) dX8_append_2 rfl (by decide) rfl ?_
  exact loop 0 (Nat.zero_le _) I (fun _ _ _ => rfl) hn (fun j => by rw [if_neg (by omega)])
theorem St.kp3 {Λ : hc_L} {I I' : hc_I} {L L' : hc_J} {R R' : hc_R} {s : Nat} {A : AS} (h : St Λ I L R s A) (hI : ∀ z, s ≤ z → z < s + 18 → I' z = I z) (hL : ∀ z, s ≤ z → z < s + 18 → L' z = L z) (hR : ∀ z, s ≤ z → z < s + 18 → R' z = R z) (hO : ∀ r, (Λ.2.1 r = (102, 0) ∨ Λ.2.1 r = (107, 0)) → I' r = I r) : St Λ I' L' R' s A := by
  refine ⟨h.l, h.w, by rw [hI _ (by omega) (by omega)]; exact h.2.2.1, fun k hk => by rw [hL _ (by omega) (by omega)]; exact h.ru hk, fun c hc => by rw [hI _ (by omega) (by omega)]; exact h.hz hc, fun c hc => by rw [hI _ (by omega) (by omega)]; exact h.so hc, fun k hk => by rw [hL _ (by omega) (by omega), hI _ (by omega) (by omega), hI _ (by omega) (by omega), hI _ (by omega) (by omega)]; exact ⟨h.nm hk, h.th hk, h.lv hk, h.ys hk⟩, fun i hi => ?_, fun i hi => ?_, fun i q hi hq => h.rf hi (by rw [← hq, hR _ (by omega) (by omega)]), fun i q hi hq => h.rs hi (by rw [← hq, hR _ (by omega) (by omega)]), fun m hm => by rw [hI _ (by omega) (by omega), hI _ (by omega) (by omega), hI _ (by omega) (by omega)]; exact h.ets hm, fun w m hw hm => by rw [hL _ (by omega) (by omega)]; exact h.er hw hm⟩
  · obtain ⟨r, hr, hf⟩ := h.fd hi
    exact ⟨r, by rw [hR _ (by omega) (by omega)]; exact hr, hf.kp (hO r (Or.inl hf.2.1))⟩
  · obtain ⟨r, hr, hf⟩ := h.sd hi
    exact ⟨r, by rw [hR _ (by omega) (by omega)]; exact hr, hf.kp (hO r (Or.inr hf.2.1))⟩
def HsL (Λ : hc_L) (h : Nat) : Prop := h + 146 ≤ Λ.1 ∧ Λ.2.1 h = (103, 0) ∧ Λ.2.1 (h + 1) = (6, 8) ∧ Λ.2.2 h 0 = some (h + 1) ∧ ∀ i, i < 8 → Λ.2.2 (h + 1) i = some (h + 2 + 18 * i)
def HsAt (Λ : hc_L) (I : hc_I) (L : hc_J) (R : hc_R) (h : Nat) (K : Nat → AS) (nx ct : Nat) : Prop := HsL Λ h ∧ nx < 8 ∧ ct ≤ 8 ∧ I h 1 = nI nx ∧ I h 2 = nI ct ∧ ∀ i, i < 8 → St Λ I L R (h + 2 + 18 * i) (K i)
theorem hs_n {n : Nat} (h : n < 8) : nI n + 1 - (nI n + 1) / 8 * 8 = nI ((n + 1) % 8) := by
  rcases (show n = 0 ∨ n = 1 ∨ n = 2 ∨ n = 3 ∨ n = 4 ∨ n = 5 ∨ n = 6 ∨ n = 7 by omega) with rfl | rfl | rfl | rfl | rfl | rfl | rfl | rfl <;> decide
theorem hs_l {n : Nat} (h : n < 8) : nI n + 8 - 1 - (nI n + 8 - 1) / 8 * 8 = nI ((n + 7) % 8) := by
  rcases (show n = 0 ∨ n = 1 ∨ n = 2 ∨ n = 3 ∨ n = 4 ∨ n = 5 ∨ n = 6 ∨ n = 7 by omega) with rfl | rfl | rfl | rfl | rfl | rfl | rfl | rfl <;> decide
theorem hs_c {n : Nat} (h : n ≤ 8) : (if nI n + 1 < 8 then nI n + 1 else 8) = nI (min 8 (n + 1)) := by
  rcases (show n = 0 ∨ n = 1 ∨ n = 2 ∨ n = 3 ∨ n = 4 ∨ n = 5 ∨ n = 6 ∨ n = 7 ∨ n = 8 by omega) with rfl | rfl | rfl | rfl | rfl | rfl | rfl | rfl | rfl <;> decide
set_option maxRecDepth 100000 in
theorem r_keep {Λ : hc_L} {I : hc_I} {L : hc_J} {R : hc_R} {h s nx ct : Nat} {K : Nat → AS} {A : AS} (hh : HsAt Λ I L R h K nx ct) (hs : St Λ I L R s A) (hap : s + 18 ≤ h ∨ h + 146 ≤ s) : Run xX3_keep [.ref h, .ref s] Λ I L R (Qf (fun z => z = h ∨ (h + 2 ≤ z ∧ z < h + 146)) (fun z => z = h ∨ (h + 2 ≤ z ∧ z < h + 146)) (fun z => z = h ∨ (h + 2 ≤ z ∧ z < h + 146)) none (fun I' L' R' => HsAt Λ I' L' R' h (lpUp K nx A) ((nx + 1) % 8) (min 8 (ct + 1)) ∧ St Λ I' L' R' s A) Λ I L R) := by
  refine Run.of (by decide +kernel) (Nat.le_of_ble_eq_true rfl) ?_
  show LW _ _ _ [(0, .ref h), (1, .ref s)] _ _ _ _ _ _
  have hnx := hh.2.1
  refine LW_aloadn 0 dX3_keep_0 rfl rfl ?_
  refine gX3_0 dX3_keep_1 flX3_11 (Nat.lt_of_lt_of_le (by omega) hh.1.1) hh.1.2.1 hh.1.2.2.2.1 ?_
  refine LW_aloadn 0 dX3_keep_4 rfl rfl ?_
  refine gX3_1 dX3_keep_5 flX3_18 (Nat.lt_of_lt_of_le (by omega) hh.1.1) hh.1.2.1 ?_
  rw [show I h 1 = nI nx from hh.2.2.2.1]
  refine LW_aald6 (r := h + 2 + 18 * nx) dX3_keep_8 (Nat.lt_of_lt_of_le (by omega) hh.1.1) hh.1.2.2.1 rfl hh.2.1 (Nat.le_of_ble_eq_true rfl) (hh.1.2.2.2.2 nx (by omega)) ?_
  refine LW_ifnull dX3_keep_9 ?_
  refine LW_aloadn 0 dX3_keep_12 rfl rfl ?_
  refine gX3_0 dX3_keep_13 flX3_11 (Nat.lt_of_lt_of_le (by omega) hh.1.1) hh.1.2.1 hh.1.2.2.2.1 ?_
  refine LW_aloadn 0 dX3_keep_16 rfl rfl ?_
  refine gX3_1 dX3_keep_17 flX3_18 (Nat.lt_of_lt_of_le (by omega) hh.1.1) hh.1.2.1 ?_
  rw [show I h 1 = nI nx from hh.2.2.2.1]
  refine LW_aald6 (r := h + 2 + 18 * nx) dX3_keep_20 (Nat.lt_of_lt_of_le (by omega) hh.1.1) hh.1.2.2.1 rfl hh.2.1 (Nat.le_of_ble_eq_true rfl) (hh.1.2.2.2.2 nx (by omega)) ?_
  refine LW_aloadn 1 dX3_keep_21 rfl rfl ?_
  refine LW_callV (As := [.ref s]) (b := h + 2 + 18 * nx) (st := []) (ci := 6) (r := (RX6, TX6, 15)) (r_copyFrom (s := h + 2 + 18 * nx) (t := s) (hh.2.2.2.2.2 nx hh.2.1).l hs (by have := hh.2.1; omega)) YX6_copyFrom rfl dX3_keep_22 mlX3_22 (hh.2.2.2.2.2 nx hh.2.1).l.lt0 (hh.2.2.2.2.2 nx hh.2.1).l.2.1 ⟨rfl, rfl⟩ (by decide) ⟨Nat.le_refl _, Nat.le_refl _⟩ (Nat.le_of_ble_eq_true rfl) rfl (fun r22 Λc22 Ic22 Lc22 Rc22 hq22 => ?_)
  obtain ⟨rfl, rfl, hI22, hL22, hR22, hst⟩ := hq22
  refine LW_aloadn 0 dX3_keep_25 rfl rfl ?_
  refine LW_aloadn 0 dX3_keep_26 rfl rfl ?_
  refine gX3_1 dX3_keep_27 flX3_18 (Nat.lt_of_lt_of_le (by omega) hh.1.1) hh.1.2.1 ?_
  rw [show Ic22 h 1 = nI nx from (by rw [hI22 _ (by omega)]; exact hh.2.2.2.1)]
  refine LW_iconst (v := 1) dX3_keep_30 (by decide) ?_
  refine LW_iadd dX3_keep_31 ?_
  refine LW_bipush (v := 8) dX3_keep_32 (by decide) ?_
  refine LW_irem dX3_keep_34 (by decide) ?_
  rw [show (((nI nx) + 1) - ((nI nx) + 1) / 8 * 8) = nI ((nx + 1) % 8) from (hs_n hh.2.1)]
  refine pX3_1 dX3_keep_35 flX3_18 (Nat.lt_of_lt_of_le (by omega) hh.1.1) hh.1.2.1 ?_
  generalize hI35 : hc_u Ic22 h 1 (nI ((nx + 1) % 8)) = I35
  refine LW_aloadn 0 dX3_keep_38 rfl rfl ?_
  refine LW_bipush (v := 8) dX3_keep_39 (by decide) ?_
  refine LW_aloadn 0 dX3_keep_41 rfl rfl ?_
  refine gX3_2 dX3_keep_42 flX3_26 (Nat.lt_of_lt_of_le (by omega) hh.1.1) hh.1.2.1 ?_
  rw [show I35 h 2 = nI ct from (by rw [← hI35, hc_u_at, if_neg (by decide), hI22 _ (by omega)]; exact hh.2.2.2.2.1)]
  refine LW_iconst (v := 1) dX3_keep_45 (by decide) ?_
  refine LW_iadd dX3_keep_46 ?_
  refine LW_imin dX3_keep_47 mlX3_29 (by decide) ⟨Nat.le_refl _, Nat.le_refl _⟩ (Nat.le_of_ble_eq_true rfl) ?_
  rw [show (if ((nI ct) + 1) < 8 then ((nI ct) + 1) else 8) = nI (min 8 (ct + 1)) from (hs_c hh.2.2.1)]
  refine pX3_2 dX3_keep_50 flX3_26 (Nat.lt_of_lt_of_le (by omega) hh.1.1) hh.1.2.1 ?_
  generalize hI50 : hc_u I35 h 2 (nI (min 8 (ct + 1))) = I50
  refine LW_vret dX3_keep_53 rfl (Nat.le_of_ble_eq_true rfl) (Nat.le_of_ble_eq_true rfl) ?_
  have hnx := hh.2.1
  have eI : ∀ z, z ≠ h → I50 z = Ic22 z := fun z hz => by rw [← hI50, hc_u_row _ _ _ _ hz, ← hI35, hc_u_row _ _ _ _ hz]
  have eO : ∀ r, (Λ.2.1 r = (102, 0) ∨ Λ.2.1 r = (107, 0)) → I50 r = I r := fun r hr => by
    have h1 := (hh.2.2.2.2.2 nx hnx).l.nf hr
    have h2 : r ≠ h := fun e => by rw [e, hh.1.2.1] at hr; rcases hr with hr | hr <;> cases hr
    rw [eI r h2, hI22 r h1]
  refine ⟨rfl, rfl, fun z hz => ?_, fun z hz => hL22 z (by omega), fun z hz => hR22 z (by omega), ⟨hh.1, Nat.mod_lt _ (by decide), Nat.min_le_left _ _, ?_, ?_, fun i hi => ?_⟩, hs.kp3 (fun z z1 z2 => ?_) (fun z z1 z2 => hL22 z (by omega)) (fun z z1 z2 => hR22 z (by omega)) eO⟩
  · rw [eI z (by omega), hI22 z (by omega)]
  · rw [← hI50, hc_u_at, if_neg (by decide), ← hI35, hc_u_at, if_pos rfl]
  · rw [← hI50, hc_u_at, if_pos rfl]
  · by_cases c : i = nx
    · rw [c, show lpUp K nx A nx = A from if_pos rfl]
      exact hst.kp3 (fun z z1 z2 => eI z (by omega)) (fun _ _ _ => rfl) (fun _ _ _ => rfl) (fun r hr => by
        rw [eI r (fun e => by rw [e, hh.1.2.1] at hr; rcases hr with hr | hr <;> cases hr)])
    · rw [show lpUp K nx A i = K i from if_neg c]
      exact (hh.2.2.2.2.2 i hi).kp3 (fun z z1 z2 => by rw [eI z (by omega), hI22 z (by omega)]) (fun z z1 z2 => hL22 z (by omega)) (fun z z1 z2 => hR22 z (by omega)) eO
  · rw [eI z (by omega), hI22 z (by omega)]
set_option maxRecDepth 100000 in
theorem r_takeBack0 {Λ : hc_L} {I : hc_I} {L : hc_J} {R : hc_R} {h s nx ct : Nat} {K : Nat → AS} {A : AS} (hh : HsAt Λ I L R h K nx ct) (hs : St Λ I L R s A) (hap : s + 18 ≤ h ∨ h + 146 ≤ s) (h0 : ct = 0) : Run xX3_takeBack [.ref h, .ref s] Λ I L R (Qr (some (.int (hc_b false))) Λ I L R) := by
  refine Run.of (by decide +kernel) (Nat.le_of_ble_eq_true rfl) ?_
  show LW _ _ _ [(0, .ref h), (1, .ref s)] _ _ _ _ _ _
  refine LW_aloadn 0 dX3_takeBack_0 rfl rfl ?_
  refine gX3_1 dX3_takeBack_1 flX3_18 (Nat.lt_of_lt_of_le (by omega) hh.1.1) hh.1.2.1 ?_
  rw [show I h 1 = nI nx from hh.2.2.2.1]
  refine LW_bipush (v := 8) dX3_takeBack_4 (by decide) ?_
  refine LW_iadd dX3_takeBack_6 ?_
  refine LW_iconst (v := 1) dX3_takeBack_7 (by decide) ?_
  refine LW_isub dX3_takeBack_8 ?_
  refine LW_bipush (v := 8) dX3_takeBack_9 (by decide) ?_
  refine LW_irem dX3_takeBack_11 (by decide) ?_
  rw [show ((((nI nx) + 8) - 1) - (((nI nx) + 8) - 1) / 8 * 8) = nI ((nx + 7) % 8) from (hs_l hh.2.1)]
  refine LW_istoren (ls' := [(0, .ref h), (1, .ref s), (2, .int (nI ((nx + 7) % 8)))]) dX3_takeBack_12 rfl (by decide) rfl ?_
  refine LW_aloadn 0 dX3_takeBack_13 rfl rfl ?_
  refine gX3_2 dX3_takeBack_14 flX3_26 (Nat.lt_of_lt_of_le (by omega) hh.1.1) hh.1.2.1 ?_
  rw [show I h 2 = 0 from (by rw [hh.2.2.2.2.1, h0]; rfl)]
  refine LW_if_eq (tgt := 29) dX3_takeBack_17 (by decide) (fun c17 => ?_) (fun c17 => absurd rfl c17)
  refine LW_iconst (v := 0) dX3_takeBack_29 (by decide) ?_
  refine LW_zret dX3_takeBack_30 rfl (Nat.le_of_ble_eq_true rfl) (Nat.le_of_ble_eq_true rfl) (Or.inl rfl) ?_
  exact Qr.mk rfl
set_option maxRecDepth 100000 in
theorem r_takeBack1 {Λ : hc_L} {I : hc_I} {L : hc_J} {R : hc_R} {h s nx ct : Nat} {K : Nat → AS} {A : AS} (hh : HsAt Λ I L R h K nx ct) (hs : St Λ I L R s A) (hap : s + 18 ≤ h ∨ h + 146 ≤ s) (h0 : 0 < ct) : Run xX3_takeBack [.ref h, .ref s] Λ I L R (Qf (fun z => z = h ∨ (s ≤ z ∧ z < s + 18)) (fun z => z = h ∨ (s ≤ z ∧ z < s + 18)) (fun z => z = h ∨ (s ≤ z ∧ z < s + 18)) (some (.int (hc_b true))) (fun I' L' R' => HsAt Λ I' L' R' h K ((nx + 7) % 8) (ct - 1) ∧ St Λ I' L' R' s (K ((nx + 7) % 8))) Λ I L R) := by
  refine Run.of (by decide +kernel) (Nat.le_of_ble_eq_true rfl) ?_
  show LW _ _ _ [(0, .ref h), (1, .ref s)] _ _ _ _ _ _
  refine LW_aloadn 0 dX3_takeBack_0 rfl rfl ?_
  refine gX3_1 dX3_takeBack_1 flX3_18 (Nat.lt_of_lt_of_le (by omega) hh.1.1) hh.1.2.1 ?_
  rw [show I h 1 = nI nx from hh.2.2.2.1]
  refine LW_bipush (v := 8) dX3_takeBack_4 (by decide) ?_
  refine LW_iadd dX3_takeBack_6 ?_
  refine LW_iconst (v := 1) dX3_takeBack_7 (by decide) ?_
  refine LW_isub dX3_takeBack_8 ?_
  refine LW_bipush (v := 8) dX3_takeBack_9 (by decide) ?_
  refine LW_irem dX3_takeBack_11 (by decide) ?_
  rw [show ((((nI nx) + 8) - 1) - (((nI nx) + 8) - 1) / 8 * 8) = nI ((nx + 7) % 8) from (hs_l hh.2.1)]
  refine LW_istoren (ls' := [(0, .ref h), (1, .ref s), (2, .int (nI ((nx + 7) % 8)))]) dX3_takeBack_12 rfl (by decide) rfl ?_
  refine LW_aloadn 0 dX3_takeBack_13 rfl rfl ?_
  refine gX3_2 dX3_takeBack_14 flX3_26 (Nat.lt_of_lt_of_le (by omega) hh.1.1) hh.1.2.1 ?_
  rw [show I h 2 = nI ct from hh.2.2.2.2.1]
  refine LW_if_eq (tgt := 29) dX3_takeBack_17 (by decide) (fun c17 => absurd c17 (fun q => absurd ((hc_eq (b := 0) (by have := hh.2.2.1; omega) (by omega)).mp q) (by omega))) (fun c17 => ?_)
  refine LW_aloadn 0 dX3_takeBack_20 rfl rfl ?_
  refine gX3_0 dX3_takeBack_21 flX3_11 (Nat.lt_of_lt_of_le (by omega) hh.1.1) hh.1.2.1 hh.1.2.2.2.1 ?_
  refine LW_iloadn 2 dX3_takeBack_24 rfl rfl ?_
  refine LW_aald6 (r := h + 2 + 18 * ((nx + 7) % 8)) dX3_takeBack_25 (Nat.lt_of_lt_of_le (by omega) hh.1.1) hh.1.2.2.1 rfl (by omega) (Nat.le_of_ble_eq_true rfl) (hh.1.2.2.2.2 ((nx + 7) % 8) (by omega)) ?_
  refine LW_ifnonnull (tgt := 31) dX3_takeBack_26 (by decide) ?_
  refine LW_aloadn 1 dX3_takeBack_31 rfl rfl ?_
  refine LW_aloadn 0 dX3_takeBack_32 rfl rfl ?_
  refine gX3_0 dX3_takeBack_33 flX3_11 (Nat.lt_of_lt_of_le (by omega) hh.1.1) hh.1.2.1 hh.1.2.2.2.1 ?_
  refine LW_iloadn 2 dX3_takeBack_36 rfl rfl ?_
  refine LW_aald6 (r := h + 2 + 18 * ((nx + 7) % 8)) dX3_takeBack_37 (Nat.lt_of_lt_of_le (by omega) hh.1.1) hh.1.2.2.1 rfl (by omega) (Nat.le_of_ble_eq_true rfl) (hh.1.2.2.2.2 ((nx + 7) % 8) (by omega)) ?_
  refine LW_callV (As := [.ref (h + 2 + 18 * ((nx + 7) % 8))]) (b := s) (st := []) (ci := 6) (r := (RX6, TX6, 15)) (r_copyFrom (s := s) (t := h + 2 + 18 * ((nx + 7) % 8)) hs.l (hh.2.2.2.2.2 _ (by omega)) (by omega)) YX6_copyFrom rfl dX3_takeBack_38 mlX3_22 hs.l.lt0 hs.l.2.1 ⟨rfl, rfl⟩ (by decide) ⟨Nat.le_refl _, Nat.le_refl _⟩ (Nat.le_of_ble_eq_true rfl) rfl (fun r38 Λc38 Ic38 Lc38 Rc38 hq38 => ?_)
  obtain ⟨rfl, rfl, hI38, hL38, hR38, hst⟩ := hq38
  refine LW_aloadn 0 dX3_takeBack_41 rfl rfl ?_
  refine LW_iloadn 2 dX3_takeBack_42 rfl rfl ?_
  refine pX3_1 dX3_takeBack_43 flX3_18 (Nat.lt_of_lt_of_le (by omega) hh.1.1) hh.1.2.1 ?_
  generalize hI43 : hc_u Ic38 h 1 (nI ((nx + 7) % 8)) = I43
  refine LW_aloadn 0 dX3_takeBack_46 rfl rfl ?_
  refine LW_dup dX3_takeBack_47 rfl ?_
  refine gX3_2 dX3_takeBack_48 flX3_26 (Nat.lt_of_lt_of_le (by omega) hh.1.1) hh.1.2.1 ?_
  rw [show I43 h 2 = nI ct from (by rw [← hI43, hc_u_at, if_neg (by decide), hI38 _ (by omega)]; exact hh.2.2.2.2.1)]
  refine LW_iconst (v := 1) dX3_takeBack_51 (by decide) ?_
  refine LW_isub dX3_takeBack_52 ?_
  rw [show ((nI ct) - 1) = nI (ct - 1) from (nI_sub (b := 1) (by omega))]
  refine pX3_2 dX3_takeBack_53 flX3_26 (Nat.lt_of_lt_of_le (by omega) hh.1.1) hh.1.2.1 ?_
  generalize hI53 : hc_u I43 h 2 (nI (ct - 1)) = I53
  refine LW_iconst (v := 1) dX3_takeBack_56 (by decide) ?_
  refine LW_zret dX3_takeBack_57 rfl (Nat.le_of_ble_eq_true rfl) (Nat.le_of_ble_eq_true rfl) (Or.inr rfl) ?_
  have eI : ∀ z, z ≠ h → I53 z = Ic38 z := fun z hz => by rw [← hI53, hc_u_row _ _ _ _ hz, ← hI43, hc_u_row _ _ _ _ hz]
  have eH : ∀ r, (Λ.2.1 r = (102, 0) ∨ Λ.2.1 r = (107, 0)) → r ≠ h := fun r hr e => by rw [e, hh.1.2.1] at hr; rcases hr with hr | hr <;> cases hr
  have eO : ∀ r, (Λ.2.1 r = (102, 0) ∨ Λ.2.1 r = (107, 0)) → I53 r = I r := fun r hr => by
    rw [eI r (eH r hr), hI38 r (hs.l.nf hr)]
  have hct := hh.2.2.1
  refine ⟨rfl, rfl, fun z hz => ?_, fun z hz => hL38 z (by omega), fun z hz => hR38 z (by omega), ⟨hh.1, Nat.mod_lt _ (by decide), by omega, ?_, ?_, fun i hi => ?_⟩, hst.kp3 (fun z z1 z2 => eI z (by omega)) (fun _ _ _ => rfl) (fun _ _ _ => rfl) (fun r hr => eI r (eH r hr))⟩
  · rw [eI z (by omega), hI38 z (by omega)]
  · rw [← hI53, hc_u_at, if_neg (by decide), ← hI43, hc_u_at, if_pos rfl]
  · rw [← hI53, hc_u_at, if_pos rfl]
  · exact (hh.2.2.2.2.2 i hi).kp3 (fun z z1 z2 => by rw [eI z (by omega), hI38 z (by omega)]) (fun z z1 z2 => hL38 z (by omega)) (fun z z1 z2 => hR38 z (by omega)) eO
