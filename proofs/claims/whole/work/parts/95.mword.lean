/-! the reference reads: which word, which sign -/
def wI (i : Nat) : Nat := [0, 0, 11, 2, 12, 3, 1, 4, 5, 6, 7, 8, 9, 10, 13, 14, 15, 16, 17].getD i 0
theorem wd_tab : ∀ i, 1 ≤ i → i < 19 → qw (wI i) = pkS i (hc_len.getD i 0) ∧ wkd (qw (wI i)) = 1000 + wI i ∧ 32 ^ (hc_len.getD i 0 - 1) ≤ qw (wI i) ∧ qw (wI i) < 32 ^ (hc_len.getD i 0) ∧ 1 ≤ hc_len.getD i 0 ∧ hc_len.getD i 0 ≤ 7 ∧ wI i < 18 := by
  have h : ∀ i, i < 19 → 1 ≤ i → qw (wI i) = pkS i (hc_len.getD i 0) ∧ wkd (qw (wI i)) = 1000 + wI i ∧ 32 ^ (hc_len.getD i 0 - 1) ≤ qw (wI i) ∧ qw (wI i) < 32 ^ (hc_len.getD i 0) ∧ 1 ≤ hc_len.getD i 0 ∧ hc_len.getD i 0 ≤ 7 ∧ wI i < 18 := by decide +kernel
  exact fun i h1 h2 => h i h2 h1
theorem pow_len {a b w : Nat} (h1 : 32 ^ a ≤ w) (h2 : w < 32 ^ (b + 1)) : a ≤ b := by
  rcases Nat.lt_or_ge b a with c | c
  · have := Nat.pow_le_pow_right (n := 32) (by decide) (show b + 1 ≤ a from c)
    omega
  · exact c
theorem srt_1 {B : Nat → Nat} {n q : Nat} : srt B n q = 1 ↔ (q < n ∧ isL (B q) = true) := by
  unfold srt
  by_cases h : q < n
  · rw [if_pos h]
    by_cases c : isL (B q) = true
    · rw [if_pos c]; exact ⟨fun _ => ⟨h, c⟩, fun _ => rfl⟩
    · rw [if_neg c]; exact ⟨fun z => (by split at z <;> omega), fun z => absurd z.2 c⟩
  · rw [if_neg h]; exact ⟨fun z => (by omega), fun z => absurd z.1 h⟩
theorem tkK_1 {B : Nat → Nat} {n q : Nat} (h : srt B n q = 1) : tkK B n q = if 7 < tkE B n q - q then 2002 else wkd (wdV B q (tkE B n q - q)) := by
  obtain ⟨h1, h2⟩ := srt_1.mp h
  unfold tkK
  rw [if_pos h1, if_pos h2]
theorem tkK_w {B : Nat → Nat} {n q : Nat} (hB : ∀ j, j < n → B j < 256) (h : 1000 ≤ tkK B n q) (h2 : tkK B n q ≤ 2000) : srt B n q = 1 ∧ tkE B n q - q ≤ 7 ∧ tkK B n q = wkd (wdV B q (tkE B n q - q)) := by
  by_cases s : srt B n q = 1
  · have e := tkK_1 s
    by_cases c : 7 < tkE B n q - q
    · rw [if_pos c] at e; omega
    · rw [if_neg c] at e; exact ⟨s, by omega, e⟩
  · exfalso
    have s2 : ¬ (q < n ∧ isL (B q) = true) := fun z => s (srt_1.mpr z)
    unfold tkK at h h2
    by_cases c : q < n
    · have hb := hB q c
      rw [if_pos c, if_neg (fun z => s2 ⟨c, z⟩)] at h h2
      by_cases d : isD (B q) = true
      · rw [if_pos d] at h h2
        split at h2 <;> omega
      · rw [if_neg d] at h; omega
    · rw [if_neg c] at h2; omega
theorem isW_iff {B : Nat → Nat} {n q : Nat} (hB : ∀ j, j < n → B j < 256) {i : Nat} (h1 : 1 ≤ i) (hi : i < 19) : tkK B n q = 1000 + wI i ↔ (srt B n q = 1 ∧ tkE B n q - q = hc_len.getD i 0 ∧ wdV B q (min 7 (tkE B n q - q)) = pkS i (hc_len.getD i 0)) := by
  obtain ⟨t1, t2, t3, t4, t5, t6, t7⟩ := wd_tab i h1 hi
  constructor
  · intro h
    obtain ⟨s, hl, e⟩ := tkK_w (q := q) hB (by omega) (by omega)
    obtain ⟨s1, s2⟩ := srt_1.mp s
    have hw : wdV B q (tkE B n q - q) = qw (wI i) := by
      rcases wkd_r (wdV B q (tkE B n q - q)) with z | ⟨-, -, z⟩
      · omega
      · rw [← e, h, Nat.add_sub_cancel_left] at z; exact z.symm
    obtain ⟨a1, a2, a3, a4⟩ := scan_spec (fun j => isL (B j)) (n - q) q
    rw [← tkE_L s1 s2] at a1 a2 a3 a4
    have hpos := tkE_lt (B := B) s1
    obtain ⟨k, hk⟩ : ∃ k, tkE B n q - q = k + 1 := ⟨tkE B n q - q - 1, by omega⟩
    obtain ⟨m, hm⟩ : ∃ m, hc_len.getD i 0 = m + 1 := ⟨hc_len.getD i 0 - 1, by omega⟩
    have l1 := wdV_lt (B := B) (q := q) (k + 1) (fun j hj => a3 _ (by omega) (by omega))
    have l2 := wdV_ge (B := B) (q := q) k (fun j hj => a3 _ (by omega) (by omega))
    rw [← hk, hw] at l1 l2
    rw [hm] at t3 t4
    rw [hk] at l1
    have b1 := pow_len (a := k) (b := m) l2 t4
    have b2 := pow_len (a := m) (b := k) t3 l1
    refine ⟨s, by omega, ?_⟩
    rw [Nat.min_eq_right hl, hw, t1]
  · rintro ⟨s, hl, hw⟩
    rw [tkK_1 s, if_neg (by omega)]
    rw [Nat.min_eq_right (by omega)] at hw
    rw [hw, ← t1]; exact t2
set_option maxRecDepth 100000 in
theorem r_isWord {Λ : hc_L} {I : hc_I} {L : hc_J} {R : hc_R} (hY : LY Λ) {n q : Nat} {B : Nat → Nat} (hB : ∀ j, j < n → B j < 256) (hn : n ≤ 700) (hq : q ≤ n) (hx : LxAt I L n B q) {i : Nat} (h1 : 1 ≤ i) (hi : i < 19) : Run xX11_isWord [.ref 217, .ref (1000000 + i)] Λ I L R (Qr (some (.int (hc_b (decide (tkK B n q = 1000 + wI i))))) Λ I L R) := by
  refine Run.of (by decide +kernel) (Nat.le_of_ble_eq_true rfl) ?_
  show LW _ _ _ [(0, .ref 217), (1, .ref (1000000 + i))] _ _ _ _ _ _
  have hlt := tkE_le (B := B) hq
  have hs3 : srt B n q ≤ 3 := by unfold srt; split <;> (try split) <;> (try split) <;> omega
  obtain ⟨t1, t2, t3, t4, t5, t6, t7⟩ := wd_tab i h1 hi
  have hp40 := pkS_lt i h1 hi (hc_len.getD i 0) (Nat.le_refl _)
  have hw63 : srt B n q = 1 → wdV B q (min 7 (tkE B n q - q)) < 2 ^ 40 := fun s => by
    obtain ⟨s1, s2⟩ := srt_1.mp s
    obtain ⟨a1, a2, a3, a4⟩ := scan_spec (fun j => isL (B j)) (n - q) q
    rw [← tkE_L s1 s2] at a1 a2 a3 a4
    exact Nat.lt_of_lt_of_le (wdV_lt (B := B) (q := q) (min 7 (tkE B n q - q)) (fun j hj => a3 _ (by omega) (by omega))) (Nat.le_trans (Nat.pow_le_pow_right (by decide) (show min 7 (tkE B n q - q) ≤ 7 by omega)) (by decide))
  refine LW_aloadn 0 dX11_isWord_0 rfl rfl ?_
  refine gX11_25 dX11_isWord_1 flX11_150 (hY.lt (k := 217) (by decide)) (ly217 hY) ?_
  rw [show I 217 25 = nI (srt B n q) from hx.2.2.1]
  refine LW_iconst (v := 1) dX11_isWord_4 (by decide) ?_
  refine LW_icmp_ne (tgt := 40) dX11_isWord_5 (by decide) (fun c5 => ?_) (fun c5 => ?_)
  · refine LW_iconst (v := 0) dX11_isWord_40 (by decide) ?_
    refine LW_zret dX11_isWord_41 rfl (Nat.le_of_ble_eq_true rfl) (Nat.le_of_ble_eq_true rfl) (Or.inl rfl) ?_
    have e : ¬ tkK B n q = 1000 + wI i := fun z => c5 (by rw [((isW_iff hB h1 hi).mp z).1]; rfl)
    rw [decide_eq_false e]
    exact Qr.mk rfl
  · refine LW_aloadn 0 dX11_isWord_8 rfl rfl ?_
    refine gX11_27 dX11_isWord_9 flX11_130 (hY.lt (k := 217) (by decide)) (ly217 hY) ?_
    rw [show I 217 27 = nI (tkE B n q) from hx.2.1]
    refine LW_aloadn 0 dX11_isWord_12 rfl rfl ?_
    refine gX11_26 dX11_isWord_13 flX11_137 (hY.lt (k := 217) (by decide)) (ly217 hY) ?_
    rw [show I 217 26 = nI q from hx.1]
    refine LW_isub dX11_isWord_16 ?_
    rw [show ((nI (tkE B n q)) - (nI q)) = nI (tkE B n q - q) from (nI_sb (tkE_le hq).1)]
    refine LW_aloadn 1 dX11_isWord_17 rfl rfl ?_
    refine LW_callT (As := []) (b := i) (st := [.int (nI (tkE B n q - q))]) (by omega) (r_slength hi) YJ0_length_8abf5 rfl dX11_isWord_18 mlX11_167 rfl (by decide) ⟨Nat.le_of_ble_eq_true rfl, Nat.le_of_ble_eq_true rfl⟩ (Nat.le_of_ble_eq_true rfl) rfl (fun r18 Λc18 Ic18 Lc18 Rc18 hq18 => ?_)
    obtain ⟨rfl, rfl, rfl, rfl, rfl⟩ := hq18
    refine LW_icmp_ne (tgt := 40) dX11_isWord_21 (by decide) (fun c21 => ?_) (fun c21 => ?_)
    · refine LW_iconst (v := 0) dX11_isWord_40 (by decide) ?_
      refine LW_zret dX11_isWord_41 rfl (Nat.le_of_ble_eq_true rfl) (Nat.le_of_ble_eq_true rfl) (Or.inl rfl) ?_
      have e : ¬ tkK B n q = 1000 + wI i := fun z => c21 (by rw [((isW_iff hB h1 hi).mp z).2.1])
      rw [decide_eq_false e]
      exact Qr.mk rfl
    · have hs1 : srt B n q = 1 := (hc_eq (a := srt B n q) (b := 1) (by omega) (by decide)).mp (Classical.not_not.mp c5)
      refine LW_aloadn 0 dX11_isWord_24 rfl rfl ?_
      refine gX11_28 dX11_isWord_25 flX11_140 (hY.lt (k := 217) (by decide)) (ly217 hY) ?_
      rw [show L 217 28 = lN (wdV B q (min 7 (tkE B n q - q))) from (by rw [hx.2.2.2.1, if_pos hs1])]
      refine LW_aloadn 1 dX11_isWord_28 rfl rfl ?_
      refine LW_callS (As := [.ref (1000000 + i)]) (st := [.long (lN (wdV B q (min 7 (tkE B n q - q))))]) (r_mPacked h1 hi) YX11_packed rfl dX11_isWord_29 mlX11_177 (by decide) ⟨Nat.le_of_ble_eq_true rfl, Nat.le_of_ble_eq_true rfl⟩ (Nat.le_of_ble_eq_true rfl) rfl (fun r29 Λc29 Ic29 Lc29 Rc29 hq29 => ?_)
      obtain ⟨rfl, rfl, rfl, rfl, rfl⟩ := hq29
      have hw40 := hw63 hs1
      refine LW_lcmp dX11_isWord_32 ?_
      refine LW_lif_ne (tgt := 40) dX11_isWord_33 (by decide) (fun c33 => ?_) (fun c33 => ?_)
      · refine LW_iconst (v := 0) dX11_isWord_40 (by decide) ?_
        refine LW_zret dX11_isWord_41 rfl (Nat.le_of_ble_eq_true rfl) (Nat.le_of_ble_eq_true rfl) (Or.inl rfl) ?_
        have e : ¬ tkK B n q = 1000 + wI i := fun z => c33 (by have s := ((isW_iff hB h1 hi).mp z).2.2; rw [s])
        rw [decide_eq_false e]
        exact Qr.mk rfl
      · refine LW_iconst (v := 1) dX11_isWord_36 (by decide) ?_
        refine LW_goto (tgt := 41) dX11_isWord_37 (by decide) ?_
        refine LW_zret dX11_isWord_41 rfl (Nat.le_of_ble_eq_true rfl) (Nat.le_of_ble_eq_true rfl) (Or.inr rfl) ?_
        have e : tkK B n q = 1000 + wI i := (isW_iff hB h1 hi).mpr ⟨(hc_eq (a := srt B n q) (b := 1) (by omega) (by decide)).mp (Classical.not_not.mp c5), (hc_eq (a := tkE B n q - q) (by omega) (by omega)).mp (Classical.not_not.mp c21), (pk_lEQ (by omega) (by omega)).mp (Classical.not_not.mp c33)⟩
        rw [decide_eq_true e]
        exact Qr.mk rfl
