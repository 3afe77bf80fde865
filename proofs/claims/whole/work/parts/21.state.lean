/-! the class's State: what is read of it -/
set_option maxRecDepth 100000 in
theorem r_isKnown {Λ : hc_L} {I : hc_I} {L : hc_J} {R : hc_R} {s : Nat} {A : AS} (h : St Λ I L R s A) (x : Int32) : Run xX6_isKnown [.ref s, .int x] Λ I L R (Qr (some (.int (hc_b (aKnX A x)))) Λ I L R) := by
  refine Run.of (by decide +kernel) (Nat.le_of_ble_eq_true rfl) ?_
  show LW _ _ _ [(0, .ref s), (1, .int x)] _ _ _ _ _ _
  have hm31 : aM A < 2 ^ 31 := Nat.lt_of_le_of_lt h.w.m (by decide)
  have hf31 : aF A < 2 ^ 31 := Nat.lt_of_le_of_lt h.w.f (by decide)
  refine LW_iloadn 1 dX6_isKnown_0 rfl rfl ?_
  refine LW_if_lt (tgt := 16) dX6_isKnown_1 (by decide) (fun c1 => ?_) (fun c1 => ?_)
  · refine LW_iconst (v := 0) dX6_isKnown_16 (by decide) ?_
    refine LW_zret dX6_isKnown_17 rfl (Nat.le_of_ble_eq_true rfl) (Nat.le_of_ble_eq_true rfl) (Or.inl rfl) ?_
    refine Qr.mk ?_
    simp_all [aKnX, hc_b, hc_clt, hc_pos, hc_neg]
  · refine LW_iloadn 1 dX6_isKnown_4 rfl rfl ?_
    refine LW_aloadn 0 dX6_isKnown_5 rfl rfl ?_
    refine gX6_11 dX6_isKnown_6 flX6_66 h.l.lt0 h.l.2.1 ?_
    rw [show I s 11 = nI (aM A) from h.m]
    refine LW_icmp_ge (tgt := 16) dX6_isKnown_9 (by decide) (fun c9 => ?_) (fun c9 => ?_)
    · refine LW_iconst (v := 0) dX6_isKnown_16 (by decide) ?_
      refine LW_zret dX6_isKnown_17 rfl (Nat.le_of_ble_eq_true rfl) (Nat.le_of_ble_eq_true rfl) (Or.inl rfl) ?_
      refine Qr.mk ?_
      simp_all [aKnX, hc_b, hc_clt, hc_pos, hc_neg]
    · refine LW_iconst (v := 1) dX6_isKnown_12 (by decide) ?_
      refine LW_goto (tgt := 17) dX6_isKnown_13 (by decide) ?_
      refine LW_zret dX6_isKnown_17 rfl (Nat.le_of_ble_eq_true rfl) (Nat.le_of_ble_eq_true rfl) (Or.inr rfl) ?_
      refine Qr.mk ?_
      simp_all [aKnX, hc_b, hc_clt, hc_pos, hc_neg]
theorem aKnX_n {A : AS} (h : wf A) {x : Int32} (c : aKnX A x = true) : x = nI x.toNatClampNeg ∧ x.toNatClampNeg < aM A := by
  simp only [aKnX, Bool.and_eq_true, decide_eq_true_eq] at c
  obtain ⟨n, hn, rfl⟩ := hc_nn c.1
  rw [hc_cl hn] at c ⊢
  exact ⟨rfl, c.2⟩
theorem aFkX_k {A : AS} (h : wf A) {x : Int32} (c : aFkX A x = true) : x = nI x.toNatClampNeg ∧ x.toNatClampNeg < aF A := by
  simp only [aFkX, Bool.and_eq_true, decide_eq_true_eq] at c
  obtain ⟨n, hn, rfl⟩ := hc_nn c.1
  rw [hc_cl hn] at c ⊢
  exact ⟨rfl, c.2⟩
theorem aIsX_eq {A : AS} {x : Int32} (c : aKnX A x = true) : aIsX A x = aTh A x.toNatClampNeg := by
  simp only [aKnX, Bool.and_eq_true, decide_eq_true_eq] at c
  simp [aIsX, aIs, c.1, c.2]
theorem aIsX_f {A : AS} {x : Int32} (c : aKnX A x = false) : aIsX A x = false := by
  simp only [aKnX, Bool.and_eq_false_iff, decide_eq_false_iff_not] at c
  rcases c with c | c <;> simp [aIsX, aIs, c]
set_option maxRecDepth 100000 in
theorem r_isThere {Λ : hc_L} {I : hc_I} {L : hc_J} {R : hc_R} {s : Nat} {A : AS} (h : St Λ I L R s A) (x : Int32) : Run xX6_isThere [.ref s, .int x] Λ I L R (Qr (some (.int (hc_b (aIsX A x)))) Λ I L R) := by
  refine Run.of (by decide +kernel) (Nat.le_of_ble_eq_true rfl) ?_
  show LW _ _ _ [(0, .ref s), (1, .int x)] _ _ _ _ _ _
  have hm31 : aM A < 2 ^ 31 := Nat.lt_of_le_of_lt h.w.m (by decide)
  have hf31 : aF A < 2 ^ 31 := Nat.lt_of_le_of_lt h.w.f (by decide)
  refine LW_aloadn 0 dX6_isThere_0 rfl rfl ?_
  refine LW_iloadn 1 dX6_isThere_1 rfl rfl ?_
  refine LW_callV (As := [.int x]) (b := s) (st := []) (ci := 6) (r := (RX6, TX6, 15)) (r_isKnown h x) YX6_isKnown rfl dX6_isThere_2 mlX6_100 h.l.lt0 h.l.2.1 ⟨rfl, rfl⟩ (by decide) ⟨Nat.le_refl _, Nat.le_refl _⟩ (Nat.le_of_ble_eq_true rfl) rfl (fun r2 Λc2 Ic2 Lc2 Rc2 hq2 => ?_)
  obtain ⟨rfl, rfl, rfl, rfl, rfl⟩ := hq2
  refine LW_bif_eq (tgt := 21) dX6_isThere_5 (by decide) (fun c5 => ?_) (fun c5 => ?_)
  · refine LW_iconst (v := 0) dX6_isThere_21 (by decide) ?_
    refine LW_zret dX6_isThere_22 rfl (Nat.le_of_ble_eq_true rfl) (Nat.le_of_ble_eq_true rfl) (Or.inl rfl) ?_
    refine Qr.mk ?_
    first | (rw [aIsX_f c5]; rfl) | (rw [aIsX_eq c5, c14]; rfl)
  · obtain ⟨xe, xl⟩ := aKnX_n h.w c5
    have hx12 : x.toNatClampNeg < 12 := Nat.lt_of_lt_of_le xl h.w.m
    refine LW_aloadn 0 dX6_isThere_8 rfl rfl ?_
    refine gX6_4 dX6_isThere_9 flX6_25 h.l.lt0 h.l.2.1 (h.l.f 4 (by decide)) ?_
    refine LW_iloadn 1 dX6_isThere_12 rfl rfl ?_
    refine LW_zald dX6_isThere_13 (h.l.lt 5 (by decide)) h.l.2.2.2.2.2.2.1 xe hx12 (Nat.le_of_ble_eq_true rfl) ?_
    rw [show I (s + 5) x.toNatClampNeg = hc_b (aTh A x.toNatClampNeg) from h.th xl]
    refine LW_bif_eq (tgt := 21) dX6_isThere_14 (by decide) (fun c14 => ?_) (fun c14 => ?_)
    · refine LW_iconst (v := 0) dX6_isThere_21 (by decide) ?_
      refine LW_zret dX6_isThere_22 rfl (Nat.le_of_ble_eq_true rfl) (Nat.le_of_ble_eq_true rfl) (Or.inl rfl) ?_
      refine Qr.mk ?_
      first | (rw [aIsX_f c5]; rfl) | (rw [aIsX_eq c5, c14]; rfl)
    · refine LW_iconst (v := 1) dX6_isThere_17 (by decide) ?_
      refine LW_goto (tgt := 22) dX6_isThere_18 (by decide) ?_
      refine LW_zret dX6_isThere_22 rfl (Nat.le_of_ble_eq_true rfl) (Nat.le_of_ble_eq_true rfl) (Or.inr rfl) ?_
      refine Qr.mk ?_
      first | (rw [aIsX_f c5]; rfl) | (rw [aIsX_eq c5, c14]; rfl)
set_option maxRecDepth 100000 in
theorem r_isFieldKnown {Λ : hc_L} {I : hc_I} {L : hc_J} {R : hc_R} {s : Nat} {A : AS} (h : St Λ I L R s A) (x : Int32) : Run xX6_isFieldKnown [.ref s, .int x] Λ I L R (Qr (some (.int (hc_b (aFkX A x)))) Λ I L R) := by
  refine Run.of (by decide +kernel) (Nat.le_of_ble_eq_true rfl) ?_
  show LW _ _ _ [(0, .ref s), (1, .int x)] _ _ _ _ _ _
  have hm31 : aM A < 2 ^ 31 := Nat.lt_of_le_of_lt h.w.m (by decide)
  have hf31 : aF A < 2 ^ 31 := Nat.lt_of_le_of_lt h.w.f (by decide)
  refine LW_iloadn 1 dX6_isFieldKnown_0 rfl rfl ?_
  refine LW_if_lt (tgt := 25) dX6_isFieldKnown_1 (by decide) (fun c1 => ?_) (fun c1 => ?_)
  · refine LW_iconst (v := 0) dX6_isFieldKnown_25 (by decide) ?_
    refine LW_zret dX6_isFieldKnown_26 rfl (Nat.le_of_ble_eq_true rfl) (Nat.le_of_ble_eq_true rfl) (Or.inl rfl) ?_
    refine Qr.mk ?_
    first | (rw [cf]; rfl) | simp_all [aFkX, hc_b, hc_clt, hc_pos, hc_neg]
  · refine LW_iloadn 1 dX6_isFieldKnown_4 rfl rfl ?_
    refine LW_aloadn 0 dX6_isFieldKnown_5 rfl rfl ?_
    refine gX6_12 dX6_isFieldKnown_6 flX6_70 h.l.lt0 h.l.2.1 ?_
    rw [show I s 12 = nI (aF A) from h.fc]
    refine LW_icmp_ge (tgt := 25) dX6_isFieldKnown_9 (by decide) (fun c9 => ?_) (fun c9 => ?_)
    · refine LW_iconst (v := 0) dX6_isFieldKnown_25 (by decide) ?_
      refine LW_zret dX6_isFieldKnown_26 rfl (Nat.le_of_ble_eq_true rfl) (Nat.le_of_ble_eq_true rfl) (Or.inl rfl) ?_
      refine Qr.mk ?_
      first | (rw [cf]; rfl) | simp_all [aFkX, hc_b, hc_clt, hc_pos, hc_neg]
    · have cf : aFkX A x = true := by simp_all [aFkX, hc_clt, hc_pos]
      obtain ⟨xe, xl⟩ := aFkX_k h.w cf
      have hx24 : x.toNatClampNeg < 24 := Nat.lt_of_lt_of_le xl h.w.f
      obtain ⟨r, hr, hfd⟩ := h.fd xl
      refine LW_aloadn 0 dX6_isFieldKnown_12 rfl rfl ?_
      refine gX6_7 dX6_isFieldKnown_13 flX6_37 h.l.lt0 h.l.2.1 (h.l.f 7 (by decide)) ?_
      refine LW_iloadn 1 dX6_isFieldKnown_16 rfl rfl ?_
      refine LW_aald4s (r := r) dX6_isFieldKnown_17 (h.l.lt 8 (by decide)) h.l.2.2.2.2.2.2.2.2.2.1 xe hx24 (Nat.le_of_ble_eq_true rfl) hr ?_
      refine LW_ifnull dX6_isFieldKnown_18 ?_
      refine LW_iconst (v := 1) dX6_isFieldKnown_21 (by decide) ?_
      refine LW_goto (tgt := 26) dX6_isFieldKnown_22 (by decide) ?_
      refine LW_zret dX6_isFieldKnown_26 rfl (Nat.le_of_ble_eq_true rfl) (Nat.le_of_ble_eq_true rfl) (Or.inr rfl) ?_
      refine Qr.mk ?_
      first | (rw [cf]; rfl) | simp_all [aFkX, hc_b, hc_clt, hc_pos, hc_neg]
theorem aStX_t {A : AS} {x : Int32} (c : aFkX A x = true) : aStX A x = aIs A (aFd A x.toNatClampNeg 0) := by
  simp only [aFkX, Bool.and_eq_true, decide_eq_true_eq] at c
  simp [aStX, aSt, c.1, c.2]
theorem aStX_f {A : AS} {x : Int32} (c : aFkX A x = false) : aStX A x = false := by
  simp only [aFkX, Bool.and_eq_false_iff, decide_eq_false_iff_not] at c
  rcases c with c | c <;> simp [aStX, aSt, c]
theorem aStX_k {A : AS} {x : Int32} (c : aStX A x = true) : aFkX A x = true := by
  cases hk : aFkX A x with
  | true => rfl
  | false => rw [aStX_f hk] at c; cases c
set_option maxRecDepth 100000 in
theorem r_stands {Λ : hc_L} {I : hc_I} {L : hc_J} {R : hc_R} {s : Nat} {A : AS} (h : St Λ I L R s A) (x : Int32) : Run xX6_stands [.ref s, .int x] Λ I L R (Qr (some (.int (hc_b (aStX A x)))) Λ I L R) := by
  refine Run.of (by decide +kernel) (Nat.le_of_ble_eq_true rfl) ?_
  show LW _ _ _ [(0, .ref s), (1, .int x)] _ _ _ _ _ _
  have hm31 : aM A < 2 ^ 31 := Nat.lt_of_le_of_lt h.w.m (by decide)
  have hf31 : aF A < 2 ^ 31 := Nat.lt_of_le_of_lt h.w.f (by decide)
  refine LW_aloadn 0 dX6_stands_0 rfl rfl ?_
  refine LW_iloadn 1 dX6_stands_1 rfl rfl ?_
  refine LW_callV (As := [.int x]) (b := s) (st := []) (ci := 6) (r := (RX6, TX6, 15)) (r_isFieldKnown h x) YX6_isFieldKnown rfl dX6_stands_2 mlX6_104 h.l.lt0 h.l.2.1 ⟨rfl, rfl⟩ (by decide) ⟨Nat.le_refl _, Nat.le_refl _⟩ (Nat.le_of_ble_eq_true rfl) rfl (fun r2 Λc2 Ic2 Lc2 Rc2 hq2 => ?_)
  obtain ⟨rfl, rfl, rfl, rfl, rfl⟩ := hq2
  refine LW_bif_eq (tgt := 28) dX6_stands_5 (by decide) (fun c5 => ?_) (fun c5 => ?_)
  · refine LW_iconst (v := 0) dX6_stands_28 (by decide) ?_
    refine LW_zret dX6_stands_29 rfl (Nat.le_of_ble_eq_true rfl) (Nat.le_of_ble_eq_true rfl) (Or.inl rfl) ?_
    refine Qr.mk ?_
    first | (rw [aStX_f c5]; rfl) | (rw [aStX_t c5, ← aIsX_n ho31, c21]; rfl)
  · obtain ⟨xe, xl⟩ := aFkX_k h.w c5
    have hx24 : x.toNatClampNeg < 24 := Nat.lt_of_lt_of_le xl h.w.f
    obtain ⟨r, hr, hfd⟩ := h.fd xl
    refine LW_aloadn 0 dX6_stands_8 rfl rfl ?_
    refine LW_aloadn 0 dX6_stands_9 rfl rfl ?_
    refine gX6_7 dX6_stands_10 flX6_37 h.l.lt0 h.l.2.1 (h.l.f 7 (by decide)) ?_
    refine LW_iloadn 1 dX6_stands_13 rfl rfl ?_
    refine LW_aald4s (r := r) dX6_stands_14 (h.l.lt 8 (by decide)) h.l.2.2.2.2.2.2.2.2.2.1 xe hx24 (Nat.le_of_ble_eq_true rfl) hr ?_
    refine gX2_0 dX6_stands_15 flX6_107 hfd.1 hfd.2.1 ?_
    rw [show I r 0 = nI (aFd A x.toNatClampNeg 0) from hfd.2.2 0 (by decide)]
    have ho31 : aFd A x.toNatClampNeg 0 < 2 ^ 31 := Nat.lt_of_lt_of_le (h.w.2.2.2.2.2.2.2.1 _ xl).1 (Nat.le_of_lt hm31)
    refine LW_callV (As := [.int (nI (aFd A x.toNatClampNeg 0))]) (b := s) (st := []) (ci := 6) (r := (RX6, TX6, 15)) (r_isThere h (nI (aFd A x.toNatClampNeg 0))) YX6_isThere rfl dX6_stands_18 mlX6_110 h.l.lt0 h.l.2.1 ⟨rfl, rfl⟩ (by decide) ⟨Nat.le_refl _, Nat.le_refl _⟩ (Nat.le_of_ble_eq_true rfl) rfl (fun r18 Λc18 Ic18 Lc18 Rc18 hq18 => ?_)
    obtain ⟨rfl, rfl, rfl, rfl, rfl⟩ := hq18
    refine LW_bif_eq (tgt := 28) dX6_stands_21 (by decide) (fun c21 => ?_) (fun c21 => ?_)
    · refine LW_iconst (v := 0) dX6_stands_28 (by decide) ?_
      refine LW_zret dX6_stands_29 rfl (Nat.le_of_ble_eq_true rfl) (Nat.le_of_ble_eq_true rfl) (Or.inl rfl) ?_
      refine Qr.mk ?_
      first | (rw [aStX_f c5]; rfl) | (rw [aStX_t c5, ← aIsX_n ho31, c21]; rfl)
    · refine LW_iconst (v := 1) dX6_stands_24 (by decide) ?_
      refine LW_goto (tgt := 29) dX6_stands_25 (by decide) ?_
      refine LW_zret dX6_stands_29 rfl (Nat.le_of_ble_eq_true rfl) (Nat.le_of_ble_eq_true rfl) (Or.inr rfl) ?_
      refine Qr.mk ?_
      first | (rw [aStX_f c5]; rfl) | (rw [aStX_t c5, ← aIsX_n ho31, c21]; rfl)
set_option maxRecDepth 100000 in
theorem r_standsFor {Λ : hc_L} {I : hc_I} {L : hc_J} {R : hc_R} {s : Nat} {A : AS} (h : St Λ I L R s A) (x y : Int32) : Run xX6_standsFor [.ref s, .int x, .int y] Λ I L R (Qr (some (.int (hc_b (aSfX A x y)))) Λ I L R) := by
  refine Run.of (by decide +kernel) (Nat.le_of_ble_eq_true rfl) ?_
  show LW _ _ _ [(0, .ref s), (1, .int x), (2, .int y)] _ _ _ _ _ _
  have hm31 : aM A < 2 ^ 31 := Nat.lt_of_le_of_lt h.w.m (by decide)
  have hf31 : aF A < 2 ^ 31 := Nat.lt_of_le_of_lt h.w.f (by decide)
  refine LW_aloadn 0 dX6_standsFor_0 rfl rfl ?_
  refine LW_iloadn 1 dX6_standsFor_1 rfl rfl ?_
  refine LW_callV (As := [.int x]) (b := s) (st := []) (ci := 6) (r := (RX6, TX6, 15)) (r_stands h x) YX6_stands rfl dX6_standsFor_2 mlX6_113 h.l.lt0 h.l.2.1 ⟨rfl, rfl⟩ (by decide) ⟨Nat.le_refl _, Nat.le_refl _⟩ (Nat.le_of_ble_eq_true rfl) rfl (fun r2 Λc2 Ic2 Lc2 Rc2 hq2 => ?_)
  obtain ⟨rfl, rfl, rfl, rfl, rfl⟩ := hq2
  refine LW_bif_eq (tgt := 25) dX6_standsFor_5 (by decide) (fun c5 => ?_) (fun c5 => ?_)
  · refine LW_iconst (v := 0) dX6_standsFor_25 (by decide) ?_
    refine LW_zret dX6_standsFor_26 rfl (Nat.le_of_ble_eq_true rfl) (Nat.le_of_ble_eq_true rfl) (Or.inl rfl) ?_
    refine Qr.mk ?_
    unfold aSfX
    rw [c5]
    first | rfl | (rw [decide_eq_false c18]; rfl) | (rw [decide_eq_true (Classical.not_not.mp c18)]; rfl)
  · obtain ⟨xe, xl⟩ := aFkX_k h.w (aStX_k c5)
    have hx24 : x.toNatClampNeg < 24 := Nat.lt_of_lt_of_le xl h.w.f
    obtain ⟨r, hr, hfd⟩ := h.fd xl
    refine LW_aloadn 0 dX6_standsFor_8 rfl rfl ?_
    refine gX6_7 dX6_standsFor_9 flX6_37 h.l.lt0 h.l.2.1 (h.l.f 7 (by decide)) ?_
    refine LW_iloadn 1 dX6_standsFor_12 rfl rfl ?_
    refine LW_aald4s (r := r) dX6_standsFor_13 (h.l.lt 8 (by decide)) h.l.2.2.2.2.2.2.2.2.2.1 xe hx24 (Nat.le_of_ble_eq_true rfl) hr ?_
    refine gX2_0 dX6_standsFor_14 flX6_107 hfd.1 hfd.2.1 ?_
    rw [show I r 0 = nI (aFd A x.toNatClampNeg 0) from hfd.2.2 0 (by decide)]
    refine LW_iloadn 2 dX6_standsFor_17 rfl rfl ?_
    refine LW_icmp_ne (tgt := 25) dX6_standsFor_18 (by decide) (fun c18 => ?_) (fun c18 => ?_)
    · refine LW_iconst (v := 0) dX6_standsFor_25 (by decide) ?_
      refine LW_zret dX6_standsFor_26 rfl (Nat.le_of_ble_eq_true rfl) (Nat.le_of_ble_eq_true rfl) (Or.inl rfl) ?_
      refine Qr.mk ?_
      unfold aSfX
      rw [c5]
      first | rfl | (rw [decide_eq_false c18]; rfl) | (rw [decide_eq_true (Classical.not_not.mp c18)]; rfl)
    · refine LW_iconst (v := 1) dX6_standsFor_21 (by decide) ?_
      refine LW_goto (tgt := 26) dX6_standsFor_22 (by decide) ?_
      refine LW_zret dX6_standsFor_26 rfl (Nat.le_of_ble_eq_true rfl) (Nat.le_of_ble_eq_true rfl) (Or.inr rfl) ?_
      refine Qr.mk ?_
      unfold aSfX
      rw [c5]
      first | rfl | (rw [decide_eq_false c18]; rfl) | (rw [decide_eq_true (Classical.not_not.mp c18)]; rfl)
set_option maxRecDepth 100000 in
theorem r_coins {Λ : hc_L} {I : hc_I} {L : hc_J} {R : hc_R} {r : Nat} (h1 : r < Λ.1) (h2 : Λ.2.1 r = (102, 0)) : Run xX2_coins [.ref r] Λ I L R (Qr (some (.long ((I r 4).toInt64 * (I r 5).toInt64))) Λ I L R) := by
  refine Run.of (by decide +kernel) (Nat.le_of_ble_eq_true rfl) ?_
  show LW _ _ _ [(0, .ref r)] _ _ _ _ _ _
  refine LW_aloadn 0 dX2_coins_0 rfl rfl ?_
  refine gX2_4 dX2_coins_1 flX2_22 h1 h2 ?_
  refine LW_i2l dX2_coins_4 ?_
  refine LW_aloadn 0 dX2_coins_5 rfl rfl ?_
  refine gX2_5 dX2_coins_6 flX2_25 h1 h2 ?_
  refine LW_i2l dX2_coins_9 ?_
  refine LW_lmul dX2_coins_10 ?_
  refine LW_lret dX2_coins_11 rfl (Nat.le_of_ble_eq_true rfl) (Nat.le_of_ble_eq_true rfl) ?_
  exact Qr.mk rfl
theorem aSt_f {A : AS} {i : Nat} (c : aSt A i = true) : i < aF A := by
  simp only [aSt, Bool.and_eq_true, decide_eq_true_eq] at c
  exact c.1
theorem aSf_s {A : AS} {i k : Nat} (c : aSf A i k = true) : aSt A i = true := by
  simp only [aSf, Bool.and_eq_true] at c
  exact c.1
theorem r_isThereN {Λ : hc_L} {I : hc_I} {L : hc_J} {R : hc_R} {s : Nat} {A : AS} (h : St Λ I L R s A) {k : Nat} (hk : k < 2 ^ 31) : Run xX6_isThere [.ref s, .int (nI k)] Λ I L R (Qr (some (.int (hc_b (aIs A k)))) Λ I L R) := by
  rw [← aIsX_n hk]
  exact r_isThere h (nI k)
theorem r_standsN {Λ : hc_L} {I : hc_I} {L : hc_J} {R : hc_R} {s : Nat} {A : AS} (h : St Λ I L R s A) {k : Nat} (hk : k < 2 ^ 31) : Run xX6_stands [.ref s, .int (nI k)] Λ I L R (Qr (some (.int (hc_b (aSt A k)))) Λ I L R) := by
  rw [← aStX_n hk]
  exact r_stands h (nI k)
theorem r_standsForN {Λ : hc_L} {I : hc_I} {L : hc_J} {R : hc_R} {s : Nat} {A : AS} (h : St Λ I L R s A) {i k : Nat} (hi : i < 2 ^ 31) (hk : k < 2 ^ 31) : Run xX6_standsFor [.ref s, .int (nI i), .int (nI k)] Λ I L R (Qr (some (.int (hc_b (aSf A i k)))) Λ I L R) := by
  have e : aSf A i k = aSfX A (nI i) (nI k) := by
    rw [aSfX_n hi]
    unfold aSf
    cases hs : aSt A i with
    | false => rfl
    | true =>
      have ho := (h.w.2.2.2.2.2.2.2.1 i (aSt_f hs)).1
      have hm := h.w.m
      rw [decide_eq_decide.mpr (hc_eq (by omega) hk)]
  rw [e]
  exact r_standsFor h (nI i) (nI k)
theorem r_coinsN {Λ : hc_L} {I : hc_I} {L : hc_J} {R : hc_R} {r i : Nat} {A : AS} (h : FdAt Λ I r (aFd A i)) : Run xX2_coins [.ref r] Λ I L R (Qr (some (.long (aCo A i))) Λ I L R) := by
  unfold aCo
  rw [← h.2.2 4 (by decide), ← h.2.2 5 (by decide)]
  exact r_coins h.1 h.2.1
def aCell (x y : Int32) : Bool := decide (0 ≤ x) && (decide (x < 8) && (decide (0 ≤ y) && decide (y < 8)))
theorem aCell_n {x y : Nat} (hx : x < 8) (hy : y < 8) : aCell (nI x) (nI y) = true := by
  have h1 : nI x < 8 := (hc_lt (a := x) (b := 8) (by omega) (by omega)).mpr hx
  have h2 : nI y < 8 := (hc_lt (a := y) (b := 8) (by omega) (by omega)).mpr hy
  simp [aCell, nI_nn (show x < 2 ^ 31 by omega), nI_nn (show y < 2 ^ 31 by omega), h1, h2]
theorem aCell_k {x y : Int32} (c : aCell x y = true) : ∃ a b : Nat, x = nI a ∧ y = nI b ∧ a < 8 ∧ b < 8 := by
  simp only [aCell, Bool.and_eq_true, decide_eq_true_eq] at c
  obtain ⟨a, ha, rfl⟩ := hc_nn c.1
  obtain ⟨b, hb, rfl⟩ := hc_nn c.2.2.1
  exact ⟨a, b, rfl, rfl, (hc_lt (a := a) (b := 8) ha (by omega)).mp c.2.1, (hc_lt (a := b) (b := 8) hb (by omega)).mp c.2.2.2⟩
set_option maxRecDepth 100000 in
theorem r_isCell {Λ : hc_L} {I : hc_I} {L : hc_J} {R : hc_R} (x y : Int32) : Run xX10_isCell [.int x, .int y] Λ I L R (Qr (some (.int (hc_b (aCell x y)))) Λ I L R) := by
  refine Run.of (by decide +kernel) (Nat.le_of_ble_eq_true rfl) ?_
  show LW _ _ _ [(0, .int x), (1, .int y)] _ _ _ _ _ _
  refine LW_iloadn 0 dX10_isCell_0 rfl rfl ?_
  refine LW_if_lt (tgt := 24) dX10_isCell_1 (by decide) (fun c1 => ?_) (fun c1 => ?_)
  · refine LW_iconst (v := 0) dX10_isCell_24 (by decide) ?_
    refine LW_zret dX10_isCell_25 rfl (Nat.le_of_ble_eq_true rfl) (Nat.le_of_ble_eq_true rfl) (Or.inl rfl) ?_
    refine Qr.mk ?_
    first | (simp [aCell, hc_pos c1, Int32.not_le.mp c7, hc_pos c11, Int32.not_le.mp c17, hc_b]; done) | (simp [aCell, Int32.not_lt.mpr c17, hc_b]; done) | (simp [aCell, hc_neg c11, hc_b]; done) | (simp [aCell, Int32.not_lt.mpr c7, hc_b]; done) | (simp [aCell, hc_neg c1, hc_b]; done)
  · refine LW_iloadn 0 dX10_isCell_4 rfl rfl ?_
    refine LW_bipush (v := 8) dX10_isCell_5 (by decide) ?_
    refine LW_icmp_ge (tgt := 24) dX10_isCell_7 (by decide) (fun c7 => ?_) (fun c7 => ?_)
    · refine LW_iconst (v := 0) dX10_isCell_24 (by decide) ?_
      refine LW_zret dX10_isCell_25 rfl (Nat.le_of_ble_eq_true rfl) (Nat.le_of_ble_eq_true rfl) (Or.inl rfl) ?_
      refine Qr.mk ?_
      first | (simp [aCell, hc_pos c1, Int32.not_le.mp c7, hc_pos c11, Int32.not_le.mp c17, hc_b]; done) | (simp [aCell, Int32.not_lt.mpr c17, hc_b]; done) | (simp [aCell, hc_neg c11, hc_b]; done) | (simp [aCell, Int32.not_lt.mpr c7, hc_b]; done) | (simp [aCell, hc_neg c1, hc_b]; done)
    · refine LW_iloadn 1 dX10_isCell_10 rfl rfl ?_
      refine LW_if_lt (tgt := 24) dX10_isCell_11 (by decide) (fun c11 => ?_) (fun c11 => ?_)
      · refine LW_iconst (v := 0) dX10_isCell_24 (by decide) ?_
        refine LW_zret dX10_isCell_25 rfl (Nat.le_of_ble_eq_true rfl) (Nat.le_of_ble_eq_true rfl) (Or.inl rfl) ?_
        refine Qr.mk ?_
        first | (simp [aCell, hc_pos c1, Int32.not_le.mp c7, hc_pos c11, Int32.not_le.mp c17, hc_b]; done) | (simp [aCell, Int32.not_lt.mpr c17, hc_b]; done) | (simp [aCell, hc_neg c11, hc_b]; done) | (simp [aCell, Int32.not_lt.mpr c7, hc_b]; done) | (simp [aCell, hc_neg c1, hc_b]; done)
      · refine LW_iloadn 1 dX10_isCell_14 rfl rfl ?_
        refine LW_bipush (v := 8) dX10_isCell_15 (by decide) ?_
        refine LW_icmp_ge (tgt := 24) dX10_isCell_17 (by decide) (fun c17 => ?_) (fun c17 => ?_)
        · refine LW_iconst (v := 0) dX10_isCell_24 (by decide) ?_
          refine LW_zret dX10_isCell_25 rfl (Nat.le_of_ble_eq_true rfl) (Nat.le_of_ble_eq_true rfl) (Or.inl rfl) ?_
          refine Qr.mk ?_
          first | (simp [aCell, hc_pos c1, Int32.not_le.mp c7, hc_pos c11, Int32.not_le.mp c17, hc_b]; done) | (simp [aCell, Int32.not_lt.mpr c17, hc_b]; done) | (simp [aCell, hc_neg c11, hc_b]; done) | (simp [aCell, Int32.not_lt.mpr c7, hc_b]; done) | (simp [aCell, hc_neg c1, hc_b]; done)
        · refine LW_iconst (v := 1) dX10_isCell_20 (by decide) ?_
          refine LW_goto (tgt := 25) dX10_isCell_21 (by decide) ?_
          refine LW_zret dX10_isCell_25 rfl (Nat.le_of_ble_eq_true rfl) (Nat.le_of_ble_eq_true rfl) (Or.inr rfl) ?_
          refine Qr.mk ?_
          first | (simp [aCell, hc_pos c1, Int32.not_le.mp c7, hc_pos c11, Int32.not_le.mp c17, hc_b]; done) | (simp [aCell, Int32.not_lt.mpr c17, hc_b]; done) | (simp [aCell, hc_neg c11, hc_b]; done) | (simp [aCell, Int32.not_lt.mpr c7, hc_b]; done) | (simp [aCell, hc_neg c1, hc_b]; done)
set_option maxRecDepth 100000 in
theorem r_hazardAtN {Λ : hc_L} {I : hc_I} {L : hc_J} {R : hc_R} {s : Nat} {A : AS} (h : St Λ I L R s A) {x y : Nat} (hx : x < 8) (hy : y < 8) : Run xX6_hazardAt [.ref s, .int (nI x), .int (nI y)] Λ I L R (Qr (some (.int (nI (aHzAt A x y)))) Λ I L R) := by
  refine Run.of (by decide +kernel) (Nat.le_of_ble_eq_true rfl) ?_
  show LW _ _ _ [(0, .ref s), (1, .int (nI x)), (2, .int (nI y))] _ _ _ _ _ _
  refine LW_iloadn 1 dX6_hazardAt_0 rfl rfl ?_
  refine LW_iloadn 2 dX6_hazardAt_1 rfl rfl ?_
  refine LW_callSN (As := [.int (nI x), .int (nI y)]) (st := []) (r_isCell (nI x) (nI y)) YX10_isCell rfl dX6_hazardAt_2 nlX6_116 (by decide) ⟨Nat.le_refl _, Nat.le_refl _⟩ (Nat.le_of_ble_eq_true rfl) rfl (fun r2 Λc2 Ic2 Lc2 Rc2 hq2 => ?_)
  obtain ⟨rfl, rfl, rfl, rfl, rfl⟩ := hq2
  refine LW_bif_eq (tgt := 22) dX6_hazardAt_5 (by decide) (fun c5 => absurd (c5.symm.trans (aCell_n hx hy)) (by decide)) (fun c5 => ?_)
  refine LW_aloadn 0 dX6_hazardAt_8 rfl rfl ?_
  refine gX6_1 dX6_hazardAt_9 flX6_15 h.l.lt0 h.l.2.1 (h.l.f 1 (by decide)) ?_
  refine LW_iloadn 2 dX6_hazardAt_12 rfl rfl ?_
  refine LW_bipush (v := 8) dX6_hazardAt_13 (by decide) ?_
  refine LW_imul dX6_hazardAt_15 ?_
  refine LW_iloadn 1 dX6_hazardAt_16 rfl rfl ?_
  refine LW_iadd dX6_hazardAt_17 ?_
  refine LW_iald dX6_hazardAt_18 (h.l.lt 2 (by decide)) h.l.2.2.2.1 (by rw [show (8 : Int32) = nI 8 from rfl, nI_mul, nI_add]) (by omega) (Nat.le_of_ble_eq_true rfl) ?_
  rw [show I (s + 2) (y * 8 + x) = nI (aHz A (y * 8 + x)) from h.hz (by omega)]
  refine LW_goto (tgt := 23) dX6_hazardAt_19 (by decide) ?_
  refine LW_iret dX6_hazardAt_23 rfl (Nat.le_of_ble_eq_true rfl) (Nat.le_of_ble_eq_true rfl) ?_
  exact Qr.mk rfl
set_option maxRecDepth 100000 in
theorem r_pointsOfField {r i : Nat} {Λ : hc_L} {I : hc_I} {L : hc_J} {R : hc_R} {s : Nat} {A : AS} (h : St Λ I L R s A) (hfd : FdAt Λ I r (aFd A i)) (hb : aFd A i 0 < aM A ∧ aFd A i 1 < 8 ∧ aFd A i 2 < 8 ∧ aFd A i 3 < 4 ∧ (1 ≤ aFd A i 4 ∧ aFd A i 4 ≤ 99) ∧ (1 ≤ aFd A i 5 ∧ aFd A i 5 ≤ 999)) : Run xX6_pointsOfField [.ref s, .ref r] Λ I L R (Qr (some (.long (aPt A i))) Λ I L R) := by
  refine Run.of (by decide +kernel) (Nat.le_of_ble_eq_true rfl) ?_
  show LW _ _ _ [(0, .ref s), (1, .ref r)] _ _ _ _ _ _
  refine LW_aloadn 1 dX6_pointsOfField_0 rfl rfl ?_
  refine LW_callV (As := []) (b := r) (st := []) (ci := 2) (r := (RX2, TX2, 6)) (r_coinsN hfd) YX2_coins rfl dX6_pointsOfField_1 mlX6_120 hfd.1 hfd.2.1 ⟨rfl, rfl⟩ (by decide) ⟨Nat.le_refl _, Nat.le_refl _⟩ (Nat.le_of_ble_eq_true rfl) rfl (fun r1 Λc1 Ic1 Lc1 Rc1 hq1 => ?_)
  obtain ⟨rfl, rfl, rfl, rfl, rfl⟩ := hq1
  refine LW_aloadn 0 dX6_pointsOfField_4 rfl rfl ?_
  refine LW_aloadn 1 dX6_pointsOfField_5 rfl rfl ?_
  refine gX2_1 dX6_pointsOfField_6 flX6_124 hfd.1 hfd.2.1 ?_
  rw [show I r 1 = nI (aFd A i 1) from hfd.2.2 1 (by decide)]
  refine LW_aloadn 1 dX6_pointsOfField_9 rfl rfl ?_
  refine gX2_2 dX6_pointsOfField_10 flX6_127 hfd.1 hfd.2.1 ?_
  rw [show I r 2 = nI (aFd A i 2) from hfd.2.2 2 (by decide)]
  refine LW_callV (As := [.int (nI (aFd A i 1)), .int (nI (aFd A i 2))]) (b := s) (st := [.long (aCo A i)]) (ci := 6) (r := (RX6, TX6, 15)) (r_hazardAtN h hb.2.1 hb.2.2.1) YX6_hazardAt rfl dX6_pointsOfField_13 mlX6_130 h.l.lt0 h.l.2.1 ⟨rfl, rfl⟩ (by decide) ⟨Nat.le_refl _, Nat.le_refl _⟩ (Nat.le_of_ble_eq_true rfl) rfl (fun r13 Λc13 Ic13 Lc13 Rc13 hq13 => ?_)
  obtain ⟨rfl, rfl, rfl, rfl, rfl⟩ := hq13
  refine LW_i2l dX6_pointsOfField_16 ?_
  refine LW_lmul dX6_pointsOfField_17 ?_
  refine LW_lret dX6_pointsOfField_18 rfl (Nat.le_of_ble_eq_true rfl) (Nat.le_of_ble_eq_true rfl) ?_
  exact Qr.mk rfl
set_option maxRecDepth 100000 in
theorem r_membersThere {Λ : hc_L} {I : hc_I} {L : hc_J} {R : hc_R} {s : Nat} {A : AS} (h : St Λ I L R s A)  : Run xX6_membersThere [.ref s] Λ I L R (Qr (some (.int (abMt A (aM A)))) Λ I L R) := by
  refine Run.of (by decide +kernel) (Nat.le_of_ble_eq_true rfl) ?_
  show LW _ _ _ [(0, .ref s)] _ _ _ _ _ _
  have hm31 : aM A < 2 ^ 31 := Nat.lt_of_le_of_lt h.w.m (by decide)
  have hf31 : aF A < 2 ^ 31 := Nat.lt_of_le_of_lt h.w.f (by decide)
  have hn := h.w.m
  refine LW_iconst (v := 0) dX6_membersThere_0 (by decide) ?_
  refine LW_istoren (ls' := [(0, .ref s), (1, .int 0)]) dX6_membersThere_1 rfl (by decide) rfl ?_
  refine LW_iconst (v := 0) dX6_membersThere_2 (by decide) ?_
  refine LW_istoren (ls' := [(0, .ref s), (1, .int 0), (2, .int 0)]) dX6_membersThere_3 rfl (by decide) rfl ?_
  have loop : ∀ i, i ≤ (aM A) → LW xX6_membersThere (0, 0) 4 [(0, .ref s), (1, .int (abMt A i)), (2, .int (nI i))] [] Λ I L R (Qr (some (.int (abMt A (aM A)))) Λ I L R) := by
    refine hc_down ?_ ?_
    · refine LW_iloadn 2 dX6_membersThere_4 rfl rfl ?_
      refine LW_aloadn 0 dX6_membersThere_5 rfl rfl ?_
      refine gX6_11 dX6_membersThere_6 flX6_66 h.l.lt0 h.l.2.1 ?_
      rw [show I s 11 = nI (aM A) from h.m]
      refine LW_icmp_ge (tgt := 35) dX6_membersThere_9 (by decide) (fun c9 => ?_) (fun c9 => absurd (Int32.le_refl _) c9)
      refine LW_iloadn 1 dX6_membersThere_35 rfl rfl ?_
      refine LW_iret dX6_membersThere_36 rfl (Nat.le_of_ble_eq_true rfl) (Nat.le_of_ble_eq_true rfl) ?_
      exact Qr.mk rfl
    · intro i hi ih
      refine LW_iloadn 2 dX6_membersThere_4 rfl rfl ?_
      refine LW_aloadn 0 dX6_membersThere_5 rfl rfl ?_
      refine gX6_11 dX6_membersThere_6 flX6_66 h.l.lt0 h.l.2.1 ?_
      rw [show I s 11 = nI (aM A) from h.m]
      refine LW_icmp_ge (tgt := 35) dX6_membersThere_9 (by decide) (fun c9 => absurd c9 (hc_nle hm31 (by omega) hi)) (fun c9 => ?_)
      refine LW_iloadn 1 dX6_membersThere_12 rfl rfl ?_
      refine LW_aloadn 0 dX6_membersThere_13 rfl rfl ?_
      refine gX6_4 dX6_membersThere_14 flX6_25 h.l.lt0 h.l.2.1 (h.l.f 4 (by decide)) ?_
      refine LW_iloadn 2 dX6_membersThere_17 rfl rfl ?_
      refine LW_zald dX6_membersThere_18 (h.l.lt 5 (by decide)) h.l.2.2.2.2.2.2.1 rfl (by omega) (Nat.le_of_ble_eq_true rfl) ?_
      rw [show I (s + 5) i = hc_b (aTh A i) from h.th hi]
      refine LW_bif_eq (tgt := 26) dX6_membersThere_19 (by decide) (fun c19 => ?_) (fun c19 => ?_)
      · refine LW_iconst (v := 0) dX6_membersThere_26 (by decide) ?_
        refine LW_iadd dX6_membersThere_27 ?_
        refine LW_istoren (ls' := [(0, .ref s), (1, .int ((abMt A i) + 0)), (2, .int (nI i))]) dX6_membersThere_28 rfl (by decide) rfl ?_
        refine LW_iinc (n := 2) (v := nI (i + 1)) (ls' := [(0, .ref s), (1, .int ((abMt A i) + 0)), (2, .int (nI (i + 1)))]) dX6_membersThere_29 rfl (hc_inc _) (by decide) rfl ?_
        refine LW_goto (tgt := 4) dX6_membersThere_32 (by decide) ?_
        exact hc_lsc (by first | simp [abMt, sumI, c19, hc_b] | simp [abMt, sumI, hc_b, *]) ih
      · refine LW_iconst (v := 1) dX6_membersThere_22 (by decide) ?_
        refine LW_goto (tgt := 27) dX6_membersThere_23 (by decide) ?_
        refine LW_iadd dX6_membersThere_27 ?_
        refine LW_istoren (ls' := [(0, .ref s), (1, .int ((abMt A i) + 1)), (2, .int (nI i))]) dX6_membersThere_28 rfl (by decide) rfl ?_
        refine LW_iinc (n := 2) (v := nI (i + 1)) (ls' := [(0, .ref s), (1, .int ((abMt A i) + 1)), (2, .int (nI (i + 1)))]) dX6_membersThere_29 rfl (hc_inc _) (by decide) rfl ?_
        refine LW_goto (tgt := 4) dX6_membersThere_32 (by decide) ?_
        exact hc_lsc (by first | simp [abMt, sumI, c19, hc_b] | simp [abMt, sumI, hc_b, *]) ih
  exact loop 0 (Nat.zero_le _)
set_option maxRecDepth 100000 in
theorem r_fieldsThere {Λ : hc_L} {I : hc_I} {L : hc_J} {R : hc_R} {s : Nat} {A : AS} (h : St Λ I L R s A)  : Run xX6_fieldsThere [.ref s] Λ I L R (Qr (some (.int (abFt A (aF A)))) Λ I L R) := by
  refine Run.of (by decide +kernel) (Nat.le_of_ble_eq_true rfl) ?_
  show LW _ _ _ [(0, .ref s)] _ _ _ _ _ _
  have hm31 : aM A < 2 ^ 31 := Nat.lt_of_le_of_lt h.w.m (by decide)
  have hf31 : aF A < 2 ^ 31 := Nat.lt_of_le_of_lt h.w.f (by decide)
  have hn := h.w.f
  refine LW_iconst (v := 0) dX6_fieldsThere_0 (by decide) ?_
  refine LW_istoren (ls' := [(0, .ref s), (1, .int 0)]) dX6_fieldsThere_1 rfl (by decide) rfl ?_
  refine LW_iconst (v := 0) dX6_fieldsThere_2 (by decide) ?_
  refine LW_istoren (ls' := [(0, .ref s), (1, .int 0), (2, .int 0)]) dX6_fieldsThere_3 rfl (by decide) rfl ?_
  have loop : ∀ i, i ≤ (aF A) → LW xX6_fieldsThere (0, 0) 4 [(0, .ref s), (1, .int (abFt A i)), (2, .int (nI i))] [] Λ I L R (Qr (some (.int (abFt A (aF A)))) Λ I L R) := by
    refine hc_down ?_ ?_
    · refine LW_iloadn 2 dX6_fieldsThere_4 rfl rfl ?_
      refine LW_aloadn 0 dX6_fieldsThere_5 rfl rfl ?_
      refine gX6_12 dX6_fieldsThere_6 flX6_70 h.l.lt0 h.l.2.1 ?_
      rw [show I s 12 = nI (aF A) from h.fc]
      refine LW_icmp_ge (tgt := 34) dX6_fieldsThere_9 (by decide) (fun c9 => ?_) (fun c9 => absurd (Int32.le_refl _) c9)
      refine LW_iloadn 1 dX6_fieldsThere_34 rfl rfl ?_
      refine LW_iret dX6_fieldsThere_35 rfl (Nat.le_of_ble_eq_true rfl) (Nat.le_of_ble_eq_true rfl) ?_
      exact Qr.mk rfl
    · intro i hi ih
      refine LW_iloadn 2 dX6_fieldsThere_4 rfl rfl ?_
      refine LW_aloadn 0 dX6_fieldsThere_5 rfl rfl ?_
      refine gX6_12 dX6_fieldsThere_6 flX6_70 h.l.lt0 h.l.2.1 ?_
      rw [show I s 12 = nI (aF A) from h.fc]
      refine LW_icmp_ge (tgt := 34) dX6_fieldsThere_9 (by decide) (fun c9 => absurd c9 (hc_nle hf31 (by omega) hi)) (fun c9 => ?_)
      refine LW_iloadn 1 dX6_fieldsThere_12 rfl rfl ?_
      refine LW_aloadn 0 dX6_fieldsThere_13 rfl rfl ?_
      refine LW_iloadn 2 dX6_fieldsThere_14 rfl rfl ?_
      refine LW_callV (As := [.int (nI i)]) (b := s) (st := [.int (abFt A i)]) (ci := 6) (r := (RX6, TX6, 15)) (r_standsN h (by omega)) YX6_stands rfl dX6_fieldsThere_15 mlX6_113 h.l.lt0 h.l.2.1 ⟨rfl, rfl⟩ (by decide) ⟨Nat.le_refl _, Nat.le_refl _⟩ (Nat.le_of_ble_eq_true rfl) rfl (fun r15 Λc15 Ic15 Lc15 Rc15 hq15 => ?_)
      obtain ⟨rfl, rfl, rfl, rfl, rfl⟩ := hq15
      refine LW_bif_eq (tgt := 25) dX6_fieldsThere_18 (by decide) (fun c18 => ?_) (fun c18 => ?_)
      · refine LW_iconst (v := 0) dX6_fieldsThere_25 (by decide) ?_
        refine LW_iadd dX6_fieldsThere_26 ?_
        refine LW_istoren (ls' := [(0, .ref s), (1, .int ((abFt A i) + 0)), (2, .int (nI i))]) dX6_fieldsThere_27 rfl (by decide) rfl ?_
        refine LW_iinc (n := 2) (v := nI (i + 1)) (ls' := [(0, .ref s), (1, .int ((abFt A i) + 0)), (2, .int (nI (i + 1)))]) dX6_fieldsThere_28 rfl (hc_inc _) (by decide) rfl ?_
        refine LW_goto (tgt := 4) dX6_fieldsThere_31 (by decide) ?_
        exact hc_lsc (by simp [abFt, sumI, c18, hc_b]) ih
      · refine LW_iconst (v := 1) dX6_fieldsThere_21 (by decide) ?_
        refine LW_goto (tgt := 26) dX6_fieldsThere_22 (by decide) ?_
        refine LW_iadd dX6_fieldsThere_26 ?_
        refine LW_istoren (ls' := [(0, .ref s), (1, .int ((abFt A i) + 1)), (2, .int (nI i))]) dX6_fieldsThere_27 rfl (by decide) rfl ?_
        refine LW_iinc (n := 2) (v := nI (i + 1)) (ls' := [(0, .ref s), (1, .int ((abFt A i) + 1)), (2, .int (nI (i + 1)))]) dX6_fieldsThere_28 rfl (hc_inc _) (by decide) rfl ?_
        refine LW_goto (tgt := 4) dX6_fieldsThere_31 (by decide) ?_
        exact hc_lsc (by simp [abFt, sumI, c18, hc_b]) ih
  exact loop 0 (Nat.zero_le _)
set_option maxRecDepth 100000 in
theorem r_fieldsOf {Λ : hc_L} {I : hc_I} {L : hc_J} {R : hc_R} {s : Nat} {A : AS} (h : St Λ I L R s A) {k : Nat} (hk : k < 2 ^ 31) : Run xX6_fieldsOf [.ref s, .int (nI k)] Λ I L R (Qr (some (.int (abNf A k (aF A)))) Λ I L R) := by
  refine Run.of (by decide +kernel) (Nat.le_of_ble_eq_true rfl) ?_
  show LW _ _ _ [(0, .ref s), (1, .int (nI k))] _ _ _ _ _ _
  have hm31 : aM A < 2 ^ 31 := Nat.lt_of_le_of_lt h.w.m (by decide)
  have hf31 : aF A < 2 ^ 31 := Nat.lt_of_le_of_lt h.w.f (by decide)
  have hn := h.w.f
  refine LW_iconst (v := 0) dX6_fieldsOf_0 (by decide) ?_
  refine LW_istoren (ls' := [(0, .ref s), (1, .int (nI k)), (2, .int 0)]) dX6_fieldsOf_1 rfl (by decide) rfl ?_
  refine LW_iconst (v := 0) dX6_fieldsOf_2 (by decide) ?_
  refine LW_istoren (ls' := [(0, .ref s), (1, .int (nI k)), (2, .int 0), (3, .int 0)]) dX6_fieldsOf_3 rfl (by decide) rfl ?_
  have loop : ∀ i, i ≤ (aF A) → LW xX6_fieldsOf (0, 0) 4 [(0, .ref s), (1, .int (nI k)), (2, .int (abNf A k i)), (3, .int (nI i))] [] Λ I L R (Qr (some (.int (abNf A k (aF A)))) Λ I L R) := by
    refine hc_down ?_ ?_
    · refine LW_iloadn 3 dX6_fieldsOf_4 rfl rfl ?_
      refine LW_aloadn 0 dX6_fieldsOf_5 rfl rfl ?_
      refine gX6_12 dX6_fieldsOf_6 flX6_70 h.l.lt0 h.l.2.1 ?_
      rw [show I s 12 = nI (aF A) from h.fc]
      refine LW_icmp_ge (tgt := 35) dX6_fieldsOf_9 (by decide) (fun c9 => ?_) (fun c9 => absurd (Int32.le_refl _) c9)
      refine LW_iloadn 2 dX6_fieldsOf_35 rfl rfl ?_
      refine LW_iret dX6_fieldsOf_36 rfl (Nat.le_of_ble_eq_true rfl) (Nat.le_of_ble_eq_true rfl) ?_
      exact Qr.mk rfl
    · intro i hi ih
      refine LW_iloadn 3 dX6_fieldsOf_4 rfl rfl ?_
      refine LW_aloadn 0 dX6_fieldsOf_5 rfl rfl ?_
      refine gX6_12 dX6_fieldsOf_6 flX6_70 h.l.lt0 h.l.2.1 ?_
      rw [show I s 12 = nI (aF A) from h.fc]
      refine LW_icmp_ge (tgt := 35) dX6_fieldsOf_9 (by decide) (fun c9 => absurd c9 (hc_nle hf31 (by omega) hi)) (fun c9 => ?_)
      refine LW_iloadn 2 dX6_fieldsOf_12 rfl rfl ?_
      refine LW_aloadn 0 dX6_fieldsOf_13 rfl rfl ?_
      refine LW_iloadn 3 dX6_fieldsOf_14 rfl rfl ?_
      refine LW_iloadn 1 dX6_fieldsOf_15 rfl rfl ?_
      refine LW_callV (As := [.int (nI i), .int (nI k)]) (b := s) (st := [.int (abNf A k i)]) (ci := 6) (r := (RX6, TX6, 15)) (r_standsForN h (by omega) hk) YX6_standsFor rfl dX6_fieldsOf_16 mlX6_134 h.l.lt0 h.l.2.1 ⟨rfl, rfl⟩ (by decide) ⟨Nat.le_refl _, Nat.le_refl _⟩ (Nat.le_of_ble_eq_true rfl) rfl (fun r16 Λc16 Ic16 Lc16 Rc16 hq16 => ?_)
      obtain ⟨rfl, rfl, rfl, rfl, rfl⟩ := hq16
      refine LW_bif_eq (tgt := 26) dX6_fieldsOf_19 (by decide) (fun c19 => ?_) (fun c19 => ?_)
      · refine LW_iconst (v := 0) dX6_fieldsOf_26 (by decide) ?_
        refine LW_iadd dX6_fieldsOf_27 ?_
        refine LW_istoren (ls' := [(0, .ref s), (1, .int (nI k)), (2, .int ((abNf A k i) + 0)), (3, .int (nI i))]) dX6_fieldsOf_28 rfl (by decide) rfl ?_
        refine LW_iinc (n := 3) (v := nI (i + 1)) (ls' := [(0, .ref s), (1, .int (nI k)), (2, .int ((abNf A k i) + 0)), (3, .int (nI (i + 1)))]) dX6_fieldsOf_29 rfl (hc_inc _) (by decide) rfl ?_
        refine LW_goto (tgt := 4) dX6_fieldsOf_32 (by decide) ?_
        exact hc_lsc (by simp [abNf, sumI, c19, hc_b]) ih
      · refine LW_iconst (v := 1) dX6_fieldsOf_22 (by decide) ?_
        refine LW_goto (tgt := 27) dX6_fieldsOf_23 (by decide) ?_
        refine LW_iadd dX6_fieldsOf_27 ?_
        refine LW_istoren (ls' := [(0, .ref s), (1, .int (nI k)), (2, .int ((abNf A k i) + 1)), (3, .int (nI i))]) dX6_fieldsOf_28 rfl (by decide) rfl ?_
        refine LW_iinc (n := 3) (v := nI (i + 1)) (ls' := [(0, .ref s), (1, .int (nI k)), (2, .int ((abNf A k i) + 1)), (3, .int (nI (i + 1)))]) dX6_fieldsOf_29 rfl (hc_inc _) (by decide) rfl ?_
        refine LW_goto (tgt := 4) dX6_fieldsOf_32 (by decide) ?_
        exact hc_lsc (by simp [abNf, sumI, c19, hc_b]) ih
  exact loop 0 (Nat.zero_le _)
set_option maxRecDepth 100000 in
theorem r_sumsOf {Λ : hc_L} {I : hc_I} {L : hc_J} {R : hc_R} {s : Nat} {A : AS} (h : St Λ I L R s A) {k : Nat} (hk : k < 2 ^ 31) : Run xX6_sumsOf [.ref s, .int (nI k)] Λ I L R (Qr (some (.long (abSums A k (aF A)))) Λ I L R) := by
  refine Run.of (by decide +kernel) (Nat.le_of_ble_eq_true rfl) ?_
  show LW _ _ _ [(0, .ref s), (1, .int (nI k))] _ _ _ _ _ _
  have hm31 : aM A < 2 ^ 31 := Nat.lt_of_le_of_lt h.w.m (by decide)
  have hf31 : aF A < 2 ^ 31 := Nat.lt_of_le_of_lt h.w.f (by decide)
  have hn := h.w.f
  refine LW_lconst (v := 0) dX6_sumsOf_0 (by decide) ?_
  refine LW_lstoren (ls' := [(0, .ref s), (1, .int (nI k)), (2, .long 0)]) dX6_sumsOf_1 rfl (by decide) rfl ?_
  refine LW_iconst (v := 0) dX6_sumsOf_2 (by decide) ?_
  refine LW_istore (ls' := [(0, .ref s), (1, .int (nI k)), (2, .long 0), (4, .int 0)]) dX6_sumsOf_3 (by decide) rfl ?_
  have loop : ∀ i, i ≤ (aF A) → LW xX6_sumsOf (0, 0) 5 [(0, .ref s), (1, .int (nI k)), (2, .long (abSums A k i)), (4, .int (nI i))] [] Λ I L R (Qr (some (.long (abSums A k (aF A)))) Λ I L R) := by
    refine hc_down ?_ ?_
    · refine LW_iload 3 dX6_sumsOf_5 rfl ?_
      refine LW_aloadn 0 dX6_sumsOf_7 rfl rfl ?_
      refine gX6_12 dX6_sumsOf_8 flX6_70 h.l.lt0 h.l.2.1 ?_
      rw [show I s 12 = nI (aF A) from h.fc]
      refine LW_icmp_ge (tgt := 47) dX6_sumsOf_11 (by decide) (fun c11 => ?_) (fun c11 => absurd (Int32.le_refl _) c11)
      refine LW_lloadn 2 dX6_sumsOf_47 rfl rfl ?_
      refine LW_lret dX6_sumsOf_48 rfl (Nat.le_of_ble_eq_true rfl) (Nat.le_of_ble_eq_true rfl) ?_
      exact Qr.mk rfl
    · intro i hi ih
      refine LW_iload 3 dX6_sumsOf_5 rfl ?_
      refine LW_aloadn 0 dX6_sumsOf_7 rfl rfl ?_
      refine gX6_12 dX6_sumsOf_8 flX6_70 h.l.lt0 h.l.2.1 ?_
      rw [show I s 12 = nI (aF A) from h.fc]
      refine LW_icmp_ge (tgt := 47) dX6_sumsOf_11 (by decide) (fun c11 => absurd c11 (hc_nle hf31 (by omega) hi)) (fun c11 => ?_)
      refine LW_lloadn 2 dX6_sumsOf_14 rfl rfl ?_
      refine LW_aloadn 0 dX6_sumsOf_15 rfl rfl ?_
      refine LW_iload 3 dX6_sumsOf_16 rfl ?_
      refine LW_iloadn 1 dX6_sumsOf_18 rfl rfl ?_
      refine LW_callV (As := [.int (nI i), .int (nI k)]) (b := s) (st := [.long (abSums A k i)]) (ci := 6) (r := (RX6, TX6, 15)) (r_standsForN h (by omega) hk) YX6_standsFor rfl dX6_sumsOf_19 mlX6_134 h.l.lt0 h.l.2.1 ⟨rfl, rfl⟩ (by decide) ⟨Nat.le_refl _, Nat.le_refl _⟩ (Nat.le_of_ble_eq_true rfl) rfl (fun r19 Λc19 Ic19 Lc19 Rc19 hq19 => ?_)
      obtain ⟨rfl, rfl, rfl, rfl, rfl⟩ := hq19
      refine LW_bif_eq (tgt := 38) dX6_sumsOf_22 (by decide) (fun c22 => ?_) (fun c22 => ?_)
      · refine LW_lconst (v := 0) dX6_sumsOf_38 (by decide) ?_
        refine LW_ladd dX6_sumsOf_39 ?_
        refine LW_lstoren (ls' := [(0, .ref s), (1, .int (nI k)), (2, .long ((abSums A k i) + 0)), (4, .int (nI i))]) dX6_sumsOf_40 rfl (by decide) rfl ?_
        refine LW_iinc (n := 3) (v := nI (i + 1)) (ls' := [(0, .ref s), (1, .int (nI k)), (2, .long ((abSums A k i) + 0)), (4, .int (nI (i + 1)))]) dX6_sumsOf_41 rfl (hc_inc _) (by decide) rfl ?_
        refine LW_goto (tgt := 5) dX6_sumsOf_44 (by decide) ?_
        exact hc_lsc (by simp [abSums, sumJ, c22]) ih
      · obtain ⟨r, hr, hfd⟩ := h.fd hi
        refine LW_aloadn 0 dX6_sumsOf_25 rfl rfl ?_
        refine gX6_7 dX6_sumsOf_26 flX6_37 h.l.lt0 h.l.2.1 (h.l.f 7 (by decide)) ?_
        refine LW_iload 3 dX6_sumsOf_29 rfl ?_
        refine LW_aald4s (r := r) dX6_sumsOf_31 (h.l.lt 8 (by decide)) h.l.2.2.2.2.2.2.2.2.2.1 rfl (by omega) (Nat.le_of_ble_eq_true rfl) hr ?_
        refine LW_callV (As := []) (b := r) (st := [.long (abSums A k i)]) (ci := 2) (r := (RX2, TX2, 6)) (r_coinsN hfd) YX2_coins rfl dX6_sumsOf_32 mlX6_120 hfd.1 hfd.2.1 ⟨rfl, rfl⟩ (by decide) ⟨Nat.le_refl _, Nat.le_refl _⟩ (Nat.le_of_ble_eq_true rfl) rfl (fun r32 Λc32 Ic32 Lc32 Rc32 hq32 => ?_)
        obtain ⟨rfl, rfl, rfl, rfl, rfl⟩ := hq32
        refine LW_goto (tgt := 39) dX6_sumsOf_35 (by decide) ?_
        refine LW_ladd dX6_sumsOf_39 ?_
        refine LW_lstoren (ls' := [(0, .ref s), (1, .int (nI k)), (2, .long ((abSums A k i) + (aCo A i))), (4, .int (nI i))]) dX6_sumsOf_40 rfl (by decide) rfl ?_
        refine LW_iinc (n := 3) (v := nI (i + 1)) (ls' := [(0, .ref s), (1, .int (nI k)), (2, .long ((abSums A k i) + (aCo A i))), (4, .int (nI (i + 1)))]) dX6_sumsOf_41 rfl (hc_inc _) (by decide) rfl ?_
        refine LW_goto (tgt := 5) dX6_sumsOf_44 (by decide) ?_
        exact hc_lsc (by simp [abSums, sumJ, c22]) ih
  exact loop 0 (Nat.zero_le _)
set_option maxRecDepth 100000 in
theorem r_pointsOf {Λ : hc_L} {I : hc_I} {L : hc_J} {R : hc_R} {s : Nat} {A : AS} (h : St Λ I L R s A) {k : Nat} (hk : k < 2 ^ 31) : Run xX6_pointsOf [.ref s, .int (nI k)] Λ I L R (Qr (some (.long (abPts A k (aF A)))) Λ I L R) := by
  refine Run.of (by decide +kernel) (Nat.le_of_ble_eq_true rfl) ?_
  show LW _ _ _ [(0, .ref s), (1, .int (nI k))] _ _ _ _ _ _
  have hm31 : aM A < 2 ^ 31 := Nat.lt_of_le_of_lt h.w.m (by decide)
  have hf31 : aF A < 2 ^ 31 := Nat.lt_of_le_of_lt h.w.f (by decide)
  have hn := h.w.f
  refine LW_lconst (v := 0) dX6_pointsOf_0 (by decide) ?_
  refine LW_lstoren (ls' := [(0, .ref s), (1, .int (nI k)), (2, .long 0)]) dX6_pointsOf_1 rfl (by decide) rfl ?_
  refine LW_iconst (v := 0) dX6_pointsOf_2 (by decide) ?_
  refine LW_istore (ls' := [(0, .ref s), (1, .int (nI k)), (2, .long 0), (4, .int 0)]) dX6_pointsOf_3 (by decide) rfl ?_
  have loop : ∀ i, i ≤ (aF A) → LW xX6_pointsOf (0, 0) 5 [(0, .ref s), (1, .int (nI k)), (2, .long (abPts A k i)), (4, .int (nI i))] [] Λ I L R (Qr (some (.long (abPts A k (aF A)))) Λ I L R) := by
    refine hc_down ?_ ?_
    · refine LW_iload 3 dX6_pointsOf_5 rfl ?_
      refine LW_aloadn 0 dX6_pointsOf_7 rfl rfl ?_
      refine gX6_12 dX6_pointsOf_8 flX6_70 h.l.lt0 h.l.2.1 ?_
      rw [show I s 12 = nI (aF A) from h.fc]
      refine LW_icmp_ge (tgt := 48) dX6_pointsOf_11 (by decide) (fun c11 => ?_) (fun c11 => absurd (Int32.le_refl _) c11)
      refine LW_lloadn 2 dX6_pointsOf_48 rfl rfl ?_
      refine LW_lret dX6_pointsOf_49 rfl (Nat.le_of_ble_eq_true rfl) (Nat.le_of_ble_eq_true rfl) ?_
      exact Qr.mk rfl
    · intro i hi ih
      refine LW_iload 3 dX6_pointsOf_5 rfl ?_
      refine LW_aloadn 0 dX6_pointsOf_7 rfl rfl ?_
      refine gX6_12 dX6_pointsOf_8 flX6_70 h.l.lt0 h.l.2.1 ?_
      rw [show I s 12 = nI (aF A) from h.fc]
      refine LW_icmp_ge (tgt := 48) dX6_pointsOf_11 (by decide) (fun c11 => absurd c11 (hc_nle hf31 (by omega) hi)) (fun c11 => ?_)
      refine LW_lloadn 2 dX6_pointsOf_14 rfl rfl ?_
      refine LW_aloadn 0 dX6_pointsOf_15 rfl rfl ?_
      refine LW_iload 3 dX6_pointsOf_16 rfl ?_
      refine LW_iloadn 1 dX6_pointsOf_18 rfl rfl ?_
      refine LW_callV (As := [.int (nI i), .int (nI k)]) (b := s) (st := [.long (abPts A k i)]) (ci := 6) (r := (RX6, TX6, 15)) (r_standsForN h (by omega) hk) YX6_standsFor rfl dX6_pointsOf_19 mlX6_134 h.l.lt0 h.l.2.1 ⟨rfl, rfl⟩ (by decide) ⟨Nat.le_refl _, Nat.le_refl _⟩ (Nat.le_of_ble_eq_true rfl) rfl (fun r19 Λc19 Ic19 Lc19 Rc19 hq19 => ?_)
      obtain ⟨rfl, rfl, rfl, rfl, rfl⟩ := hq19
      refine LW_bif_eq (tgt := 39) dX6_pointsOf_22 (by decide) (fun c22 => ?_) (fun c22 => ?_)
      · refine LW_lconst (v := 0) dX6_pointsOf_39 (by decide) ?_
        refine LW_ladd dX6_pointsOf_40 ?_
        refine LW_lstoren (ls' := [(0, .ref s), (1, .int (nI k)), (2, .long ((abPts A k i) + 0)), (4, .int (nI i))]) dX6_pointsOf_41 rfl (by decide) rfl ?_
        refine LW_iinc (n := 3) (v := nI (i + 1)) (ls' := [(0, .ref s), (1, .int (nI k)), (2, .long ((abPts A k i) + 0)), (4, .int (nI (i + 1)))]) dX6_pointsOf_42 rfl (hc_inc _) (by decide) rfl ?_
        refine LW_goto (tgt := 5) dX6_pointsOf_45 (by decide) ?_
        exact hc_lsc (by simp [abPts, sumJ, c22]) ih
      · obtain ⟨r, hr, hfd⟩ := h.fd hi
        refine LW_aloadn 0 dX6_pointsOf_25 rfl rfl ?_
        refine LW_aloadn 0 dX6_pointsOf_26 rfl rfl ?_
        refine gX6_7 dX6_pointsOf_27 flX6_37 h.l.lt0 h.l.2.1 (h.l.f 7 (by decide)) ?_
        refine LW_iload 3 dX6_pointsOf_30 rfl ?_
        refine LW_aald4s (r := r) dX6_pointsOf_32 (h.l.lt 8 (by decide)) h.l.2.2.2.2.2.2.2.2.2.1 rfl (by omega) (Nat.le_of_ble_eq_true rfl) hr ?_
        refine LW_callV (As := [.ref r]) (b := s) (st := [.long (abPts A k i)]) (ci := 6) (r := (RX6, TX6, 15)) (r_pointsOfField h hfd (h.w.2.2.2.2.2.2.2.1 i hi)) YX6_pointsOfField rfl dX6_pointsOf_33 mlX6_141 h.l.lt0 h.l.2.1 ⟨rfl, rfl⟩ (by decide) ⟨Nat.le_refl _, Nat.le_refl _⟩ (Nat.le_of_ble_eq_true rfl) rfl (fun r33 Λc33 Ic33 Lc33 Rc33 hq33 => ?_)
        obtain ⟨rfl, rfl, rfl, rfl, rfl⟩ := hq33
        refine LW_goto (tgt := 40) dX6_pointsOf_36 (by decide) ?_
        refine LW_ladd dX6_pointsOf_40 ?_
        refine LW_lstoren (ls' := [(0, .ref s), (1, .int (nI k)), (2, .long ((abPts A k i) + (aPt A i))), (4, .int (nI i))]) dX6_pointsOf_41 rfl (by decide) rfl ?_
        refine LW_iinc (n := 3) (v := nI (i + 1)) (ls' := [(0, .ref s), (1, .int (nI k)), (2, .long ((abPts A k i) + (aPt A i))), (4, .int (nI (i + 1)))]) dX6_pointsOf_42 rfl (hc_inc _) (by decide) rfl ?_
        refine LW_goto (tgt := 5) dX6_pointsOf_45 (by decide) ?_
        exact hc_lsc (by simp [abPts, sumJ, c22]) ih
  exact loop 0 (Nat.zero_le _)
set_option maxRecDepth 100000 in
theorem r_allSums {Λ : hc_L} {I : hc_I} {L : hc_J} {R : hc_R} {s : Nat} {A : AS} (h : St Λ I L R s A)  : Run xX6_allSums [.ref s] Λ I L R (Qr (some (.long (abAllS A (aF A)))) Λ I L R) := by
  refine Run.of (by decide +kernel) (Nat.le_of_ble_eq_true rfl) ?_
  show LW _ _ _ [(0, .ref s)] _ _ _ _ _ _
  have hm31 : aM A < 2 ^ 31 := Nat.lt_of_le_of_lt h.w.m (by decide)
  have hf31 : aF A < 2 ^ 31 := Nat.lt_of_le_of_lt h.w.f (by decide)
  have hn := h.w.f
  refine LW_lconst (v := 0) dX6_allSums_0 (by decide) ?_
  refine LW_lstoren (ls' := [(0, .ref s), (1, .long 0)]) dX6_allSums_1 rfl (by decide) rfl ?_
  refine LW_iconst (v := 0) dX6_allSums_2 (by decide) ?_
  refine LW_istoren (ls' := [(0, .ref s), (1, .long 0), (3, .int 0)]) dX6_allSums_3 rfl (by decide) rfl ?_
  have loop : ∀ i, i ≤ (aF A) → LW xX6_allSums (0, 0) 4 [(0, .ref s), (1, .long (abAllS A i)), (3, .int (nI i))] [] Λ I L R (Qr (some (.long (abAllS A (aF A)))) Λ I L R) := by
    refine hc_down ?_ ?_
    · refine LW_iloadn 2 dX6_allSums_4 rfl rfl ?_
      refine LW_aloadn 0 dX6_allSums_5 rfl rfl ?_
      refine gX6_12 dX6_allSums_6 flX6_70 h.l.lt0 h.l.2.1 ?_
      rw [show I s 12 = nI (aF A) from h.fc]
      refine LW_icmp_ge (tgt := 42) dX6_allSums_9 (by decide) (fun c9 => ?_) (fun c9 => absurd (Int32.le_refl _) c9)
      refine LW_lloadn 1 dX6_allSums_42 rfl rfl ?_
      refine LW_lret dX6_allSums_43 rfl (Nat.le_of_ble_eq_true rfl) (Nat.le_of_ble_eq_true rfl) ?_
      exact Qr.mk rfl
    · intro i hi ih
      refine LW_iloadn 2 dX6_allSums_4 rfl rfl ?_
      refine LW_aloadn 0 dX6_allSums_5 rfl rfl ?_
      refine gX6_12 dX6_allSums_6 flX6_70 h.l.lt0 h.l.2.1 ?_
      rw [show I s 12 = nI (aF A) from h.fc]
      refine LW_icmp_ge (tgt := 42) dX6_allSums_9 (by decide) (fun c9 => absurd c9 (hc_nle hf31 (by omega) hi)) (fun c9 => ?_)
      refine LW_lloadn 1 dX6_allSums_12 rfl rfl ?_
      refine LW_aloadn 0 dX6_allSums_13 rfl rfl ?_
      refine LW_iloadn 2 dX6_allSums_14 rfl rfl ?_
      refine LW_callV (As := [.int (nI i)]) (b := s) (st := [.long (abAllS A i)]) (ci := 6) (r := (RX6, TX6, 15)) (r_standsN h (by omega)) YX6_stands rfl dX6_allSums_15 mlX6_113 h.l.lt0 h.l.2.1 ⟨rfl, rfl⟩ (by decide) ⟨Nat.le_refl _, Nat.le_refl _⟩ (Nat.le_of_ble_eq_true rfl) rfl (fun r15 Λc15 Ic15 Lc15 Rc15 hq15 => ?_)
      obtain ⟨rfl, rfl, rfl, rfl, rfl⟩ := hq15
      refine LW_bif_eq (tgt := 33) dX6_allSums_18 (by decide) (fun c18 => ?_) (fun c18 => ?_)
      · refine LW_lconst (v := 0) dX6_allSums_33 (by decide) ?_
        refine LW_ladd dX6_allSums_34 ?_
        refine LW_lstoren (ls' := [(0, .ref s), (1, .long ((abAllS A i) + 0)), (3, .int (nI i))]) dX6_allSums_35 rfl (by decide) rfl ?_
        refine LW_iinc (n := 2) (v := nI (i + 1)) (ls' := [(0, .ref s), (1, .long ((abAllS A i) + 0)), (3, .int (nI (i + 1)))]) dX6_allSums_36 rfl (hc_inc _) (by decide) rfl ?_
        refine LW_goto (tgt := 4) dX6_allSums_39 (by decide) ?_
        exact hc_lsc (by simp [abAllS, sumJ, c18]) ih
      · obtain ⟨r, hr, hfd⟩ := h.fd hi
        refine LW_aloadn 0 dX6_allSums_21 rfl rfl ?_
        refine gX6_7 dX6_allSums_22 flX6_37 h.l.lt0 h.l.2.1 (h.l.f 7 (by decide)) ?_
        refine LW_iloadn 2 dX6_allSums_25 rfl rfl ?_
        refine LW_aald4s (r := r) dX6_allSums_26 (h.l.lt 8 (by decide)) h.l.2.2.2.2.2.2.2.2.2.1 rfl (by omega) (Nat.le_of_ble_eq_true rfl) hr ?_
        refine LW_callV (As := []) (b := r) (st := [.long (abAllS A i)]) (ci := 2) (r := (RX2, TX2, 6)) (r_coinsN hfd) YX2_coins rfl dX6_allSums_27 mlX6_120 hfd.1 hfd.2.1 ⟨rfl, rfl⟩ (by decide) ⟨Nat.le_refl _, Nat.le_refl _⟩ (Nat.le_of_ble_eq_true rfl) rfl (fun r27 Λc27 Ic27 Lc27 Rc27 hq27 => ?_)
        obtain ⟨rfl, rfl, rfl, rfl, rfl⟩ := hq27
        refine LW_goto (tgt := 34) dX6_allSums_30 (by decide) ?_
        refine LW_ladd dX6_allSums_34 ?_
        refine LW_lstoren (ls' := [(0, .ref s), (1, .long ((abAllS A i) + (aCo A i))), (3, .int (nI i))]) dX6_allSums_35 rfl (by decide) rfl ?_
        refine LW_iinc (n := 2) (v := nI (i + 1)) (ls' := [(0, .ref s), (1, .long ((abAllS A i) + (aCo A i))), (3, .int (nI (i + 1)))]) dX6_allSums_36 rfl (hc_inc _) (by decide) rfl ?_
        refine LW_goto (tgt := 4) dX6_allSums_39 (by decide) ?_
        exact hc_lsc (by simp [abAllS, sumJ, c18]) ih
  exact loop 0 (Nat.zero_le _)
set_option maxRecDepth 100000 in
theorem r_allPoints {Λ : hc_L} {I : hc_I} {L : hc_J} {R : hc_R} {s : Nat} {A : AS} (h : St Λ I L R s A)  : Run xX6_allPoints [.ref s] Λ I L R (Qr (some (.long (abAllP A (aF A)))) Λ I L R) := by
  refine Run.of (by decide +kernel) (Nat.le_of_ble_eq_true rfl) ?_
  show LW _ _ _ [(0, .ref s)] _ _ _ _ _ _
  have hm31 : aM A < 2 ^ 31 := Nat.lt_of_le_of_lt h.w.m (by decide)
  have hf31 : aF A < 2 ^ 31 := Nat.lt_of_le_of_lt h.w.f (by decide)
  have hn := h.w.f
  refine LW_lconst (v := 0) dX6_allPoints_0 (by decide) ?_
  refine LW_lstoren (ls' := [(0, .ref s), (1, .long 0)]) dX6_allPoints_1 rfl (by decide) rfl ?_
  refine LW_iconst (v := 0) dX6_allPoints_2 (by decide) ?_
  refine LW_istoren (ls' := [(0, .ref s), (1, .long 0), (3, .int 0)]) dX6_allPoints_3 rfl (by decide) rfl ?_
  have loop : ∀ i, i ≤ (aF A) → LW xX6_allPoints (0, 0) 4 [(0, .ref s), (1, .long (abAllP A i)), (3, .int (nI i))] [] Λ I L R (Qr (some (.long (abAllP A (aF A)))) Λ I L R) := by
    refine hc_down ?_ ?_
    · refine LW_iloadn 2 dX6_allPoints_4 rfl rfl ?_
      refine LW_aloadn 0 dX6_allPoints_5 rfl rfl ?_
      refine gX6_12 dX6_allPoints_6 flX6_70 h.l.lt0 h.l.2.1 ?_
      rw [show I s 12 = nI (aF A) from h.fc]
      refine LW_icmp_ge (tgt := 43) dX6_allPoints_9 (by decide) (fun c9 => ?_) (fun c9 => absurd (Int32.le_refl _) c9)
      refine LW_lloadn 1 dX6_allPoints_43 rfl rfl ?_
      refine LW_lret dX6_allPoints_44 rfl (Nat.le_of_ble_eq_true rfl) (Nat.le_of_ble_eq_true rfl) ?_
      exact Qr.mk rfl
    · intro i hi ih
      refine LW_iloadn 2 dX6_allPoints_4 rfl rfl ?_
      refine LW_aloadn 0 dX6_allPoints_5 rfl rfl ?_
      refine gX6_12 dX6_allPoints_6 flX6_70 h.l.lt0 h.l.2.1 ?_
      rw [show I s 12 = nI (aF A) from h.fc]
      refine LW_icmp_ge (tgt := 43) dX6_allPoints_9 (by decide) (fun c9 => absurd c9 (hc_nle hf31 (by omega) hi)) (fun c9 => ?_)
      refine LW_lloadn 1 dX6_allPoints_12 rfl rfl ?_
      refine LW_aloadn 0 dX6_allPoints_13 rfl rfl ?_
      refine LW_iloadn 2 dX6_allPoints_14 rfl rfl ?_
      refine LW_callV (As := [.int (nI i)]) (b := s) (st := [.long (abAllP A i)]) (ci := 6) (r := (RX6, TX6, 15)) (r_standsN h (by omega)) YX6_stands rfl dX6_allPoints_15 mlX6_113 h.l.lt0 h.l.2.1 ⟨rfl, rfl⟩ (by decide) ⟨Nat.le_refl _, Nat.le_refl _⟩ (Nat.le_of_ble_eq_true rfl) rfl (fun r15 Λc15 Ic15 Lc15 Rc15 hq15 => ?_)
      obtain ⟨rfl, rfl, rfl, rfl, rfl⟩ := hq15
      refine LW_bif_eq (tgt := 34) dX6_allPoints_18 (by decide) (fun c18 => ?_) (fun c18 => ?_)
      · refine LW_lconst (v := 0) dX6_allPoints_34 (by decide) ?_
        refine LW_ladd dX6_allPoints_35 ?_
        refine LW_lstoren (ls' := [(0, .ref s), (1, .long ((abAllP A i) + 0)), (3, .int (nI i))]) dX6_allPoints_36 rfl (by decide) rfl ?_
        refine LW_iinc (n := 2) (v := nI (i + 1)) (ls' := [(0, .ref s), (1, .long ((abAllP A i) + 0)), (3, .int (nI (i + 1)))]) dX6_allPoints_37 rfl (hc_inc _) (by decide) rfl ?_
        refine LW_goto (tgt := 4) dX6_allPoints_40 (by decide) ?_
        exact hc_lsc (by simp [abAllP, sumJ, c18]) ih
      · obtain ⟨r, hr, hfd⟩ := h.fd hi
        refine LW_aloadn 0 dX6_allPoints_21 rfl rfl ?_
        refine LW_aloadn 0 dX6_allPoints_22 rfl rfl ?_
        refine gX6_7 dX6_allPoints_23 flX6_37 h.l.lt0 h.l.2.1 (h.l.f 7 (by decide)) ?_
        refine LW_iloadn 2 dX6_allPoints_26 rfl rfl ?_
        refine LW_aald4s (r := r) dX6_allPoints_27 (h.l.lt 8 (by decide)) h.l.2.2.2.2.2.2.2.2.2.1 rfl (by omega) (Nat.le_of_ble_eq_true rfl) hr ?_
        refine LW_callV (As := [.ref r]) (b := s) (st := [.long (abAllP A i)]) (ci := 6) (r := (RX6, TX6, 15)) (r_pointsOfField h hfd (h.w.2.2.2.2.2.2.2.1 i hi)) YX6_pointsOfField rfl dX6_allPoints_28 mlX6_141 h.l.lt0 h.l.2.1 ⟨rfl, rfl⟩ (by decide) ⟨Nat.le_refl _, Nat.le_refl _⟩ (Nat.le_of_ble_eq_true rfl) rfl (fun r28 Λc28 Ic28 Lc28 Rc28 hq28 => ?_)
        obtain ⟨rfl, rfl, rfl, rfl, rfl⟩ := hq28
        refine LW_goto (tgt := 35) dX6_allPoints_31 (by decide) ?_
        refine LW_ladd dX6_allPoints_35 ?_
        refine LW_lstoren (ls' := [(0, .ref s), (1, .long ((abAllP A i) + (aPt A i))), (3, .int (nI i))]) dX6_allPoints_36 rfl (by decide) rfl ?_
        refine LW_iinc (n := 2) (v := nI (i + 1)) (ls' := [(0, .ref s), (1, .long ((abAllP A i) + (aPt A i))), (3, .int (nI (i + 1)))]) dX6_allPoints_37 rfl (hc_inc _) (by decide) rfl ?_
        refine LW_goto (tgt := 4) dX6_allPoints_40 (by decide) ?_
        exact hc_lsc (by simp [abAllP, sumJ, c18]) ih
  exact loop 0 (Nat.zero_le _)
