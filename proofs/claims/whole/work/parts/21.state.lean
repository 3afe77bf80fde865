/-! the class's State: what is read of it -/
set_option maxRecDepth 100000 in
theorem r_isKnown {Λ : hc_L} {I : hc_I} {L : hc_J} {R : hc_R} {s : Nat} {A : AS} (h : St Λ I L R s A) (x : Int32) : Run xX6_isKnown [.ref s, .int x] Λ I L R (Qr (some (.int (hc_b (aKnX A x)))) Λ I L R) := by
  refine Run.of (by decide +kernel) (Nat.le_of_ble_eq_true rfl) ?_
  show LW _ _ _ [(0, .ref s), (1, .int x)] _ _ _ _ _ _
  have hm31 : aM A < 2 ^ 31 := Nat.lt_of_le_of_lt h.w.m (by decide)
  have hf31 : aF A < 2 ^ 31 := Nat.lt_of_le_of_lt h.w.f (by decide)
  refine LW_iloadn 1 dX6_isKnown_0 rfl rfl ?_
  refine LW_if_lt (tgt := 16) dX6_isKnown_1 (by decide) (fun c1 => ?_) (fun c1 => ?_)
  · refine LW_iconst (v := 0) dX6_isKnown_16 (by decide) ?_
    refine LW_zret dX6_isKnown_17 rfl (Nat.le_of_ble_eq_true rfl) (Nat.le_of_ble_eq_true rfl) (Or.inl rfl) ?_
    refine Qr.mk ?_
    simp_all [aKnX, hc_b, hc_clt, hc_pos, hc_neg]
  · refine LW_iloadn 1 dX6_isKnown_4 rfl rfl ?_
    refine LW_aloadn 0 dX6_isKnown_5 rfl rfl ?_
    refine gX6_11 dX6_isKnown_6 flX6_66 h.l.lt0 h.l.2.1 ?_
    rw [show I s 11 = nI (aM A) from h.m]
    refine LW_icmp_ge (tgt := 16) dX6_isKnown_9 (by decide) (fun c9 => ?_) (fun c9 => ?_)
    · refine LW_iconst (v := 0) dX6_isKnown_16 (by decide) ?_
      refine LW_zret dX6_isKnown_17 rfl (Nat.le_of_ble_eq_true rfl) (Nat.le_of_ble_eq_true rfl) (Or.inl rfl) ?_
      refine Qr.mk ?_
      simp_all [aKnX, hc_b, hc_clt, hc_pos, hc_neg]
    · refine LW_iconst (v := 1) dX6_isKnown_12 (by decide) ?_
      refine LW_goto (tgt := 17) dX6_isKnown_13 (by decide) ?_
      refine LW_zret dX6_isKnown_17 rfl (Nat.le_of_ble_eq_true rfl) (Nat.le_of_ble_eq_true rfl) (Or.inr rfl) ?_
      refine Qr.mk ?_
      simp_all [aKnX, hc_b, hc_clt, hc_pos, hc_neg]
theorem aKnX_n {A : AS} (h : wf A) {x : Int32} (c : aKnX A x = true) : x = nI x.toNatClampNeg ∧ x.toNatClampNeg < aM A := by
  simp only [aKnX, Bool.and_eq_true, decide_eq_true_eq] at c
  obtain ⟨n, hn, rfl⟩ := hc_nn c.1
  rw [hc_cl hn] at c ⊢
  exact ⟨rfl, c.2⟩
theorem aFkX_k {A : AS} (h : wf A) {x : Int32} (c : aFkX A x = true) : x = nI x.toNatClampNeg ∧ x.toNatClampNeg < aF A := by
  simp only [aFkX, Bool.and_eq_true, decide_eq_true_eq] at c
  obtain ⟨n, hn, rfl⟩ := hc_nn c.1
  rw [hc_cl hn] at c ⊢
  exact ⟨rfl, c.2⟩
theorem aIsX_eq {A : AS} {x : Int32} (c : aKnX A x = true) : aIsX A x = aTh A x.toNatClampNeg := by
  simp only [aKnX, Bool.and_eq_true, decide_eq_true_eq] at c
  simp [aIsX, aIs, c.1, c.2]
theorem aIsX_f {A : AS} {x : Int32} (c : aKnX A x = false) : aIsX A x = false := by
  simp only [aKnX, Bool.and_eq_false_iff, decide_eq_false_iff_not] at c
  rcases c with c | c <;> simp [aIsX, aIs, c]
set_option maxRecDepth 100000 in
theorem r_isThere {Λ : hc_L} {I : hc_I} {L : hc_J} {R : hc_R} {s : Nat} {A : AS} (h : St Λ I L R s A) (x : Int32) : Run xX6_isThere [.ref s, .int x] Λ I L R (Qr (some (.int (hc_b (aIsX A x)))) Λ I L R) := by
  refine Run.of (by decide +kernel) (Nat.le_of_ble_eq_true rfl) ?_
  show LW _ _ _ [(0, .ref s), (1, .int x)] _ _ _ _ _ _
  have hm31 : aM A < 2 ^ 31 := Nat.lt_of_le_of_lt h.w.m (by decide)
  have hf31 : aF A < 2 ^ 31 := Nat.lt_of_le_of_lt h.w.f (by decide)
  refine LW_aloadn 0 dX6_isThere_0 rfl rfl ?_
  refine LW_iloadn 1 dX6_isThere_1 rfl rfl ?_
  refine LW_callV (As := [.int x]) (b := s) (st := []) (ci := 6) (r := (RX6, TX6, 15)) (r_isKnown h x) YX6_isKnown rfl dX6_isThere_2 mlX6_100 h.l.lt0 h.l.2.1 ⟨rfl, rfl⟩ (by decide) ⟨Nat.le_refl _, Nat.le_refl _⟩ (Nat.le_of_ble_eq_true rfl) rfl (fun r_ Λ_ I_ L_ R_ hq_ => ?_)
  obtain ⟨rfl, rfl, rfl, rfl, rfl⟩ := hq_
  refine LW_bif_eq (tgt := 21) dX6_isThere_5 (by decide) (fun c5 => ?_) (fun c5 => ?_)
  · refine LW_iconst (v := 0) dX6_isThere_21 (by decide) ?_
    refine LW_zret dX6_isThere_22 rfl (Nat.le_of_ble_eq_true rfl) (Nat.le_of_ble_eq_true rfl) (Or.inl rfl) ?_
    refine Qr.mk ?_
    first | (rw [aIsX_f c5]; rfl) | (rw [aIsX_eq c5, c14]; rfl)
  · obtain ⟨xe, xl⟩ := aKnX_n h.w c5
    have hx12 : x.toNatClampNeg < 12 := Nat.lt_of_lt_of_le xl h.w.m
    refine LW_aloadn 0 dX6_isThere_8 rfl rfl ?_
    refine gX6_4 dX6_isThere_9 flX6_25 h.l.lt0 h.l.2.1 (h.l.f 4 (by decide)) ?_
    refine LW_iloadn 1 dX6_isThere_12 rfl rfl ?_
    refine LW_zald dX6_isThere_13 (h.l.lt 5 (by decide)) h.l.2.2.2.2.2.2.1 xe hx12 (Nat.le_of_ble_eq_true rfl) ?_
    rw [show I (s + 5) x.toNatClampNeg = hc_b (aTh A x.toNatClampNeg) from h.th xl]
    refine LW_bif_eq (tgt := 21) dX6_isThere_14 (by decide) (fun c14 => ?_) (fun c14 => ?_)
    · refine LW_iconst (v := 0) dX6_isThere_21 (by decide) ?_
      refine LW_zret dX6_isThere_22 rfl (Nat.le_of_ble_eq_true rfl) (Nat.le_of_ble_eq_true rfl) (Or.inl rfl) ?_
      refine Qr.mk ?_
      first | (rw [aIsX_f c5]; rfl) | (rw [aIsX_eq c5, c14]; rfl)
    · refine LW_iconst (v := 1) dX6_isThere_17 (by decide) ?_
      refine LW_goto (tgt := 22) dX6_isThere_18 (by decide) ?_
      refine LW_zret dX6_isThere_22 rfl (Nat.le_of_ble_eq_true rfl) (Nat.le_of_ble_eq_true rfl) (Or.inr rfl) ?_
      refine Qr.mk ?_
      first | (rw [aIsX_f c5]; rfl) | (rw [aIsX_eq c5, c14]; rfl)
set_option maxRecDepth 100000 in
theorem r_isFieldKnown {Λ : hc_L} {I : hc_I} {L : hc_J} {R : hc_R} {s : Nat} {A : AS} (h : St Λ I L R s A) (x : Int32) : Run xX6_isFieldKnown [.ref s, .int x] Λ I L R (Qr (some (.int (hc_b (aFkX A x)))) Λ I L R) := by
  refine Run.of (by decide +kernel) (Nat.le_of_ble_eq_true rfl) ?_
  show LW _ _ _ [(0, .ref s), (1, .int x)] _ _ _ _ _ _
  have hm31 : aM A < 2 ^ 31 := Nat.lt_of_le_of_lt h.w.m (by decide)
  have hf31 : aF A < 2 ^ 31 := Nat.lt_of_le_of_lt h.w.f (by decide)
  refine LW_iloadn 1 dX6_isFieldKnown_0 rfl rfl ?_
  refine LW_if_lt (tgt := 25) dX6_isFieldKnown_1 (by decide) (fun c1 => ?_) (fun c1 => ?_)
  · refine LW_iconst (v := 0) dX6_isFieldKnown_25 (by decide) ?_
    refine LW_zret dX6_isFieldKnown_26 rfl (Nat.le_of_ble_eq_true rfl) (Nat.le_of_ble_eq_true rfl) (Or.inl rfl) ?_
    refine Qr.mk ?_
    first | (rw [cf]; rfl) | simp_all [aFkX, hc_b, hc_clt, hc_pos, hc_neg]
  · refine LW_iloadn 1 dX6_isFieldKnown_4 rfl rfl ?_
    refine LW_aloadn 0 dX6_isFieldKnown_5 rfl rfl ?_
    refine gX6_12 dX6_isFieldKnown_6 flX6_70 h.l.lt0 h.l.2.1 ?_
    rw [show I s 12 = nI (aF A) from h.fc]
    refine LW_icmp_ge (tgt := 25) dX6_isFieldKnown_9 (by decide) (fun c9 => ?_) (fun c9 => ?_)
    · refine LW_iconst (v := 0) dX6_isFieldKnown_25 (by decide) ?_
      refine LW_zret dX6_isFieldKnown_26 rfl (Nat.le_of_ble_eq_true rfl) (Nat.le_of_ble_eq_true rfl) (Or.inl rfl) ?_
      refine Qr.mk ?_
      first | (rw [cf]; rfl) | simp_all [aFkX, hc_b, hc_clt, hc_pos, hc_neg]
    · have cf : aFkX A x = true := by simp_all [aFkX, hc_clt, hc_pos]
      obtain ⟨xe, xl⟩ := aFkX_k h.w cf
      have hx24 : x.toNatClampNeg < 24 := Nat.lt_of_lt_of_le xl h.w.f
      obtain ⟨r, hr, hfd⟩ := h.fd xl
      refine LW_aloadn 0 dX6_isFieldKnown_12 rfl rfl ?_
      refine gX6_7 dX6_isFieldKnown_13 flX6_37 h.l.lt0 h.l.2.1 (h.l.f 7 (by decide)) ?_
      refine LW_iloadn 1 dX6_isFieldKnown_16 rfl rfl ?_
      refine LW_aald4s (r := r) dX6_isFieldKnown_17 (h.l.lt 8 (by decide)) h.l.2.2.2.2.2.2.2.2.2.1 xe hx24 (Nat.le_of_ble_eq_true rfl) hr ?_
      refine LW_ifnull dX6_isFieldKnown_18 ?_
      refine LW_iconst (v := 1) dX6_isFieldKnown_21 (by decide) ?_
      refine LW_goto (tgt := 26) dX6_isFieldKnown_22 (by decide) ?_
      refine LW_zret dX6_isFieldKnown_26 rfl (Nat.le_of_ble_eq_true rfl) (Nat.le_of_ble_eq_true rfl) (Or.inr rfl) ?_
      refine Qr.mk ?_
      first | (rw [cf]; rfl) | simp_all [aFkX, hc_b, hc_clt, hc_pos, hc_neg]
theorem aStX_t {A : AS} {x : Int32} (c : aFkX A x = true) : aStX A x = aIs A (aFd A x.toNatClampNeg 0) := by
  simp only [aFkX, Bool.and_eq_true, decide_eq_true_eq] at c
  simp [aStX, aSt, c.1, c.2]
theorem aStX_f {A : AS} {x : Int32} (c : aFkX A x = false) : aStX A x = false := by
  simp only [aFkX, Bool.and_eq_false_iff, decide_eq_false_iff_not] at c
  rcases c with c | c <;> simp [aStX, aSt, c]
theorem aStX_k {A : AS} {x : Int32} (c : aStX A x = true) : aFkX A x = true := by
  cases hk : aFkX A x with
  | true => rfl
  | false => rw [aStX_f hk] at c; cases c
set_option maxRecDepth 100000 in
theorem r_stands {Λ : hc_L} {I : hc_I} {L : hc_J} {R : hc_R} {s : Nat} {A : AS} (h : St Λ I L R s A) (x : Int32) : Run xX6_stands [.ref s, .int x] Λ I L R (Qr (some (.int (hc_b (aStX A x)))) Λ I L R) := by
  refine Run.of (by decide +kernel) (Nat.le_of_ble_eq_true rfl) ?_
  show LW _ _ _ [(0, .ref s), (1, .int x)] _ _ _ _ _ _
  have hm31 : aM A < 2 ^ 31 := Nat.lt_of_le_of_lt h.w.m (by decide)
  have hf31 : aF A < 2 ^ 31 := Nat.lt_of_le_of_lt h.w.f (by decide)
  refine LW_aloadn 0 dX6_stands_0 rfl rfl ?_
  refine LW_iloadn 1 dX6_stands_1 rfl rfl ?_
  refine LW_callV (As := [.int x]) (b := s) (st := []) (ci := 6) (r := (RX6, TX6, 15)) (r_isFieldKnown h x) YX6_isFieldKnown rfl dX6_stands_2 mlX6_104 h.l.lt0 h.l.2.1 ⟨rfl, rfl⟩ (by decide) ⟨Nat.le_refl _, Nat.le_refl _⟩ (Nat.le_of_ble_eq_true rfl) rfl (fun r_ Λ_ I_ L_ R_ hq_ => ?_)
  obtain ⟨rfl, rfl, rfl, rfl, rfl⟩ := hq_
  refine LW_bif_eq (tgt := 28) dX6_stands_5 (by decide) (fun c5 => ?_) (fun c5 => ?_)
  · refine LW_iconst (v := 0) dX6_stands_28 (by decide) ?_
    refine LW_zret dX6_stands_29 rfl (Nat.le_of_ble_eq_true rfl) (Nat.le_of_ble_eq_true rfl) (Or.inl rfl) ?_
    refine Qr.mk ?_
    first | (rw [aStX_f c5]; rfl) | (rw [aStX_t c5, ← aIsX_n ho31, c21]; rfl)
  · obtain ⟨xe, xl⟩ := aFkX_k h.w c5
    have hx24 : x.toNatClampNeg < 24 := Nat.lt_of_lt_of_le xl h.w.f
    obtain ⟨r, hr, hfd⟩ := h.fd xl
    refine LW_aloadn 0 dX6_stands_8 rfl rfl ?_
    refine LW_aloadn 0 dX6_stands_9 rfl rfl ?_
    refine gX6_7 dX6_stands_10 flX6_37 h.l.lt0 h.l.2.1 (h.l.f 7 (by decide)) ?_
    refine LW_iloadn 1 dX6_stands_13 rfl rfl ?_
    refine LW_aald4s (r := r) dX6_stands_14 (h.l.lt 8 (by decide)) h.l.2.2.2.2.2.2.2.2.2.1 xe hx24 (Nat.le_of_ble_eq_true rfl) hr ?_
    refine gX2_0 dX6_stands_15 flX6_107 hfd.1 hfd.2.1 ?_
    rw [show I r 0 = nI (aFd A x.toNatClampNeg 0) from hfd.2.2 0 (by decide)]
    have ho31 : aFd A x.toNatClampNeg 0 < 2 ^ 31 := Nat.lt_of_lt_of_le (h.w.2.2.2.2.2.2.2.1 _ xl).1 (Nat.le_of_lt hm31)
    refine LW_callV (As := [.int (nI (aFd A x.toNatClampNeg 0))]) (b := s) (st := []) (ci := 6) (r := (RX6, TX6, 15)) (r_isThere h (nI (aFd A x.toNatClampNeg 0))) YX6_isThere rfl dX6_stands_18 mlX6_110 h.l.lt0 h.l.2.1 ⟨rfl, rfl⟩ (by decide) ⟨Nat.le_refl _, Nat.le_refl _⟩ (Nat.le_of_ble_eq_true rfl) rfl (fun r_ Λ_ I_ L_ R_ hq_ => ?_)
    obtain ⟨rfl, rfl, rfl, rfl, rfl⟩ := hq_
    refine LW_bif_eq (tgt := 28) dX6_stands_21 (by decide) (fun c21 => ?_) (fun c21 => ?_)
    · refine LW_iconst (v := 0) dX6_stands_28 (by decide) ?_
      refine LW_zret dX6_stands_29 rfl (Nat.le_of_ble_eq_true rfl) (Nat.le_of_ble_eq_true rfl) (Or.inl rfl) ?_
      refine Qr.mk ?_
      first | (rw [aStX_f c5]; rfl) | (rw [aStX_t c5, ← aIsX_n ho31, c21]; rfl)
    · refine LW_iconst (v := 1) dX6_stands_24 (by decide) ?_
      refine LW_goto (tgt := 29) dX6_stands_25 (by decide) ?_
      refine LW_zret dX6_stands_29 rfl (Nat.le_of_ble_eq_true rfl) (Nat.le_of_ble_eq_true rfl) (Or.inr rfl) ?_
      refine Qr.mk ?_
      first | (rw [aStX_f c5]; rfl) | (rw [aStX_t c5, ← aIsX_n ho31, c21]; rfl)
set_option maxRecDepth 100000 in
theorem r_standsFor {Λ : hc_L} {I : hc_I} {L : hc_J} {R : hc_R} {s : Nat} {A : AS} (h : St Λ I L R s A) (x y : Int32) : Run xX6_standsFor [.ref s, .int x, .int y] Λ I L R (Qr (some (.int (hc_b (aSfX A x y)))) Λ I L R) := by
  refine Run.of (by decide +kernel) (Nat.le_of_ble_eq_true rfl) ?_
  show LW _ _ _ [(0, .ref s), (1, .int x), (2, .int y)] _ _ _ _ _ _
  have hm31 : aM A < 2 ^ 31 := Nat.lt_of_le_of_lt h.w.m (by decide)
  have hf31 : aF A < 2 ^ 31 := Nat.lt_of_le_of_lt h.w.f (by decide)
  refine LW_aloadn 0 dX6_standsFor_0 rfl rfl ?_
  refine LW_iloadn 1 dX6_standsFor_1 rfl rfl ?_
  refine LW_callV (As := [.int x]) (b := s) (st := []) (ci := 6) (r := (RX6, TX6, 15)) (r_stands h x) YX6_stands rfl dX6_standsFor_2 mlX6_113 h.l.lt0 h.l.2.1 ⟨rfl, rfl⟩ (by decide) ⟨Nat.le_refl _, Nat.le_refl _⟩ (Nat.le_of_ble_eq_true rfl) rfl (fun r_ Λ_ I_ L_ R_ hq_ => ?_)
  obtain ⟨rfl, rfl, rfl, rfl, rfl⟩ := hq_
  refine LW_bif_eq (tgt := 25) dX6_standsFor_5 (by decide) (fun c5 => ?_) (fun c5 => ?_)
  · refine LW_iconst (v := 0) dX6_standsFor_25 (by decide) ?_
    refine LW_zret dX6_standsFor_26 rfl (Nat.le_of_ble_eq_true rfl) (Nat.le_of_ble_eq_true rfl) (Or.inl rfl) ?_
    refine Qr.mk ?_
    unfold aSfX
    rw [c5]
    first | rfl | (rw [decide_eq_false c18]; rfl) | (rw [decide_eq_true (Classical.not_not.mp c18)]; rfl)
  · obtain ⟨xe, xl⟩ := aFkX_k h.w (aStX_k c5)
    have hx24 : x.toNatClampNeg < 24 := Nat.lt_of_lt_of_le xl h.w.f
    obtain ⟨r, hr, hfd⟩ := h.fd xl
    refine LW_aloadn 0 dX6_standsFor_8 rfl rfl ?_
    refine gX6_7 dX6_standsFor_9 flX6_37 h.l.lt0 h.l.2.1 (h.l.f 7 (by decide)) ?_
    refine LW_iloadn 1 dX6_standsFor_12 rfl rfl ?_
    refine LW_aald4s (r := r) dX6_standsFor_13 (h.l.lt 8 (by decide)) h.l.2.2.2.2.2.2.2.2.2.1 xe hx24 (Nat.le_of_ble_eq_true rfl) hr ?_
    refine gX2_0 dX6_standsFor_14 flX6_107 hfd.1 hfd.2.1 ?_
    rw [show I r 0 = nI (aFd A x.toNatClampNeg 0) from hfd.2.2 0 (by decide)]
    refine LW_iloadn 2 dX6_standsFor_17 rfl rfl ?_
    refine LW_icmp_ne (tgt := 25) dX6_standsFor_18 (by decide) (fun c18 => ?_) (fun c18 => ?_)
    · refine LW_iconst (v := 0) dX6_standsFor_25 (by decide) ?_
      refine LW_zret dX6_standsFor_26 rfl (Nat.le_of_ble_eq_true rfl) (Nat.le_of_ble_eq_true rfl) (Or.inl rfl) ?_
      refine Qr.mk ?_
      unfold aSfX
      rw [c5]
      first | rfl | (rw [decide_eq_false c18]; rfl) | (rw [decide_eq_true (Classical.not_not.mp c18)]; rfl)
    · refine LW_iconst (v := 1) dX6_standsFor_21 (by decide) ?_
      refine LW_goto (tgt := 26) dX6_standsFor_22 (by decide) ?_
      refine LW_zret dX6_standsFor_26 rfl (Nat.le_of_ble_eq_true rfl) (Nat.le_of_ble_eq_true rfl) (Or.inr rfl) ?_
      refine Qr.mk ?_
      unfold aSfX
      rw [c5]
      first | rfl | (rw [decide_eq_false c18]; rfl) | (rw [decide_eq_true (Classical.not_not.mp c18)]; rfl)
set_option maxRecDepth 100000 in
theorem r_coins {Λ : hc_L} {I : hc_I} {L : hc_J} {R : hc_R} {r : Nat} (h1 : r < Λ.1) (h2 : Λ.2.1 r = (102, 0)) : Run xX2_coins [.ref r] Λ I L R (Qr (some (.long ((I r 4).toInt64 * (I r 5).toInt64))) Λ I L R) := by
  refine Run.of (by decide +kernel) (Nat.le_of_ble_eq_true rfl) ?_
  show LW _ _ _ [(0, .ref r)] _ _ _ _ _ _
  refine LW_aloadn 0 dX2_coins_0 rfl rfl ?_
  refine gX2_4 dX2_coins_1 flX2_22 h1 h2 ?_
  refine LW_i2l dX2_coins_4 ?_
  refine LW_aloadn 0 dX2_coins_5 rfl rfl ?_
  refine gX2_5 dX2_coins_6 flX2_25 h1 h2 ?_
  refine LW_i2l dX2_coins_9 ?_
  refine LW_lmul dX2_coins_10 ?_
  refine LW_lret dX2_coins_11 rfl (Nat.le_of_ble_eq_true rfl) (Nat.le_of_ble_eq_true rfl) ?_
  exact Qr.mk rfl
