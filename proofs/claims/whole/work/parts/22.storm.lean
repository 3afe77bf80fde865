/-! storms, names, what is lost -/
set_option maxRecDepth 100000 in
theorem r_isOver {Λ : hc_L} {I : hc_I} {L : hc_J} {R : hc_R} {q r : Nat} {g f : Nat → Nat} (hs : SdAt Λ I q g) (hfd : FdAt Λ I r f) (hg : g 0 < 8 ∧ g 1 < 8 ∧ g 2 < 8 ∧ g 3 < 8) (hf : f 1 < 8 ∧ f 2 < 8) : Run xX7_isOver [.ref q, .ref r] Λ I L R (Qr (some (.int (hc_b (aOv g f)))) Λ I L R) := by
  refine Run.of (by decide +kernel) (Nat.le_of_ble_eq_true rfl) ?_
  show LW _ _ _ [(0, .ref q), (1, .ref r)] _ _ _ _ _ _
  refine LW_aloadn 1 dX7_isOver_0 rfl rfl ?_
  refine gX2_1 dX7_isOver_1 flX7_25 hfd.1 hfd.2.1 ?_
  rw [show I r 1 = nI (f 1) from hfd.2.2 1 (by decide)]
  refine LW_aloadn 0 dX7_isOver_4 rfl rfl ?_
  refine gX7_0 dX7_isOver_5 flX7_7 hs.1 hs.2.1 ?_
  rw [show I q 0 = nI (g 0) from hs.2.2 0 (by decide)]
  refine LW_icmp_lt (tgt := 48) dX7_isOver_8 (by decide) (fun c8 => ?_) (fun c8 => ?_)
  · refine LW_iconst (v := 0) dX7_isOver_48 (by decide) ?_
    refine LW_zret dX7_isOver_49 rfl (Nat.le_of_ble_eq_true rfl) (Nat.le_of_ble_eq_true rfl) (Or.inl rfl) ?_
    refine Qr.mk ?_
    simp only [hc_lt (show f 1 < 2 ^ 31 by omega) (show g 0 < 2 ^ 31 by omega), hc_lt (show f 2 < 2 ^ 31 by omega) (show g 1 < 2 ^ 31 by omega), hc_lt (show g 2 < 2 ^ 31 by omega) (show f 1 < 2 ^ 31 by omega), hc_lt (show g 3 < 2 ^ 31 by omega) (show f 2 < 2 ^ 31 by omega)] at *
    first | (rw [show aOv g f = true by simp only [aOv, Bool.and_eq_true, decide_eq_true_eq]; omega]; rfl) | (rw [show aOv g f = false by rw [← Bool.not_eq_true]; simp only [aOv, Bool.and_eq_true, decide_eq_true_eq]; omega]; rfl)
  · refine LW_aloadn 1 dX7_isOver_11 rfl rfl ?_
    refine gX2_1 dX7_isOver_12 flX7_25 hfd.1 hfd.2.1 ?_
    rw [show I r 1 = nI (f 1) from hfd.2.2 1 (by decide)]
    refine LW_aloadn 0 dX7_isOver_15 rfl rfl ?_
    refine gX7_2 dX7_isOver_16 flX7_16 hs.1 hs.2.1 ?_
    rw [show I q 2 = nI (g 2) from hs.2.2 2 (by decide)]
    refine LW_icmp_gt (tgt := 48) dX7_isOver_19 (by decide) (fun c19 => ?_) (fun c19 => ?_)
    · refine LW_iconst (v := 0) dX7_isOver_48 (by decide) ?_
      refine LW_zret dX7_isOver_49 rfl (Nat.le_of_ble_eq_true rfl) (Nat.le_of_ble_eq_true rfl) (Or.inl rfl) ?_
      refine Qr.mk ?_
      simp only [hc_lt (show f 1 < 2 ^ 31 by omega) (show g 0 < 2 ^ 31 by omega), hc_lt (show f 2 < 2 ^ 31 by omega) (show g 1 < 2 ^ 31 by omega), hc_lt (show g 2 < 2 ^ 31 by omega) (show f 1 < 2 ^ 31 by omega), hc_lt (show g 3 < 2 ^ 31 by omega) (show f 2 < 2 ^ 31 by omega)] at *
      first | (rw [show aOv g f = true by simp only [aOv, Bool.and_eq_true, decide_eq_true_eq]; omega]; rfl) | (rw [show aOv g f = false by rw [← Bool.not_eq_true]; simp only [aOv, Bool.and_eq_true, decide_eq_true_eq]; omega]; rfl)
    · refine LW_aloadn 1 dX7_isOver_22 rfl rfl ?_
      refine gX2_2 dX7_isOver_23 flX7_28 hfd.1 hfd.2.1 ?_
      rw [show I r 2 = nI (f 2) from hfd.2.2 2 (by decide)]
      refine LW_aloadn 0 dX7_isOver_26 rfl rfl ?_
      refine gX7_1 dX7_isOver_27 flX7_13 hs.1 hs.2.1 ?_
      rw [show I q 1 = nI (g 1) from hs.2.2 1 (by decide)]
      refine LW_icmp_lt (tgt := 48) dX7_isOver_30 (by decide) (fun c30 => ?_) (fun c30 => ?_)
      · refine LW_iconst (v := 0) dX7_isOver_48 (by decide) ?_
        refine LW_zret dX7_isOver_49 rfl (Nat.le_of_ble_eq_true rfl) (Nat.le_of_ble_eq_true rfl) (Or.inl rfl) ?_
        refine Qr.mk ?_
        simp only [hc_lt (show f 1 < 2 ^ 31 by omega) (show g 0 < 2 ^ 31 by omega), hc_lt (show f 2 < 2 ^ 31 by omega) (show g 1 < 2 ^ 31 by omega), hc_lt (show g 2 < 2 ^ 31 by omega) (show f 1 < 2 ^ 31 by omega), hc_lt (show g 3 < 2 ^ 31 by omega) (show f 2 < 2 ^ 31 by omega)] at *
        first | (rw [show aOv g f = true by simp only [aOv, Bool.and_eq_true, decide_eq_true_eq]; omega]; rfl) | (rw [show aOv g f = false by rw [← Bool.not_eq_true]; simp only [aOv, Bool.and_eq_true, decide_eq_true_eq]; omega]; rfl)
      · refine LW_aloadn 1 dX7_isOver_33 rfl rfl ?_
        refine gX2_2 dX7_isOver_34 flX7_28 hfd.1 hfd.2.1 ?_
        rw [show I r 2 = nI (f 2) from hfd.2.2 2 (by decide)]
        refine LW_aloadn 0 dX7_isOver_37 rfl rfl ?_
        refine gX7_3 dX7_isOver_38 flX7_19 hs.1 hs.2.1 ?_
        rw [show I q 3 = nI (g 3) from hs.2.2 3 (by decide)]
        refine LW_icmp_gt (tgt := 48) dX7_isOver_41 (by decide) (fun c41 => ?_) (fun c41 => ?_)
        · refine LW_iconst (v := 0) dX7_isOver_48 (by decide) ?_
          refine LW_zret dX7_isOver_49 rfl (Nat.le_of_ble_eq_true rfl) (Nat.le_of_ble_eq_true rfl) (Or.inl rfl) ?_
          refine Qr.mk ?_
          simp only [hc_lt (show f 1 < 2 ^ 31 by omega) (show g 0 < 2 ^ 31 by omega), hc_lt (show f 2 < 2 ^ 31 by omega) (show g 1 < 2 ^ 31 by omega), hc_lt (show g 2 < 2 ^ 31 by omega) (show f 1 < 2 ^ 31 by omega), hc_lt (show g 3 < 2 ^ 31 by omega) (show f 2 < 2 ^ 31 by omega)] at *
          first | (rw [show aOv g f = true by simp only [aOv, Bool.and_eq_true, decide_eq_true_eq]; omega]; rfl) | (rw [show aOv g f = false by rw [← Bool.not_eq_true]; simp only [aOv, Bool.and_eq_true, decide_eq_true_eq]; omega]; rfl)
        · refine LW_iconst (v := 1) dX7_isOver_44 (by decide) ?_
          refine LW_goto (tgt := 49) dX7_isOver_45 (by decide) ?_
          refine LW_zret dX7_isOver_49 rfl (Nat.le_of_ble_eq_true rfl) (Nat.le_of_ble_eq_true rfl) (Or.inr rfl) ?_
          refine Qr.mk ?_
          simp only [hc_lt (show f 1 < 2 ^ 31 by omega) (show g 0 < 2 ^ 31 by omega), hc_lt (show f 2 < 2 ^ 31 by omega) (show g 1 < 2 ^ 31 by omega), hc_lt (show g 2 < 2 ^ 31 by omega) (show f 1 < 2 ^ 31 by omega), hc_lt (show g 3 < 2 ^ 31 by omega) (show f 2 < 2 ^ 31 by omega)] at *
          first | (rw [show aOv g f = true by simp only [aOv, Bool.and_eq_true, decide_eq_true_eq]; omega]; rfl) | (rw [show aOv g f = false by rw [← Bool.not_eq_true]; simp only [aOv, Bool.and_eq_true, decide_eq_true_eq]; omega]; rfl)
set_option maxRecDepth 100000 in
theorem r_softOfN {Λ : hc_L} {I : hc_I} {L : hc_J} {R : hc_R} {s : Nat} {A : AS} (h : St Λ I L R s A) {k : Nat} (hk : k < 4) : Run xX6_softOf [.ref s, .int (nI k)] Λ I L R (Qr (some (.int (nI (aSo A k)))) Λ I L R) := by
  refine Run.of (by decide +kernel) (Nat.le_of_ble_eq_true rfl) ?_
  show LW _ _ _ [(0, .ref s), (1, .int (nI k))] _ _ _ _ _ _
  refine LW_iloadn 1 dX6_softOf_0 rfl rfl ?_
  refine LW_if_lt (tgt := 18) dX6_softOf_1 (by decide) (fun c1 => absurd c1 (hc_nlt (b := 0) (by omega) (by omega) (by omega))) (fun c1 => ?_)
  refine LW_iloadn 1 dX6_softOf_4 rfl rfl ?_
  refine LW_iconst (v := 4) dX6_softOf_5 (by decide) ?_
  refine LW_icmp_ge (tgt := 18) dX6_softOf_6 (by decide) (fun c6 => absurd c6 (hc_nle (a := 4) (by omega) (by omega) (by omega))) (fun c6 => ?_)
  refine LW_aloadn 0 dX6_softOf_9 rfl rfl ?_
  refine gX6_2 dX6_softOf_10 flX6_19 h.l.lt0 h.l.2.1 (h.l.f 2 (by decide)) ?_
  refine LW_iloadn 1 dX6_softOf_13 rfl rfl ?_
  refine LW_iald dX6_softOf_14 (h.l.lt 3 (by decide)) h.l.2.2.2.2.1 rfl (by omega) (Nat.le_of_ble_eq_true rfl) ?_
  rw [show I (s + 3) k = nI (aSo A k) from h.so hk]
  refine LW_goto (tgt := 19) dX6_softOf_15 (by decide) ?_
  refine LW_iret dX6_softOf_19 rfl (Nat.le_of_ble_eq_true rfl) (Nat.le_of_ble_eq_true rfl) ?_
  exact Qr.mk rfl
set_option maxRecDepth 100000 in
theorem r_memberNamed {Λ : hc_L} {I : hc_I} {L : hc_J} {R : hc_R} {s : Nat} {A : AS} (h : St Λ I L R s A) (w : Int64) : Run xX6_memberNamed [.ref s, .long w] Λ I L R (Qr (some (.int (abNamed A w))) Λ I L R) := by
  refine Run.of (by decide +kernel) (Nat.le_of_ble_eq_true rfl) ?_
  show LW _ _ _ [(0, .ref s), (1, .long w)] _ _ _ _ _ _
  have hm31 : aM A < 2 ^ 31 := Nat.lt_of_le_of_lt h.w.m (by decide)
  have hf31 : aF A < 2 ^ 31 := Nat.lt_of_le_of_lt h.w.f (by decide)
  have hn := h.w.m
  refine LW_iconst (v := 0) dX6_memberNamed_0 (by decide) ?_
  refine LW_istoren (ls' := [(0, .ref s), (1, .long w), (3, .int 0)]) dX6_memberNamed_1 rfl (by decide) rfl ?_
  have loop : ∀ i, i ≤ aM A → abNamed A w = abFind (fun m => decide (aNm A m = w)) (aM A - i) i → LW xX6_memberNamed (0, 0) 2 [(0, .ref s), (1, .long w), (3, .int (nI i))] [] Λ I L R (Qr (some (.int (abNamed A w))) Λ I L R) := by
    refine hc_down ?_ ?_
    · intro he
      refine LW_iloadn 2 dX6_memberNamed_2 rfl rfl ?_
      refine LW_aloadn 0 dX6_memberNamed_3 rfl rfl ?_
      refine gX6_11 dX6_memberNamed_4 flX6_66 h.l.lt0 h.l.2.1 ?_
      rw [show I s 11 = nI (aM A) from h.m]
      refine LW_icmp_ge (tgt := 29) dX6_memberNamed_7 (by decide) (fun c7 => ?_) (fun c7 => absurd (Int32.le_refl _) c7)
      refine LW_iconst (v := -1) dX6_memberNamed_29 (by decide) ?_
      refine LW_iret dX6_memberNamed_30 rfl (Nat.le_of_ble_eq_true rfl) (Nat.le_of_ble_eq_true rfl) ?_
      exact Qr.mk (by rw [he, Nat.sub_self]; rfl)
    · intro i hi ih he
      rw [show aM A - i = (aM A - (i + 1)) + 1 by omega] at he
      refine LW_iloadn 2 dX6_memberNamed_2 rfl rfl ?_
      refine LW_aloadn 0 dX6_memberNamed_3 rfl rfl ?_
      refine gX6_11 dX6_memberNamed_4 flX6_66 h.l.lt0 h.l.2.1 ?_
      rw [show I s 11 = nI (aM A) from h.m]
      refine LW_icmp_ge (tgt := 29) dX6_memberNamed_7 (by decide) (fun c7 => absurd c7 (hc_nle hm31 (by omega) hi)) (fun c7 => ?_)
      refine LW_aloadn 0 dX6_memberNamed_10 rfl rfl ?_
      refine gX6_3 dX6_memberNamed_11 flX6_22 h.l.lt0 h.l.2.1 (h.l.f 3 (by decide)) ?_
      refine LW_iloadn 2 dX6_memberNamed_14 rfl rfl ?_
      refine LW_lald dX6_memberNamed_15 (h.l.lt 4 (by decide)) h.l.2.2.2.2.2.1 rfl (by omega) (Nat.le_of_ble_eq_true rfl) ?_
      rw [show L (s + 4) i = aNm A i from h.nm hi]
      refine LW_lloadn 1 dX6_memberNamed_16 rfl rfl ?_
      refine LW_lcmp dX6_memberNamed_17 ?_
      refine LW_lif_ne (tgt := 23) dX6_memberNamed_18 (by decide) (fun c18 => ?_) (fun c18 => ?_)
      · refine LW_iinc (n := 2) (v := nI (i + 1)) (ls' := [(0, .ref s), (1, .long w), (3, .int (nI (i + 1)))]) dX6_memberNamed_23 rfl (hc_inc _) (by decide) rfl ?_
        refine LW_goto (tgt := 2) dX6_memberNamed_26 (by decide) ?_
        exact ih (by rw [he, abFind_skip _ _ (decide_eq_false c18)])
      · refine LW_iloadn 2 dX6_memberNamed_21 rfl rfl ?_
        refine LW_iret dX6_memberNamed_22 rfl (Nat.le_of_ble_eq_true rfl) (Nat.le_of_ble_eq_true rfl) ?_
        exact Qr.mk (by rw [he, abFind, if_pos (decide_eq_true (Classical.not_not.mp c18))])
  exact loop 0 (Nat.zero_le _) rfl
set_option maxRecDepth 100000 in
theorem r_fieldsUnder {Λ : hc_L} {I : hc_I} {L : hc_J} {R : hc_R} {s : Nat} {A : AS} (h : St Λ I L R s A) {q : Nat} {g : Nat → Nat} (hs : SdAt Λ I q g) (hg : g 0 < 8 ∧ g 1 < 8 ∧ g 2 < 8 ∧ g 3 < 8) : Run xX6_fieldsUnder [.ref s, .ref q] Λ I L R (Qr (some (.int (abFu A g (aF A)))) Λ I L R) := by
  refine Run.of (by decide +kernel) (Nat.le_of_ble_eq_true rfl) ?_
  show LW _ _ _ [(0, .ref s), (1, .ref q)] _ _ _ _ _ _
  have hm31 : aM A < 2 ^ 31 := Nat.lt_of_le_of_lt h.w.m (by decide)
  have hf31 : aF A < 2 ^ 31 := Nat.lt_of_le_of_lt h.w.f (by decide)
  have hn := h.w.f
  refine LW_iconst (v := 0) dX6_fieldsUnder_0 (by decide) ?_
  refine LW_istoren (ls' := [(0, .ref s), (1, .ref q), (2, .int 0)]) dX6_fieldsUnder_1 rfl (by decide) rfl ?_
  refine LW_iconst (v := 0) dX6_fieldsUnder_2 (by decide) ?_
  refine LW_istoren (ls' := [(0, .ref s), (1, .ref q), (2, .int 0), (3, .int 0)]) dX6_fieldsUnder_3 rfl (by decide) rfl ?_
  have loop : ∀ i, i ≤ (aF A) → LW xX6_fieldsUnder (0, 0) 4 [(0, .ref s), (1, .ref q), (2, .int (abFu A g i)), (3, .int (nI i))] [] Λ I L R (Qr (some (.int (abFu A g (aF A)))) Λ I L R) := by
    refine hc_down ?_ ?_
    · refine LW_iloadn 3 dX6_fieldsUnder_4 rfl rfl ?_
      refine LW_aloadn 0 dX6_fieldsUnder_5 rfl rfl ?_
      refine gX6_12 dX6_fieldsUnder_6 flX6_70 h.l.lt0 h.l.2.1 ?_
      rw [show I s 12 = nI (aF A) from h.fc]
      refine LW_icmp_ge (tgt := 47) dX6_fieldsUnder_9 (by decide) (fun c9 => ?_) (fun c9 => absurd (Int32.le_refl _) c9)
      refine LW_iloadn 2 dX6_fieldsUnder_47 rfl rfl ?_
      refine LW_iret dX6_fieldsUnder_48 rfl (Nat.le_of_ble_eq_true rfl) (Nat.le_of_ble_eq_true rfl) ?_
      exact Qr.mk rfl
    · intro i hi ih
      refine LW_iloadn 3 dX6_fieldsUnder_4 rfl rfl ?_
      refine LW_aloadn 0 dX6_fieldsUnder_5 rfl rfl ?_
      refine gX6_12 dX6_fieldsUnder_6 flX6_70 h.l.lt0 h.l.2.1 ?_
      rw [show I s 12 = nI (aF A) from h.fc]
      refine LW_icmp_ge (tgt := 47) dX6_fieldsUnder_9 (by decide) (fun c9 => absurd c9 (hc_nle hf31 (by omega) hi)) (fun c9 => ?_)
      refine LW_iloadn 2 dX6_fieldsUnder_12 rfl rfl ?_
      refine LW_aloadn 0 dX6_fieldsUnder_13 rfl rfl ?_
      refine LW_iloadn 3 dX6_fieldsUnder_14 rfl rfl ?_
      refine LW_callV (As := [.int (nI i)]) (b := s) (st := [.int (abFu A g i)]) (ci := 6) (r := (RX6, TX6, 15)) (r_standsN h (by omega)) YX6_stands rfl dX6_fieldsUnder_15 mlX6_113 h.l.lt0 h.l.2.1 ⟨rfl, rfl⟩ (by decide) ⟨Nat.le_refl _, Nat.le_refl _⟩ (Nat.le_of_ble_eq_true rfl) rfl (fun r15 Λc15 Ic15 Lc15 Rc15 hq15 => ?_)
      obtain ⟨rfl, rfl, rfl, rfl, rfl⟩ := hq15
      refine LW_bif_eq (tgt := 38) dX6_fieldsUnder_18 (by decide) (fun c18 => ?_) (fun c18 => ?_)
      · refine LW_iconst (v := 0) dX6_fieldsUnder_38 (by decide) ?_
        refine LW_iadd dX6_fieldsUnder_39 ?_
        refine LW_istoren (ls' := [(0, .ref s), (1, .ref q), (2, .int ((abFu A g i) + 0)), (3, .int (nI i))]) dX6_fieldsUnder_40 rfl (by decide) rfl ?_
        refine LW_iinc (n := 3) (v := nI (i + 1)) (ls' := [(0, .ref s), (1, .ref q), (2, .int ((abFu A g i) + 0)), (3, .int (nI (i + 1)))]) dX6_fieldsUnder_41 rfl (hc_inc _) (by decide) rfl ?_
        refine LW_goto (tgt := 4) dX6_fieldsUnder_44 (by decide) ?_
        exact hc_lsc (by first | simp [abFu, sumI, c18, c31, hc_b] | simp [abFu, sumI, c18, hc_b]) ih
      · obtain ⟨r, hr, hfd⟩ := h.fd hi
        refine LW_aloadn 1 dX6_fieldsUnder_21 rfl rfl ?_
        refine LW_aloadn 0 dX6_fieldsUnder_22 rfl rfl ?_
        refine gX6_7 dX6_fieldsUnder_23 flX6_37 h.l.lt0 h.l.2.1 (h.l.f 7 (by decide)) ?_
        refine LW_iloadn 3 dX6_fieldsUnder_26 rfl rfl ?_
        refine LW_aald4s (r := r) dX6_fieldsUnder_27 (h.l.lt 8 (by decide)) h.l.2.2.2.2.2.2.2.2.2.1 rfl (by omega) (Nat.le_of_ble_eq_true rfl) hr ?_
        refine LW_callV (As := [.ref r]) (b := q) (st := [.int (abFu A g i)]) (ci := 7) (r := (RX7, TX7, 5)) (r_isOver hs hfd hg ⟨(h.w.2.2.2.2.2.2.2.1 i hi).2.1, (h.w.2.2.2.2.2.2.2.1 i hi).2.2.1⟩) YX7_isOver rfl dX6_fieldsUnder_28 mlX6_137 hs.1 hs.2.1 ⟨rfl, rfl⟩ (by decide) ⟨Nat.le_refl _, Nat.le_refl _⟩ (Nat.le_of_ble_eq_true rfl) rfl (fun r28 Λc28 Ic28 Lc28 Rc28 hq28 => ?_)
        obtain ⟨rfl, rfl, rfl, rfl, rfl⟩ := hq28
        refine LW_bif_eq (tgt := 38) dX6_fieldsUnder_31 (by decide) (fun c31 => ?_) (fun c31 => ?_)
        · refine LW_iconst (v := 0) dX6_fieldsUnder_38 (by decide) ?_
          refine LW_iadd dX6_fieldsUnder_39 ?_
          refine LW_istoren (ls' := [(0, .ref s), (1, .ref q), (2, .int ((abFu A g i) + 0)), (3, .int (nI i))]) dX6_fieldsUnder_40 rfl (by decide) rfl ?_
          refine LW_iinc (n := 3) (v := nI (i + 1)) (ls' := [(0, .ref s), (1, .ref q), (2, .int ((abFu A g i) + 0)), (3, .int (nI (i + 1)))]) dX6_fieldsUnder_41 rfl (hc_inc _) (by decide) rfl ?_
          refine LW_goto (tgt := 4) dX6_fieldsUnder_44 (by decide) ?_
          exact hc_lsc (by first | simp [abFu, sumI, c18, c31, hc_b] | simp [abFu, sumI, c18, hc_b]) ih
        · refine LW_iconst (v := 1) dX6_fieldsUnder_34 (by decide) ?_
          refine LW_goto (tgt := 39) dX6_fieldsUnder_35 (by decide) ?_
          refine LW_iadd dX6_fieldsUnder_39 ?_
          refine LW_istoren (ls' := [(0, .ref s), (1, .ref q), (2, .int ((abFu A g i) + 1)), (3, .int (nI i))]) dX6_fieldsUnder_40 rfl (by decide) rfl ?_
          refine LW_iinc (n := 3) (v := nI (i + 1)) (ls' := [(0, .ref s), (1, .ref q), (2, .int ((abFu A g i) + 1)), (3, .int (nI (i + 1)))]) dX6_fieldsUnder_41 rfl (hc_inc _) (by decide) rfl ?_
          refine LW_goto (tgt := 4) dX6_fieldsUnder_44 (by decide) ?_
          exact hc_lsc (by first | simp [abFu, sumI, c18, c31, hc_b] | simp [abFu, sumI, c18, hc_b]) ih
  exact loop 0 (Nat.zero_le _)
