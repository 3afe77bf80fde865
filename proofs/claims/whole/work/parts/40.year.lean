/-! State: the year's end; what the writes make of the club -/
theorem EnL.sep {Λ : hc_L} {e s a : Nat} (h : EnL Λ e s a) : s + 18 ≤ e ∨ e + 16 ≤ s := by
  by_cases c : s ≤ e
  · by_cases d : e < s + 18
    · exact absurd (show s + (e - s) = e + 0 by omega) (h.ap (by omega) (by decide))
    · omega
  · by_cases d : s < e + 16
    · exact absurd (show s + 0 = e + (s - e) by omega) (h.ap (by decide) (by omega))
    · omega
/-- the club behind the year's end -/
def aEnd (A : AS) (pr : Nat → Bool) (er : Nat → Nat → Int64) (tot : Int64) : AS := (aM A, aF A, 0, aY A + 1, lpUp (aRu A) 1 tot, aHz A, aSo A, aNm A, (fun m => if (pr m && aLv A m) = true then false else aTh A m), (fun m => if (pr m && aLv A m) = true then false else aLv A m), (fun m => if (pr m && !aLv A m) = true then aYs A m + 1 else aYs A m), aFd A, aSd A, pr, er)
theorem wf_end {A : AS} {pr : Nat → Bool} {er : Nat → Nat → Int64} {tot : Int64} (h : wf A) (hy : aY A < 600) (hys : ∀ m, m < aM A → aYs A m < 600) : wf (aEnd A pr er tot) := by
  obtain ⟨h1, h2, h3, h4, h5, h6, h7, h8, h9⟩ := h
  refine ⟨h1, h2, Nat.zero_le _, hy, h5, h6, fun m hm => ?_, h8, fun i hi => absurd hi (Nat.not_lt_zero _)⟩
  have := hys m hm
  show (if _ then _ else _) ≤ _
  split
  · exact this
  · exact Nat.le_of_lt this
set_option maxRecDepth 100000 in
theorem r_endYear {Λ : hc_L} {I : hc_I} {L : hc_J} {R : hc_R} {e s a : Nat} {A : AS} (he : EnL Λ e s a) (h : St Λ I L R s A) {pr : Nat → Bool} (hpr : ∀ j, j < 12 → I (e + 9) j = hc_b (pr j)) (hpm : ∀ j, j < 12 → pr j = true → j < aM A) (hy : aY A < 600) (hys : ∀ m, m < aM A → aYs A m < 600) : Run xX6_endYear [.ref s, .ref e] Λ I L R (Qf (fun z => z = s ∨ z = s + 5 ∨ z = s + 6 ∨ z = s + 7 ∨ z = s + 10) (fun z => z = s + 1 ∨ (s + 12 ≤ z ∧ z < s + 18)) (fun _ => False) none (fun I' L' R' => St Λ I' L' R' s (aEnd A pr (fun w m => L (e + 3 + w) m) (L (e + 1) 10))) Λ I L R) := by
  refine Run.of (by decide +kernel) (Nat.le_of_ble_eq_true rfl) ?_
  show LW _ _ _ [(0, .ref s), (1, .ref e)] _ _ _ _ _ _
  have hse := he.sep
  have loop : ∀ i, i ≤ 12 → ∀ I2 : hc_I, (∀ z, z ≠ s + 5 → z ≠ s + 6 → z ≠ s + 7 → z ≠ s + 10 → I2 z = I z) → (∀ j, j < i → I2 (s + 10) j = hc_b (pr j)) → (∀ j, I2 (s + 5) j = if j < i ∧ (pr j && aLv A j) = true then 0 else I (s + 5) j) → (∀ j, I2 (s + 6) j = if j < i ∧ (pr j && aLv A j) = true then 0 else I (s + 6) j) → (∀ j, I2 (s + 7) j = if j < i ∧ (pr j && !aLv A j) = true then I (s + 7) j + 1 else I (s + 7) j) → LW xX6_endYear (0, 0) 2 [(0, .ref s), (1, .ref e), (2, .int (nI i))] [] Λ I2 L R (Qf (fun z => z = s ∨ z = s + 5 ∨ z = s + 6 ∨ z = s + 7 ∨ z = s + 10) (fun z => z = s + 1 ∨ (s + 12 ≤ z ∧ z < s + 18)) (fun _ => False) none (fun I' L' R' => St Λ I' L' R' s (aEnd A pr (fun w m => L (e + 3 + w) m) (L (e + 1) 10))) Λ I L R) := by
    refine hc_down ?_ ?_
    · intro I2 hI2 k10 k5 k6 k7
      refine LW_iloadn 2 dX6_endYear_2 rfl rfl ?_
      refine LW_bipush (v := 12) dX6_endYear_3 (by decide) ?_
      refine LW_icmp_ge (tgt := 74) dX6_endYear_5 (by decide) (fun c5 => ?_) (fun c5 => absurd (Int32.le_refl _) c5)
      refine LW_aloadn 0 dX6_endYear_74 rfl rfl ?_
      refine LW_aloadn 1 dX6_endYear_75 rfl rfl ?_
      refine gX1_3 dX6_endYear_76 flX6_94 he.lt0 he.2.1 he.f3 ?_
      refine LW_callV (As := [.ref (e + 2)]) (b := s) (st := []) (ci := 6) (r := (RX6, TX6, 15)) (r_copyEndRows (Λ := Λ) (q := e + 2) (b := e + 3) h.l (he.lt 2 (by decide)) he.2.2.2.1 (fun w hw => he.fr w hw) (fun w hw => Nat.lt_of_lt_of_le (by omega) he.1) (fun w hw => he.yr w hw) (fun w hw => by omega)) YX6_copyEndRows rfl dX6_endYear_79 mlX6_85 h.l.lt0 h.l.2.1 ⟨rfl, rfl⟩ (by decide) ⟨Nat.le_refl _, Nat.le_refl _⟩ (Nat.le_of_ble_eq_true rfl) rfl (fun r79 Λc79 Ic79 Lc79 Rc79 hq79 => ?_)
      obtain ⟨rfl, rfl, hX79, hL79, hY79, hcr⟩ := hq79
      obtain rfl : I2 = Ic79 := funext fun z => (hX79 z (fun q => q)).symm
      obtain rfl : R = Rc79 := funext fun z => (hY79 z (fun q => q)).symm
      refine LW_aloadn 0 dX6_endYear_82 rfl rfl ?_
      refine gX6_0 dX6_endYear_83 flX6_9 h.l.lt0 h.l.2.1 (h.l.f 0 (by decide)) ?_
      refine LW_iconst (v := 1) dX6_endYear_86 (by decide) ?_
      refine LW_aloadn 1 dX6_endYear_87 rfl rfl ?_
      refine gX1_2 dX6_endYear_88 flX6_97 he.lt0 he.2.1 he.f2 ?_
      refine LW_bipush (v := 10) dX6_endYear_91 (by decide) ?_
      refine LW_lald dX6_endYear_93 (he.lt 1 (by decide)) he.2.2.1 rfl (by decide) (Nat.le_of_ble_eq_true rfl) ?_
      refine LW_last dX6_endYear_94 (h.l.lt 1 (by decide)) h.l.2.2.1 rfl (by decide) (Nat.le_of_ble_eq_true rfl) ?_
      generalize hL94 : hc_u Lc79 (s + 1) 1 (Lc79 (e + 1) 10) = L94
      refine LW_aloadn 0 dX6_endYear_95 rfl rfl ?_
      refine LW_iconst (v := 0) dX6_endYear_96 (by decide) ?_
      refine pX6_13 dX6_endYear_97 flX6_73 h.l.lt0 h.l.2.1 ?_
      generalize hI97 : hc_u I2 s 13 0 = I97
      refine LW_aloadn 0 dX6_endYear_100 rfl rfl ?_
      refine LW_dup dX6_endYear_101 rfl ?_
      refine gX6_14 dX6_endYear_102 flX6_76 h.l.lt0 h.l.2.1 ?_
      rw [show I97 s 14 = nI (aY A) from (by rw [← hI97, hc_u_at, if_neg (by decide), hI2 _ (by omega) (by omega) (by omega) (by omega)]; exact h.yr)]
      refine LW_iconst (v := 1) dX6_endYear_105 (by decide) ?_
      refine LW_iadd dX6_endYear_106 ?_
      rw [show ((nI (aY A)) + 1) = nI (aY A + 1) from (nI_1 _)]
      refine pX6_14 dX6_endYear_107 flX6_76 h.l.lt0 h.l.2.1 ?_
      generalize hI107 : hc_u I97 s 14 (nI (aY A + 1)) = I107
      refine LW_vret dX6_endYear_110 rfl (Nat.le_of_ble_eq_true rfl) (Nat.le_of_ble_eq_true rfl) ?_
      have eI : ∀ z, z ≠ s → I107 z = I2 z := fun z hz => by rw [← hI107, hc_u_row _ _ _ _ hz, ← hI97, hc_u_row _ _ _ _ hz]
      have eL : ∀ z, z ≠ s + 1 → L94 z = Lc79 z := fun z hz => by rw [← hL94, hc_u_row _ _ _ _ hz]
      refine ⟨rfl, rfl, fun z hz => ?_, fun z hz => ?_, fun _ _ => rfl, h.l, wf_end h.w hy hys, ⟨?_, ?_, ?_, ?_⟩, fun j hj => ?_, fun c hc => ?_, fun c hc => ?_, fun m hm => ?_, fun i hi => ?_, fun i hi => absurd hi (Nat.not_lt_zero _), h.e.1, h.e.2, fun m hm => ?_, fun w m hw hm => ?_⟩
      · rw [eI z (by omega), hI2 z (by omega) (by omega) (by omega) (by omega)]
      · rw [eL z (by omega), hL79 z (by omega)]
      · rw [← hI107, hc_u_at, if_neg (by decide), ← hI97, hc_u_at, if_neg (by decide), hI2 _ (by omega) (by omega) (by omega) (by omega)]; exact h.m
      · rw [← hI107, hc_u_at, if_neg (by decide), ← hI97, hc_u_at, if_neg (by decide), hI2 _ (by omega) (by omega) (by omega) (by omega)]; exact h.fc
      · rw [← hI107, hc_u_at, if_neg (by decide), ← hI97, hc_u_at, if_pos rfl]; rfl
      · rw [← hI107, hc_u_at, if_pos rfl]; rfl
      · rw [← hL94, hc_u_at, hL79 _ (by omega), hL79 _ (by omega)]
        show (if j = 1 then _ else _) = lpUp _ _ _ _
        unfold lpUp
        rw [h.ru hj]
      · rw [eI _ (by omega), hI2 _ (by omega) (by omega) (by omega) (by omega)]; exact h.hz hc
      · rw [eI _ (by omega), hI2 _ (by omega) (by omega) (by omega) (by omega)]; exact h.so hc
      · have hm' : m < aM A := hm
        have hM := h.w.m
        have a1 := h.th hm'
        have a2 := h.lv hm'
        have a3 := h.ys hm'
        rw [eL _ (by omega), hL79 _ (by omega), eI _ (by omega), eI _ (by omega), eI _ (by omega), k5, k6, k7, a1, a2, a3]
        refine ⟨h.nm hm', ?_, ?_, ?_⟩
        · show _ = hc_b (if (pr m && aLv A m) = true then false else aTh A m)
          by_cases c : (pr m && aLv A m) = true
          · rw [if_pos c, if_pos ⟨by omega, c⟩]; rfl
          · rw [if_neg c, if_neg (fun q => c q.2)]
        · show _ = hc_b (if (pr m && aLv A m) = true then false else aLv A m)
          by_cases c : (pr m && aLv A m) = true
          · rw [if_pos c, if_pos ⟨by omega, c⟩]; rfl
          · rw [if_neg c, if_neg (fun q => c q.2)]
        · show _ = nI (if (pr m && !aLv A m) = true then aYs A m + 1 else aYs A m)
          by_cases c : (pr m && !aLv A m) = true
          · rw [if_pos c, if_pos ⟨by omega, c⟩]; exact nI_1 _
          · rw [if_neg c, if_neg (fun q => c q.2)]
      · obtain ⟨r, hr, hf⟩ := h.fd hi
        have hn := h.l.nf (Or.inl hf.2.1)
        exact ⟨r, hr, hf.kp (by rw [eI _ (by omega), hI2 _ (by omega) (by omega) (by omega) (by omega)])⟩
      · refine ⟨by rw [eI _ (by omega), k10 m hm]; rfl, fun hk => ?_⟩
        obtain ⟨a1, a2, a3⟩ := h.rest hm hk
        have hp : pr m = false := by
          cases c : pr m with
          | false => rfl
          | true => exact absurd (hpm m hm c) (Nat.not_lt.mpr hk)
        refine ⟨?_, ?_, hp⟩
        · rw [eI _ (by omega), k6, a1, if_neg (fun q => by rw [hp] at q; cases q.2)]
        · rw [eI _ (by omega), k7, a2, if_neg (fun q => by rw [hp] at q; cases q.2)]
      · rw [eL _ (by omega), hcr w hw]; rfl
    · intro i hi0 ih I2 hI2 k10 k5 k6 k7
      have hpe : I2 (e + 9) i = hc_b (pr i) := by rw [hI2 _ (by omega) (by omega) (by omega) (by omega)]; exact hpr i hi0
      have hlve : i < aM A → I2 (s + 6) i = hc_b (aLv A i) := fun q => by rw [k6, if_neg (by omega)]; exact h.lv q
      refine LW_iloadn 2 dX6_endYear_2 rfl rfl ?_
      refine LW_bipush (v := 12) dX6_endYear_3 (by decide) ?_
      refine LW_icmp_ge (tgt := 74) dX6_endYear_5 (by decide) (fun c5 => absurd c5 (hc_nle (a := 12) (by omega) (by omega) hi0)) (fun c5 => ?_)
      refine LW_aloadn 0 dX6_endYear_8 rfl rfl ?_
      refine gX6_9 dX6_endYear_9 flX6_47 h.l.lt0 h.l.2.1 (h.l.f 9 (by decide)) ?_
      refine LW_iloadn 2 dX6_endYear_12 rfl rfl ?_
      refine LW_aloadn 1 dX6_endYear_13 rfl rfl ?_
      refine gX1_4 dX6_endYear_14 flX6_89 he.lt0 he.2.1 he.f4 ?_
      refine LW_iloadn 2 dX6_endYear_17 rfl rfl ?_
      refine LW_zald dX6_endYear_18 (he.lt 9 (by decide)) he.2.2.2.2.2.1 rfl (by omega) (Nat.le_of_ble_eq_true rfl) ?_
      rw [show I2 (e + 9) i = hc_b (pr i) from hpe]
      refine LW_zast dX6_endYear_19 (h.l.lt 10 (by decide)) h.l.2.2.2.2.2.2.2.2.2.2.2.1 rfl (by omega) (Nat.le_of_ble_eq_true rfl) ?_
      generalize hI19 : hc_u I2 (s + 10) i (vp_nar .boolean (hc_b (pr i))) = I19
      refine LW_aloadn 1 dX6_endYear_20 rfl rfl ?_
      refine gX1_4 dX6_endYear_21 flX6_89 he.lt0 he.2.1 he.f4 ?_
      refine LW_iloadn 2 dX6_endYear_24 rfl rfl ?_
      refine LW_zald dX6_endYear_25 (he.lt 9 (by decide)) he.2.2.2.2.2.1 rfl (by omega) (Nat.le_of_ble_eq_true rfl) ?_
      rw [show I19 (e + 9) i = hc_b (pr i) from (by rw [← hI19, hc_u_row _ _ _ _ (by omega)]; exact hpe)]
      refine LW_bif_ne (tgt := 32) dX6_endYear_26 (by decide) (fun c26 => ?_) (fun c26 => ?_)
      · refine LW_aloadn 0 dX6_endYear_32 rfl rfl ?_
        refine gX6_5 dX6_endYear_33 flX6_29 h.l.lt0 h.l.2.1 (h.l.f 5 (by decide)) ?_
        refine LW_iloadn 2 dX6_endYear_36 rfl rfl ?_
        refine LW_zald dX6_endYear_37 (h.l.lt 6 (by decide)) h.l.2.2.2.2.2.2.2.1 rfl (by omega) (Nat.le_of_ble_eq_true rfl) ?_
        rw [show I19 (s + 6) i = hc_b (aLv A i) from (by rw [← hI19, hc_u_row _ _ _ _ (by omega)]; exact hlve (hpm i hi0 c26))]
        refine LW_bif_eq (tgt := 58) dX6_endYear_38 (by decide) (fun c38 => ?_) (fun c38 => ?_)
        · refine LW_aloadn 0 dX6_endYear_58 rfl rfl ?_
          refine gX6_6 dX6_endYear_59 flX6_32 h.l.lt0 h.l.2.1 (h.l.f 6 (by decide)) ?_
          refine LW_iloadn 2 dX6_endYear_62 rfl rfl ?_
          refine LW_dup2 dX6_endYear_63 rfl rfl ?_
          refine LW_iald dX6_endYear_64 (h.l.lt 7 (by decide)) h.l.2.2.2.2.2.2.2.2.1 rfl (by omega) (Nat.le_of_ble_eq_true rfl) ?_
          refine LW_iconst (v := 1) dX6_endYear_65 (by decide) ?_
          refine LW_iadd dX6_endYear_66 ?_
          refine LW_iast dX6_endYear_67 (h.l.lt 7 (by decide)) h.l.2.2.2.2.2.2.2.2.1 rfl (by omega) (Nat.le_of_ble_eq_true rfl) ?_
          generalize hI67 : hc_u I19 (s + 7) i ((I19 (s + 7) i) + 1) = I67
          refine LW_iinc (n := 2) (v := nI (i + 1)) (ls' := [(0, .ref s), (1, .ref e), (2, .int (nI (i + 1)))]) dX6_endYear_68 rfl (hc_inc _) (by decide) rfl ?_
          refine LW_goto (tgt := 2) dX6_endYear_71 (by decide) ?_
          exact ih _ (fun z z1 z2 z3 z4 => by rw [← hI67, hc_u_row _ _ _ _ (by omega), ← hI19, hc_u_row _ _ _ _ (by omega)]; exact hI2 z z1 z2 z3 z4)
            (fun j hj => by
              rw [← hI67, hc_u_row _ _ _ _ (by omega), ← hI19, hc_u_at]
              by_cases c : j = i
              · rw [if_pos c, c, narb]
              · rw [if_neg c]; exact k10 j (by omega))
            (fun j => by
              rw [← hI67, hc_u_row _ _ _ _ (by omega), ← hI19, hc_u_row _ _ _ _ (by omega), k5 j]
              by_cases c : j < i ∧ (pr j && aLv A j) = true
              · rw [if_pos c, if_pos ⟨by omega, c.2⟩]
              · rw [if_neg c, if_neg (fun w => c ⟨Nat.lt_of_le_of_ne (Nat.le_of_lt_succ w.1) (fun e1 => by have w2 := w.2; rw [e1, c26, c38] at w2; cases w2), w.2⟩)])
            (fun j => by
              rw [← hI67, hc_u_row _ _ _ _ (by omega), ← hI19, hc_u_row _ _ _ _ (by omega), k6 j]
              by_cases c : j < i ∧ (pr j && aLv A j) = true
              · rw [if_pos c, if_pos ⟨by omega, c.2⟩]
              · rw [if_neg c, if_neg (fun w => c ⟨Nat.lt_of_le_of_ne (Nat.le_of_lt_succ w.1) (fun e1 => by have w2 := w.2; rw [e1, c26, c38] at w2; cases w2), w.2⟩)])
            (fun j => by
              rw [← hI67, hc_u_at]
              by_cases e1 : j = i
              · rw [if_pos e1, if_pos ⟨by omega, by rw [e1, c26, c38]; rfl⟩]
                rw [← hI19, hc_u_row _ _ _ _ (by omega), k7, if_neg (by omega), e1]
              · rw [if_neg e1, ← hI19, hc_u_row _ _ _ _ (by omega), k7 j]
                by_cases c : j < i ∧ (pr j && !aLv A j) = true
                · rw [if_pos c, if_pos ⟨by omega, c.2⟩]
                · rw [if_neg c, if_neg (fun w => c ⟨by omega, w.2⟩)])
        · refine LW_aloadn 0 dX6_endYear_41 rfl rfl ?_
          refine gX6_4 dX6_endYear_42 flX6_25 h.l.lt0 h.l.2.1 (h.l.f 4 (by decide)) ?_
          refine LW_iloadn 2 dX6_endYear_45 rfl rfl ?_
          refine LW_iconst (v := 0) dX6_endYear_46 (by decide) ?_
          refine LW_zast dX6_endYear_47 (h.l.lt 5 (by decide)) h.l.2.2.2.2.2.2.1 rfl (by omega) (Nat.le_of_ble_eq_true rfl) ?_
          generalize hI47 : hc_u I19 (s + 5) i (vp_nar .boolean 0) = I47
          refine LW_aloadn 0 dX6_endYear_48 rfl rfl ?_
          refine gX6_5 dX6_endYear_49 flX6_29 h.l.lt0 h.l.2.1 (h.l.f 5 (by decide)) ?_
          refine LW_iloadn 2 dX6_endYear_52 rfl rfl ?_
          refine LW_iconst (v := 0) dX6_endYear_53 (by decide) ?_
          refine LW_zast dX6_endYear_54 (h.l.lt 6 (by decide)) h.l.2.2.2.2.2.2.2.1 rfl (by omega) (Nat.le_of_ble_eq_true rfl) ?_
          generalize hI54 : hc_u I47 (s + 6) i (vp_nar .boolean 0) = I54
          refine LW_goto (tgt := 68) dX6_endYear_55 (by decide) ?_
          refine LW_iinc (n := 2) (v := nI (i + 1)) (ls' := [(0, .ref s), (1, .ref e), (2, .int (nI (i + 1)))]) dX6_endYear_68 rfl (hc_inc _) (by decide) rfl ?_
          refine LW_goto (tgt := 2) dX6_endYear_71 (by decide) ?_
          exact ih _ (fun z z1 z2 z3 z4 => by rw [← hI54, hc_u_row _ _ _ _ (by omega), ← hI47, hc_u_row _ _ _ _ (by omega), ← hI19, hc_u_row _ _ _ _ (by omega)]; exact hI2 z z1 z2 z3 z4)
            (fun j hj => by
              rw [← hI54, hc_u_row _ _ _ _ (by omega), ← hI47, hc_u_row _ _ _ _ (by omega), ← hI19, hc_u_at]
              by_cases c : j = i
              · rw [if_pos c, c, narb]
              · rw [if_neg c]; exact k10 j (by omega))
            (fun j => by
              rw [← hI54, hc_u_row _ _ _ _ (by omega), ← hI47, hc_u_at]
              by_cases e1 : j = i
              · rw [if_pos e1, if_pos ⟨by omega, by rw [e1, c26, c38]; rfl⟩]; rfl
              · rw [if_neg e1, ← hI19, hc_u_row _ _ _ _ (by omega), k5 j]
                by_cases c : j < i ∧ (pr j && aLv A j) = true
                · rw [if_pos c, if_pos ⟨by omega, c.2⟩]
                · rw [if_neg c, if_neg (fun w => c ⟨by omega, w.2⟩)])
            (fun j => by
              rw [← hI54, hc_u_at]
              by_cases e1 : j = i
              · rw [if_pos e1, if_pos ⟨by omega, by rw [e1, c26, c38]; rfl⟩]; rfl
              · rw [if_neg e1, ← hI47, hc_u_row _ _ _ _ (by omega), ← hI19, hc_u_row _ _ _ _ (by omega), k6 j]
                by_cases c : j < i ∧ (pr j && aLv A j) = true
                · rw [if_pos c, if_pos ⟨by omega, c.2⟩]
                · rw [if_neg c, if_neg (fun w => c ⟨by omega, w.2⟩)])
            (fun j => by
              rw [← hI54, hc_u_row _ _ _ _ (by omega), ← hI47, hc_u_row _ _ _ _ (by omega), ← hI19, hc_u_row _ _ _ _ (by omega), k7 j]
              by_cases c : j < i ∧ (pr j && !aLv A j) = true
              · rw [if_pos c, if_pos ⟨by omega, c.2⟩]
              · rw [if_neg c, if_neg (fun w => c ⟨Nat.lt_of_le_of_ne (Nat.le_of_lt_succ w.1) (fun e1 => by have w2 := w.2; rw [e1, c26, c38] at w2; cases w2), w.2⟩)])
      · refine LW_goto (tgt := 68) dX6_endYear_29 (by decide) ?_
        refine LW_iinc (n := 2) (v := nI (i + 1)) (ls' := [(0, .ref s), (1, .ref e), (2, .int (nI (i + 1)))]) dX6_endYear_68 rfl (hc_inc _) (by decide) rfl ?_
        refine LW_goto (tgt := 2) dX6_endYear_71 (by decide) ?_
        exact ih _ (fun z z1 z2 z3 z4 => by rw [← hI19, hc_u_row _ _ _ _ (by omega)]; exact hI2 z z1 z2 z3 z4)
          (fun j hj => by
            rw [← hI19, hc_u_at]
            by_cases c : j = i
            · rw [if_pos c, c, narb]
            · rw [if_neg c]; exact k10 j (by omega))
          (fun j => by
            rw [← hI19, hc_u_row _ _ _ _ (by omega), k5 j]
            by_cases c : j < i ∧ (pr j && aLv A j) = true
            · rw [if_pos c, if_pos ⟨by omega, c.2⟩]
            · rw [if_neg c, if_neg (fun w => c ⟨Nat.lt_of_le_of_ne (Nat.le_of_lt_succ w.1) (fun e1 => by have w2 := w.2; rw [e1, c26] at w2; cases w2), w.2⟩)])
          (fun j => by
            rw [← hI19, hc_u_row _ _ _ _ (by omega), k6 j]
            by_cases c : j < i ∧ (pr j && aLv A j) = true
            · rw [if_pos c, if_pos ⟨by omega, c.2⟩]
            · rw [if_neg c, if_neg (fun w => c ⟨Nat.lt_of_le_of_ne (Nat.le_of_lt_succ w.1) (fun e1 => by have w2 := w.2; rw [e1, c26] at w2; cases w2), w.2⟩)])
          (fun j => by
            rw [← hI19, hc_u_row _ _ _ _ (by omega), k7 j]
            by_cases c : j < i ∧ (pr j && !aLv A j) = true
            · rw [if_pos c, if_pos ⟨by omega, c.2⟩]
            · rw [if_neg c, if_neg (fun w => c ⟨Nat.lt_of_le_of_ne (Nat.le_of_lt_succ w.1) (fun e1 => by have w2 := w.2; rw [e1, c26] at w2; cases w2), w.2⟩)])
  refine LW_iconst (v := 0) dX6_endYear_0 (by decide) ?_
  refine LW_istoren (ls' := [(0, .ref s), (1, .ref e), (2, .int 0)]) dX6_endYear_1 rfl (by decide) rfl ?_
  exact loop 0 (Nat.zero_le _) I (fun _ _ _ _ _ => rfl) (fun j hj => absurd hj (Nat.not_lt_zero _)) (fun j => by rw [if_neg (fun w => absurd w.1 (Nat.not_lt_zero _))]) (fun j => by rw [if_neg (fun w => absurd w.1 (Nat.not_lt_zero _))]) (fun j => by rw [if_neg (fun w => absurd w.1 (Nat.not_lt_zero _))])
