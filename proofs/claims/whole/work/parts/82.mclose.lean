/-! the reference: close -/
def clF (N0 B : Nat → Int64) (pr lv : Nat → Bool) (i j : Nat) : Int64 := if 198 ≤ j ∧ j < 198 + i then lB (pr (j - 198)) else if 34 ≤ j ∧ j < 34 + i then (if (pr (j - 34) && !lv (j - 34)) = true then N0 j + 1 else N0 j) else if 22 ≤ j ∧ j < 22 + i then 0 else if 10 ≤ j ∧ j < 10 + i then (if (pr (j - 10) && lv (j - 10)) = true then 0 else N0 j) else B j
theorem clF_s {N0 B : Nat → Int64} {pr lv : Nat → Bool} {i : Nat} (hi : i < 12) (j : Nat) : clF N0 B pr lv (i + 1) j = if j = 198 + i then lB (pr i) else if j = 34 + i then (if (pr i && !lv i) = true then N0 j + 1 else N0 j) else if j = 22 + i then 0 else if j = 10 + i then (if (pr i && lv i) = true then 0 else N0 j) else clF N0 B pr lv i j := by
  by_cases a : j = 198 + i
  · rw [if_pos a]; unfold clF; rw [if_pos ⟨by omega, by omega⟩, show j - 198 = i by omega]
  rw [if_neg a]
  by_cases b : j = 34 + i
  · rw [if_pos b]; unfold clF; rw [if_neg (by omega), if_pos ⟨by omega, by omega⟩, show j - 34 = i by omega]
  rw [if_neg b]
  by_cases c : j = 22 + i
  · rw [if_pos c]; unfold clF; rw [if_neg (by omega), if_neg (by omega), if_pos ⟨by omega, by omega⟩]
  rw [if_neg c]
  by_cases d : j = 10 + i
  · rw [if_pos d]; unfold clF; rw [if_neg (by omega), if_neg (by omega), if_neg (by omega), if_pos ⟨by omega, by omega⟩, show j - 10 = i by omega]
  rw [if_neg d]
  unfold clF
  by_cases e1 : 198 ≤ j ∧ j < 198 + i
  · rw [if_pos e1, if_pos ⟨e1.1, by omega⟩]
  rw [if_neg e1, if_neg (by omega)]
  by_cases e2 : 34 ≤ j ∧ j < 34 + i
  · rw [if_pos e2, if_pos ⟨e2.1, by omega⟩]
  rw [if_neg e2, if_neg (by omega)]
  by_cases e3 : 22 ≤ j ∧ j < 22 + i
  · rw [if_pos e3, if_pos ⟨e3.1, by omega⟩]
  rw [if_neg e3, if_neg (by omega)]
  by_cases e4 : 10 ≤ j ∧ j < 10 + i
  · rw [if_pos e4, if_pos ⟨e4.1, by omega⟩]
  rw [if_neg e4, if_neg (by omega)]
theorem clF_own {N0 B : Nat → Int64} {pr lv : Nat → Bool} {i j : Nat} (h : j < 10 ∨ (10 + i ≤ j ∧ j < 22) ∨ (22 + i ≤ j ∧ j < 34) ∨ (34 + i ≤ j ∧ j < 198)) : i < 12 → clF N0 B pr lv i j = B j := fun hi => by
  unfold clF
  rw [if_neg (by omega), if_neg (by omega), if_neg (by omega), if_neg (by omega)]
theorem NwAt.end {N0 B N' : Nat → Int64} {A : AS} {P : LwP} (h : NwAt N0 A) (hA : wf A) (hLv : ∀ m, m < aM A → aLv A m = true → aTh A m = true) (hB : ∀ j, B j = if 126 ≤ j ∧ j < 198 then kR A P (prX A (-1)) ((j - 126) % 6) ((j - 126) / 6) else N0 j)
    (he : ∀ j, N' j = if j = 4 then N0 4 + 1 else if j = 7 then 0 else if j = 1 then kT A P (prX A (-1)) 10 else if j = 8 then 1 else clF N0 B (prX A (-1)) (aLv A) 12 j) : NwAt N' (aClose A P) := by
  obtain ⟨⟨a1, a2, a3, a4⟩, ⟨b1, b2, b3, b4⟩, c, d, e, f⟩ := h
  have hm := hA.m
  have g : ∀ j, j < 10 → j ≠ 4 → j ≠ 7 → j ≠ 1 → j ≠ 8 → N' j = N0 j := fun j h0 h1 h2 h3 h4 => by
    rw [he, if_neg h1, if_neg h2, if_neg h3, if_neg h4]
    unfold clF
    rw [if_neg (by omega), if_neg (by omega), if_neg (by omega), if_neg (by omega), hB, if_neg (by omega)]
  have gg : ∀ j, 10 ≤ j → N' j = clF N0 B (prX A (-1)) (aLv A) 12 j := fun j h0 => by rw [he, if_neg (by omega), if_neg (by omega), if_neg (by omega), if_neg (by omega)]
  have prth : ∀ m, m < aM A → prX A (-1) m = aTh A m := fun m hmm => by
    rw [prX_m1 hm]; unfold aIs; rw [decide_eq_true hmm]; rfl
  refine ⟨⟨(g 0 (by omega) (by omega) (by omega) (by omega) (by omega)).trans a1, ?_, (g 2 (by omega) (by omega) (by omega) (by omega) (by omega)).trans a3, (g 3 (by omega) (by omega) (by omega) (by omega) (by omega)).trans a4⟩, ⟨?_, (g 5 (by omega) (by omega) (by omega) (by omega) (by omega)).trans b2, (g 6 (by omega) (by omega) (by omega) (by omega) (by omega)).trans b3, ?_⟩, fun m hmm => ⟨?_, ?_, ?_⟩, fun s hs a ha => absurd hs (Nat.not_lt_zero s), fun m hmm => ?_, fun m hmm q => ⟨?_, fun w hw => ?_⟩⟩
  · rw [he, if_neg (by decide), if_neg (by decide), if_pos rfl]; rfl
  · rw [he, if_pos rfl, b1]; exact lN_add _ 1
  · rw [he, if_neg (by decide), if_pos rfl]; rfl
  · have hmm : m < aM A := hmm
    rw [gg _ (by omega)]
    unfold clF
    rw [if_neg (by omega), if_neg (by omega), if_neg (by omega), if_pos ⟨by omega, by omega⟩, show 10 + m - 10 = m by omega]
    show _ = lB (if (prX A (-1) m && aLv A m) = true then false else aTh A m)
    by_cases q : (prX A (-1) m && aLv A m) = true
    · rw [if_pos q, if_pos q]; rfl
    · rw [if_neg q, if_neg q]; exact (c m hmm).1
  · have hmm : m < aM A := hmm
    rw [gg _ (by omega)]
    unfold clF
    rw [if_neg (by omega), if_neg (by omega), if_pos ⟨by omega, by omega⟩]
    show _ = lB (if (prX A (-1) m && aLv A m) = true then false else aLv A m)
    by_cases q : (prX A (-1) m && aLv A m) = true
    · rw [if_pos q]; rfl
    · rw [if_neg q]
      have hl : aLv A m = false := by
        cases ql : aLv A m with
        | false => rfl
        | true => exact absurd (by rw [prth m hmm, hLv m hmm ql, ql]; rfl) q
      rw [hl]; rfl
  · have hmm : m < aM A := hmm
    rw [gg _ (by omega)]
    unfold clF
    rw [if_neg (by omega), if_pos ⟨by omega, by omega⟩, show 34 + m - 34 = m by omega]
    show _ = lN (if (prX A (-1) m && !aLv A m) = true then aYs A m + 1 else aYs A m)
    by_cases q : (prX A (-1) m && !aLv A m) = true
    · rw [if_pos q, if_pos q, (c m hmm).2.2]; exact lN_add _ 1
    · rw [if_neg q, if_neg q]; exact (c m hmm).2.2
  · rw [gg _ (by omega)]
    unfold clF
    rw [if_pos ⟨by omega, by omega⟩, show 198 + m - 198 = m by omega]; rfl
  · rw [he, if_neg (by decide), if_neg (by decide), if_neg (by decide), if_pos rfl]
  · rw [gg _ (by omega)]
    unfold clF
    rw [if_neg (by omega), if_neg (by omega), if_neg (by omega), if_neg (by omega), hB, if_pos ⟨by omega, by omega⟩, show (126 + 6 * m + w - 126) % 6 = w by omega, show (126 + 6 * m + w - 126) / 6 = m by omega]; rfl
theorem wf_close {A : AS} {P : LwP} (h : wf A) (hy : aY A < 600) (hys : ∀ m, m < aM A → aYs A m < 600) : wf (aClose A P) := by
  obtain ⟨h1, h2, h3, h4, h5, h6, h7, h8, h9⟩ := h
  refine ⟨h1, h2, Nat.zero_le _, hy, h5, h6, fun m hm => ?_, h8, fun i hi => absurd hi (Nat.not_lt_zero i)⟩
  show (if (prX A (-1) m && !aLv A m) = true then aYs A m + 1 else aYs A m) ≤ 600
  have := hys m hm
  split <;> omega
set_option maxRecDepth 100000 in
theorem r_mIsThere2 {Λ : hc_L} {I : hc_I} {L : hc_J} {R : hc_R} (hY : LY Λ) (haw : I 217 35 = -1) {k : Nat} {b : Bool} (hk : k < 12) (ht : L 218 (10 + k) = lB b) : Run xX11_isThere [.ref 217, .int (nI k)] Λ I L R (Qr (some (.int (hc_b b))) Λ I L R) := by
  refine Run.of (by decide +kernel) (Nat.le_of_ble_eq_true rfl) ?_
  show LW _ _ _ [(0, .ref 217), (1, .int (nI k))] _ _ _ _ _ _
  refine LW_iloadn 1 dX11_isThere_0 rfl rfl ?_
  refine LW_aloadn 0 dX11_isThere_1 rfl rfl ?_
  refine gX11_35 dX11_isThere_2 flX11_53 (hY.lt (k := 217) (by decide)) (ly217 hY) ?_
  rw [show I 217 35 = -1 from haw]
  refine LW_icmp_eq (tgt := 26) dX11_isThere_5 (by decide) (fun c5 => absurd c5 (nI_ne (by omega))) (fun c5 => ?_)
  refine LW_aloadn 0 dX11_isThere_8 rfl rfl ?_
  refine gX11_0 dX11_isThere_9 flX11_9 (hY.lt (k := 217) (by decide)) (ly217 hY) (lf217_0 hY) ?_
  refine LW_bipush (v := 10) dX11_isThere_12 (by decide) ?_
  refine LW_iloadn 1 dX11_isThere_14 rfl rfl ?_
  refine LW_iadd dX11_isThere_15 ?_
  rw [show (10 + (nI k)) = nI (10 + k) from (nI_add 10 k)]
  refine LW_lald dX11_isThere_16 (hY.lt (k := 218) (by decide)) (ly218 hY) rfl (by omega) (Nat.le_of_ble_eq_true rfl) ?_
  rw [show L 218 (10 + k) = lB b from ht]
  refine LW_lconst (v := 1) dX11_isThere_17 (by decide) ?_
  refine LW_lcmp dX11_isThere_18 ?_
  refine LW_lif_ne (tgt := 26) dX11_isThere_19 (by decide) (fun c19 => ?_) (fun c19 => ?_)
  · refine LW_iconst (v := 0) dX11_isThere_26 (by decide) ?_
    refine LW_zret dX11_isThere_27 rfl (Nat.le_of_ble_eq_true rfl) (Nat.le_of_ble_eq_true rfl) (Or.inl rfl) ?_
    refine Qr.mk ?_
    first | (rw [(lB_1 _).mp (Classical.not_not.mp c19)]; rfl) | (rw [eq_false_of_ne_true (fun q => c19 ((lB_1 _).mpr q))]; rfl)
  · refine LW_iconst (v := 1) dX11_isThere_22 (by decide) ?_
    refine LW_goto (tgt := 27) dX11_isThere_23 (by decide) ?_
    refine LW_zret dX11_isThere_27 rfl (Nat.le_of_ble_eq_true rfl) (Nat.le_of_ble_eq_true rfl) (Or.inr rfl) ?_
    refine Qr.mk ?_
    first | (rw [(lB_1 _).mp (Classical.not_not.mp c19)]; rfl) | (rw [eq_false_of_ne_true (fun q => c19 ((lB_1 _).mpr q))]; rfl)
set_option maxRecDepth 100000 in
theorem mcl_loop {Λ : hc_L} {I I1 I2 : hc_I} {L L1 La : hc_J} {R : hc_R} {S : HS} {Lb : Nat → Int64} (hW : MW Λ I L S) (hkq : KQ (sA S) (sH S) (sC S) Λ I L R none Λ I1 L1 R) (hI : ∀ z, ¬ (228 ≤ z ∧ z < 238) → I2 z = I1 z) (hLa : ∀ z, ¬ (228 ≤ z ∧ z < 238) → z ≠ 218 → La z = L1 z) (hT : ∀ k, k < 11 → La 236 k = kT (sA S) (sP S) (prX (sA S) (-1)) k) (hmt : ¬ abMt (sA S) (aM (sA S)) = 0) (hy : aY (sA S) < 600) (hys : ∀ m, m < aM (sA S) → aYs (sA S) m < 600) (hLv : ∀ m, m < aM (sA S) → aLv (sA S) m = true → aTh (sA S) m = true) (hB : ∀ j, Lb j = if 126 ≤ j ∧ j < 198 then kR (sA S) (sP S) (prX (sA S) (-1)) ((j - 126) % 6) ((j - 126) / 6) else L 218 j) : ∀ i, i ≤ 12 → ∀ L2 : hc_J, (∀ z, z ≠ 218 → L2 z = La z) → (∀ j, L2 218 j = clF (L 218) Lb (prX (sA S) (-1)) (aLv (sA S)) i j) → LW xX11_close (0, 0) 50 [(0, .ref 217), (1, .int (nI i))] [] Λ I2 L2 R (MPost (some (.long (qClose (sA S) (sP S)))) (nClose S) Λ I L R) := by
  have hM := hW.m
  have hY := hM.y
  have hm12 := hM.w.m
  have hnM : ∀ (L2 : hc_J) i, i ≤ 12 → (∀ j, L2 218 j = clF (L 218) Lb (prX (sA S) (-1)) (aLv (sA S)) i j) → L2 218 5 = lN (aM (sA S)) := fun L2 i hi q2 => by
    rw [q2]
    unfold clF
    rw [if_neg (by omega), if_neg (by omega), if_neg (by omega), if_neg (by omega), hB, if_neg (by decide)]; exact hM.nM
  have haw : I2 217 35 = -1 := by rw [hI 217 (by decide), hkq.2.2.2.2.1 35 (by decide)]; exact hM.aw
  refine hc_down ?_ ?_
  · intro L2 q1 q2
    refine LW_iloadn 1 dX11_close_50 rfl rfl ?_
    refine LW_bipush (v := 12) dX11_close_51 (by decide) ?_
    refine LW_icmp_ge (tgt := 172) dX11_close_53 (by decide) (fun c53 => ?_) (fun c53 => absurd (by decide) c53)
    refine LW_aloadn 0 dX11_close_172 rfl rfl ?_
    refine gX11_0 dX11_close_173 flX11_9 (hY.lt (k := 217) (by decide)) (ly217 hY) (lf217_0 hY) ?_
    refine LW_bipush (v := 8) dX11_close_176 (by decide) ?_
    refine LW_lconst (v := 1) dX11_close_178 (by decide) ?_
    refine LW_last dX11_close_179 (hY.lt (k := 218) (by decide)) (ly218 hY) rfl (by decide) (Nat.le_of_ble_eq_true rfl) ?_
    generalize hL179 : hc_u L2 218 8 1 = L179
    refine LW_aloadn 0 dX11_close_180 rfl rfl ?_
    refine gX11_0 dX11_close_181 flX11_9 (hY.lt (k := 217) (by decide)) (ly217 hY) (lf217_0 hY) ?_
    refine LW_iconst (v := 1) dX11_close_184 (by decide) ?_
    refine LW_aloadn 0 dX11_close_185 rfl rfl ?_
    refine gX11_42 dX11_close_186 flX11_75 (hY.lt (k := 217) (by decide)) (ly217 hY) (lf217_42 hY) ?_
    refine LW_bipush (v := 10) dX11_close_189 (by decide) ?_
    refine LW_lald dX11_close_191 (hY.lt (k := 236) (by decide)) (ly236 hY) rfl (by decide) (Nat.le_of_ble_eq_true rfl) ?_
    rw [show L179 236 10 = kT (sA S) (sP S) (prX (sA S) (-1)) 10 from (by rw [← hL179, hc_u_row _ _ _ _ (by decide), q1 236 (by decide)]; exact hT 10 (by decide))]
    refine LW_last dX11_close_192 (hY.lt (k := 218) (by decide)) (ly218 hY) rfl (by decide) (Nat.le_of_ble_eq_true rfl) ?_
    generalize hL192 : hc_u L179 218 1 (kT (sA S) (sP S) (prX (sA S) (-1)) 10) = L192
    refine LW_aloadn 0 dX11_close_193 rfl rfl ?_
    refine gX11_0 dX11_close_194 flX11_9 (hY.lt (k := 217) (by decide)) (ly217 hY) (lf217_0 hY) ?_
    refine LW_bipush (v := 7) dX11_close_197 (by decide) ?_
    refine LW_lconst (v := 0) dX11_close_199 (by decide) ?_
    refine LW_last dX11_close_200 (hY.lt (k := 218) (by decide)) (ly218 hY) rfl (by decide) (Nat.le_of_ble_eq_true rfl) ?_
    generalize hL200 : hc_u L192 218 7 0 = L200
    refine LW_aloadn 0 dX11_close_201 rfl rfl ?_
    refine gX11_0 dX11_close_202 flX11_9 (hY.lt (k := 217) (by decide)) (ly217 hY) (lf217_0 hY) ?_
    refine LW_iconst (v := 4) dX11_close_205 (by decide) ?_
    refine LW_dup2 dX11_close_206 rfl rfl ?_
    refine LW_lald dX11_close_207 (hY.lt (k := 218) (by decide)) (ly218 hY) rfl (by decide) (Nat.le_of_ble_eq_true rfl) ?_
    rw [show L200 218 4 = L 218 4 from (by rw [← hL200, hc_u_at, if_neg (by decide), ← hL192, hc_u_at, if_neg (by decide), ← hL179, hc_u_at, if_neg (by decide), q2]; unfold clF; rw [if_neg (by omega), if_neg (by omega), if_neg (by omega), if_neg (by omega), hB, if_neg (by decide)])]
    refine LW_lconst (v := 1) dX11_close_208 (by decide) ?_
    refine LW_ladd dX11_close_209 ?_
    refine LW_last dX11_close_210 (hY.lt (k := 218) (by decide)) (ly218 hY) rfl (by decide) (Nat.le_of_ble_eq_true rfl) ?_
    generalize hL210 : hc_u L200 218 4 ((L 218 4) + 1) = L210
    refine LW_aloadn 0 dX11_close_211 rfl rfl ?_
    refine gX11_42 dX11_close_212 flX11_75 (hY.lt (k := 217) (by decide)) (ly217 hY) (lf217_42 hY) ?_
    refine LW_iconst (v := 0) dX11_close_215 (by decide) ?_
    refine LW_lald dX11_close_216 (hY.lt (k := 236) (by decide)) (ly236 hY) rfl (by decide) (Nat.le_of_ble_eq_true rfl) ?_
    rw [show L210 236 0 = kT (sA S) (sP S) (prX (sA S) (-1)) 0 from (by rw [← hL210, hc_u_row _ _ _ _ (by decide), ← hL200, hc_u_row _ _ _ _ (by decide), ← hL192, hc_u_row _ _ _ _ (by decide), ← hL179, hc_u_row _ _ _ _ (by decide), q1 236 (by decide)]; exact hT 0 (by decide))]
    refine LW_lret dX11_close_217 rfl (Nat.le_of_ble_eq_true rfl) (Nat.le_of_ble_eq_true rfl) ?_
    have e : nClose S = sPut S (aClose (sA S) (sP S)) := if_neg hmt
    rw [e]
    refine MPost.put hW hkq hI (fun z z1 z8 => ?_) (hM.n.end hM.w hLv hB (fun j => ?_)) (wf_close hM.w hy hys) ⟨rfl, rfl, rfl, rfl, rfl, rfl, rfl, rfl, rfl⟩ (by unfold qClose; rw [if_neg hmt])
    · rw [← hL210, hc_u_row _ _ _ _ z8, ← hL200, hc_u_row _ _ _ _ z8, ← hL192, hc_u_row _ _ _ _ z8, ← hL179, hc_u_row _ _ _ _ z8, q1 z z8]; exact hLa z z1 z8
    · rw [← hL210, hc_u_at, ← hL200, hc_u_at, ← hL192, hc_u_at, ← hL179, hc_u_at, q2 j]
  · intro i hi ih L2 q1 q2
    have v10 : L2 218 (10 + i) = L 218 (10 + i) := (q2 _).trans ((clF_own (by omega) hi).trans (by rw [hB, if_neg (by omega)]))
    have v22 : L2 218 (22 + i) = L 218 (22 + i) := (q2 _).trans ((clF_own (by omega) hi).trans (by rw [hB, if_neg (by omega)]))
    have v34 : L2 218 (34 + i) = L 218 (34 + i) := (q2 _).trans ((clF_own (by omega) hi).trans (by rw [hB, if_neg (by omega)]))
    refine LW_iloadn 1 dX11_close_50 rfl rfl ?_
    refine LW_bipush (v := 12) dX11_close_51 (by decide) ?_
    refine LW_icmp_ge (tgt := 172) dX11_close_53 (by decide) (fun c53 => absurd c53 (hc_nle (a := 12) (b := i) (by decide) (by omega) hi)) (fun c53 => ?_)
    refine LW_iloadn 1 dX11_close_56 rfl rfl ?_
    refine LW_i2l dX11_close_57 ?_
    rw [show (nI i).toInt64 = lN i from (nI_l (by omega))]
    refine LW_aloadn 0 dX11_close_58 rfl rfl ?_
    refine gX11_0 dX11_close_59 flX11_9 (hY.lt (k := 217) (by decide)) (ly217 hY) (lf217_0 hY) ?_
    refine LW_iconst (v := 5) dX11_close_62 (by decide) ?_
    refine LW_lald dX11_close_63 (hY.lt (k := 218) (by decide)) (ly218 hY) rfl (by decide) (Nat.le_of_ble_eq_true rfl) ?_
    rw [show L2 218 5 = lN (aM (sA S)) from (hnM L2 i (Nat.le_of_lt hi) q2)]
    refine LW_lcmp dX11_close_64 ?_
    refine LW_lif_ge (tgt := 80) dX11_close_65 (by decide) (fun c65 => ?_) (fun c65 => ?_)
    · have hp : prX (sA S) (-1) i = false := prX_no (Nat.le_of_not_lt (fun z => absurd ((lN_le (by omega) (by omega)).mp c65) (by omega)))
      refine LW_iconst (v := 0) dX11_close_80 (by decide) ?_
      refine LW_istoren (ls' := [(0, .ref 217), (1, .int (nI i)), (2, .int 0)]) dX11_close_81 rfl (by decide) rfl ?_
      refine LW_aloadn 0 dX11_close_82 rfl rfl ?_
      refine gX11_0 dX11_close_83 flX11_9 (hY.lt (k := 217) (by decide)) (ly217 hY) (lf217_0 hY) ?_
      refine LW_sipush (v := 198) dX11_close_86 (by decide) ?_
      refine LW_iloadn 1 dX11_close_89 rfl rfl ?_
      refine LW_iadd dX11_close_90 ?_
      rw [show (198 + (nI i)) = nI (198 + i) from (nI_add 198 _)]
      refine LW_iloadn 2 dX11_close_91 rfl rfl ?_
      refine LW_callS (As := [.int 0]) (st := [.int (nI (198 + i)), .ref 218]) (r_one false) YX11_one rfl dX11_close_92 mlX11_391 (by decide) ⟨Nat.le_of_ble_eq_true rfl, Nat.le_of_ble_eq_true rfl⟩ (Nat.le_of_ble_eq_true rfl) rfl (fun r92 Λc92 Ic92 Lc92 Rc92 hq92 => ?_)
      obtain ⟨rfl, rfl, rfl, rfl, rfl⟩ := hq92
      refine LW_i2l dX11_close_95 ?_
      rw [show (hc_b false).toInt64 = 0 from rfl]
      refine LW_last dX11_close_96 (hY.lt (k := 218) (by decide)) (ly218 hY) rfl (by omega) (Nat.le_of_ble_eq_true rfl) ?_
      generalize hL96 : hc_u L2 218 (198 + i) 0 = L96
      refine LW_iloadn 2 dX11_close_97 rfl rfl ?_
      refine LW_if_eq (tgt := 128) dX11_close_98 (by decide) (fun c98 => ?_) (fun c98 => absurd rfl c98)
      refine LW_iloadn 2 dX11_close_128 rfl rfl ?_
      refine LW_if_eq (tgt := 156) dX11_close_129 (by decide) (fun c129 => ?_) (fun c129 => absurd rfl c129)
      refine LW_aloadn 0 dX11_close_156 rfl rfl ?_
      refine gX11_0 dX11_close_157 flX11_9 (hY.lt (k := 217) (by decide)) (ly217 hY) (lf217_0 hY) ?_
      refine LW_bipush (v := 22) dX11_close_160 (by decide) ?_
      refine LW_iloadn 1 dX11_close_162 rfl rfl ?_
      refine LW_iadd dX11_close_163 ?_
      rw [show (22 + (nI i)) = nI (22 + i) from (nI_add 22 _)]
      refine LW_lconst (v := 0) dX11_close_164 (by decide) ?_
      refine LW_last dX11_close_165 (hY.lt (k := 218) (by decide)) (ly218 hY) rfl (by omega) (Nat.le_of_ble_eq_true rfl) ?_
      generalize hL165 : hc_u L96 218 (22 + i) 0 = L165
      refine LW_iinc (n := 1) (v := nI (i + 1)) (ls' := [(0, .ref 217), (1, .int (nI (i + 1))), (2, .int 0)]) dX11_close_166 rfl (hc_inc _) (by decide) rfl ?_
      refine LW_goto (tgt := 50) dX11_close_169 (by decide) ?_
      refine LW_ls (ls' := [(0, .ref 217), (1, .int (nI (i + 1)))]) [0, 1] rfl ?_
      exact ih L165 (fun z z1 => by rw [← hL165, hc_u_row _ _ _ _ z1, ← hL96, hc_u_row _ _ _ _ z1]; exact q1 z z1) (fun j => by
        rw [clF_s hi, hp, ← hL165, hc_u_at, ← hL96, hc_u_at]
        by_cases c198 : j = 198 + i
        · subst c198
          rw [if_neg (by omega), if_pos rfl, if_pos rfl]; rfl
        by_cases c34 : j = 34 + i
        · subst c34
          rw [if_neg (by omega), if_neg (by omega), if_neg (by omega), if_pos rfl, v34]; rfl
        by_cases c22 : j = 22 + i
        · subst c22
          rw [if_pos rfl, if_neg (by omega), if_neg (by omega), if_pos rfl]
        by_cases c10 : j = 10 + i
        · subst c10
          rw [if_neg (by omega), if_neg (by omega), if_neg (by omega), if_neg (by omega), if_neg (by omega), if_pos rfl, v10]; rfl
        rw [if_neg c22, if_neg c198, if_neg c198, if_neg c34, if_neg c22, if_neg c10]
        exact q2 j)
    · have hk : i < aM (sA S) := Nat.lt_of_not_le (fun z => c65 ((lN_le (by omega) (by omega)).mpr z))
      have hpt : prX (sA S) (-1) i = aTh (sA S) i := by rw [prX_m1 hm12]; unfold aIs; rw [decide_eq_true hk]; rfl
      refine LW_aloadn 0 dX11_close_68 rfl rfl ?_
      refine LW_iloadn 1 dX11_close_69 rfl rfl ?_
      refine LW_callV (As := [.int (nI i)]) (b := 217) (st := []) (ci := 11) (r := (RX11, TX11, 44)) (r_mIsThere2 hY haw (k := i) (b := aTh (sA S) i) hi (by rw [v10]; exact hM.th hk)) YX11_isThere rfl dX11_close_70 mlX11_331 (hY.lt (k := 217) (by decide)) (ly217 hY) ⟨rfl, rfl⟩ (by decide) ⟨Nat.le_of_ble_eq_true rfl, Nat.le_of_ble_eq_true rfl⟩ (Nat.le_of_ble_eq_true rfl) rfl (fun r70 Λc70 Ic70 Lc70 Rc70 hq70 => ?_)
      obtain ⟨rfl, rfl, rfl, rfl, rfl⟩ := hq70
      refine LW_bif_eq (tgt := 80) dX11_close_73 (by decide) (fun c73 => ?_) (fun c73 => ?_)
      · have hp : prX (sA S) (-1) i = false := hpt.trans c73
        refine LW_iconst (v := 0) dX11_close_80 (by decide) ?_
        refine LW_istoren (ls' := [(0, .ref 217), (1, .int (nI i)), (2, .int 0)]) dX11_close_81 rfl (by decide) rfl ?_
        refine LW_aloadn 0 dX11_close_82 rfl rfl ?_
        refine gX11_0 dX11_close_83 flX11_9 (hY.lt (k := 217) (by decide)) (ly217 hY) (lf217_0 hY) ?_
        refine LW_sipush (v := 198) dX11_close_86 (by decide) ?_
        refine LW_iloadn 1 dX11_close_89 rfl rfl ?_
        refine LW_iadd dX11_close_90 ?_
        rw [show (198 + (nI i)) = nI (198 + i) from (nI_add 198 _)]
        refine LW_iloadn 2 dX11_close_91 rfl rfl ?_
        refine LW_callS (As := [.int 0]) (st := [.int (nI (198 + i)), .ref 218]) (r_one false) YX11_one rfl dX11_close_92 mlX11_391 (by decide) ⟨Nat.le_of_ble_eq_true rfl, Nat.le_of_ble_eq_true rfl⟩ (Nat.le_of_ble_eq_true rfl) rfl (fun r92 Λc92 Ic92 Lc92 Rc92 hq92 => ?_)
        obtain ⟨rfl, rfl, rfl, rfl, rfl⟩ := hq92
        refine LW_i2l dX11_close_95 ?_
        rw [show (hc_b false).toInt64 = 0 from rfl]
        refine LW_last dX11_close_96 (hY.lt (k := 218) (by decide)) (ly218 hY) rfl (by omega) (Nat.le_of_ble_eq_true rfl) ?_
        generalize hL96 : hc_u L2 218 (198 + i) 0 = L96
        refine LW_iloadn 2 dX11_close_97 rfl rfl ?_
        refine LW_if_eq (tgt := 128) dX11_close_98 (by decide) (fun c98 => ?_) (fun c98 => absurd rfl c98)
        refine LW_iloadn 2 dX11_close_128 rfl rfl ?_
        refine LW_if_eq (tgt := 156) dX11_close_129 (by decide) (fun c129 => ?_) (fun c129 => absurd rfl c129)
        refine LW_aloadn 0 dX11_close_156 rfl rfl ?_
        refine gX11_0 dX11_close_157 flX11_9 (hY.lt (k := 217) (by decide)) (ly217 hY) (lf217_0 hY) ?_
        refine LW_bipush (v := 22) dX11_close_160 (by decide) ?_
        refine LW_iloadn 1 dX11_close_162 rfl rfl ?_
        refine LW_iadd dX11_close_163 ?_
        rw [show (22 + (nI i)) = nI (22 + i) from (nI_add 22 _)]
        refine LW_lconst (v := 0) dX11_close_164 (by decide) ?_
        refine LW_last dX11_close_165 (hY.lt (k := 218) (by decide)) (ly218 hY) rfl (by omega) (Nat.le_of_ble_eq_true rfl) ?_
        generalize hL165 : hc_u L96 218 (22 + i) 0 = L165
        refine LW_iinc (n := 1) (v := nI (i + 1)) (ls' := [(0, .ref 217), (1, .int (nI (i + 1))), (2, .int 0)]) dX11_close_166 rfl (hc_inc _) (by decide) rfl ?_
        refine LW_goto (tgt := 50) dX11_close_169 (by decide) ?_
        refine LW_ls (ls' := [(0, .ref 217), (1, .int (nI (i + 1)))]) [0, 1] rfl ?_
        exact ih L165 (fun z z1 => by rw [← hL165, hc_u_row _ _ _ _ z1, ← hL96, hc_u_row _ _ _ _ z1]; exact q1 z z1) (fun j => by
          rw [clF_s hi, hp, ← hL165, hc_u_at, ← hL96, hc_u_at]
          by_cases c198 : j = 198 + i
          · subst c198
            rw [if_neg (by omega), if_pos rfl, if_pos rfl]; rfl
          by_cases c34 : j = 34 + i
          · subst c34
            rw [if_neg (by omega), if_neg (by omega), if_neg (by omega), if_pos rfl, v34]; rfl
          by_cases c22 : j = 22 + i
          · subst c22
            rw [if_pos rfl, if_neg (by omega), if_neg (by omega), if_pos rfl]
          by_cases c10 : j = 10 + i
          · subst c10
            rw [if_neg (by omega), if_neg (by omega), if_neg (by omega), if_neg (by omega), if_neg (by omega), if_pos rfl, v10]; rfl
          rw [if_neg c22, if_neg c198, if_neg c198, if_neg c34, if_neg c22, if_neg c10]
          exact q2 j)
      · have hp : prX (sA S) (-1) i = true := hpt.trans c73
        refine LW_iconst (v := 1) dX11_close_76 (by decide) ?_
        refine LW_goto (tgt := 81) dX11_close_77 (by decide) ?_
        refine LW_istoren (ls' := [(0, .ref 217), (1, .int (nI i)), (2, .int 1)]) dX11_close_81 rfl (by decide) rfl ?_
        refine LW_aloadn 0 dX11_close_82 rfl rfl ?_
        refine gX11_0 dX11_close_83 flX11_9 (hY.lt (k := 217) (by decide)) (ly217 hY) (lf217_0 hY) ?_
        refine LW_sipush (v := 198) dX11_close_86 (by decide) ?_
        refine LW_iloadn 1 dX11_close_89 rfl rfl ?_
        refine LW_iadd dX11_close_90 ?_
        rw [show (198 + (nI i)) = nI (198 + i) from (nI_add 198 _)]
        refine LW_iloadn 2 dX11_close_91 rfl rfl ?_
        refine LW_callS (As := [.int 1]) (st := [.int (nI (198 + i)), .ref 218]) (r_one true) YX11_one rfl dX11_close_92 mlX11_391 (by decide) ⟨Nat.le_of_ble_eq_true rfl, Nat.le_of_ble_eq_true rfl⟩ (Nat.le_of_ble_eq_true rfl) rfl (fun r92 Λc92 Ic92 Lc92 Rc92 hq92 => ?_)
        obtain ⟨rfl, rfl, rfl, rfl, rfl⟩ := hq92
        refine LW_i2l dX11_close_95 ?_
        rw [show (hc_b true).toInt64 = 1 from rfl]
        refine LW_last dX11_close_96 (hY.lt (k := 218) (by decide)) (ly218 hY) rfl (by omega) (Nat.le_of_ble_eq_true rfl) ?_
        generalize hL96 : hc_u L2 218 (198 + i) 1 = L96
        refine LW_iloadn 2 dX11_close_97 rfl rfl ?_
        refine LW_if_eq (tgt := 128) dX11_close_98 (by decide) (fun c98 => absurd c98 (by decide)) (fun c98 => ?_)
        cases hlv : aLv (sA S) i with
        | true =>
          refine LW_aloadn 0 dX11_close_101 rfl rfl ?_
          refine gX11_0 dX11_close_102 flX11_9 (hY.lt (k := 217) (by decide)) (ly217 hY) (lf217_0 hY) ?_
          refine LW_bipush (v := 22) dX11_close_105 (by decide) ?_
          refine LW_iloadn 1 dX11_close_107 rfl rfl ?_
          refine LW_iadd dX11_close_108 ?_
          rw [show (22 + (nI i)) = nI (22 + i) from (nI_add 22 _)]
          refine LW_lald dX11_close_109 (hY.lt (k := 218) (by decide)) (ly218 hY) rfl (by omega) (Nat.le_of_ble_eq_true rfl) ?_
          rw [show L96 218 (22 + i) = lB true from (by rw [← hL96, hc_u_at, if_neg (by omega), v22, ← hlv]; exact hM.lv hk)]
          refine LW_lconst (v := 0) dX11_close_110 (by decide) ?_
          refine LW_lcmp dX11_close_111 ?_
          refine LW_lif_ne (tgt := 128) dX11_close_112 (by decide) (fun c112 => ?_) (fun c112 => absurd (by decide) c112)
          refine LW_iloadn 2 dX11_close_128 rfl rfl ?_
          refine LW_if_eq (tgt := 156) dX11_close_129 (by decide) (fun c129 => absurd c129 (by decide)) (fun c129 => ?_)
          refine LW_aloadn 0 dX11_close_132 rfl rfl ?_
          refine gX11_0 dX11_close_133 flX11_9 (hY.lt (k := 217) (by decide)) (ly217 hY) (lf217_0 hY) ?_
          refine LW_bipush (v := 22) dX11_close_136 (by decide) ?_
          refine LW_iloadn 1 dX11_close_138 rfl rfl ?_
          refine LW_iadd dX11_close_139 ?_
          rw [show (22 + (nI i)) = nI (22 + i) from (nI_add 22 _)]
          refine LW_lald dX11_close_140 (hY.lt (k := 218) (by decide)) (ly218 hY) rfl (by omega) (Nat.le_of_ble_eq_true rfl) ?_
          rw [show L96 218 (22 + i) = lB true from (by rw [← hL96, hc_u_at, if_neg (by omega), v22, ← hlv]; exact hM.lv hk)]
          refine LW_lconst (v := 1) dX11_close_141 (by decide) ?_
          refine LW_lcmp dX11_close_142 ?_
          refine LW_lif_ne (tgt := 156) dX11_close_143 (by decide) (fun c143 => absurd c143 (fun z => z rfl)) (fun c143 => ?_)
          refine LW_aloadn 0 dX11_close_146 rfl rfl ?_
          refine gX11_0 dX11_close_147 flX11_9 (hY.lt (k := 217) (by decide)) (ly217 hY) (lf217_0 hY) ?_
          refine LW_bipush (v := 10) dX11_close_150 (by decide) ?_
          refine LW_iloadn 1 dX11_close_152 rfl rfl ?_
          refine LW_iadd dX11_close_153 ?_
          rw [show (10 + (nI i)) = nI (10 + i) from (nI_add 10 _)]
          refine LW_lconst (v := 0) dX11_close_154 (by decide) ?_
          refine LW_last dX11_close_155 (hY.lt (k := 218) (by decide)) (ly218 hY) rfl (by omega) (Nat.le_of_ble_eq_true rfl) ?_
          generalize hL155 : hc_u L96 218 (10 + i) 0 = L155
          refine LW_aloadn 0 dX11_close_156 rfl rfl ?_
          refine gX11_0 dX11_close_157 flX11_9 (hY.lt (k := 217) (by decide)) (ly217 hY) (lf217_0 hY) ?_
          refine LW_bipush (v := 22) dX11_close_160 (by decide) ?_
          refine LW_iloadn 1 dX11_close_162 rfl rfl ?_
          refine LW_iadd dX11_close_163 ?_
          rw [show (22 + (nI i)) = nI (22 + i) from (nI_add 22 _)]
          refine LW_lconst (v := 0) dX11_close_164 (by decide) ?_
          refine LW_last dX11_close_165 (hY.lt (k := 218) (by decide)) (ly218 hY) rfl (by omega) (Nat.le_of_ble_eq_true rfl) ?_
          generalize hL165 : hc_u L155 218 (22 + i) 0 = L165
          refine LW_iinc (n := 1) (v := nI (i + 1)) (ls' := [(0, .ref 217), (1, .int (nI (i + 1))), (2, .int 1)]) dX11_close_166 rfl (hc_inc _) (by decide) rfl ?_
          refine LW_goto (tgt := 50) dX11_close_169 (by decide) ?_
          refine LW_ls (ls' := [(0, .ref 217), (1, .int (nI (i + 1)))]) [0, 1] rfl ?_
          exact ih L165 (fun z z1 => by rw [← hL165, hc_u_row _ _ _ _ z1, ← hL155, hc_u_row _ _ _ _ z1, ← hL96, hc_u_row _ _ _ _ z1]; exact q1 z z1) (fun j => by
            rw [clF_s hi, hp, hlv, ← hL165, hc_u_at, ← hL155, hc_u_at, ← hL96, hc_u_at]
            by_cases c198 : j = 198 + i
            · subst c198
              rw [if_neg (by omega), if_neg (by omega), if_pos rfl, if_pos rfl]; rfl
            by_cases c34 : j = 34 + i
            · subst c34
              rw [if_neg (by omega), if_neg (by omega), if_neg (by omega), if_neg (by omega), if_pos rfl, v34]; rfl
            by_cases c22 : j = 22 + i
            · subst c22
              rw [if_pos rfl, if_neg (by omega), if_neg (by omega), if_pos rfl]
            by_cases c10 : j = 10 + i
            · subst c10
              rw [if_neg (by omega), if_pos rfl, if_neg (by omega), if_neg (by omega), if_neg (by omega), if_pos rfl]; rfl
            rw [if_neg c22, if_neg c10, if_neg c198, if_neg c198, if_neg c34, if_neg c22, if_neg c10]
            exact q2 j)
        | false =>
          refine LW_aloadn 0 dX11_close_101 rfl rfl ?_
          refine gX11_0 dX11_close_102 flX11_9 (hY.lt (k := 217) (by decide)) (ly217 hY) (lf217_0 hY) ?_
          refine LW_bipush (v := 22) dX11_close_105 (by decide) ?_
          refine LW_iloadn 1 dX11_close_107 rfl rfl ?_
          refine LW_iadd dX11_close_108 ?_
          rw [show (22 + (nI i)) = nI (22 + i) from (nI_add 22 _)]
          refine LW_lald dX11_close_109 (hY.lt (k := 218) (by decide)) (ly218 hY) rfl (by omega) (Nat.le_of_ble_eq_true rfl) ?_
          rw [show L96 218 (22 + i) = lB false from (by rw [← hL96, hc_u_at, if_neg (by omega), v22, ← hlv]; exact hM.lv hk)]
          refine LW_lconst (v := 0) dX11_close_110 (by decide) ?_
          refine LW_lcmp dX11_close_111 ?_
          refine LW_lif_ne (tgt := 128) dX11_close_112 (by decide) (fun c112 => absurd c112 (fun z => z rfl)) (fun c112 => ?_)
          refine LW_aloadn 0 dX11_close_115 rfl rfl ?_
          refine gX11_0 dX11_close_116 flX11_9 (hY.lt (k := 217) (by decide)) (ly217 hY) (lf217_0 hY) ?_
          refine LW_bipush (v := 34) dX11_close_119 (by decide) ?_
          refine LW_iloadn 1 dX11_close_121 rfl rfl ?_
          refine LW_iadd dX11_close_122 ?_
          rw [show (34 + (nI i)) = nI (34 + i) from (nI_add 34 _)]
          refine LW_dup2 dX11_close_123 rfl rfl ?_
          refine LW_lald dX11_close_124 (hY.lt (k := 218) (by decide)) (ly218 hY) rfl (by omega) (Nat.le_of_ble_eq_true rfl) ?_
          rw [show L96 218 (34 + i) = L 218 (34 + i) from (by rw [← hL96, hc_u_at, if_neg (by omega), v34])]
          refine LW_lconst (v := 1) dX11_close_125 (by decide) ?_
          refine LW_ladd dX11_close_126 ?_
          refine LW_last dX11_close_127 (hY.lt (k := 218) (by decide)) (ly218 hY) rfl (by omega) (Nat.le_of_ble_eq_true rfl) ?_
          generalize hL127 : hc_u L96 218 (34 + i) ((L 218 (34 + i)) + 1) = L127
          refine LW_iloadn 2 dX11_close_128 rfl rfl ?_
          refine LW_if_eq (tgt := 156) dX11_close_129 (by decide) (fun c129 => absurd c129 (by decide)) (fun c129 => ?_)
          refine LW_aloadn 0 dX11_close_132 rfl rfl ?_
          refine gX11_0 dX11_close_133 flX11_9 (hY.lt (k := 217) (by decide)) (ly217 hY) (lf217_0 hY) ?_
          refine LW_bipush (v := 22) dX11_close_136 (by decide) ?_
          refine LW_iloadn 1 dX11_close_138 rfl rfl ?_
          refine LW_iadd dX11_close_139 ?_
          rw [show (22 + (nI i)) = nI (22 + i) from (nI_add 22 _)]
          refine LW_lald dX11_close_140 (hY.lt (k := 218) (by decide)) (ly218 hY) rfl (by omega) (Nat.le_of_ble_eq_true rfl) ?_
          rw [show L127 218 (22 + i) = lB false from (by rw [← hL127, hc_u_at, if_neg (by omega), ← hL96, hc_u_at, if_neg (by omega), v22, ← hlv]; exact hM.lv hk)]
          refine LW_lconst (v := 1) dX11_close_141 (by decide) ?_
          refine LW_lcmp dX11_close_142 ?_
          refine LW_lif_ne (tgt := 156) dX11_close_143 (by decide) (fun c143 => ?_) (fun c143 => absurd (by decide) c143)
          refine LW_aloadn 0 dX11_close_156 rfl rfl ?_
          refine gX11_0 dX11_close_157 flX11_9 (hY.lt (k := 217) (by decide)) (ly217 hY) (lf217_0 hY) ?_
          refine LW_bipush (v := 22) dX11_close_160 (by decide) ?_
          refine LW_iloadn 1 dX11_close_162 rfl rfl ?_
          refine LW_iadd dX11_close_163 ?_
          rw [show (22 + (nI i)) = nI (22 + i) from (nI_add 22 _)]
          refine LW_lconst (v := 0) dX11_close_164 (by decide) ?_
          refine LW_last dX11_close_165 (hY.lt (k := 218) (by decide)) (ly218 hY) rfl (by omega) (Nat.le_of_ble_eq_true rfl) ?_
          generalize hL165 : hc_u L127 218 (22 + i) 0 = L165
          refine LW_iinc (n := 1) (v := nI (i + 1)) (ls' := [(0, .ref 217), (1, .int (nI (i + 1))), (2, .int 1)]) dX11_close_166 rfl (hc_inc _) (by decide) rfl ?_
          refine LW_goto (tgt := 50) dX11_close_169 (by decide) ?_
          refine LW_ls (ls' := [(0, .ref 217), (1, .int (nI (i + 1)))]) [0, 1] rfl ?_
          exact ih L165 (fun z z1 => by rw [← hL165, hc_u_row _ _ _ _ z1, ← hL127, hc_u_row _ _ _ _ z1, ← hL96, hc_u_row _ _ _ _ z1]; exact q1 z z1) (fun j => by
            rw [clF_s hi, hp, hlv, ← hL165, hc_u_at, ← hL127, hc_u_at, ← hL96, hc_u_at]
            by_cases c198 : j = 198 + i
            · subst c198
              rw [if_neg (by omega), if_neg (by omega), if_pos rfl, if_pos rfl]; rfl
            by_cases c34 : j = 34 + i
            · subst c34
              rw [if_neg (by omega), if_pos rfl, if_neg (by omega), if_pos rfl]; rfl
            by_cases c22 : j = 22 + i
            · subst c22
              rw [if_pos rfl, if_neg (by omega), if_neg (by omega), if_pos rfl]
            by_cases c10 : j = 10 + i
            · subst c10
              rw [if_neg (by omega), if_neg (by omega), if_neg (by omega), if_neg (by omega), if_neg (by omega), if_neg (by omega), if_pos rfl, v10]; rfl
            rw [if_neg c22, if_neg c34, if_neg c198, if_neg c198, if_neg c34, if_neg c22, if_neg c10]
            exact q2 j)
set_option maxRecDepth 100000 in
theorem m_close {Λ : hc_L} {I : hc_I} {L : hc_J} {R : hc_R} {S : HS} (hW : MW Λ I L S) (hK : ∀ k, k < sC S → wf (sH S k)) (hB : RB (sA S)) (hy : aY (sA S) < 600) (hys : ∀ m, m < aM (sA S) → aYs (sA S) m < 600) (hLv : ∀ m, m < aM (sA S) → aLv (sA S) m = true → aTh (sA S) m = true) : Run xX11_close [.ref 217] Λ I L R (MPost (some (.long (qClose (sA S) (sP S)))) (nClose S) Λ I L R) := by
  refine Run.of (by decide +kernel) (Nat.le_of_ble_eq_true rfl) ?_
  show LW _ _ _ [(0, .ref 217)] _ _ _ _ _ _
  have hM := hW.m
  have hP := hW.l
  have hY := hM.y
  refine LW_aloadn 0 dX11_close_0 rfl rfl ?_
  refine LW_callV (As := []) (b := 217) (st := []) (ci := 11) (r := (RX11, TX11, 44)) (r_mMembersThere hM) YX11_membersThere rfl dX11_close_1 mlX11_429 (hY.lt (k := 217) (by decide)) (ly217 hY) ⟨rfl, rfl⟩ (by decide) ⟨Nat.le_of_ble_eq_true rfl, Nat.le_of_ble_eq_true rfl⟩ (Nat.le_of_ble_eq_true rfl) rfl (fun r1 Λc1 Ic1 Lc1 Rc1 hq1 => ?_)
  rw [mMt_eq hM.w] at hq1
  obtain ⟨rfl, rfl, rfl, rfl, rfl⟩ := hq1
  refine LW_if_ne (tgt := 11) dX11_close_4 (by decide) (fun c4 => ?_) (fun c4 => ?_)
  · refine LW_aloadn 0 dX11_close_11 rfl rfl ?_
    refine LW_callV (As := []) (b := 217) (st := []) (ci := 11) (r := (RX11, TX11, 44)) (r_keeps hY hW.c8 hW.c hM.n hM.w hW.2.2.2.2.1.2.2 hK) YX11_keeps rfl dX11_close_12 mlX11_319 (hY.lt (k := 217) (by decide)) (ly217 hY) ⟨rfl, rfl⟩ (by decide) ⟨Nat.le_of_ble_eq_true rfl, Nat.le_of_ble_eq_true rfl⟩ (Nat.le_of_ble_eq_true rfl) rfl (fun r12 Λc12 Ic12 Lc12 Rc12 hq12 => ?_)
    obtain ⟨rfl, rfl, rfl, hI12, hJ12, hL12, hP12, hN12⟩ := hq12
    have hkq : KQ (sA S) (sH S) (sC S) Λ I L R none Λ Ic12 Lc12 R := ⟨rfl, rfl, rfl, hI12, hJ12, hL12, hP12, hN12⟩
    have hM2 : MC Λ Ic12 Lc12 (sA S) (-1) := hM.kp (hL12 218 (by decide)) (hI12 221 (by decide)) (hI12 222 (by decide)) (hI12 223 (by decide)) (hJ12 35 (by decide))
    have hP2 : ML Ic12 Lc12 (sP S) := hP.kp (hJ12 10 (by decide)) (hI12 226 (by decide)) (hL12 225 (by decide))
    have hR2 : MR Ic12 (sA S) := by
      unfold MR
      rw [hI12 224 (by decide)]
      exact hW.2.2.1
    refine LW_aloadn 0 dX11_close_15 rfl rfl ?_
    refine LW_callV (As := []) (b := 217) (st := []) (ci := 11) (r := (RX11, TX11, 44)) (r_reckons hM2 hP2 hR2 hB) YX11_reckons rfl dX11_close_16 mlX11_432 (hY.lt (k := 217) (by decide)) (ly217 hY) ⟨rfl, rfl⟩ (by decide) ⟨Nat.le_of_ble_eq_true rfl, Nat.le_of_ble_eq_true rfl⟩ (Nat.le_of_ble_eq_true rfl) rfl (fun r16 Λc16 Ic16 Lc16 Rc16 hq16 => ?_)
    obtain ⟨rfl, rfl, hI16, hL16, hR16, hG16, hT16, hA16⟩ := hq16
    obtain rfl : R = Rc16 := hR16
    have e218 : Lc16 218 = L 218 := by rw [hL16 218 (by unfold rkJ; decide), hL12 218 (by decide)]
    refine LW_iconst (v := 0) dX11_close_19 (by decide) ?_
    refine LW_istoren (ls' := [(0, .ref 217), (1, .int 0)]) dX11_close_20 rfl (by decide) rfl ?_
    have loop1 : ∀ i, i ≤ 72 → ∀ L2 : hc_J, (∀ z, z ≠ 218 → L2 z = Lc16 z) → (∀ j, L2 218 j = if 126 ≤ j ∧ j < 126 + i then kR (sA S) (sP S) (prX (sA S) (-1)) ((j - 126) % 6) ((j - 126) / 6) else L 218 j) → LW xX11_close (0, 0) 21 [(0, .ref 217), (1, .int (nI i))] [] Λ Ic16 L2 R (MPost (some (.long (qClose (sA S) (sP S)))) (nClose S) Λ I L R) := by
      refine hc_down ?_ ?_
      · intro L2 q1 q2
        refine LW_iloadn 1 dX11_close_21 rfl rfl ?_
        refine LW_bipush (v := 72) dX11_close_22 (by decide) ?_
        refine LW_icmp_ge (tgt := 48) dX11_close_24 (by decide) (fun c24 => ?_) (fun c24 => absurd (by decide) c24)
        refine LW_iconst (v := 0) dX11_close_48 (by decide) ?_
        refine LW_istoren (ls' := [(0, .ref 217), (1, .int 0)]) dX11_close_49 rfl (by decide) rfl ?_
        exact mcl_loop (La := L2) (Lb := L2 218) hW hkq (fun z hz => hI16 z (by unfold rkI; omega)) (fun z hz z8 => by rw [q1 z z8]; exact hL16 z (by unfold rkJ; omega)) (fun k hk => by rw [q1 236 (by decide)]; exact hT16 k hk) c4 hy hys hLv q2 0 (Nat.zero_le _) L2 (fun _ _ => rfl) (fun j => by
          unfold clF
          rw [if_neg (by omega), if_neg (by omega), if_neg (by omega), if_neg (by omega)])
      · intro i hi ih L2 q1 q2
        refine LW_iloadn 1 dX11_close_21 rfl rfl ?_
        refine LW_bipush (v := 72) dX11_close_22 (by decide) ?_
        refine LW_icmp_ge (tgt := 48) dX11_close_24 (by decide) (fun c24 => absurd c24 (hc_nle (a := 72) (b := i) (by decide) (by omega) hi)) (fun c24 => ?_)
        refine LW_aloadn 0 dX11_close_27 rfl rfl ?_
        refine gX11_0 dX11_close_28 flX11_9 (hY.lt (k := 217) (by decide)) (ly217 hY) (lf217_0 hY) ?_
        refine LW_bipush (v := 126) dX11_close_31 (by decide) ?_
        refine LW_iloadn 1 dX11_close_33 rfl rfl ?_
        refine LW_iadd dX11_close_34 ?_
        rw [show (126 + (nI i)) = nI (126 + i) from (nI_add 126 _)]
        refine LW_aloadn 0 dX11_close_35 rfl rfl ?_
        refine gX11_40 dX11_close_36 flX11_69 (hY.lt (k := 217) (by decide)) (ly217 hY) (lf217_40 hY) ?_
        refine LW_iloadn 1 dX11_close_39 rfl rfl ?_
        refine LW_lald dX11_close_40 (hY.lt (k := 234) (by decide)) (ly234 hY) rfl (by omega) (Nat.le_of_ble_eq_true rfl) ?_
        rw [show L2 234 i = kR (sA S) (sP S) (prX (sA S) (-1)) (i % 6) (i / 6) from (by rw [q1 234 (by decide), ← hG16 (i / 6) (by omega) (i % 6) (by omega), show 6 * (i / 6) + i % 6 = i by omega])]
        refine LW_last dX11_close_41 (hY.lt (k := 218) (by decide)) (ly218 hY) rfl (by omega) (Nat.le_of_ble_eq_true rfl) ?_
        generalize hL41 : hc_u L2 218 (126 + i) (kR (sA S) (sP S) (prX (sA S) (-1)) (i % 6) (i / 6)) = L41
        refine LW_iinc (n := 1) (v := nI (i + 1)) (ls' := [(0, .ref 217), (1, .int (nI (i + 1)))]) dX11_close_42 rfl (hc_inc _) (by decide) rfl ?_
        refine LW_goto (tgt := 21) dX11_close_45 (by decide) ?_
        exact ih L41 (fun z z1 => by rw [← hL41, hc_u_row _ _ _ _ z1]; exact q1 z z1) (fun j => by
          rw [← hL41, hc_u_at, q2 j]
          by_cases c : j = 126 + i
          · rw [if_pos c, if_pos ⟨by omega, by omega⟩, show j - 126 = i by omega]
          · rw [if_neg c]
            by_cases d : 126 ≤ j ∧ j < 126 + i
            · rw [if_pos d, if_pos ⟨d.1, by omega⟩]
            · rw [if_neg d, if_neg (by omega)])
    exact loop1 0 (Nat.zero_le _) Lc16 (fun _ _ => rfl) (fun j => by rw [if_neg (by omega), e218])
  · refine LW_ldc2 dX11_close_7 klX11_402 ?_
    refine LW_lret dX11_close_10 rfl (Nat.le_of_ble_eq_true rfl) (Nat.le_of_ble_eq_true rfl) ?_
    have e0 := Classical.not_not.mp c4
    rw [show nClose S = S from if_pos e0]
    exact MPost.r hW (by unfold qClose; rw [if_pos e0])
