/-! the reference: join -/
theorem MC.rf {Λ : hc_L} {I I1 : hc_I} {L L1 : hc_J} {A : AS} {v : Int32} (h : MC Λ I L A v) (f : RFr I I1 L L1) : MC Λ I1 L1 A v := by
  obtain ⟨m1, m2, m3, m4, m5, m6, m7⟩ := h
  obtain ⟨f1, f2, f3, f4⟩ := f
  have hf24 := m2.f
  refine ⟨m1, m2, by rw [f3 218 (by unfold rfY; omega)]; exact m3, fun q hq a ha => ?_, fun c hc => ?_, fun c hc => ?_, (f2 217 35 (by unfold rfJ; omega)).trans m7⟩
  · have hq' : q < aF A := hq
    rw [f2 221 _ (by unfold rfJ; omega)]; exact m4 q hq a ha
  · rw [f2 222 c (by unfold rfJ; omega)]; exact m5 c hc
  · rw [f2 223 c (by unfold rfJ; omega)]; exact m6 c hc
/-- what others have is what all had -/
theorem Jn.oth {A A1 : AS} {w : Int64} {k : Nat} (hA : wf A) (hA1 : wf A1) (h : Jn A w k A1) : bOth A1 = abAllP A (aF A) ∧ gP A1 (prX A1 (-1)) (aM A) = abPts A1 (aM A1 - 1) (aF A1) ∧ (bOth A1 ≤ 0 ↔ abAllP A (aF A) = 0) := by
  have e1 : bOth A1 = abAllP A (aF A) := by
    have hw := hA1.2.2.2.2.2.2.2.1
    obtain ⟨Fd, rfl, h1, h2⟩ := h
    have own := hA.2.2.2.2.2.2.2.1
    generalize hA1e : ((aM A + 1, aF A + k, aS A, aY A, aRu A, aHz A, aSo A, lpUp (aNm A) (aM A) w, lpUp (aTh A) (aM A) true, lpUp (aLv A) (aM A) false, lpUp (aYs A) (aM A) 0, Fd, aSd A, lpUp (aEt A) (aM A) false, aEr A) : AS) = A1
    have eM : aM A1 = aM A + 1 := by rw [← hA1e]
    have eF : aF A1 = aF A + k := by rw [← hA1e]
    have eFd : aFd A1 = Fd := by rw [← hA1e]
    have eTh : aTh A1 = lpUp (aTh A) (aM A) true := by rw [← hA1e]
    have eHz : aHz A1 = aHz A := by rw [← hA1e]
    have stO : ∀ f, f < aF A → aSt A1 f = aSt A f := fun f hf => by
      have ho := (own f hf).1
      unfold aSt aIs
      rw [eFd, h1 f hf, eM, eF, eTh, decide_eq_true (show f < aF A + k by omega), decide_eq_true hf, decide_eq_true (show aFd A f 0 < aM A + 1 by omega), decide_eq_true ho]
      unfold lpUp
      rw [if_neg (by omega)]
    have ptO : ∀ f, f < aF A → aPt A1 f = aPt A f := fun f hf => by
      unfold aPt aCo aHzAt
      rw [eFd, h1 f hf, eHz]
    have sfO : ∀ f, f < aF A → aSf A1 f (aM A) = false := fun f hf => by
      have ho := (own f hf).1
      unfold aSf
      rw [eFd, h1 f hf, decide_eq_false (by omega), Bool.and_false]
    have sfN : ∀ f, aF A ≤ f → f < aF A + k → aSf A1 f (aM A) = aSt A1 f := fun f a b => by
      unfold aSf
      rw [eFd, h2 f a b, decide_eq_true rfl, Bool.and_true]
    show abAllP A1 (aF A1) - abPts A1 (aM A1 - 1) (aF A1) = abAllP A (aF A)
    rw [eM, Nat.add_sub_cancel, eF]
    have go : ∀ j, j ≤ k → sumJ (fun f => if aSt A1 f = true then aPt A1 f else 0) (aF A + j) - sumJ (fun f => if aSf A1 f (aM A) = true then aPt A1 f else 0) (aF A + j) = abAllP A (aF A) := by
      intro j
      induction j with
      | zero =>
        intro _
        rw [Nat.add_zero, sumJ_0 (f := fun f => if aSf A1 f (aM A) = true then aPt A1 f else 0) (fun f hf => if_neg (by rw [sfO f hf]; decide))]
        rw [sumJ_congr (f := fun f => if aSt A1 f = true then aPt A1 f else 0) (g := fun f => if aSt A f = true then aPt A f else 0) (fun f hf => by rw [stO f hf, ptO f hf])]
        show abAllP A (aF A) - 0 = _
        exact Int64.sub_zero _
      | succ j ih =>
        intro hj
        have e := ih (by omega)
        show (sumJ (fun f => if aSt A1 f = true then aPt A1 f else 0) (aF A + j) + (if aSt A1 (aF A + j) = true then aPt A1 (aF A + j) else 0)) - (sumJ (fun f => if aSf A1 f (aM A) = true then aPt A1 f else 0) (aF A + j) + (if aSf A1 (aF A + j) (aM A) = true then aPt A1 (aF A + j) else 0)) = _
        rw [sfN (aF A + j) (by omega) (by omega)]
        generalize (if aSt A1 (aF A + j) = true then aPt A1 (aF A + j) else 0) = y
        rw [← e, Int64.sub_eq_add_neg, Int64.neg_add, Int64.sub_eq_add_neg, Int64.add_assoc, ← Int64.add_assoc y, Int64.add_comm y, Int64.add_assoc (-_), Int64.sub_eq_add_neg, Int64.add_right_neg, Int64.add_zero]
    exact go k (Nat.le_refl _)
  refine ⟨e1, ?_, ?_⟩
  · rw [prX_m1 hA1.m, gP_is, h.m.1, Nat.add_sub_cancel]
  · rw [e1]
    have hb : bd (aM A * 21362616) (abAllP A (aF A)) := by rw [← allP_eq hA]; exact bd_sum (fun j _ => bd_P hA j)
    obtain ⟨g, hg, hg2⟩ := hb
    have hm := hA.m
    have hg63 : g < 2 ^ 62 := by omega
    rw [hg]
    constructor
    · intro z
      have : g ≤ 0 := by
        rcases Nat.eq_zero_or_pos g with q | q
        · omega
        · exact absurd z (Int64.not_le.mpr ((lN_pos (by omega)).mpr q))
      rw [show g = 0 by omega]; rfl
    · intro z
      rw [z]; exact Int64.le_refl _
theorem NwAt.jn {N N' : Nat → Int64} {A A1 : AS} {w : Int64} {k : Nat} (h : NwAt N A) (hJ : Jn A w k A1) (hA : wf A) (h12 : aM A < 12) (hE : aEt A (aM A) = false) (he : ∀ j, N' j = if j = 6 then lN (aF A + k) else if j = 5 then lN (aM A + 1) else if j = 34 + aM A then 0 else if j = 22 + aM A then 0 else if j = 10 + aM A then 1 else N j) : NwAt N' A1 := by
  obtain ⟨Fd, rfl, h1, h2⟩ := hJ
  obtain ⟨⟨a1, a2, a3, a4⟩, ⟨b1, b2, b3, b4⟩, c, d, e, f⟩ := h
  have hs := hA.s
  have g : ∀ j, j ≠ 6 → j ≠ 5 → j ≠ 34 + aM A → j ≠ 22 + aM A → j ≠ 10 + aM A → N' j = N j := fun j q1 q2 q3 q4 q5 => by rw [he, if_neg q1, if_neg q2, if_neg q3, if_neg q4, if_neg q5]
  refine ⟨⟨(g 0 (by omega) (by omega) (by omega) (by omega) (by omega)).trans a1, (g 1 (by omega) (by omega) (by omega) (by omega) (by omega)).trans a2, (g 2 (by omega) (by omega) (by omega) (by omega) (by omega)).trans a3, (g 3 (by omega) (by omega) (by omega) (by omega) (by omega)).trans a4⟩, ⟨(g 4 (by omega) (by omega) (by omega) (by omega) (by omega)).trans b1, ?_, ?_, (g 7 (by omega) (by omega) (by omega) (by omega) (by omega)).trans b4⟩, fun m hm => ?_, fun s hs2 a ha => ?_, fun m hm => ?_, fun m hm ht => ?_⟩
  · rw [he, if_neg (by decide), if_pos rfl]
  · rw [he, if_pos rfl]
  · have hm' : m < aM A + 1 := hm
    show N' (10 + m) = lB (lpUp (aTh A) (aM A) true m) ∧ N' (22 + m) = lB (lpUp (aLv A) (aM A) false m) ∧ N' (34 + m) = lN (lpUp (aYs A) (aM A) 0 m)
    unfold lpUp
    by_cases q : m = aM A
    · rw [if_pos q, if_pos q, if_pos q, q]
      refine ⟨?_, ?_, ?_⟩
      · rw [he, if_neg (by omega), if_neg (by omega), if_neg (by omega), if_neg (by omega), if_pos rfl]; rfl
      · rw [he, if_neg (by omega), if_neg (by omega), if_neg (by omega), if_pos rfl]; rfl
      · rw [he, if_neg (by omega), if_neg (by omega), if_pos rfl]; rfl
    · rw [if_neg q, if_neg q, if_neg q]
      obtain ⟨c1, c2, c3⟩ := c m (by omega)
      exact ⟨(g _ (by omega) (by omega) (by omega) (by omega) (by omega)).trans c1, (g _ (by omega) (by omega) (by omega) (by omega) (by omega)).trans c2, (g _ (by omega) (by omega) (by omega) (by omega) (by omega)).trans c3⟩
  · have hs3 : s < aS A := hs2
    exact (g _ (by omega) (by omega) (by omega) (by omega) (by omega)).trans (d s hs2 a ha)
  · show N' (198 + m) = lB (lpUp (aEt A) (aM A) false m)
    rw [g _ (by omega) (by omega) (by omega) (by omega) (by omega), e m hm]
    unfold lpUp
    by_cases q : m = aM A
    · rw [if_pos q, q, hE]
    · rw [if_neg q]
  · have ht2 : lpUp (aEt A) (aM A) false m = true := ht
    have hq : m ≠ aM A := fun q => by unfold lpUp at ht2; rw [if_pos q] at ht2; cases ht2
    have ht3 : aEt A m = true := by unfold lpUp at ht2; rw [if_neg hq] at ht2; exact ht2
    obtain ⟨f1, f2⟩ := f m hm ht3
    exact ⟨(g 8 (by omega) (by omega) (by omega) (by omega) (by omega)).trans f1, fun w hw => (g _ (by omega) (by omega) (by omega) (by omega) (by omega)).trans (f2 w hw)⟩
theorem NwAt.r1 {N N' : Nat → Int64} {A : AS} (h : NwAt N A) {v : Int64} (h0 : N' 1 = v) (g : ∀ j, j ≠ 1 → N' j = N j) : NwAt N' (aSRu A 1 v) := by
  obtain ⟨⟨a1, a2, a3, a4⟩, ⟨b1, b2, b3, b4⟩, c, d, e, f⟩ := h
  refine ⟨⟨(g 0 (by decide)).trans a1, by rw [h0]; rfl, (g 2 (by decide)).trans a3, (g 3 (by decide)).trans a4⟩, ⟨(g 4 (by decide)).trans b1, (g 5 (by decide)).trans b2, (g 6 (by decide)).trans b3, (g 7 (by decide)).trans b4⟩, fun m hm => ?_, fun s hs a ha => (g _ (by omega)).trans (d s hs a ha), fun m hm => (g _ (by omega)).trans (e m hm), fun m hm ht => ?_⟩
  · obtain ⟨c1, c2, c3⟩ := c m hm
    exact ⟨(g _ (by omega)).trans c1, (g _ (by omega)).trans c2, (g _ (by omega)).trans c3⟩
  · obtain ⟨f1, f2⟩ := f m hm ht
    exact ⟨(g 8 (by decide)).trans f1, fun w hw => (g _ (by omega)).trans (f2 w hw)⟩
set_option maxRecDepth 100000 in
theorem jn_copy {Λ : hc_L} {I : hc_I} {L : hc_J} {R : hc_R} {Q : hc_Q} {M F k : Nat} {w ot : Int64} (hY : LY Λ) (hF : F + k ≤ 24) (hend : ∀ I' : hc_I, (∀ z, z ≠ 221 → I' z = I z) → (∀ t, I' 221 t = if 6 * F ≤ t ∧ t < 6 * F + 6 * k then I 221 (144 + (t - 6 * F)) else I 221 t) → LW xX11_join (0, 0) 237 [(0, .ref 217), (1, .int (nI M)), (2, .int (nI F)), (3, .long w), (5, .int (nI k)), (6, .long ot), (8, .int (nI (6 * k)))] [] Λ I' L R Q) : LW xX11_join (0, 0) 198 [(0, .ref 217), (1, .int (nI M)), (2, .int (nI F)), (3, .long w), (5, .int (nI k)), (6, .long ot), (8, .int (nI 0))] [] Λ I L R Q := by
  have loop : ∀ j, j ≤ 6 * k → ∀ I1 : hc_I, (∀ z, z ≠ 221 → I1 z = I z) → (∀ t, I1 221 t = if 6 * F ≤ t ∧ t < 6 * F + j then I 221 (144 + (t - 6 * F)) else I 221 t) → LW xX11_join (0, 0) 198 [(0, .ref 217), (1, .int (nI M)), (2, .int (nI F)), (3, .long w), (5, .int (nI k)), (6, .long ot), (8, .int (nI j))] [] Λ I1 L R Q := by
    refine hc_down ?_ ?_
    · intro I1 h1 h2
      refine LW_iload 6 dX11_join_198 rfl ?_
      refine LW_bipush (v := 6) dX11_join_200 (by decide) ?_
      refine LW_iload 4 dX11_join_202 rfl ?_
      refine LW_imul dX11_join_204 ?_
      rw [show (6 * (nI k)) = nI (6 * k) from (nI_mul 6 _)]
      refine LW_icmp_ge (tgt := 237) dX11_join_205 (by decide) (fun c205 => ?_) (fun c205 => absurd (Int32.le_refl _) c205)
      exact hend I1 h1 h2
    · intro j hj ih I1 h1 h2
      refine LW_iload 6 dX11_join_198 rfl ?_
      refine LW_bipush (v := 6) dX11_join_200 (by decide) ?_
      refine LW_iload 4 dX11_join_202 rfl ?_
      refine LW_imul dX11_join_204 ?_
      rw [show (6 * (nI k)) = nI (6 * k) from (nI_mul 6 _)]
      refine LW_icmp_ge (tgt := 237) dX11_join_205 (by decide) (fun c205 => absurd c205 (hc_nle (a := 6 * k) (b := j) (by omega) (by omega) hj)) (fun c205 => ?_)
      refine LW_aloadn 0 dX11_join_208 rfl rfl ?_
      refine gX11_4 dX11_join_209 flX11_21 (hY.lt (k := 217) (by decide)) (ly217 hY) (lf217_4 hY) ?_
      refine LW_bipush (v := 6) dX11_join_212 (by decide) ?_
      refine LW_iloadn 2 dX11_join_214 rfl rfl ?_
      refine LW_imul dX11_join_215 ?_
      rw [show (6 * (nI F)) = nI (6 * F) from (nI_mul 6 _)]
      refine LW_iload 6 dX11_join_216 rfl ?_
      refine LW_iadd dX11_join_218 ?_
      rw [show ((nI (6 * F)) + (nI j)) = nI (6 * F + j) from (nI_add _ _)]
      refine LW_aloadn 0 dX11_join_219 rfl rfl ?_
      refine gX11_4 dX11_join_220 flX11_21 (hY.lt (k := 217) (by decide)) (ly217 hY) (lf217_4 hY) ?_
      refine LW_sipush (v := 144) dX11_join_223 (by decide) ?_
      refine LW_iload 6 dX11_join_226 rfl ?_
      refine LW_iadd dX11_join_228 ?_
      rw [show (144 + (nI j)) = nI (144 + j) from (nI_add 144 _)]
      refine LW_iald dX11_join_229 (hY.lt (k := 221) (by decide)) (ly221 hY) rfl (by omega) (Nat.le_of_ble_eq_true rfl) ?_
      rw [show I1 221 (144 + j) = I 221 (144 + j) from (by rw [h2, if_neg (by omega)])]
      refine LW_iast dX11_join_230 (hY.lt (k := 221) (by decide)) (ly221 hY) rfl (by omega) (Nat.le_of_ble_eq_true rfl) ?_
      generalize hI230 : hc_u I1 221 (6 * F + j) (I 221 (144 + j)) = I230
      refine LW_iinc (n := 6) (v := nI (j + 1)) (ls' := [(0, .ref 217), (1, .int (nI M)), (2, .int (nI F)), (3, .long w), (5, .int (nI k)), (6, .long ot), (8, .int (nI (j + 1)))]) dX11_join_231 rfl (hc_inc _) (by decide) rfl ?_
      refine LW_goto (tgt := 198) dX11_join_234 (by decide) ?_
      exact ih I230 (fun z hz => by rw [← hI230, hc_u_row _ _ _ _ hz]; exact h1 z hz) (fun t => by
        rw [← hI230, hc_u_at]
        by_cases c : t = 6 * F + j
        · rw [if_pos c, if_pos (by omega)]; congr 1; omega
        · rw [if_neg c, h2 t]
          by_cases d : 6 * F ≤ t ∧ t < 6 * F + j
          · rw [if_pos d, if_pos (by omega)]
          · rw [if_neg d, if_neg (by omega)])
  exact loop 0 (Nat.zero_le _) I (fun _ _ => rfl) (fun t => by rw [if_neg (by omega)])
set_option maxRecDepth 100000 in
theorem jn_yes {Λ : hc_L} {I : hc_I} {L : hc_J} {R : hc_R} {S : HS} (hW : MW Λ I L S) {P : LwP} {x : Rs} (hK : ∀ k, k < sC S → wf (sH S k)) (hE : ∀ m, aM (sA S) ≤ m → m < 12 → aEt (sA S) m = false) (h12 : aM (sA S) < 12) {i k : Nat} {A1 : AS} {I1 : hc_I} {L1 : hc_J} (hT : TK I L (sN S) (sB S) Λ I1 L1 i) (hJ : Jn (sA S) (lN (vl (sB S) (sN S) 0)) k A1) (hk : aF (sA S) + k ≤ 24) (hr : (∀ j, j < k → ∀ a, a < 6 → I1 221 (6 * (24 + j) + a) = nI (aFd A1 (aF (sA S) + j) a))) (hxe : x = .inr (i, A1, P)) (hA1 : wf A1) : LW xX11_join (0, 0) 176 [(0, .ref 217), (1, .int (nI (aM (sA S)))), (2, .int (nI (aF (sA S)))), (3, .long (lN (vl (sB S) (sN S) 0))), (5, .int (nI k))] [] Λ I1 L1 R (MPost (some (.int (qJoin x))) (nJoin S x) Λ I L R) := by
  have hY := hT.y
  have hoth := hJ.oth hW.m.w hA1
  obtain ⟨hJm, hJf⟩ := hJ.m
  replace hE := hE _ (Nat.le_refl _) h12
  subst hxe
  have hxe : (Sum.inr (i, A1, P) : Rs) = .inr (i, A1, P) := rfl
  refine LW_aloadn 0 dX11_join_176 rfl rfl ?_
  refine LW_callV (As := []) (b := 217) (st := []) (ci := 11) (r := (RX11, TX11, 44)) (r_isRead hY) YX11_isRead rfl dX11_join_177 mlX11_279 (hY.lt (k := 217) (by decide)) (ly217 hY) ⟨rfl, rfl⟩ (by decide) ⟨Nat.le_of_ble_eq_true rfl, Nat.le_of_ble_eq_true rfl⟩ (Nat.le_of_ble_eq_true rfl) rfl (fun r177 Λc177 Ic177 Lc177 Rc177 hq177 => ?_)
  obtain ⟨rfl, rfl, rfl, rfl, hz177, hs177⟩ := hq177
  rw [show decide (I1 217 23 = 0) = true from decide_eq_true hT.2.2.2.2.1]
  refine LW_bif_ne (tgt := 185) dX11_join_180 (by decide) (fun c180 => ?_) (fun c180 => absurd (c180.symm.trans rfl) (by decide))
  have kR : ∀ z j, rfJ z j → j ≠ 20 → j ≠ 21 → j ≠ 22 → Ic177 z j = I z j := fun z j h a b c => by
    by_cases e : z = 217
    · subst e; rw [hs177 j, if_neg c, if_neg b, if_neg a]; exact hT.2.1.2.1 217 j h
    · rw [hz177 z e]; exact hT.2.1.2.1 z j h
  have hc2 : Ic177 217 2 = nI (sC S) := (kR 217 2 (by unfold rfJ; omega) (by decide) (by decide) (by decide)).trans hW.c
  have hM1 : MC Λ Ic177 L1 (sA S) (-1) := by
    have h0 := hW.m.rf hT.2.1
    exact h0.kp rfl (hz177 221 (by decide)) (hz177 222 (by decide)) (hz177 223 (by decide)) (by rw [hs177 35, if_neg (by decide), if_neg (by decide), if_neg (by decide)])
  have hk1 : ∀ k, k < sC S → NwAt (fun j => L1 219 (210 * (sC S - 1 - k) + j)) (sH S k) := fun k hk => by rw [hT.2.1.2.2.1 219 (by unfold rfY; omega)]; exact hW.2.2.2.2.1.2.2 k hk
  refine LW_aloadn 0 dX11_join_185 rfl rfl ?_
  refine LW_callV (As := []) (b := 217) (st := []) (ci := 11) (r := (RX11, TX11, 44)) (r_keeps (H := sH S) hY hW.c8 hc2 hM1.n hM1.w hk1 hK) YX11_keeps rfl dX11_join_186 mlX11_319 (hY.lt (k := 217) (by decide)) (ly217 hY) ⟨rfl, rfl⟩ (by decide) ⟨Nat.le_of_ble_eq_true rfl, Nat.le_of_ble_eq_true rfl⟩ (Nat.le_of_ble_eq_true rfl) rfl (fun r186 Λc186 Ic186 Lc186 Rc186 hq186 => ?_)
  obtain ⟨rfl, rfl, rfl, hI186, hJ186, hL186, hP186, hN186⟩ := hq186
  have hM2 : MC Λ Ic186 Lc186 (sA S) (-1) := hM1.kp (hL186 218 (by decide)) (hI186 221 (by decide)) (hI186 222 (by decide)) (hI186 223 (by decide)) (hJ186 35 (by decide))
  refine LW_aloadn 0 dX11_join_189 rfl rfl ?_
  have hM2 : MC Λ Ic186 Lc186 (sA S) (-1) := hM1.kp (hL186 218 (by decide)) (hI186 221 (by decide)) (hI186 222 (by decide)) (hI186 223 (by decide)) (hJ186 35 (by decide))
  refine LW_callV (As := []) (b := 217) (st := []) (ci := 11) (r := (RX11, TX11, 44)) (r_mPointsAll hM2) YX11_pointsAll rfl dX11_join_190 mlX11_322 (hY.lt (k := 217) (by decide)) (ly217 hY) ⟨rfl, rfl⟩ (by decide) ⟨Nat.le_of_ble_eq_true rfl, Nat.le_of_ble_eq_true rfl⟩ (Nat.le_of_ble_eq_true rfl) rfl (fun r190 Λc190 Ic190 Lc190 Rc190 hq190 => ?_)
  rw [allP_eq hM2.w] at hq190
  obtain ⟨rfl, rfl, rfl, rfl, rfl⟩ := hq190
  refine LW_lstore (ls' := [(0, .ref 217), (1, .int (nI (aM (sA S)))), (2, .int (nI (aF (sA S)))), (3, .long (lN (vl (sB S) (sN S) 0))), (5, .int (nI k)), (6, .long (abAllP (sA S) (aF (sA S))))]) dX11_join_193 (by decide) rfl ?_
  refine LW_iconst (v := 0) dX11_join_195 (by decide) ?_
  refine LW_istore (ls' := [(0, .ref 217), (1, .int (nI (aM (sA S)))), (2, .int (nI (aF (sA S)))), (3, .long (lN (vl (sB S) (sN S) 0))), (5, .int (nI k)), (6, .long (abAllP (sA S) (aF (sA S)))), (8, .int 0)]) dX11_join_196 (by decide) rfl ?_
  refine jn_copy hY hk (fun I2 g1 g2 => ?_)
  refine LW_aloadn 0 dX11_join_237 rfl rfl ?_
  refine gX11_3 dX11_join_238 flX11_18 (hY.lt (k := 217) (by decide)) (ly217 hY) (lf217_3 hY) ?_
  refine LW_iloadn 1 dX11_join_241 rfl rfl ?_
  refine LW_lloadn 3 dX11_join_242 rfl rfl ?_
  refine LW_last dX11_join_243 (hY.lt (k := 220) (by decide)) (ly220 hY) rfl (by omega) (Nat.le_of_ble_eq_true rfl) ?_
  generalize hL243 : hc_u Lc186 220 (aM (sA S)) (lN (vl (sB S) (sN S) 0)) = L243
  refine LW_aloadn 0 dX11_join_244 rfl rfl ?_
  refine gX11_0 dX11_join_245 flX11_9 (hY.lt (k := 217) (by decide)) (ly217 hY) (lf217_0 hY) ?_
  refine LW_bipush (v := 10) dX11_join_248 (by decide) ?_
  refine LW_iloadn 1 dX11_join_250 rfl rfl ?_
  refine LW_iadd dX11_join_251 ?_
  rw [show (10 + (nI (aM (sA S)))) = nI (10 + aM (sA S)) from (nI_add 10 _)]
  refine LW_lconst (v := 1) dX11_join_252 (by decide) ?_
  refine LW_last dX11_join_253 (hY.lt (k := 218) (by decide)) (ly218 hY) rfl (by omega) (Nat.le_of_ble_eq_true rfl) ?_
  generalize hL253 : hc_u L243 218 (10 + aM (sA S)) 1 = L253
  refine LW_aloadn 0 dX11_join_254 rfl rfl ?_
  refine gX11_0 dX11_join_255 flX11_9 (hY.lt (k := 217) (by decide)) (ly217 hY) (lf217_0 hY) ?_
  refine LW_bipush (v := 22) dX11_join_258 (by decide) ?_
  refine LW_iloadn 1 dX11_join_260 rfl rfl ?_
  refine LW_iadd dX11_join_261 ?_
  rw [show (22 + (nI (aM (sA S)))) = nI (22 + aM (sA S)) from (nI_add 22 _)]
  refine LW_lconst (v := 0) dX11_join_262 (by decide) ?_
  refine LW_last dX11_join_263 (hY.lt (k := 218) (by decide)) (ly218 hY) rfl (by omega) (Nat.le_of_ble_eq_true rfl) ?_
  generalize hL263 : hc_u L253 218 (22 + aM (sA S)) 0 = L263
  refine LW_aloadn 0 dX11_join_264 rfl rfl ?_
  refine gX11_0 dX11_join_265 flX11_9 (hY.lt (k := 217) (by decide)) (ly217 hY) (lf217_0 hY) ?_
  refine LW_bipush (v := 34) dX11_join_268 (by decide) ?_
  refine LW_iloadn 1 dX11_join_270 rfl rfl ?_
  refine LW_iadd dX11_join_271 ?_
  rw [show (34 + (nI (aM (sA S)))) = nI (34 + aM (sA S)) from (nI_add 34 _)]
  refine LW_lconst (v := 0) dX11_join_272 (by decide) ?_
  refine LW_last dX11_join_273 (hY.lt (k := 218) (by decide)) (ly218 hY) rfl (by omega) (Nat.le_of_ble_eq_true rfl) ?_
  generalize hL273 : hc_u L263 218 (34 + aM (sA S)) 0 = L273
  refine LW_aloadn 0 dX11_join_274 rfl rfl ?_
  refine gX11_0 dX11_join_275 flX11_9 (hY.lt (k := 217) (by decide)) (ly217 hY) (lf217_0 hY) ?_
  refine LW_iconst (v := 5) dX11_join_278 (by decide) ?_
  refine LW_dup2 dX11_join_279 rfl rfl ?_
  refine LW_lald dX11_join_280 (hY.lt (k := 218) (by decide)) (ly218 hY) rfl (by decide) (Nat.le_of_ble_eq_true rfl) ?_
  rw [show L273 218 5 = lN (aM (sA S)) from (by rw [← hL273, hc_u_at, if_neg (by omega), ← hL263, hc_u_at, if_neg (by omega), ← hL253, hc_u_at, if_neg (by omega), ← hL243, hc_u_row _ _ _ _ (by decide)]; exact hM2.nM)]
  refine LW_lconst (v := 1) dX11_join_281 (by decide) ?_
  refine LW_ladd dX11_join_282 ?_
  rw [show ((lN (aM (sA S))) + 1) = lN (aM (sA S) + 1) from (lN_add _ 1)]
  refine LW_last dX11_join_283 (hY.lt (k := 218) (by decide)) (ly218 hY) rfl (by decide) (Nat.le_of_ble_eq_true rfl) ?_
  generalize hL283 : hc_u L273 218 5 (lN (aM (sA S) + 1)) = L283
  refine LW_aloadn 0 dX11_join_284 rfl rfl ?_
  refine gX11_0 dX11_join_285 flX11_9 (hY.lt (k := 217) (by decide)) (ly217 hY) (lf217_0 hY) ?_
  refine LW_bipush (v := 6) dX11_join_288 (by decide) ?_
  refine LW_dup2 dX11_join_290 rfl rfl ?_
  refine LW_lald dX11_join_291 (hY.lt (k := 218) (by decide)) (ly218 hY) rfl (by decide) (Nat.le_of_ble_eq_true rfl) ?_
  rw [show L283 218 6 = lN (aF (sA S)) from (by rw [← hL283, hc_u_at, if_neg (by decide), ← hL273, hc_u_at, if_neg (by omega), ← hL263, hc_u_at, if_neg (by omega), ← hL253, hc_u_at, if_neg (by omega), ← hL243, hc_u_row _ _ _ _ (by decide)]; exact hM2.nF)]
  refine LW_iload 4 dX11_join_292 rfl ?_
  refine LW_i2l dX11_join_294 ?_
  rw [show (nI k).toInt64 = lN k from (nI_l (by omega))]
  refine LW_ladd dX11_join_295 ?_
  rw [show ((lN (aF (sA S))) + (lN k)) = lN (aF (sA S) + k) from (lN_add _ _)]
  refine LW_last dX11_join_296 (hY.lt (k := 218) (by decide)) (ly218 hY) rfl (by decide) (Nat.le_of_ble_eq_true rfl) ?_
  generalize hL296 : hc_u L283 218 6 (lN (aF (sA S) + k)) = L296
  have kN : ∀ j, L296 218 j = if j = 6 then lN (aF (sA S) + k) else if j = 5 then lN (aM (sA S) + 1) else if j = 34 + aM (sA S) then 0 else if j = 22 + aM (sA S) then 0 else if j = 10 + aM (sA S) then 1 else L 218 j := fun j => by
    rw [← hL296, hc_u_at, ← hL283, hc_u_at, ← hL273, hc_u_at, ← hL263, hc_u_at, ← hL253, hc_u_at, ← hL243, hc_u_row _ _ _ _ (by decide), hL186 218 (by decide), hT.2.1.2.2.1 218 (by unfold rfY; omega)]
  have hN3 : NwAt (L296 218) A1 := hW.m.n.jn hJ hM2.w h12 hE kN
  have kF : FlAt (I2 221) A1 := fun f hf a ha => by
    have hf' : f < aF A1 := hf
    rw [hJf] at hf'
    rw [g2]
    by_cases c : f < aF (sA S)
    · rw [if_neg (by omega), hM2.fl c ha]
      obtain ⟨Fd, rfl, q1, q2⟩ := hJ
      show nI (aFd (sA S) f a) = nI (Fd f a)
      rw [q1 f c]
    · rw [if_pos (by omega), hI186 221 (by decide), hz177 221 (by decide), show 144 + (6 * f + a - 6 * aF (sA S)) = 6 * (24 + (f - aF (sA S))) + a by omega, hr _ (by omega) a ha, show aF (sA S) + (f - aF (sA S)) = f by omega]
  have eHz : aHz A1 = aHz (sA S) ∧ aSo A1 = aSo (sA S) ∧ aRu A1 = aRu (sA S) := by obtain ⟨Fd, rfl, q1, q2⟩ := hJ; exact ⟨rfl, rfl, rfl⟩
  have kz : ∀ z, z ≠ 221 → I2 z = Ic186 z := g1
  have hM3 : MC Λ I2 L296 A1 (-1) := ⟨hY, hA1, hN3, kF, fun c hc => by rw [kz 222 (by decide), eHz.1]; exact hM2.hz hc, fun c hc => by rw [kz 223 (by decide), eHz.2.1]; exact hM2.so hc, by rw [kz 217 (by decide)]; exact hM2.aw⟩
  refine LW_lload 5 dX11_join_297 rfl ?_
  refine LW_lconst (v := 0) dX11_join_299 (by decide) ?_
  refine LW_lcmp dX11_join_300 ?_
  refine LW_lif_ne (tgt := 308) dX11_join_301 (by decide) (fun c301 => ?_) (fun c301 => ?_)
  · refine LW_ldc2 dX11_join_308 klX11_326 ?_
    refine LW_aloadn 0 dX11_join_311 rfl rfl ?_
    refine gX11_0 dX11_join_312 flX11_9 (hY.lt (k := 217) (by decide)) (ly217 hY) (lf217_0 hY) ?_
    refine LW_iconst (v := 1) dX11_join_315 (by decide) ?_
    refine LW_lald dX11_join_316 (hY.lt (k := 218) (by decide)) (ly218 hY) rfl (by decide) (Nat.le_of_ble_eq_true rfl) ?_
    rw [show L296 218 1 = aRu (sA S) 1 from (by rw [hN3.1.2.1, eHz.2.2])]
    refine LW_aloadn 0 dX11_join_317 rfl rfl ?_
    refine LW_iloadn 1 dX11_join_318 rfl rfl ?_
    refine LW_callV (As := [.int (nI (aM (sA S)))]) (b := 217) (st := [.long (aRu (sA S) 1), .long 9999999]) (ci := 11) (r := (RX11, TX11, 44)) (r_mPointsOf hM3 (k := aM (sA S)) (by omega)) YX11_pointsOf rfl dX11_join_319 mlX11_315 (hY.lt (k := 217) (by decide)) (ly217 hY) ⟨rfl, rfl⟩ (by decide) ⟨Nat.le_of_ble_eq_true rfl, Nat.le_of_ble_eq_true rfl⟩ (Nat.le_of_ble_eq_true rfl) rfl (fun r319 Λc319 Ic319 Lc319 Rc319 hq319 => ?_)
    rw [hoth.2.1] at hq319
    obtain ⟨rfl, rfl, rfl, rfl, rfl⟩ := hq319
    refine LW_lmul dX11_join_322 ?_
    refine LW_lload 5 dX11_join_323 rfl ?_
    refine LW_ldiv dX11_join_325 c301 ?_
    refine LW_lmin dX11_join_326 mlX11_308 (by decide) ⟨Nat.le_refl _, Nat.le_refl _⟩ (Nat.le_of_ble_eq_true rfl) ?_
    refine LW_lstore (ls' := [(0, .ref 217), (1, .int (nI (aM (sA S)))), (2, .int (nI (aF (sA S)))), (3, .long (lN (vl (sB S) (sN S) 0))), (5, .int (nI k)), (6, .long (abAllP (sA S) (aF (sA S)))), (8, .long (if (((aRu (sA S) 1) * (abPts A1 (aM A1 - 1) (aF A1))) / (abAllP (sA S) (aF (sA S)))) < 9999999 then (((aRu (sA S) 1) * (abPts A1 (aM A1 - 1) (aF A1))) / (abAllP (sA S) (aF (sA S)))) else 9999999))]) dX11_join_329 (by decide) rfl ?_
    refine LW_aloadn 0 dX11_join_331 rfl rfl ?_
    refine gX11_0 dX11_join_332 flX11_9 (hY.lt (k := 217) (by decide)) (ly217 hY) (lf217_0 hY) ?_
    refine LW_iconst (v := 1) dX11_join_335 (by decide) ?_
    refine LW_dup2 dX11_join_336 rfl rfl ?_
    refine LW_lald dX11_join_337 (hY.lt (k := 218) (by decide)) (ly218 hY) rfl (by decide) (Nat.le_of_ble_eq_true rfl) ?_
    rw [show L296 218 1 = aRu (sA S) 1 from (by rw [hN3.1.2.1, eHz.2.2])]
    refine LW_lload 6 dX11_join_338 rfl ?_
    refine LW_ladd dX11_join_340 ?_
    refine LW_last dX11_join_341 (hY.lt (k := 218) (by decide)) (ly218 hY) rfl (by decide) (Nat.le_of_ble_eq_true rfl) ?_
    generalize hL341 : hc_u L296 218 1 ((aRu (sA S) 1) + (if (((aRu (sA S) 1) * (abPts A1 (aM A1 - 1) (aF A1))) / (abAllP (sA S) (aF (sA S)))) < 9999999 then (((aRu (sA S) 1) * (abPts A1 (aM A1 - 1) (aF A1))) / (abAllP (sA S) (aF (sA S)))) else 9999999)) = L341
    refine LW_lload 6 dX11_join_342 rfl ?_
    refine LW_l2i dX11_join_344 ?_
    refine LW_iret dX11_join_345 rfl (Nat.le_of_ble_eq_true rfl) (Nat.le_of_ble_eq_true rfl) ?_
    have k225 : L341 225 = L1 225 := by rw [← hL341, hc_u_row _ _ _ _ (by decide), ← hL296, hc_u_row _ _ _ _ (by decide), ← hL283, hc_u_row _ _ _ _ (by decide), ← hL273, hc_u_row _ _ _ _ (by decide), ← hL263, hc_u_row _ _ _ _ (by decide), ← hL253, hc_u_row _ _ _ _ (by decide), ← hL243, hc_u_row _ _ _ _ (by decide), hL186 225 (by decide)]
    have k219 : L341 219 = Lc186 219 := by rw [← hL341, hc_u_row _ _ _ _ (by decide), ← hL296, hc_u_row _ _ _ _ (by decide), ← hL283, hc_u_row _ _ _ _ (by decide), ← hL273, hc_u_row _ _ _ _ (by decide), ← hL263, hc_u_row _ _ _ _ (by decide), ← hL253, hc_u_row _ _ _ _ (by decide), ← hL243, hc_u_row _ _ _ _ (by decide)]
    have k220 : ∀ m, L341 220 m = if m = aM (sA S) then lN (vl (sB S) (sN S) 0) else Lc186 220 m := fun m => by rw [← hL341, hc_u_row _ _ _ _ (by decide), ← hL296, hc_u_row _ _ _ _ (by decide), ← hL283, hc_u_row _ _ _ _ (by decide), ← hL273, hc_u_row _ _ _ _ (by decide), ← hL263, hc_u_row _ _ _ _ (by decide), ← hL253, hc_u_row _ _ _ _ (by decide), ← hL243, hc_u_at]
    have hbin : bIn A1 = (if aRu (sA S) 1 * abPts A1 (aM A1 - 1) (aF A1) / abAllP (sA S) (aF (sA S)) < 9999999 then aRu (sA S) 1 * abPts A1 (aM A1 - 1) (aF A1) / abAllP (sA S) (aF (sA S)) else 9999999) := by
      unfold bIn
      rw [if_neg (fun z => c301 (hoth.2.2.mp z)), hoth.1, eHz.2.2]
    refine ⟨?_, rfl, rfl, fun z hz => ?_, fun z hz => ?_, ⟨hY, hA1, ?_, kF, hM3.2.2.2.2.1, hM3.2.2.2.2.2.1, hM3.aw⟩, ⟨hW.l.1, ?_, fun j hj => ?_⟩, ⟨?_, ?_, ?_⟩, fun m hm => ?_, ⟨?_, Nat.min_le_left _ _, fun q hq => ?_⟩, ⟨?_, Nat.zero_le _, fun j hj => absurd hj (Nat.not_lt_zero j)⟩, ?_, ?_⟩
    · rw [hxe]; show some (Value.int _) = some (.int (bIn A1).toInt32); rw [hbin]
    · have q := mj_z hz
      rw [kz z (by unfold rfZ at q; omega), hI186 z q.2.2, hz177 z q.2.2]; exact hT.2.1.1 z q.1
    · have q := (mj_z hz).2.1
      have q219 : z ≠ 219 := fun e => hz ⟨by omega, by omega⟩
      have q218 : z ≠ 218 := fun e => hz ⟨by omega, by omega⟩
      have q220 : z ≠ 220 := fun e => hz ⟨by omega, by omega⟩
      rw [← hL341, hc_u_row _ _ _ _ q218, ← hL296, hc_u_row _ _ _ _ q218, ← hL283, hc_u_row _ _ _ _ q218, ← hL273, hc_u_row _ _ _ _ q218, ← hL263, hc_u_row _ _ _ _ q218, ← hL253, hc_u_row _ _ _ _ q218, ← hL243, hc_u_row _ _ _ _ q220, hL186 z q219]; exact hT.2.1.2.2.1 z q
    · show NwAt (L341 218) (aSRu A1 1 (aRu A1 1 + bIn A1))
      refine hN3.r1 ?_ (fun j hj => by rw [← hL341, hc_u_at, if_neg hj])
      rw [← hL341, hc_u_at, if_pos rfl, hbin, eHz.2.2]
    · rw [kz 217 (by decide), hJ186 10 (by decide), hs177 10, if_neg (by decide), if_neg (by decide), if_neg (by decide), hT.2.1.2.1 217 10 (by unfold rfJ; omega)]; exact hW.l.2.1
    · have hj7 : j < 700 := Nat.lt_of_lt_of_le hj hW.l.1.1
      rw [kz 226 (by decide), hI186 226 (by decide), hz177 226 (by decide), hT.2.1.2.1 226 j (by unfold rfJ; omega), k225, hT.2.1.2.2.2 225 j (by unfold rfL; omega)]
      exact hW.l.2.2 j hj
    · rw [kz 224 (by decide), hI186 224 (by decide), hz177 224 (by decide), hT.2.1.2.1 224 0 (by unfold rfJ; omega)]; show _ = aRu A1 2; rw [eHz.2.2]; exact hW.r0
    · rw [kz 224 (by decide), hI186 224 (by decide), hz177 224 (by decide), hT.2.1.2.1 224 1 (by unfold rfJ; omega)]; show _ = aRu A1 3; rw [eHz.2.2]; exact hW.r1
    · rw [kz 224 (by decide), hI186 224 (by decide), hz177 224 (by decide), hT.2.1.2.1 224 2 (by unfold rfJ; omega)]; show _ = aRu A1 4; rw [eHz.2.2]; exact hW.r2
    · have hm' : m < aM A1 := hm
      rw [hJm] at hm'
      rw [k220]
      have en : aNm (aJoin A1) m = lpUp (aNm (sA S)) (aM (sA S)) (lN (vl (sB S) (sN S) 0)) m := by obtain ⟨Fd, rfl, q1, q2⟩ := hJ; rfl
      show _ = aNm (aJoin A1) m
      rw [en]
      unfold lpUp
      by_cases c : m = aM (sA S)
      · rw [if_pos c, if_pos c]
      · rw [if_neg c, if_neg c, hL186 220 (by decide), hT.2.1.2.2.2 220 m (by unfold rfL; omega)]; exact hW.nm (by omega)
    · rw [kz 217 (by decide)]; exact hP186
    · rw [k219]; exact hN186 q hq
    · rw [kz 217 (by decide), hJ186 20 (by decide), hs177 20, if_neg (by decide), if_neg (by decide), if_pos rfl]; rfl
    · rw [kz 217 (by decide), hJ186 21 (by decide), hs177 21, if_neg (by decide), if_pos rfl]; exact hT.2.2.2.2.1
    · rw [kz 217 (by decide), hJ186 22 (by decide), hs177 22, if_pos rfl]; exact hT.2.2.2.2.2
  · refine LW_lconst (v := 0) dX11_join_304 (by decide) ?_
    refine LW_goto (tgt := 329) dX11_join_305 (by decide) ?_
    refine LW_lstore (ls' := [(0, .ref 217), (1, .int (nI (aM (sA S)))), (2, .int (nI (aF (sA S)))), (3, .long (lN (vl (sB S) (sN S) 0))), (5, .int (nI k)), (6, .long (abAllP (sA S) (aF (sA S)))), (8, .long 0)]) dX11_join_329 (by decide) rfl ?_
    refine LW_aloadn 0 dX11_join_331 rfl rfl ?_
    refine gX11_0 dX11_join_332 flX11_9 (hY.lt (k := 217) (by decide)) (ly217 hY) (lf217_0 hY) ?_
    refine LW_iconst (v := 1) dX11_join_335 (by decide) ?_
    refine LW_dup2 dX11_join_336 rfl rfl ?_
    refine LW_lald dX11_join_337 (hY.lt (k := 218) (by decide)) (ly218 hY) rfl (by decide) (Nat.le_of_ble_eq_true rfl) ?_
    rw [show L296 218 1 = aRu (sA S) 1 from (by rw [hN3.1.2.1, eHz.2.2])]
    refine LW_lload 6 dX11_join_338 rfl ?_
    refine LW_ladd dX11_join_340 ?_
    refine LW_last dX11_join_341 (hY.lt (k := 218) (by decide)) (ly218 hY) rfl (by decide) (Nat.le_of_ble_eq_true rfl) ?_
    generalize hL341 : hc_u L296 218 1 ((aRu (sA S) 1) + 0) = L341
    refine LW_lload 6 dX11_join_342 rfl ?_
    refine LW_l2i dX11_join_344 ?_
    refine LW_iret dX11_join_345 rfl (Nat.le_of_ble_eq_true rfl) (Nat.le_of_ble_eq_true rfl) ?_
    have k225 : L341 225 = L1 225 := by rw [← hL341, hc_u_row _ _ _ _ (by decide), ← hL296, hc_u_row _ _ _ _ (by decide), ← hL283, hc_u_row _ _ _ _ (by decide), ← hL273, hc_u_row _ _ _ _ (by decide), ← hL263, hc_u_row _ _ _ _ (by decide), ← hL253, hc_u_row _ _ _ _ (by decide), ← hL243, hc_u_row _ _ _ _ (by decide), hL186 225 (by decide)]
    have k219 : L341 219 = Lc186 219 := by rw [← hL341, hc_u_row _ _ _ _ (by decide), ← hL296, hc_u_row _ _ _ _ (by decide), ← hL283, hc_u_row _ _ _ _ (by decide), ← hL273, hc_u_row _ _ _ _ (by decide), ← hL263, hc_u_row _ _ _ _ (by decide), ← hL253, hc_u_row _ _ _ _ (by decide), ← hL243, hc_u_row _ _ _ _ (by decide)]
    have k220 : ∀ m, L341 220 m = if m = aM (sA S) then lN (vl (sB S) (sN S) 0) else Lc186 220 m := fun m => by rw [← hL341, hc_u_row _ _ _ _ (by decide), ← hL296, hc_u_row _ _ _ _ (by decide), ← hL283, hc_u_row _ _ _ _ (by decide), ← hL273, hc_u_row _ _ _ _ (by decide), ← hL263, hc_u_row _ _ _ _ (by decide), ← hL253, hc_u_row _ _ _ _ (by decide), ← hL243, hc_u_at]
    have hbin : bIn A1 = 0 := by
      unfold bIn
      exact if_pos (hoth.2.2.mpr (Classical.not_not.mp c301))
    refine ⟨?_, rfl, rfl, fun z hz => ?_, fun z hz => ?_, ⟨hY, hA1, ?_, kF, hM3.2.2.2.2.1, hM3.2.2.2.2.2.1, hM3.aw⟩, ⟨hW.l.1, ?_, fun j hj => ?_⟩, ⟨?_, ?_, ?_⟩, fun m hm => ?_, ⟨?_, Nat.min_le_left _ _, fun q hq => ?_⟩, ⟨?_, Nat.zero_le _, fun j hj => absurd hj (Nat.not_lt_zero j)⟩, ?_, ?_⟩
    · rw [hxe]; show some (Value.int _) = some (.int (bIn A1).toInt32); rw [hbin]
    · have q := mj_z hz
      rw [kz z (by unfold rfZ at q; omega), hI186 z q.2.2, hz177 z q.2.2]; exact hT.2.1.1 z q.1
    · have q := (mj_z hz).2.1
      have q219 : z ≠ 219 := fun e => hz ⟨by omega, by omega⟩
      have q218 : z ≠ 218 := fun e => hz ⟨by omega, by omega⟩
      have q220 : z ≠ 220 := fun e => hz ⟨by omega, by omega⟩
      rw [← hL341, hc_u_row _ _ _ _ q218, ← hL296, hc_u_row _ _ _ _ q218, ← hL283, hc_u_row _ _ _ _ q218, ← hL273, hc_u_row _ _ _ _ q218, ← hL263, hc_u_row _ _ _ _ q218, ← hL253, hc_u_row _ _ _ _ q218, ← hL243, hc_u_row _ _ _ _ q220, hL186 z q219]; exact hT.2.1.2.2.1 z q
    · show NwAt (L341 218) (aSRu A1 1 (aRu A1 1 + bIn A1))
      refine hN3.r1 ?_ (fun j hj => by rw [← hL341, hc_u_at, if_neg hj])
      rw [← hL341, hc_u_at, if_pos rfl, hbin, eHz.2.2]
    · rw [kz 217 (by decide), hJ186 10 (by decide), hs177 10, if_neg (by decide), if_neg (by decide), if_neg (by decide), hT.2.1.2.1 217 10 (by unfold rfJ; omega)]; exact hW.l.2.1
    · have hj7 : j < 700 := Nat.lt_of_lt_of_le hj hW.l.1.1
      rw [kz 226 (by decide), hI186 226 (by decide), hz177 226 (by decide), hT.2.1.2.1 226 j (by unfold rfJ; omega), k225, hT.2.1.2.2.2 225 j (by unfold rfL; omega)]
      exact hW.l.2.2 j hj
    · rw [kz 224 (by decide), hI186 224 (by decide), hz177 224 (by decide), hT.2.1.2.1 224 0 (by unfold rfJ; omega)]; show _ = aRu A1 2; rw [eHz.2.2]; exact hW.r0
    · rw [kz 224 (by decide), hI186 224 (by decide), hz177 224 (by decide), hT.2.1.2.1 224 1 (by unfold rfJ; omega)]; show _ = aRu A1 3; rw [eHz.2.2]; exact hW.r1
    · rw [kz 224 (by decide), hI186 224 (by decide), hz177 224 (by decide), hT.2.1.2.1 224 2 (by unfold rfJ; omega)]; show _ = aRu A1 4; rw [eHz.2.2]; exact hW.r2
    · have hm' : m < aM A1 := hm
      rw [hJm] at hm'
      rw [k220]
      have en : aNm (aJoin A1) m = lpUp (aNm (sA S)) (aM (sA S)) (lN (vl (sB S) (sN S) 0)) m := by obtain ⟨Fd, rfl, q1, q2⟩ := hJ; rfl
      show _ = aNm (aJoin A1) m
      rw [en]
      unfold lpUp
      by_cases c : m = aM (sA S)
      · rw [if_pos c, if_pos c]
      · rw [if_neg c, if_neg c, hL186 220 (by decide), hT.2.1.2.2.2 220 m (by unfold rfL; omega)]; exact hW.nm (by omega)
    · rw [kz 217 (by decide)]; exact hP186
    · rw [k219]; exact hN186 q hq
    · rw [kz 217 (by decide), hJ186 20 (by decide), hs177 20, if_neg (by decide), if_neg (by decide), if_pos rfl]; rfl
    · rw [kz 217 (by decide), hJ186 21 (by decide), hs177 21, if_neg (by decide), if_pos rfl]; exact hT.2.2.2.2.1
    · rw [kz 217 (by decide), hJ186 22 (by decide), hs177 22, if_pos rfl]; exact hT.2.2.2.2.2
theorem m_join {Λ : hc_L} {I : hc_I} {L : hc_J} {R : hc_R} {S : HS} (hW : MW Λ I L S) {P : LwP} {x : Rs} (hK : ∀ k, k < sC S → wf (sH S k)) (hE : ∀ m, aM (sA S) ≤ m → m < 12 → aEt (sA S) m = false) (hx : jnR S P = some x) (hok : ∀ q, x = .inr q → wf (aJoin q.2.1)) : Run xX11_join [.ref 217] Λ I L R (MPost (some (.int (qJoin x))) (nJoin S x) Λ I L R) :=
  m_join0 hW hx (fun h12 i k A1 I1 L1 hT hJ hk hr hxe => jn_yes hW hK hE h12 hT hJ hk hr hxe (hok _ hxe))
