/-! the reference: book -/
/-- refused: all else stays -/
theorem MW.bad {Λ : hc_L} {I I1 I2 : hc_I} {L L1 : hc_J} {S : HS} {e : Nat × Nat} (h : MW Λ I L S) (hf : TF I L (sN S) (sB S) Λ I1 L1 e) (h1 : ∀ z, z ≠ 217 → I2 z = I1 z) (h2 : ∀ j, I2 217 j = if j = 22 then I1 217 24 else if j = 21 then I1 217 23 else if j = 20 then 0 else I1 217 j) : MW Λ I2 L1 (sBad S e.1 (nI (tp (sB S) (sN S) e.2))) := by
  obtain ⟨-, ⟨f1, f2, f3, f4⟩, ⟨b1, b2, b3⟩, b4⟩ := hf
  obtain ⟨⟨m1, m2, m3, m4, m5, m6, m7⟩, ⟨l1, l2, l3⟩, ⟨r1, r2, r3⟩, n, ⟨c1, c2, c3⟩, ⟨t1, t2, t3⟩, g1, g2⟩ := h
  have hf24 := m2.f
  have hl7 := l1.1
  have k7 : ∀ j, (j = 2 ∨ j = 10 ∨ j = 35) → I2 217 j = I 217 j := fun j hj => by rw [h2 j, if_neg (by omega), if_neg (by omega), if_neg (by omega)]; exact f2 217 j (by unfold rfJ; omega)
  refine ⟨⟨m1, m2, by rw [f3 218 (by unfold rfY; omega)]; exact m3, fun f hf a ha => ?_, fun c hc => ?_, fun c hc => ?_, (k7 35 (by omega)).trans m7⟩, ⟨l1, (k7 10 (by omega)).trans l2, fun i hi => ?_⟩, ⟨?_, ?_, ?_⟩, fun m hm => ?_, ⟨(k7 2 (by omega)).trans c1, c2, fun k hk => ?_⟩, ⟨?_, Nat.zero_le _, fun j hj => absurd hj (Nat.not_lt_zero j)⟩, ?_, ?_⟩
  · have hf' : f < aF (sA S) := hf
    rw [h1 221 (by decide), f2 221 _ (by unfold rfJ; omega)]; exact m4 f hf a ha
  · rw [h1 222 (by decide), f2 222 c (by unfold rfJ; omega)]; exact m5 c hc
  · rw [h1 223 (by decide), f2 223 c (by unfold rfJ; omega)]; exact m6 c hc
  · have hi' : i < (sP S).1 := hi
    rw [h1 226 (by decide), f2 226 i (by unfold rfJ; omega), f4 225 i (by unfold rfL; omega)]; exact l3 i hi
  · rw [h1 224 (by decide), f2 224 0 (by unfold rfJ; omega)]; exact r1
  · rw [h1 224 (by decide), f2 224 1 (by unfold rfJ; omega)]; exact r2
  · rw [h1 224 (by decide), f2 224 2 (by unfold rfJ; omega)]; exact r3
  · have hm' : m < aM (sA S) := hm
    have h12 := m2.m
    rw [f4 220 m (by unfold rfL; omega)]; exact n m hm
  · rw [f3 219 (by unfold rfY; omega)]; exact c3 k hk
  · rw [h2 20, if_neg (by decide), if_neg (by decide), if_pos rfl]; rfl
  · rw [h2 21, if_neg (by decide), if_pos rfl, b1]; rfl
  · rw [h2 22, if_pos rfl, b4]; rfl
theorem TD.rd {I I' : hc_I} {L : hc_J} {A : AS} {P : LwP} (h : TD I L A P) (h1 : ∀ z, z ≠ 217 → I' z = I z) (h2 : ∀ j, 11 ≤ j → j ≤ 18 → I' 217 j = I 217 j) : TD I' L A P :=
  ⟨h.1.kp (fun j a b => h2 j (by omega) (by omega)) (fun z a b => h1 z (by omega)) rfl, h.2.1.kp (h2 11 (by decide) (by decide)) (h1 226 (by decide)) rfl, (h2 18 (by decide) (by decide)).trans h.2.2⟩
theorem mj_z {z : Nat} (h : ¬ MJ z) : rfZ z ∧ rfY z ∧ z ≠ 217 := by unfold MJ at h; unfold rfZ rfY; omega
set_option maxRecDepth 100000 in
theorem bk_no {Λ : hc_L} {I : hc_I} {L : hc_J} {R : hc_R} {S : HS} (hW : MW Λ I L S) {I1 : hc_I} {L1 : hc_J} {e0 : Nat × Nat} (hF : TF I L (sN S) (sB S) Λ I1 L1 e0) : LW xX11_book (0, 0) 21 [(0, .ref 217), (1, .int 0)] [] Λ I1 L1 R (MPost (some (.int (qBook (.inl e0)))) (nBook S (.inl e0)) Λ I L R) := by
  have hY := hF.1
  refine LW_iloadn 1 dX11_book_21 rfl rfl ?_
  refine LW_if_eq (tgt := 57) dX11_book_22 (by decide) (fun c22 => ?_) (fun c22 => absurd (by decide) c22)
  refine LW_aloadn 0 dX11_book_57 rfl rfl ?_
  refine LW_callV (As := []) (b := 217) (st := []) (ci := 11) (r := (RX11, TX11, 44)) (r_isRead hY) YX11_isRead rfl dX11_book_58 mlX11_279 (hY.lt (k := 217) (by decide)) (ly217 hY) ⟨rfl, rfl⟩ (by decide) ⟨Nat.le_of_ble_eq_true rfl, Nat.le_of_ble_eq_true rfl⟩ (Nat.le_of_ble_eq_true rfl) rfl (fun r58 Λc58 Ic58 Lc58 Rc58 hq58 => ?_)
  obtain ⟨rfl, rfl, rfl, rfl, hz58, hs58⟩ := hq58
  rw [show decide (I1 217 23 = 0) = false from decide_eq_false (by rw [hF.2.2.1.1]; exact fun e => absurd ((hc_eq (a := e0.1) (b := 0) (by have := hF.2.2.1.2.2; omega) (by decide)).mp e) (by have := hF.2.2.1.2.1; omega))]
  refine LW_bif_ne (tgt := 66) dX11_book_61 (by decide) (fun c61 => absurd (c61.symm.trans rfl) (by decide)) (fun c61 => ?_)
  refine LW_iconst (v := -1) dX11_book_64 (by decide) ?_
  refine LW_iret dX11_book_65 rfl (Nat.le_of_ble_eq_true rfl) (Nat.le_of_ble_eq_true rfl) ?_
  refine ⟨rfl, rfl, rfl, fun z hz => ?_, fun z hz => ?_, hW.bad hF hz58 hs58⟩
  · rw [hz58 z (mj_z hz).2.2]; exact hF.2.1.1 z (mj_z hz).1
  · exact hF.2.1.2.2.1 z (mj_z hz).2.1
set_option maxRecDepth 100000 in
theorem bk_yes {Λ : hc_L} {I : hc_I} {L : hc_J} {R : hc_R} {S : HS} (hW : MW Λ I L S) {I1 : hc_I} {L1 : hc_J} {i : Nat} {A : AS} {P : LwP} (hw : TW I L (sN S) (sB S) Λ I1 L1 i A P) (hA : wf A) (hP : lpOk P) : LW xX11_book (0, 0) 21 [(0, .ref 217), (1, .int 0)] [] Λ I1 L1 R (MPost (some (.int (qBook (.inr (i, A, P))))) (nBook S (.inr (i, A, P))) Λ I L R) := by
  have hY := hw.1.y
  refine LW_iloadn 1 dX11_book_21 rfl rfl ?_
  refine LW_if_eq (tgt := 57) dX11_book_22 (by decide) (fun c22 => ?_) (fun c22 => absurd (by decide) c22)
  refine LW_aloadn 0 dX11_book_57 rfl rfl ?_
  refine LW_callV (As := []) (b := 217) (st := []) (ci := 11) (r := (RX11, TX11, 44)) (r_isRead hY) YX11_isRead rfl dX11_book_58 mlX11_279 (hY.lt (k := 217) (by decide)) (ly217 hY) ⟨rfl, rfl⟩ (by decide) ⟨Nat.le_of_ble_eq_true rfl, Nat.le_of_ble_eq_true rfl⟩ (Nat.le_of_ble_eq_true rfl) rfl (fun r58 Λc58 Ic58 Lc58 Rc58 hq58 => ?_)
  obtain ⟨rfl, rfl, rfl, rfl, hz58, hs58⟩ := hq58
  rw [show decide (I1 217 23 = 0) = true from decide_eq_true hw.1.2.2.2.2.1]
  refine LW_bif_ne (tgt := 66) dX11_book_61 (by decide) (fun c61 => ?_) (fun c61 => absurd (c61.symm.trans rfl) (by decide))
  have hD : TD Ic58 L1 A P := hw.2.1.rd hz58 (fun j a b => by rw [hs58 j, if_neg (by omega), if_neg (by omega), if_neg (by omega)])
  have h20 : Ic58 217 20 = nI 0 := by rw [hs58 20, if_neg (by decide), if_neg (by decide), if_pos rfl]; rfl
  have h21 : Ic58 217 21 = nI 0 := by rw [hs58 21, if_neg (by decide), if_pos rfl]; exact hw.1.2.2.2.2.1
  have h22 : Ic58 217 22 = -1 := by rw [hs58 22, if_pos rfl]; exact hw.1.2.2.2.2.2
  have h35 : Ic58 217 35 = -1 := by rw [hs58 35, if_neg (by decide), if_neg (by decide), if_neg (by decide), hw.1.2.1.2.1 217 35 (by unfold rfJ; omega)]; exact hW.m.aw
  refine LW_aloadn 0 dX11_book_66 rfl rfl ?_
  refine LW_callV (As := []) (b := 217) (st := []) (ci := 11) (r := (RX11, TX11, 44)) (r_takesOver (Bt := sB S) (H := sH S) (fc := 0) (q := -1) hY hD hA hP h20 h21 h22 h35) YX11_takesOver rfl dX11_book_67 mlX11_84 (hY.lt (k := 217) (by decide)) (ly217 hY) ⟨rfl, rfl⟩ (by decide) ⟨Nat.le_of_ble_eq_true rfl, Nat.le_of_ble_eq_true rfl⟩ (Nat.le_of_ble_eq_true rfl) rfl (fun r67 Λc67 Ic67 Lc67 Rc67 hq67 => ?_)
  obtain ⟨rfl, rfl, rfl, hi67, hj67, hm67, h13⟩ := hq67
  refine LW_aloadn 0 dX11_book_70 rfl rfl ?_
  refine gX11_13 dX11_book_71 flX11_97 (hY.lt (k := 217) (by decide)) (ly217 hY) ?_
  rw [show Ic67 217 13 = nI (aF A) from (by rw [h13]; exact hD.1.2.1.2)]
  refine LW_iret dX11_book_74 rfl (Nat.le_of_ble_eq_true rfl) (Nat.le_of_ble_eq_true rfl) ?_
  refine ⟨rfl, rfl, rfl, fun z hz => ?_, fun z hz => ?_, hm67⟩
  · rw [hi67 z hz, hz58 z (mj_z hz).2.2]; exact hw.1.2.1.1 z (mj_z hz).1
  · rw [hj67 z hz]; exact hw.1.2.1.2.2.1 z (mj_z hz).2.1
set_option maxRecDepth 100000 in
theorem bk_mloop {Λ : hc_L} {I : hc_I} {L : hc_J} {R : hc_R} {S : HS} (hW : MW Λ I L S) {x : Rs} (hok : ∀ q, x = .inr q → wf q.2.1 ∧ lpOk q.2.2) : ∀ f i A P (I1 : hc_I) (L1 : hc_J), TW I L (sN S) (sB S) Λ I1 L1 i A P → kd (sB S) (sN S) i ≠ 2003 → pBk (kd (sB S) (sN S)) (vl (sB S) (sN S)) f i A P = some x → LW xX11_book (0, 0) 21 [(0, .ref 217), (1, .int 1)] [] Λ I1 L1 R (MPost (some (.int (qBook x))) (nBook S x) Λ I L R) := by
  intro f
  induction f with
  | zero =>
    intro i A P I1 L1 hw hK hx
    cases hx
  | succ f ih =>
    intro i A P I1 L1 hw hK hx
    have hY := hw.1.y
    rw [pBk, if_neg hK] at hx
    refine LW_iloadn 1 dX11_book_21 rfl rfl ?_
    refine LW_if_eq (tgt := 57) dX11_book_22 (by decide) (fun c22 => absurd c22 (by decide)) (fun c22 => ?_)
    refine LW_aloadn 0 dX11_book_25 rfl rfl ?_
    refine LW_callV (As := []) (b := 217) (st := []) (ci := 11) (r := (RX11, TX11, 44)) (r_mline hw) YX11_readLine rfl dX11_book_26 mlX11_273 (hY.lt (k := 217) (by decide)) (ly217 hY) ⟨rfl, rfl⟩ (by decide) ⟨Nat.le_of_ble_eq_true rfl, Nat.le_of_ble_eq_true rfl⟩ (Nat.le_of_ble_eq_true rfl) rfl (fun r26 Λc26 Ic26 Lc26 Rc26 hq26 => ?_)
    obtain ⟨rfl, rfl, rfl, hx26⟩ := hq26
    refine LW_bif_eq (tgt := 52) dX11_book_29 (by decide) (fun c29 => ?_) (fun c29 => ?_)
    · obtain ⟨e, he⟩ := okS_f (show okS (pLine (kd (sB S) (sN S)) (vl (sB S) (sN S)) i A P) = false from c29)
      rw [he] at hx hx26
      refine LW_iconst (v := 0) dX11_book_52 (by decide) ?_
      refine LW_istoren (ls' := [(0, .ref 217), (1, .int 0)]) dX11_book_53 rfl (by decide) rfl ?_
      refine LW_goto (tgt := 21) dX11_book_54 (by decide) ?_
      rw [← Option.some.inj hx]
      exact bk_no hW hx26
    · obtain ⟨q, he⟩ := okS_t (show okS (pLine (kd (sB S) (sN S)) (vl (sB S) (sN S)) i A P) = true from c29)
      rw [he] at hx hx26
      have hw := hx26
      replace hx : (if kd (sB S) (sN S) q.1 = 59 then pBk (kd (sB S) (sN S)) (vl (sB S) (sN S)) f (q.1 + 1) q.2.1 q.2.2 else some (.inl (1, q.1))) = some x := hx
      refine LW_aloadn 0 dX11_book_32 rfl rfl ?_
      refine LW_bipush (v := 59) dX11_book_33 (by decide) ?_
      refine LW_callV (As := [.int 59]) (b := 217) (st := []) (ci := 11) (r := (RX11, TX11, 44)) (r_tkS hw.1 (c := 59) (by decide)) YX11_takesSign rfl dX11_book_35 mlX11_276 (hY.lt (k := 217) (by decide)) (ly217 hY) ⟨rfl, rfl⟩ (by decide) ⟨Nat.le_of_ble_eq_true rfl, Nat.le_of_ble_eq_true rfl⟩ (Nat.le_of_ble_eq_true rfl) rfl (fun r35 Λc35 Ic35 Lc35 Rc35 hq35 => ?_)
      obtain ⟨rfl, rfl, rfl, hl35, hTt35, hFf35⟩ := hq35
      refine LW_bif_eq (tgt := 52) dX11_book_38 (by decide) (fun c38 => ?_) (fun c38 => ?_)
      · have hk := of_decide_eq_false c38
        rw [if_neg hk] at hx
        refine LW_iconst (v := 0) dX11_book_52 (by decide) ?_
        refine LW_istoren (ls' := [(0, .ref 217), (1, .int 0)]) dX11_book_53 rfl (by decide) rfl ?_
        refine LW_goto (tgt := 21) dX11_book_54 (by decide) ?_
        rw [← Option.some.inj hx]
        exact bk_no hW (hFf35 c38)
      · have hk := of_decide_eq_true c38
        rw [if_pos hk] at hx
        have hw : TW I L (sN S) (sB S) Λ Ic35 Lc35 (q.1 + 1) q.2.1 q.2.2 := ⟨(hTt35 c38).1, hw.2.1.lx hl35, by have := hw.2.2; omega⟩
        refine LW_aloadn 0 dX11_book_41 rfl rfl ?_
        refine gX11_25 dX11_book_42 flX11_150 (hY.lt (k := 217) (by decide)) (ly217 hY) ?_
        rw [show Ic35 217 25 = nI (srt (sB S) (sN S) (tp (sB S) (sN S) (q.1 + 1))) from hw.1.srt]
        refine LW_if_eq (tgt := 52) dX11_book_45 (by decide) (fun c45 => ?_) (fun c45 => ?_)
        · have hK2 : kd (sB S) (sN S) (q.1 + 1) = 2003 := (kd_0 hw.1.b).mpr ((hc_eq (a := srt (sB S) (sN S) (tp (sB S) (sN S) (q.1 + 1))) (b := 0) (by have := srt_le (sB S) (sN S) (tp (sB S) (sN S) (q.1 + 1)); omega) (by decide)).mp c45)
          refine LW_iconst (v := 0) dX11_book_52 (by decide) ?_
          refine LW_istoren (ls' := [(0, .ref 217), (1, .int 0)]) dX11_book_53 rfl (by decide) rfl ?_
          refine LW_goto (tgt := 21) dX11_book_54 (by decide) ?_
          obtain ⟨f2, rfl⟩ : ∃ f2, f = f2 + 1 := by cases f with
            | zero => cases hx
            | succ f => exact ⟨f, rfl⟩
          rw [pBk, if_pos hK2] at hx
          have e := Option.some.inj hx
          obtain ⟨o1, o2⟩ := hok _ e.symm
          rw [← e]
          exact bk_yes hW hw o1 o2
        · have hK2 : kd (sB S) (sN S) (q.1 + 1) ≠ 2003 := fun z => c45 (by rw [(kd_0 hw.1.b).mp z]; rfl)
          refine LW_iconst (v := 1) dX11_book_48 (by decide) ?_
          refine LW_goto (tgt := 53) dX11_book_49 (by decide) ?_
          refine LW_istoren (ls' := [(0, .ref 217), (1, .int 1)]) dX11_book_53 rfl (by decide) rfl ?_
          refine LW_goto (tgt := 21) dX11_book_54 (by decide) ?_
          exact ih (q.1 + 1) q.2.1 q.2.2 Ic35 Lc35 hw hK2 hx
set_option maxRecDepth 100000 in
theorem m_book {Λ : hc_L} {I : hc_I} {L : hc_J} {R : hc_R} {S : HS} (hW : MW Λ I L S) {er : Nat → Nat → Int64} {x : Rs} (hx : bkR S er = some x) (hok : ∀ q, x = .inr q → wf q.2.1 ∧ lpOk q.2.2) : Run xX11_book [.ref 217] Λ I L R (MPost (some (.int (qBook x))) (nBook S x) Λ I L R) := by
  refine Run.of (by decide +kernel) (Nat.le_of_ble_eq_true rfl) ?_
  show LW _ _ _ [(0, .ref 217)] _ _ _ _ _ _
  have hY := hW.m.y
  refine LW_aloadn 0 dX11_book_0 rfl rfl ?_
  refine LW_callV (As := []) (b := 217) (st := []) (ci := 11) (r := (RX11, TX11, 44)) (r_plain hY) YX11_plain rfl dX11_book_1 mlX11_81 (hY.lt (k := 217) (by decide)) (ly217 hY) ⟨rfl, rfl⟩ (by decide) ⟨Nat.le_of_ble_eq_true rfl, Nat.le_of_ble_eq_true rfl⟩ (Nat.le_of_ble_eq_true rfl) rfl (fun r1 Λc1 Ic1 Lc1 Rc1 hq1 => ?_)
  obtain ⟨rfl, rfl, rfl, rfl, hr1, hs1, htd1⟩ := hq1
  have hb1 : TpB Ic1 (sN S) (sB S) := ⟨(hr1.2.1 217 20 (by unfold rfJ; omega)).trans hW.t, hW.n7, fun j hj => by rw [hr1.1 227 (by unfold rfZ; omega)]; exact hW.2.2.2.2.2.1.2.2 j hj⟩
  refine LW_aloadn 0 dX11_book_4 rfl rfl ?_
  refine LW_callV (As := []) (b := 217) (st := []) (ci := 11) (r := (RX11, TX11, 44)) (r_begins (I0 := I) (L0 := L) (n := sN S) (B := sB S) hY hr1 hb1) YX11_begins rfl dX11_book_5 mlX11_270 (hY.lt (k := 217) (by decide)) (ly217 hY) ⟨rfl, rfl⟩ (by decide) ⟨Nat.le_of_ble_eq_true rfl, Nat.le_of_ble_eq_true rfl⟩ (Nat.le_of_ble_eq_true rfl) rfl (fun r5 Λc5 Ic5 Lc5 Rc5 hq5 => ?_)
  obtain ⟨rfl, rfl, rfl, hl5, hT5⟩ := hq5
  have hw : TW I L (sN S) (sB S) Λ Ic5 Lc5 0 (aNew er) lp0 := ⟨hT5, (htd1 er).lx hl5, Nat.zero_le _⟩
  refine LW_aloadn 0 dX11_book_8 rfl rfl ?_
  refine gX11_25 dX11_book_9 flX11_150 (hY.lt (k := 217) (by decide)) (ly217 hY) ?_
  rw [show Ic5 217 25 = nI (srt (sB S) (sN S) (tp (sB S) (sN S) 0)) from hT5.srt]
  refine LW_if_eq (tgt := 19) dX11_book_12 (by decide) (fun c12 => ?_) (fun c12 => ?_)
  · refine LW_iconst (v := 0) dX11_book_19 (by decide) ?_
    refine LW_istoren (ls' := [(0, .ref 217), (1, .int 0)]) dX11_book_20 rfl (by decide) rfl ?_
    have hK : kd (sB S) (sN S) 0 = 2003 := (kd_0 hT5.b).mpr ((hc_eq (a := srt (sB S) (sN S) (tp (sB S) (sN S) 0)) (b := 0) (by have := srt_le (sB S) (sN S) (tp (sB S) (sN S) 0); omega) (by decide)).mp c12)
    have hx : pBk (kd (sB S) (sN S)) (vl (sB S) (sN S)) 701 0 (aNew er) lp0 = some x := hx
    rw [pBk, if_pos hK] at hx
    have e := Option.some.inj hx
    obtain ⟨o1, o2⟩ := hok _ e.symm
    rw [← e]
    exact bk_yes hW hw o1 o2
  · refine LW_iconst (v := 1) dX11_book_15 (by decide) ?_
    refine LW_goto (tgt := 20) dX11_book_16 (by decide) ?_
    refine LW_istoren (ls' := [(0, .ref 217), (1, .int 1)]) dX11_book_20 rfl (by decide) rfl ?_
    have hK : kd (sB S) (sN S) 0 ≠ 2003 := fun z => c12 (by rw [(kd_0 hT5.b).mp z]; rfl)
    exact bk_mloop hW hok 701 0 _ _ _ _ hw hK hx
