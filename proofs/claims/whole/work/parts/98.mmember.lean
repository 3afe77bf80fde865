/-! the reference reads: a member, a field -/
theorem abFind_cg {p q : Nat → Bool} : ∀ (d i : Nat), (∀ j, i ≤ j → j < i + d → p j = q j) → abFind p d i = abFind q d i
  | 0, _, _ => rfl
  | d + 1, i, h => by
    rw [abFind, abFind, h i (Nat.le_refl _) (by omega), abFind_cg d (i + 1) (fun j h1 h2 => h j (by omega) (by omega))]
theorem Da.nmd {I : hc_I} {L : hc_J} {A : AS} (h : Da I L A) (w : Int64) : abFind (fun j => decide (L 220 (12 + j) = w)) (aM A) 0 = abNamed A w :=
  abFind_cg _ _ (fun j _ hj => by rw [h.2.2.2.2.2.1 j (by omega)])
section RFU
variable {I : hc_I} {L : hc_J} {z j : Nat}
theorem RFr.uI {v : Int32} (h1 : ¬ rfZ z) (h2 : ¬ rfJ z j) : RFr I (hc_u I z j v) L L := by
  refine ⟨fun a ha => hc_u_row _ _ _ _ (fun e => h1 (e ▸ ha)), fun a b hab => ?_, fun _ _ => rfl, fun _ _ _ => rfl⟩
  show (if a = z ∧ b = j then v else I a b) = I a b
  rw [if_neg (fun e => h2 (by rw [← e.1, ← e.2]; exact hab))]
theorem RFr.uL {v : Int64} (h1 : ¬ rfY z) (h2 : ¬ rfL z j) : RFr I I L (hc_u L z j v) := by
  refine ⟨fun _ _ => rfl, fun _ _ _ => rfl, fun a ha => hc_u_row _ _ _ _ (fun e => h1 (e ▸ ha)), fun a b hab => ?_⟩
  show (if a = z ∧ b = j then v else L a b) = L a b
  rw [if_neg (fun e => h2 (by rw [← e.1, ← e.2]; exact hab))]
end RFU
section TKU
variable {Λ : hc_L} {I : hc_I} {L : hc_J} {I0 : hc_I} {L0 : hc_J} {n i : Nat} {B : Nat → Nat} {A : AS} {P : LwP}
theorem TK.uI {z j : Nat} {v : Int32} (h : TK I0 L0 n B Λ I L i) (h1 : ¬ rfZ z) (h2 : ¬ rfJ z j) (h3 : ¬ (z = 217 ∧ LxJ j)) : TK I0 L0 n B Λ (hc_u I z j v) L i :=
  h.kp (RFr.uI h1 h2) (fun k hk => by show (if 217 = z ∧ k = j then v else I 217 k) = I 217 k; rw [if_neg (fun e => h3 ⟨e.1.symm, by rw [← e.2]; exact hk⟩)]) rfl
theorem TK.uL {z j : Nat} {v : Int64} (h : TK I0 L0 n B Λ I L i) (h1 : ¬ rfY z) (h2 : ¬ rfL z j) (h3 : z ≠ 217) : TK I0 L0 n B Λ I (hc_u L z j v) i :=
  h.kp (RFr.uL h1 h2) (fun _ _ => rfl) (hc_u_row _ _ _ _ (Ne.symm h3))
theorem Dp.kp {I' : hc_I} {L' : hc_J} (h : Dp I L P) (e1 : I' 217 11 = I 217 11) (e2 : I' 226 = I 226) (e3 : L' 225 = L 225) : Dp I' L' P := ⟨e1.trans h.1, fun k hk => by rw [e2, e3]; exact h.2 k hk⟩
theorem TD.addM (h : TD I L A P) (hm : aM A < 12) (w : Int64) : TD (hc_u I 217 12 (nI (aM A + 1))) (hc_u L 220 (12 + aM A) w) (aAddM A w) P := by
  have e : ∀ j, j ≠ 12 → hc_u I 217 12 (nI (aM A + 1)) 217 j = I 217 j := fun j hj => by rw [hc_u_at, if_neg hj]
  have eZ : ∀ z, z ≠ 217 → hc_u I 217 12 (nI (aM A + 1)) z = I z := fun z hz => hc_u_row _ _ _ _ hz
  obtain ⟨⟨⟨g1, g2, g3, g4, g5, g6⟩, ⟨h2, h3⟩, ⟨⟨h4, h5, h6, h7⟩, h8⟩, h11, h12, h13, h14⟩, hp, h18⟩ := h
  refine ⟨⟨⟨Nat.succ_le_of_lt hm, g2, g3, g4, fun m hm2 => ?_, fun m hm2 => ?_⟩, ⟨by rw [hc_u_at, if_pos rfl]; rfl, (e 13 (by decide)).trans h3⟩, ⟨⟨by rw [e 14 (by decide)]; exact h4, by rw [e 15 (by decide)]; exact h5, by rw [e 16 (by decide)]; exact h6, by rw [e 17 (by decide)]; exact h7⟩, by rw [eZ 224 (by decide)]; exact h8⟩, by rw [eZ 222 (by decide)]; exact h11, by rw [eZ 223 (by decide)]; exact h12, fun m hm2 => ?_, by rw [eZ 221 (by decide)]; exact h14⟩, hp.kp (e 11 (by decide)) (eZ 226 (by decide)) (hc_u_row _ _ _ _ (by decide)), (e 18 (by decide)).trans h18⟩
  · have hm3 : m < aM A + 1 := hm2
    show lpUp (aTh A) (aM A) true m = true ∧ lpUp (aLv A) (aM A) false m = false ∧ lpUp (aYs A) (aM A) 0 m = 0
    unfold lpUp
    by_cases c : m = aM A
    · rw [if_pos c, if_pos c, if_pos c]; exact ⟨rfl, rfl, rfl⟩
    · rw [if_neg c, if_neg c, if_neg c]; exact g5 m (by omega)
  · show lpUp (aEt A) (aM A) false m = false
    unfold lpUp
    split
    · rfl
    · exact g6 m hm2
  · have hm3 : m < aM A + 1 := hm2
    show hc_u L 220 (12 + aM A) w 220 (12 + m) = lpUp (aNm A) (aM A) w m
    unfold lpUp
    rw [hc_u_at]
    by_cases c : m = aM A
    · rw [if_pos c, if_pos (by omega)]
    · rw [if_neg c, if_neg (by omega)]; exact h13 m (by omega)
theorem TD.fv {I' : hc_I} {L' : hc_J} (h : TD I L A P) (f : FvFr (6 * (24 + aF A)) I I' L L') : TD I' L' A P := by
  have e : ∀ j, ¬ LxJ j → I' 217 j = I 217 j := f.2.1
  obtain ⟨⟨g, ⟨h2, h3⟩, ⟨⟨h4, h5, h6, h7⟩, h8⟩, h11, h12, h13, h14⟩, hp, h18⟩ := h
  refine ⟨⟨g, ⟨(e 12 (by unfold LxJ; omega)).trans h2, (e 13 (by unfold LxJ; omega)).trans h3⟩, ⟨⟨by rw [e 14 (by unfold LxJ; omega)]; exact h4, by rw [e 15 (by unfold LxJ; omega)]; exact h5, by rw [e 16 (by unfold LxJ; omega)]; exact h6, by rw [e 17 (by unfold LxJ; omega)]; exact h7⟩, by rw [f.1 224 (by decide) (by decide)]; exact h8⟩, by rw [f.1 222 (by decide) (by decide)]; exact h11, by rw [f.1 223 (by decide) (by decide)]; exact h12, by rw [f.2.2.2 220 (by decide)]; exact h13, fun q hq a ha => ?_⟩, hp.kp (e 11 (by unfold LxJ; omega)) (f.1 226 (by decide) (by decide)) (f.2.2.2 225 (by decide)), (e 18 (by unfold LxJ; omega)).trans h18⟩
  rw [f.2.2.1 _ (by omega)]
  exact h14 q hq a ha
theorem TD.addF (h : TD I L A P) (hf : aF A < 24) {g : Nat → Nat} (hg : ∀ b, b < 6 → I 221 (6 * (24 + aF A) + b) = nI (g b)) : TD (hc_u I 217 13 (nI (aF A + 1))) L (aAddF A g) P := by
  have e : ∀ j, j ≠ 13 → hc_u I 217 13 (nI (aF A + 1)) 217 j = I 217 j := fun j hj => by rw [hc_u_at, if_neg hj]
  have eZ : ∀ z, z ≠ 217 → hc_u I 217 13 (nI (aF A + 1)) z = I z := fun z hz => hc_u_row _ _ _ _ hz
  obtain ⟨⟨⟨g1, g2, g3, g4, g5, g6⟩, ⟨h2, h3⟩, ⟨⟨h4, h5, h6, h7⟩, h8⟩, h11, h12, h13, h14⟩, hp, h18⟩ := h
  refine ⟨⟨⟨g1, Nat.succ_le_of_lt hf, g3, g4, g5, g6⟩, ⟨(e 12 (by decide)).trans h2, by rw [hc_u_at, if_pos rfl]; rfl⟩, ⟨⟨by rw [e 14 (by decide)]; exact h4, by rw [e 15 (by decide)]; exact h5, by rw [e 16 (by decide)]; exact h6, by rw [e 17 (by decide)]; exact h7⟩, by rw [eZ 224 (by decide)]; exact h8⟩, by rw [eZ 222 (by decide)]; exact h11, by rw [eZ 223 (by decide)]; exact h12, h13, fun q hq a ha => ?_⟩, hp.kp (e 11 (by decide)) (eZ 226 (by decide)) rfl, (e 18 (by decide)).trans h18⟩
  have hq2 : q < aF A + 1 := hq
  rw [eZ 221 (by decide)]
  show _ = nI (lpUp (aFd A) (aF A) g q a)
  unfold lpUp
  by_cases c : q = aF A
  · rw [if_pos c, c]; exact hg a ha
  · rw [if_neg c]; exact h14 q (by omega) a ha
end TKU
set_option maxRecDepth 100000 in
theorem rm_member {Λ : hc_L} {I : hc_I} {L : hc_J} {R : hc_R} {I0 : hc_I} {L0 : hc_J} {n i : Nat} {B : Nat → Nat} {A : AS} {P : LwP} (hw : TW I0 L0 n B Λ I L i A P) : Run xX11_readMember [.ref 217] Λ I L R (TPost I0 L0 n B (pMember (kd B n) (vl B n) i A P) Λ R) := by
  refine Run.of (by decide +kernel) (Nat.le_of_ble_eq_true rfl) ?_
  show LW _ _ _ [(0, .ref 217)] _ _ _ _ _ _
  have hY := hw.1.y
  obtain ⟨hT, hW, hPi⟩ := hw
  have hB := hT.b
  have hm12 := hW.1.1.1
  have hf24 := hW.1.1.2.1
  refine LW_aloadn 0 dX11_readMember_0 rfl rfl ?_
  refine gX11_12 dX11_readMember_1 flX11_94 (hY.lt (k := 217) (by decide)) (ly217 hY) ?_
  rw [show I 217 12 = nI (aM A) from hW.1.2.1.1]
  refine LW_bipush (v := 12) dX11_readMember_4 (by decide) ?_
  refine LW_icmp_ne (tgt := 15) dX11_readMember_6 (by decide) (fun c6 => ?_) (fun c6 => ?_)
  · have hM : aM A < 12 := Nat.lt_of_le_of_ne hm12 (fun e => c6 (by rw [e]; rfl))
    refine LW_aloadn 0 dX11_readMember_15 rfl rfl ?_
    refine LW_callV (As := []) (b := 217) (st := []) (ci := 11) (r := (RX11, TX11, 44)) (r_nx hT) YX11_next rfl dX11_readMember_16 mlX11_234 (hY.lt (k := 217) (by decide)) (ly217 hY) ⟨rfl, rfl⟩ (by decide) ⟨Nat.le_of_ble_eq_true rfl, Nat.le_of_ble_eq_true rfl⟩ (Nat.le_of_ble_eq_true rfl) rfl (fun r16 Λc16 Ic16 Lc16 Rc16 hq16 => ?_)
    obtain ⟨rfl, rfl, rfl, hl16, hT, hr16⟩ := hq16
    have hW := hW.lx hl16
    refine LW_aloadn 0 dX11_readMember_19 rfl rfl ?_
    refine LW_callV (As := []) (b := 217) (st := []) (ci := 11) (r := (RX11, TX11, 44)) (r_isName hT) YX11_isName rfl dX11_readMember_20 mlX11_243 (hY.lt (k := 217) (by decide)) (ly217 hY) ⟨rfl, rfl⟩ (by decide) ⟨Nat.le_of_ble_eq_true rfl, Nat.le_of_ble_eq_true rfl⟩ (Nat.le_of_ble_eq_true rfl) rfl (fun r20 Λc20 Ic20 Lc20 Rc20 hq20 => ?_)
    obtain ⟨rfl, rfl, rfl, rfl, rfl⟩ := hq20
    refine LW_bif_ne (tgt := 32) dX11_readMember_23 (by decide) (fun c23 => ?_) (fun c23 => ?_)
    · have hk := of_decide_eq_true c23
      refine LW_aloadn 0 dX11_readMember_32 rfl rfl ?_
      refine LW_aloadn 0 dX11_readMember_33 rfl rfl ?_
      refine gX11_28 dX11_readMember_34 flX11_140 (hY.lt (k := 217) (by decide)) (ly217 hY) ?_
      rw [show Lc16 217 28 = lN (vl B n (i + 1)) from (hT.wd hk)]
      refine LW_bipush (v := 12) dX11_readMember_37 (by decide) ?_
      refine LW_aloadn 0 dX11_readMember_39 rfl rfl ?_
      refine gX11_12 dX11_readMember_40 flX11_94 (hY.lt (k := 217) (by decide)) (ly217 hY) ?_
      rw [show Ic16 217 12 = nI (aM A) from hW.1.2.1.1]
      refine LW_callV (As := [.long (lN (vl B n (i + 1))), .int 12, .int (nI (aM A))]) (b := 217) (st := []) (ci := 11) (r := (RX11, TX11, 44)) (r_placeOf hY (lN (vl B n (i + 1))) (a := 12) (c := aM A) (by omega)) YX11_placeOf rfl dX11_readMember_43 mlX11_246 (hY.lt (k := 217) (by decide)) (ly217 hY) ⟨rfl, rfl⟩ (by decide) ⟨Nat.le_of_ble_eq_true rfl, Nat.le_of_ble_eq_true rfl⟩ (Nat.le_of_ble_eq_true rfl) rfl (fun r43 Λc43 Ic43 Lc43 Rc43 hq43 => ?_)
      obtain ⟨rfl, rfl, rfl, rfl, rfl⟩ := hq43
      rw [show abFind (fun j => decide (Lc16 220 (12 + j) = lN (vl B n (i + 1)))) (aM A) 0 = abNamed A (lN (vl B n (i + 1))) from hW.1.nmd _]
      refine LW_iconst (v := -1) dX11_readMember_46 (by decide) ?_
      refine LW_icmp_eq (tgt := 56) dX11_readMember_47 (by decide) (fun c47 => ?_) (fun c47 => ?_)
      · refine LW_aloadn 0 dX11_readMember_56 rfl rfl ?_
        refine gX11_3 dX11_readMember_57 flX11_18 (hY.lt (k := 217) (by decide)) (ly217 hY) (lf217_3 hY) ?_
        refine LW_bipush (v := 12) dX11_readMember_60 (by decide) ?_
        refine LW_aloadn 0 dX11_readMember_62 rfl rfl ?_
        refine gX11_12 dX11_readMember_63 flX11_94 (hY.lt (k := 217) (by decide)) (ly217 hY) ?_
        rw [show Ic16 217 12 = nI (aM A) from hW.1.2.1.1]
        refine LW_iadd dX11_readMember_66 ?_
        rw [show (12 + (nI (aM A))) = nI (12 + aM A) from (nI_add 12 _)]
        refine LW_aloadn 0 dX11_readMember_67 rfl rfl ?_
        refine gX11_28 dX11_readMember_68 flX11_140 (hY.lt (k := 217) (by decide)) (ly217 hY) ?_
        rw [show Lc16 217 28 = lN (vl B n (i + 1)) from (hT.wd hk)]
        refine LW_last dX11_readMember_71 (hY.lt (k := 220) (by decide)) (ly220 hY) rfl (by omega) (Nat.le_of_ble_eq_true rfl) ?_
        generalize hL71 : hc_u Lc16 220 (12 + aM A) (lN (vl B n (i + 1))) = L71
        refine LW_aloadn 0 dX11_readMember_72 rfl rfl ?_
        refine LW_dup dX11_readMember_73 rfl ?_
        refine gX11_12 dX11_readMember_74 flX11_94 (hY.lt (k := 217) (by decide)) (ly217 hY) ?_
        rw [show Ic16 217 12 = nI (aM A) from hW.1.2.1.1]
        refine LW_iconst (v := 1) dX11_readMember_77 (by decide) ?_
        refine LW_iadd dX11_readMember_78 ?_
        rw [show ((nI (aM A)) + 1) = nI (aM A + 1) from (nI_add _ 1)]
        refine pX11_12 dX11_readMember_79 flX11_94 (hY.lt (k := 217) (by decide)) (ly217 hY) ?_
        generalize hI79 : hc_u Ic16 217 12 (nI (aM A + 1)) = I79
        have hT : TK I0 L0 n B Λ I79 L71 (i + 1) := by rw [← hI79, ← hL71]; exact (hT.uL (by unfold rfY; omega) (by unfold rfL; omega) (by decide)).uI (by unfold rfZ; omega) (by unfold rfJ; omega) (by unfold LxJ; omega)
        have hW : TD I79 L71 (aAddM A (lN (vl B n (i + 1)))) P := by rw [← hI79, ← hL71]; exact hW.addM hM _
        refine LW_aloadn 0 dX11_readMember_82 rfl rfl ?_
        refine LW_callV (As := []) (b := 217) (st := []) (ci := 11) (r := (RX11, TX11, 44)) (r_nx hT) YX11_next rfl dX11_readMember_83 mlX11_234 (hY.lt (k := 217) (by decide)) (ly217 hY) ⟨rfl, rfl⟩ (by decide) ⟨Nat.le_of_ble_eq_true rfl, Nat.le_of_ble_eq_true rfl⟩ (Nat.le_of_ble_eq_true rfl) rfl (fun r83 Λc83 Ic83 Lc83 Rc83 hq83 => ?_)
        obtain ⟨rfl, rfl, rfl, hl83, hT, hr83⟩ := hq83
        have hW := hW.lx hl83
        refine LW_iconst (v := 1) dX11_readMember_86 (by decide) ?_
        refine LW_zret dX11_readMember_87 rfl (Nat.le_of_ble_eq_true rfl) (Nat.le_of_ble_eq_true rfl) (Or.inr rfl) ?_
        exact TPost.yes (q := (i + 1 + 1, aAddM A (lN (vl B n (i + 1))), P)) (show pMember (kd B n) (vl B n) i A P = .inr (i + 1 + 1, aAddM A (lN (vl B n (i + 1))), P) by unfold pMember pName; rw [if_pos hM, if_pos hk, if_pos c47, if_pos hM]) ⟨hT, hW, by show P.1 ≤ _; omega⟩
      · refine LW_aloadn 0 dX11_readMember_50 rfl rfl ?_
        refine LW_iconst (v := 2) dX11_readMember_51 (by decide) ?_
        refine LW_callV (As := [.int 2]) (b := 217) (st := []) (ci := 11) (r := (RX11, TX11, 44)) (r_fl hT (c := 2) (by decide) (by decide)) YX11_fails rfl dX11_readMember_52 mlX11_231 (hY.lt (k := 217) (by decide)) (ly217 hY) ⟨rfl, rfl⟩ (by decide) ⟨Nat.le_of_ble_eq_true rfl, Nat.le_of_ble_eq_true rfl⟩ (Nat.le_of_ble_eq_true rfl) rfl (fun r52 Λc52 Ic52 Lc52 Rc52 hq52 => ?_)
        obtain ⟨rfl, rfl, rfl, hl52, hF52⟩ := hq52
        refine LW_zret dX11_readMember_55 rfl (Nat.le_of_ble_eq_true rfl) (Nat.le_of_ble_eq_true rfl) (hc_b01 _) ?_
        exact TPost.no (show pMember (kd B n) (vl B n) i A P = .inl (2, i + 1) by unfold pMember pName; rw [if_pos hM, if_pos hk, if_neg c47]) hF52
    · have hk := of_decide_eq_false c23
      refine LW_aloadn 0 dX11_readMember_26 rfl rfl ?_
      refine LW_iconst (v := 1) dX11_readMember_27 (by decide) ?_
      refine LW_callV (As := [.int 1]) (b := 217) (st := []) (ci := 11) (r := (RX11, TX11, 44)) (r_fl hT (c := 1) (by decide) (by decide)) YX11_fails rfl dX11_readMember_28 mlX11_231 (hY.lt (k := 217) (by decide)) (ly217 hY) ⟨rfl, rfl⟩ (by decide) ⟨Nat.le_of_ble_eq_true rfl, Nat.le_of_ble_eq_true rfl⟩ (Nat.le_of_ble_eq_true rfl) rfl (fun r28 Λc28 Ic28 Lc28 Rc28 hq28 => ?_)
      obtain ⟨rfl, rfl, rfl, hl28, hF28⟩ := hq28
      refine LW_zret dX11_readMember_31 rfl (Nat.le_of_ble_eq_true rfl) (Nat.le_of_ble_eq_true rfl) (hc_b01 _) ?_
      exact TPost.no (show pMember (kd B n) (vl B n) i A P = .inl (1, i + 1) by unfold pMember pName; rw [if_pos hM, if_neg hk]) hF28
  · have hM : ¬ aM A < 12 := fun z => absurd ((hc_eq (a := aM A) (b := 12) (by omega) (by omega)).mp (Classical.not_not.mp c6)) (by omega)
    refine LW_aloadn 0 dX11_readMember_9 rfl rfl ?_
    refine LW_iconst (v := 5) dX11_readMember_10 (by decide) ?_
    refine LW_callV (As := [.int 5]) (b := 217) (st := []) (ci := 11) (r := (RX11, TX11, 44)) (r_fl hT (c := 5) (by decide) (by decide)) YX11_fails rfl dX11_readMember_11 mlX11_231 (hY.lt (k := 217) (by decide)) (ly217 hY) ⟨rfl, rfl⟩ (by decide) ⟨Nat.le_of_ble_eq_true rfl, Nat.le_of_ble_eq_true rfl⟩ (Nat.le_of_ble_eq_true rfl) rfl (fun r11 Λc11 Ic11 Lc11 Rc11 hq11 => ?_)
    obtain ⟨rfl, rfl, rfl, hl11, hF11⟩ := hq11
    refine LW_zret dX11_readMember_14 rfl (Nat.le_of_ble_eq_true rfl) (Nat.le_of_ble_eq_true rfl) (hc_b01 _) ?_
    exact TPost.no (show pMember (kd B n) (vl B n) i A P = .inl (5, i) from if_neg hM) hF11
set_option maxRecDepth 100000 in
theorem rm_field {Λ : hc_L} {I : hc_I} {L : hc_J} {R : hc_R} {I0 : hc_I} {L0 : hc_J} {n i : Nat} {B : Nat → Nat} {A : AS} {P : LwP} (hw : TW I0 L0 n B Λ I L i A P) : Run xX11_readField [.ref 217] Λ I L R (TPost I0 L0 n B (pField (kd B n) (vl B n) i A P) Λ R) := by
  refine Run.of (by decide +kernel) (Nat.le_of_ble_eq_true rfl) ?_
  show LW _ _ _ [(0, .ref 217)] _ _ _ _ _ _
  have hY := hw.1.y
  obtain ⟨hT, hW, hPi⟩ := hw
  have hB := hT.b
  have hm12 := hW.1.1.1
  have hf24 := hW.1.1.2.1
  refine LW_aloadn 0 dX11_readField_0 rfl rfl ?_
  refine gX11_13 dX11_readField_1 flX11_97 (hY.lt (k := 217) (by decide)) (ly217 hY) ?_
  rw [show I 217 13 = nI (aF A) from hW.1.2.1.2]
  refine LW_bipush (v := 24) dX11_readField_4 (by decide) ?_
  refine LW_icmp_ne (tgt := 15) dX11_readField_6 (by decide) (fun c6 => ?_) (fun c6 => ?_)
  · have hF4 : aF A < 24 := Nat.lt_of_le_of_ne hf24 (fun e => c6 (by rw [e]; rfl))
    refine LW_aloadn 0 dX11_readField_15 rfl rfl ?_
    refine LW_callV (As := []) (b := 217) (st := []) (ci := 11) (r := (RX11, TX11, 44)) (r_nx hT) YX11_next rfl dX11_readField_16 mlX11_234 (hY.lt (k := 217) (by decide)) (ly217 hY) ⟨rfl, rfl⟩ (by decide) ⟨Nat.le_of_ble_eq_true rfl, Nat.le_of_ble_eq_true rfl⟩ (Nat.le_of_ble_eq_true rfl) rfl (fun r16 Λc16 Ic16 Lc16 Rc16 hq16 => ?_)
    obtain ⟨rfl, rfl, rfl, hl16, hT, hr16⟩ := hq16
    have hW := hW.lx hl16
    refine LW_aloadn 0 dX11_readField_19 rfl rfl ?_
    refine LW_callV (As := []) (b := 217) (st := []) (ci := 11) (r := (RX11, TX11, 44)) (r_isName hT) YX11_isName rfl dX11_readField_20 mlX11_243 (hY.lt (k := 217) (by decide)) (ly217 hY) ⟨rfl, rfl⟩ (by decide) ⟨Nat.le_of_ble_eq_true rfl, Nat.le_of_ble_eq_true rfl⟩ (Nat.le_of_ble_eq_true rfl) rfl (fun r20 Λc20 Ic20 Lc20 Rc20 hq20 => ?_)
    obtain ⟨rfl, rfl, rfl, rfl, rfl⟩ := hq20
    refine LW_bif_ne (tgt := 32) dX11_readField_23 (by decide) (fun c23 => ?_) (fun c23 => ?_)
    · have hk := of_decide_eq_true c23
      refine LW_aloadn 0 dX11_readField_32 rfl rfl ?_
      refine LW_aloadn 0 dX11_readField_33 rfl rfl ?_
      refine gX11_28 dX11_readField_34 flX11_140 (hY.lt (k := 217) (by decide)) (ly217 hY) ?_
      rw [show Lc16 217 28 = lN (vl B n (i + 1)) from (hT.wd hk)]
      refine LW_bipush (v := 12) dX11_readField_37 (by decide) ?_
      refine LW_aloadn 0 dX11_readField_39 rfl rfl ?_
      refine gX11_12 dX11_readField_40 flX11_94 (hY.lt (k := 217) (by decide)) (ly217 hY) ?_
      rw [show Ic16 217 12 = nI (aM A) from hW.1.2.1.1]
      refine LW_callV (As := [.long (lN (vl B n (i + 1))), .int 12, .int (nI (aM A))]) (b := 217) (st := []) (ci := 11) (r := (RX11, TX11, 44)) (r_placeOf hY (lN (vl B n (i + 1))) (a := 12) (c := aM A) (by omega)) YX11_placeOf rfl dX11_readField_43 mlX11_246 (hY.lt (k := 217) (by decide)) (ly217 hY) ⟨rfl, rfl⟩ (by decide) ⟨Nat.le_of_ble_eq_true rfl, Nat.le_of_ble_eq_true rfl⟩ (Nat.le_of_ble_eq_true rfl) rfl (fun r43 Λc43 Ic43 Lc43 Rc43 hq43 => ?_)
      obtain ⟨rfl, rfl, rfl, rfl, rfl⟩ := hq43
      rw [show abFind (fun j => decide (Lc16 220 (12 + j) = lN (vl B n (i + 1)))) (aM A) 0 = abNamed A (lN (vl B n (i + 1))) from hW.1.nmd _]
      refine LW_istoren (ls' := [(0, .ref 217), (1, .int (abNamed A (lN (vl B n (i + 1)))))]) dX11_readField_46 rfl (by decide) rfl ?_
      refine LW_iloadn 1 dX11_readField_47 rfl rfl ?_
      refine LW_iconst (v := -1) dX11_readField_48 (by decide) ?_
      refine LW_icmp_ne (tgt := 58) dX11_readField_49 (by decide) (fun c49 => ?_) (fun c49 => ?_)
      · obtain ⟨m, hm, hme⟩ := (abNamed_r A hm12 (lN (vl B n (i + 1)))).resolve_left c49
        rw [hme]
        refine LW_aloadn 0 dX11_readField_58 rfl rfl ?_
        refine LW_callV (As := []) (b := 217) (st := []) (ci := 11) (r := (RX11, TX11, 44)) (r_nx hT) YX11_next rfl dX11_readField_59 mlX11_234 (hY.lt (k := 217) (by decide)) (ly217 hY) ⟨rfl, rfl⟩ (by decide) ⟨Nat.le_of_ble_eq_true rfl, Nat.le_of_ble_eq_true rfl⟩ (Nat.le_of_ble_eq_true rfl) rfl (fun r59 Λc59 Ic59 Lc59 Rc59 hq59 => ?_)
        obtain ⟨rfl, rfl, rfl, hl59, hT, hr59⟩ := hq59
        have hW := hW.lx hl59
        refine LW_aloadn 0 dX11_readField_62 rfl rfl ?_
        refine LW_bipush (v := 6) dX11_readField_63 (by decide) ?_
        refine LW_bipush (v := 24) dX11_readField_65 (by decide) ?_
        refine LW_aloadn 0 dX11_readField_67 rfl rfl ?_
        refine gX11_13 dX11_readField_68 flX11_97 (hY.lt (k := 217) (by decide)) (ly217 hY) ?_
        rw [show Ic59 217 13 = nI (aF A) from hW.1.2.1.2]
        refine LW_iadd dX11_readField_71 ?_
        rw [show (24 + (nI (aF A))) = nI (24 + aF A) from (nI_add 24 _)]
        refine LW_imul dX11_readField_72 ?_
        rw [show (6 * (nI (24 + aF A))) = nI (6 * (24 + aF A)) from (nI_mul 6 _)]
        refine LW_iloadn 1 dX11_readField_73 rfl rfl ?_
        refine LW_callV (As := [.int (nI (6 * (24 + aF A))), .int (nI m)]) (b := 217) (st := []) (ci := 11) (r := (RX11, TX11, 44)) (r_five hT (a := 6 * (24 + aF A)) (m := m) (by omega) (by omega)) YX11_readFive rfl dX11_readField_74 mlX11_254 (hY.lt (k := 217) (by decide)) (ly217 hY) ⟨rfl, rfl⟩ (by decide) ⟨Nat.le_of_ble_eq_true rfl, Nat.le_of_ble_eq_true rfl⟩ (Nat.le_of_ble_eq_true rfl) rfl (fun r74 Λc74 Ic74 Lc74 Rc74 hq74 => ?_)
        obtain ⟨b74, rfl, rfl, rfl, hv74, ht74, hf74⟩ := hq74
        have hW := hW.fv hv74
        refine LW_bif_ne (tgt := 82) dX11_readField_77 (by decide) (fun c77 => ?_) (fun c77 => ?_)
        · obtain ⟨he, hT, hrow⟩ := ht74 c77
          refine LW_aloadn 0 dX11_readField_82 rfl rfl ?_
          refine LW_dup dX11_readField_83 rfl ?_
          refine gX11_13 dX11_readField_84 flX11_97 (hY.lt (k := 217) (by decide)) (ly217 hY) ?_
          rw [show Ic74 217 13 = nI (aF A) from hW.1.2.1.2]
          refine LW_iconst (v := 1) dX11_readField_87 (by decide) ?_
          refine LW_iadd dX11_readField_88 ?_
          rw [show ((nI (aF A)) + 1) = nI (aF A + 1) from (nI_add _ 1)]
          refine pX11_13 dX11_readField_89 flX11_97 (hY.lt (k := 217) (by decide)) (ly217 hY) ?_
          generalize hI89 : hc_u Ic74 217 13 (nI (aF A + 1)) = I89
          have hT : TK I0 L0 n B Λ I89 Lc74 (i + 1 + 1 + 5) := by rw [← hI89]; exact hT.uI (by unfold rfZ; omega) (by unfold rfJ; omega) (by unfold LxJ; omega)
          have hW : TD I89 Lc74 (aAddF A (fdRow (vl B n) m (i + 1 + 1))) P := by rw [← hI89]; exact hW.addF hF4 hrow
          refine LW_iconst (v := 1) dX11_readField_92 (by decide) ?_
          refine LW_zret dX11_readField_93 rfl (Nat.le_of_ble_eq_true rfl) (Nat.le_of_ble_eq_true rfl) (Or.inr rfl) ?_
          have hmN : (abNamed A (lN (vl B n (i + 1)))).toNatClampNeg = m := by rw [hme]; exact hc_cl (by omega)
          exact TPost.yes (q := (i + 1 + 1 + 5, aAddF A (fdRow (vl B n) m (i + 1 + 1)), P)) (show pField (kd B n) (vl B n) i A P = .inr (i + 1 + 1 + 5, aAddF A (fdRow (vl B n) m (i + 1 + 1)), P) by unfold pField; rw [if_pos hF4, if_pos hk, if_neg c49, hmN]; unfold pLand pDo; rw [he]; rfl) ⟨hT, hW, by show P.1 ≤ _; omega⟩
        · obtain ⟨e, he, hF⟩ := hf74 c77
          refine LW_iconst (v := 0) dX11_readField_80 (by decide) ?_
          refine LW_zret dX11_readField_81 rfl (Nat.le_of_ble_eq_true rfl) (Nat.le_of_ble_eq_true rfl) (Or.inl rfl) ?_
          exact TPost.no (show pField (kd B n) (vl B n) i A P = .inl e by unfold pField; rw [if_pos hF4, if_pos hk, if_neg c49]; unfold pLand pDo; rw [he]) hF
      · refine LW_aloadn 0 dX11_readField_52 rfl rfl ?_
        refine LW_iconst (v := 3) dX11_readField_53 (by decide) ?_
        refine LW_callV (As := [.int 3]) (b := 217) (st := []) (ci := 11) (r := (RX11, TX11, 44)) (r_fl hT (c := 3) (by decide) (by decide)) YX11_fails rfl dX11_readField_54 mlX11_231 (hY.lt (k := 217) (by decide)) (ly217 hY) ⟨rfl, rfl⟩ (by decide) ⟨Nat.le_of_ble_eq_true rfl, Nat.le_of_ble_eq_true rfl⟩ (Nat.le_of_ble_eq_true rfl) rfl (fun r54 Λc54 Ic54 Lc54 Rc54 hq54 => ?_)
        obtain ⟨rfl, rfl, rfl, hl54, hF54⟩ := hq54
        refine LW_zret dX11_readField_57 rfl (Nat.le_of_ble_eq_true rfl) (Nat.le_of_ble_eq_true rfl) (hc_b01 _) ?_
        exact TPost.no (show pField (kd B n) (vl B n) i A P = .inl (3, i + 1) by unfold pField; rw [if_pos hF4, if_pos hk, if_pos (Classical.not_not.mp c49)]) hF54
    · have hk := of_decide_eq_false c23
      refine LW_aloadn 0 dX11_readField_26 rfl rfl ?_
      refine LW_iconst (v := 1) dX11_readField_27 (by decide) ?_
      refine LW_callV (As := [.int 1]) (b := 217) (st := []) (ci := 11) (r := (RX11, TX11, 44)) (r_fl hT (c := 1) (by decide) (by decide)) YX11_fails rfl dX11_readField_28 mlX11_231 (hY.lt (k := 217) (by decide)) (ly217 hY) ⟨rfl, rfl⟩ (by decide) ⟨Nat.le_of_ble_eq_true rfl, Nat.le_of_ble_eq_true rfl⟩ (Nat.le_of_ble_eq_true rfl) rfl (fun r28 Λc28 Ic28 Lc28 Rc28 hq28 => ?_)
      obtain ⟨rfl, rfl, rfl, hl28, hF28⟩ := hq28
      refine LW_zret dX11_readField_31 rfl (Nat.le_of_ble_eq_true rfl) (Nat.le_of_ble_eq_true rfl) (hc_b01 _) ?_
      exact TPost.no (show pField (kd B n) (vl B n) i A P = .inl (1, i + 1) by unfold pField; rw [if_pos hF4, if_neg hk]) hF28
  · have hF4 : ¬ aF A < 24 := fun z => absurd ((hc_eq (a := aF A) (b := 24) (by omega) (by omega)).mp (Classical.not_not.mp c6)) (by omega)
    refine LW_aloadn 0 dX11_readField_9 rfl rfl ?_
    refine LW_iconst (v := 5) dX11_readField_10 (by decide) ?_
    refine LW_callV (As := [.int 5]) (b := 217) (st := []) (ci := 11) (r := (RX11, TX11, 44)) (r_fl hT (c := 5) (by decide) (by decide)) YX11_fails rfl dX11_readField_11 mlX11_231 (hY.lt (k := 217) (by decide)) (ly217 hY) ⟨rfl, rfl⟩ (by decide) ⟨Nat.le_of_ble_eq_true rfl, Nat.le_of_ble_eq_true rfl⟩ (Nat.le_of_ble_eq_true rfl) rfl (fun r11 Λc11 Ic11 Lc11 Rc11 hq11 => ?_)
    obtain ⟨rfl, rfl, rfl, hl11, hF11⟩ := hq11
    refine LW_zret dX11_readField_14 rfl (Nat.le_of_ble_eq_true rfl) (Nat.le_of_ble_eq_true rfl) (hc_b01 _) ?_
    exact TPost.no (show pField (kd B n) (vl B n) i A P = .inl (5, i) from if_neg hF4) hF11
