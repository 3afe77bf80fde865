/-! the reference reads: the law, all of it; a line -/
theorem brK_s {K : Nat → Nat} {sum : Nat → LwP → Ls} {k i : Nat} {P : LwP} {q : Nat × LwP} (h : sum i P = .inr q) : brK K sum (k + 1) i P = if K q.1 = (if k = 0 then 41 else 44) then brK K sum k (q.1 + 1) q.2 else .inl (1, q.1) := by
  rw [brK, h]
theorem brK_e {K : Nat → Nat} {sum : Nat → LwP → Ls} {k i : Nat} {P : LwP} {e : Nat × Nat} (h : sum i P = .inl e) : brK K sum (k + 1) i P = .inl e := by
  rw [brK, h]
set_option maxRecDepth 100000 in
theorem smS {Λ : hc_L} {I : hc_I} {L : hc_J} {R : hc_R} {I0 : hc_I} {L0 : hc_J} {n i d D s : Nat} {B : Nat → Nat} {A : AS} {P : LwP} (hS : SW I0 L0 n B Λ I L i A P (8 - d)) (hs : P.1 + s ≤ i) (hD : 7 ≤ D) (hpd : PdT I0 L0 n B d D) : Run (xX11_readSum (D + 1)) [.ref 217] Λ I L R (SPost I0 L0 n B A (8 - d) s (smW (kd B n) (ptD (kd B n) (vl B n) d) i P) Λ R) := by
  refine Run.of (show plainName "HailClubModel" = true by decide +kernel) (Nat.le_of_ble_eq_true rfl) ?_
  show LW _ _ _ [(0, .ref 217)] _ _ _ _ _ _
  have hY := hS.y
  have hx0 := smW_L (ptD_adv (kd B n) (vl B n) d) (fun j hj => kd_far hS.b hj) hS.1.n7 i P
  generalize smW (kd B n) (ptD (kd B n) (vl B n) d) i P = x at hx0 ⊢
  have loop : ∀ F g, g ≤ F → ∀ (I1 : hc_I) (L1 : hc_J) i1 P1 pl, SW I0 L0 n B Λ I1 L1 i1 A (pl0 P1 pl) (8 - d) → (pl0 P1 pl).1 + s ≤ i1 → ¬ (kd B n i1 = 42 ∨ kd B n i1 = 47) → smK (kd B n) (ptD (kd B n) (vl B n) d) g i1 P1 pl = some x → LW (xX11_readSum (D + 1)) (0, 0) 9 [(0, .ref 217)] [] Λ I1 L1 R (SPost I0 L0 n B A (8 - d) s (x) Λ R) := by
    intro F
    induction F with
    | zero =>
      intro g hg I1 L1 i1 P1 pl hS hs1 hno hx
      have e : g = 0 := by omega
      rw [e] at hx
      cases hx
    | succ F ih =>
      intro g hg I1 L1 i1 P1 pl hS hs1 hno hx
      cases g with
      | zero => cases hx
      | succ g =>
      have hB := hS.b
      refine LW_aloadn 0 dX11_readSum_9 rfl rfl ?_
      refine LW_bipush (v := 43) dX11_readSum_10 (by decide) ?_
      refine LW_callV (As := [.int 43]) (b := 217) (st := []) (ci := 11) (r := (RX11, TX11, 44)) (r_isSg hS.1 (c := 43) (by decide)) YX11_isSign rfl dX11_readSum_12 mlX11_227 (hY.lt (k := 217) (by decide)) (ly217 hY) ⟨rfl, rfl⟩ (Nat.succ_le_succ (Nat.le_trans (show _ ≤ 7 by decide) hD)) ⟨Nat.le_of_ble_eq_true rfl, Nat.le_of_ble_eq_true rfl⟩ (Nat.le_of_ble_eq_true rfl) rfl (fun r12 Λc12 Ic12 Lc12 Rc12 hq12 => ?_)
      obtain ⟨rfl, rfl, rfl, rfl, rfl⟩ := hq12
      refine LW_bif_ne (tgt := 27) dX11_readSum_15 (by decide) (fun c15 => ?_) (fun c15 => ?_)
      · have hkk : kd B n i1 = 43 := of_decide_eq_true c15
        have hK : kd B n i1 ≠ 2003 := by rw [hkk]; decide
        have hsg : ∀ c : Nat, c < 256 → kd B n i1 = c → (I1 217 30) = nI c := fun c hc hk => by
          obtain ⟨s3, b3⟩ := (kd_3 hB hc).mp hk
          rw [hS.1.x.2.2.2.2.2, if_pos s3, b3]
        refine LW_aloadn 0 dX11_readSum_27 rfl rfl ?_
        refine gX11_30 dX11_readSum_28 flX11_147 (hY.lt (k := 217) (by decide)) (ly217 hY) ?_
        rw [show I1 217 30 = nI 43 from (hsg 43 (by decide) hkk)]
        refine LW_istoren (ls' := [(0, .ref 217), (1, .int (nI 43))]) dX11_readSum_31 rfl (Nat.le_of_ble_eq_true rfl) rfl ?_
        refine LW_aloadn 0 dX11_readSum_32 rfl rfl ?_
        refine LW_callV (As := []) (b := 217) (st := []) (ci := 11) (r := (RX11, TX11, 44)) (r_nx hS.1) YX11_next rfl dX11_readSum_33 mlX11_234 (hY.lt (k := 217) (by decide)) (ly217 hY) ⟨rfl, rfl⟩ (Nat.succ_le_succ (Nat.le_trans (show _ ≤ 7 by decide) hD)) ⟨Nat.le_of_ble_eq_true rfl, Nat.le_of_ble_eq_true rfl⟩ (Nat.le_of_ble_eq_true rfl) rfl (fun r33 Λc33 Ic33 Lc33 Rc33 hq33 => ?_)
        obtain ⟨rfl, rfl, rfl, hl33, hT33, hr33⟩ := hq33
        have hS := hS.lx hl33 hT33 (kd_lt_n hB hK)
        refine LW_aloadn 0 dX11_readSum_36 rfl rfl ?_
        refine LW_callV (As := []) (b := 217) (st := []) (ci := 11) (r := (RX11, TX11, 44)) (hpd _ _ _ _ _ _ _ (s + 1) g 43 x hS (by omega) (by rw [← hx, smK_p hno (by omega), hkk])) (YX11_readProduct D) rfl dX11_readSum_37 mlX11_288 (hY.lt (k := 217) (by decide)) (ly217 hY) ⟨rfl, rfl⟩ (Nat.le_refl _) ⟨Nat.le_of_ble_eq_true rfl, Nat.le_of_ble_eq_true rfl⟩ (Nat.le_of_ble_eq_true rfl) rfl (fun r37 Λc37 Ic37 Lc37 Rc37 hq37 => ?_)
        obtain ⟨b37, rfl, rfl, rfl, hno37, hyes37⟩ := hq37
        refine LW_bif_ne (tgt := 45) dX11_readSum_40 (by decide) (fun c40 => ?_) (fun c40 => ?_)
        · obtain ⟨g2, i2, P2, hg2, hS, hs2, hno2, hx2⟩ := hyes37 c40
          have hin := hS.2.2.2.2
          have hn7 := hS.1.n7
          refine LW_aloadn 0 dX11_readSum_45 rfl rfl ?_
          refine LW_iloadn 1 dX11_readSum_46 rfl rfl ?_
          refine LW_lconst (v := 0) dX11_readSum_47 (by decide) ?_
          refine LW_callV (As := [.int (nI 43), .long 0]) (b := 217) (st := []) (ci := 11) (r := (RX11, TX11, 44)) (r_puts hS (by omega) 43 0) YX11_puts rfl dX11_readSum_48 mlX11_291 (hY.lt (k := 217) (by decide)) (ly217 hY) ⟨rfl, rfl⟩ (Nat.succ_le_succ (Nat.le_trans (show _ ≤ 7 by decide) hD)) ⟨Nat.le_of_ble_eq_true rfl, Nat.le_of_ble_eq_true rfl⟩ (Nat.le_of_ble_eq_true rfl) rfl (fun r48 Λc48 Ic48 Lc48 Rc48 hq48 => ?_)
          obtain ⟨rfl, rfl, rfl, hS⟩ := hq48
          refine LW_goto (tgt := 9) dX11_readSum_51 (by decide) ?_
          have e : pl0 P2 43 = lpPush P2 43 0 := if_neg (by decide)
          refine LW_ls [0] rfl (ih g2 (by omega) Ic48 Lc48 i2 P2 43 (by rw [e]; exact hS) (by rw [e]; show P2.1 + 1 + s ≤ i2; omega) hno2 hx2)
        · obtain ⟨e, he, hF⟩ := hno37 c40
          refine LW_iconst (v := 0) dX11_readSum_43 (by decide) ?_
          refine LW_zret dX11_readSum_44 rfl (Nat.le_of_ble_eq_true rfl) (Nat.le_of_ble_eq_true rfl) (Or.inl rfl) ?_
          exact SPost.no he hF
      · refine LW_aloadn 0 dX11_readSum_18 rfl rfl ?_
        refine LW_bipush (v := 45) dX11_readSum_19 (by decide) ?_
        refine LW_callV (As := [.int 45]) (b := 217) (st := []) (ci := 11) (r := (RX11, TX11, 44)) (r_isSg hS.1 (c := 45) (by decide)) YX11_isSign rfl dX11_readSum_21 mlX11_227 (hY.lt (k := 217) (by decide)) (ly217 hY) ⟨rfl, rfl⟩ (Nat.succ_le_succ (Nat.le_trans (show _ ≤ 7 by decide) hD)) ⟨Nat.le_of_ble_eq_true rfl, Nat.le_of_ble_eq_true rfl⟩ (Nat.le_of_ble_eq_true rfl) rfl (fun r21 Λc21 Ic21 Lc21 Rc21 hq21 => ?_)
        obtain ⟨rfl, rfl, rfl, rfl, rfl⟩ := hq21
        refine LW_bif_eq (tgt := 54) dX11_readSum_24 (by decide) (fun c24 => ?_) (fun c24 => ?_)
        · have hn4 : ¬ (kd B n i1 = 43 ∨ kd B n i1 = 45) := fun z => z.elim (of_decide_eq_false c15) (of_decide_eq_false c24)
          refine LW_iconst (v := 1) dX11_readSum_54 (by decide) ?_
          refine LW_zret dX11_readSum_55 rfl (Nat.le_of_ble_eq_true rfl) (Nat.le_of_ble_eq_true rfl) (Or.inr rfl) ?_
          exact SPost.yes (q := (i1, pl0 P1 pl)) (Option.some.inj (hx.symm.trans (smK_e hno hn4))) hS hs1
        · have hkk : kd B n i1 = 45 := of_decide_eq_true c24
          have hK : kd B n i1 ≠ 2003 := by rw [hkk]; decide
          have hsg : ∀ c : Nat, c < 256 → kd B n i1 = c → (I1 217 30) = nI c := fun c hc hk => by
            obtain ⟨s3, b3⟩ := (kd_3 hB hc).mp hk
            rw [hS.1.x.2.2.2.2.2, if_pos s3, b3]
          refine LW_aloadn 0 dX11_readSum_27 rfl rfl ?_
          refine gX11_30 dX11_readSum_28 flX11_147 (hY.lt (k := 217) (by decide)) (ly217 hY) ?_
          rw [show I1 217 30 = nI 45 from (hsg 45 (by decide) hkk)]
          refine LW_istoren (ls' := [(0, .ref 217), (1, .int (nI 45))]) dX11_readSum_31 rfl (Nat.le_of_ble_eq_true rfl) rfl ?_
          refine LW_aloadn 0 dX11_readSum_32 rfl rfl ?_
          refine LW_callV (As := []) (b := 217) (st := []) (ci := 11) (r := (RX11, TX11, 44)) (r_nx hS.1) YX11_next rfl dX11_readSum_33 mlX11_234 (hY.lt (k := 217) (by decide)) (ly217 hY) ⟨rfl, rfl⟩ (Nat.succ_le_succ (Nat.le_trans (show _ ≤ 7 by decide) hD)) ⟨Nat.le_of_ble_eq_true rfl, Nat.le_of_ble_eq_true rfl⟩ (Nat.le_of_ble_eq_true rfl) rfl (fun r33 Λc33 Ic33 Lc33 Rc33 hq33 => ?_)
          obtain ⟨rfl, rfl, rfl, hl33, hT33, hr33⟩ := hq33
          have hS := hS.lx hl33 hT33 (kd_lt_n hB hK)
          refine LW_aloadn 0 dX11_readSum_36 rfl rfl ?_
          refine LW_callV (As := []) (b := 217) (st := []) (ci := 11) (r := (RX11, TX11, 44)) (hpd _ _ _ _ _ _ _ (s + 1) g 45 x hS (by omega) (by rw [← hx, smK_p hno (by omega), hkk])) (YX11_readProduct D) rfl dX11_readSum_37 mlX11_288 (hY.lt (k := 217) (by decide)) (ly217 hY) ⟨rfl, rfl⟩ (Nat.le_refl _) ⟨Nat.le_of_ble_eq_true rfl, Nat.le_of_ble_eq_true rfl⟩ (Nat.le_of_ble_eq_true rfl) rfl (fun r37 Λc37 Ic37 Lc37 Rc37 hq37 => ?_)
          obtain ⟨b37, rfl, rfl, rfl, hno37, hyes37⟩ := hq37
          refine LW_bif_ne (tgt := 45) dX11_readSum_40 (by decide) (fun c40 => ?_) (fun c40 => ?_)
          · obtain ⟨g2, i2, P2, hg2, hS, hs2, hno2, hx2⟩ := hyes37 c40
            have hin := hS.2.2.2.2
            have hn7 := hS.1.n7
            refine LW_aloadn 0 dX11_readSum_45 rfl rfl ?_
            refine LW_iloadn 1 dX11_readSum_46 rfl rfl ?_
            refine LW_lconst (v := 0) dX11_readSum_47 (by decide) ?_
            refine LW_callV (As := [.int (nI 45), .long 0]) (b := 217) (st := []) (ci := 11) (r := (RX11, TX11, 44)) (r_puts hS (by omega) 45 0) YX11_puts rfl dX11_readSum_48 mlX11_291 (hY.lt (k := 217) (by decide)) (ly217 hY) ⟨rfl, rfl⟩ (Nat.succ_le_succ (Nat.le_trans (show _ ≤ 7 by decide) hD)) ⟨Nat.le_of_ble_eq_true rfl, Nat.le_of_ble_eq_true rfl⟩ (Nat.le_of_ble_eq_true rfl) rfl (fun r48 Λc48 Ic48 Lc48 Rc48 hq48 => ?_)
            obtain ⟨rfl, rfl, rfl, hS⟩ := hq48
            refine LW_goto (tgt := 9) dX11_readSum_51 (by decide) ?_
            have e : pl0 P2 45 = lpPush P2 45 0 := if_neg (by decide)
            refine LW_ls [0] rfl (ih g2 (by omega) Ic48 Lc48 i2 P2 45 (by rw [e]; exact hS) (by rw [e]; show P2.1 + 1 + s ≤ i2; omega) hno2 hx2)
          · obtain ⟨e, he, hF⟩ := hno37 c40
            refine LW_iconst (v := 0) dX11_readSum_43 (by decide) ?_
            refine LW_zret dX11_readSum_44 rfl (Nat.le_of_ble_eq_true rfl) (Nat.le_of_ble_eq_true rfl) (Or.inl rfl) ?_
            exact SPost.no he hF
  refine LW_aloadn 0 dX11_readSum_0 rfl rfl ?_
  refine LW_callV (As := []) (b := 217) (st := []) (ci := 11) (r := (RX11, TX11, 44)) (hpd _ _ _ _ _ _ _ s 701 0 x hS (by omega) hx0) (YX11_readProduct D) rfl dX11_readSum_1 mlX11_288 (hY.lt (k := 217) (by decide)) (ly217 hY) ⟨rfl, rfl⟩ (Nat.le_refl _) ⟨Nat.le_of_ble_eq_true rfl, Nat.le_of_ble_eq_true rfl⟩ (Nat.le_of_ble_eq_true rfl) rfl (fun r1 Λc1 Ic1 Lc1 Rc1 hq1 => ?_)
  obtain ⟨b1, rfl, rfl, rfl, hno1, hyes1⟩ := hq1
  refine LW_bif_ne (tgt := 9) dX11_readSum_4 (by decide) (fun c4 => ?_) (fun c4 => ?_)
  · obtain ⟨g2, i2, P2, hg2, hS, hs2, hno2, hx2⟩ := hyes1 c4
    exact loop g2 g2 (Nat.le_refl _) Ic1 Lc1 i2 P2 0 hS hs2 hno2 hx2
  · obtain ⟨e, he, hF⟩ := hno1 c4
    refine LW_iconst (v := 0) dX11_readSum_7 (by decide) ?_
    refine LW_zret dX11_readSum_8 rfl (Nat.le_of_ble_eq_true rfl) (Nat.le_of_ble_eq_true rfl) (Or.inl rfl) ?_
    exact SPost.no he hF
set_option maxRecDepth 100000 in
theorem pt_2001 {Λ : hc_L} {I : hc_I} {L : hc_J} {R : hc_R} {I0 : hc_I} {L0 : hc_J} {n i d D s : Nat} {B : Nat → Nat} {A : AS} {P : LwP} (hS : SW I0 L0 n B Λ I L i A P (8 - d)) (hs : P.1 + s ≤ i) (hd : d ≤ 8) (hD : 7 ≤ D) (hk : kd B n i = 2001) : Run (xX11_readPart (D + 1)) [.ref 217] Λ I L R (SPost I0 L0 n B A (8 - d) s (ptG (kd B n) (vl B n) (brB (kd B n) d (smD (kd B n) (vl B n) d)) i P) Λ R) := by
  refine Run.of (show plainName "HailClubModel" = true by decide +kernel) (Nat.le_of_ble_eq_true rfl) ?_
  show LW _ _ _ [(0, .ref 217)] _ _ _ _ _ _
  have hY := hS.y
  have hB := hS.b
  have hn7 := hS.1.n7
  have hK : kd B n i ≠ 2003 := by rw [hk]; decide
  have hin := kd_lt_n hB hK
  have hpn : decide (pNum (kd B n) (vl B n) i 0 99999999 = 0) = true := decide_eq_true (pNum_t hk (Nat.zero_le _) (by have := vl_n hB hk; omega))
  have hv8 := vl_n hB hk
  refine LW_aloadn 0 dX11_readPart_0 rfl rfl ?_
  refine gX11_25 dX11_readPart_1 flX11_150 (hY.lt (k := 217) (by decide)) (ly217 hY) ?_
  rw [show I 217 25 = 2 from (by rw [hS.1.srt, ((kd_2 hB).mp hk).1]; rfl)]
  refine LW_iconst (v := 2) dX11_readPart_4 (by decide) ?_
  refine LW_icmp_ne (tgt := 33) dX11_readPart_5 (by decide) (fun c5 => absurd c5 (by decide)) (fun c5 => ?_)
  refine LW_aloadn 0 dX11_readPart_8 rfl rfl ?_
  refine LW_iconst (v := 0) dX11_readPart_9 (by decide) ?_
  refine LW_ldcw dX11_readPart_10 klX11_269 ?_
  refine LW_callV (As := [.int 0, .int 99999999]) (b := 217) (st := []) (ci := 11) (r := (RX11, TX11, 44)) (r_num hS.1 (lo := 0) (hi := 99999999) (by decide) (by decide)) YX11_readNumber rfl dX11_readPart_13 mlX11_250 (hY.lt (k := 217) (by decide)) (ly217 hY) ⟨rfl, rfl⟩ (Nat.succ_le_succ (Nat.le_trans (show _ ≤ 7 by decide) hD)) ⟨Nat.le_of_ble_eq_true rfl, Nat.le_of_ble_eq_true rfl⟩ (Nat.le_of_ble_eq_true rfl) rfl (fun r13 Λc13 Ic13 Lc13 Rc13 hq13 => ?_)
  obtain ⟨rfl, rfl, rfl, hl13, hTt13, hFf13⟩ := hq13
  refine LW_bif_ne (tgt := 21) dX11_readPart_16 (by decide) (fun c16 => ?_) (fun c16 => absurd (c16.symm.trans hpn) (by decide))
  obtain ⟨hT13, h31⟩ := hTt13 hpn
  have hS := hS.lx hl13 hT13 hin
  replace h31 : Ic13 217 31 = _ := h31
  refine LW_aloadn 0 dX11_readPart_21 rfl rfl ?_
  refine LW_iconst (v := 0) dX11_readPart_22 (by decide) ?_
  refine LW_aloadn 0 dX11_readPart_23 rfl rfl ?_
  refine gX11_31 dX11_readPart_24 flX11_237 (hY.lt (k := 217) (by decide)) (ly217 hY) ?_
  rw [show Ic13 217 31 = nI (vl B n i) from h31]
  refine LW_i2l dX11_readPart_27 ?_
  rw [show (nI (vl B n i)).toInt64 = lN (vl B n i) from (nI_l (by omega))]
  refine LW_callV (As := [.int 0, .long (lN (vl B n i))]) (b := 217) (st := []) (ci := 11) (r := (RX11, TX11, 44)) (r_puts hS (by omega) 0 (vl B n i)) YX11_puts rfl dX11_readPart_28 mlX11_291 (hY.lt (k := 217) (by decide)) (ly217 hY) ⟨rfl, rfl⟩ (Nat.succ_le_succ (Nat.le_trans (show _ ≤ 7 by decide) hD)) ⟨Nat.le_of_ble_eq_true rfl, Nat.le_of_ble_eq_true rfl⟩ (Nat.le_of_ble_eq_true rfl) rfl (fun r28 Λc28 Ic28 Lc28 Rc28 hq28 => ?_)
  obtain ⟨rfl, rfl, rfl, hS⟩ := hq28
  refine LW_iconst (v := 1) dX11_readPart_31 (by decide) ?_
  refine LW_zret dX11_readPart_32 rfl (Nat.le_of_ble_eq_true rfl) (Nat.le_of_ble_eq_true rfl) (Or.inr rfl) ?_
  exact SPost.yes (q := (i + 1, lpPush P 0 (vl B n i))) (show ptG (kd B n) (vl B n) (brB (kd B n) d (smD (kd B n) (vl B n) d)) i P = .inr (i + 1, lpPush P 0 (vl B n i)) by unfold ptG; rw [if_pos hk]) hS (by show P.1 + 1 + s ≤ i + 1; omega)
set_option maxRecDepth 100000 in
theorem pt_1011 {Λ : hc_L} {I : hc_I} {L : hc_J} {R : hc_R} {I0 : hc_I} {L0 : hc_J} {n i d D s : Nat} {B : Nat → Nat} {A : AS} {P : LwP} (hS : SW I0 L0 n B Λ I L i A P (8 - d)) (hs : P.1 + s ≤ i) (hd : d ≤ 8) (hD : 7 ≤ D) (hk : kd B n i = 1011) : Run (xX11_readPart (D + 1)) [.ref 217] Λ I L R (SPost I0 L0 n B A (8 - d) s (ptG (kd B n) (vl B n) (brB (kd B n) d (smD (kd B n) (vl B n) d)) i P) Λ R) := by
  refine Run.of (show plainName "HailClubModel" = true by decide +kernel) (Nat.le_of_ble_eq_true rfl) ?_
  show LW _ _ _ [(0, .ref 217)] _ _ _ _ _ _
  have hY := hS.y
  have hB := hS.b
  have hn7 := hS.1.n7
  have hK : kd B n i ≠ 2003 := by rw [hk]; decide
  have hin := kd_lt_n hB hK
  refine LW_aloadn 0 dX11_readPart_0 rfl rfl ?_
  refine gX11_25 dX11_readPart_1 flX11_150 (hY.lt (k := 217) (by decide)) (ly217 hY) ?_
  rw [show I 217 25 = 1 from (by rw [hS.1.srt, (tkK_w (q := tp B n i) hB (show 1000 ≤ kd B n i by omega) (show kd B n i ≤ 2000 by omega)).1]; rfl)]
  refine LW_iconst (v := 2) dX11_readPart_4 (by decide) ?_
  refine LW_icmp_ne (tgt := 33) dX11_readPart_5 (by decide) (fun c5 => ?_) (fun c5 => absurd (by decide) c5)
  refine LW_aloadn 0 dX11_readPart_33 rfl rfl ?_
  refine LW_callV (As := []) (b := 217) (st := []) (ci := 11) (r := (RX11, TX11, 44)) (r_askedHere hS.1) YX11_askedHere rfl dX11_readPart_34 mlX11_193 (hY.lt (k := 217) (by decide)) (ly217 hY) ⟨rfl, rfl⟩ (Nat.succ_le_succ (Nat.le_trans (show _ ≤ 7 by decide) hD)) ⟨Nat.le_of_ble_eq_true rfl, Nat.le_of_ble_eq_true rfl⟩ (Nat.le_of_ble_eq_true rfl) rfl (fun r34 Λc34 Ic34 Lc34 Rc34 hq34 => ?_)
  obtain ⟨rfl, rfl, rfl, rfl, rfl⟩ := hq34
  rw [show askV (kd B n i) = 0 from (by rw [hk]; rfl)]
  refine LW_iconst (v := -1) dX11_readPart_37 (by decide) ?_
  refine LW_icmp_eq (tgt := 57) dX11_readPart_38 (by decide) (fun c38 => absurd c38 (by decide)) (fun c38 => ?_)
  refine LW_aloadn 0 dX11_readPart_41 rfl rfl ?_
  refine LW_iconst (v := 1) dX11_readPart_42 (by decide) ?_
  refine LW_aloadn 0 dX11_readPart_43 rfl rfl ?_
  refine LW_callV (As := []) (b := 217) (st := [.int 1, .ref 217]) (ci := 11) (r := (RX11, TX11, 44)) (r_askedHere hS.1) YX11_askedHere rfl dX11_readPart_44 mlX11_193 (hY.lt (k := 217) (by decide)) (ly217 hY) ⟨rfl, rfl⟩ (Nat.succ_le_succ (Nat.le_trans (show _ ≤ 7 by decide) hD)) ⟨Nat.le_of_ble_eq_true rfl, Nat.le_of_ble_eq_true rfl⟩ (Nat.le_of_ble_eq_true rfl) rfl (fun r44 Λc44 Ic44 Lc44 Rc44 hq44 => ?_)
  obtain ⟨rfl, rfl, rfl, rfl, rfl⟩ := hq44
  rw [show askV (kd B n i) = 0 from (by rw [hk]; rfl)]
  refine LW_i2l dX11_readPart_47 ?_
  rw [show (0 : Int32).toInt64 = lN 0 from (by decide)]
  refine LW_callV (As := [.int 1, .long (lN 0)]) (b := 217) (st := []) (ci := 11) (r := (RX11, TX11, 44)) (r_puts hS (by omega) 1 0) YX11_puts rfl dX11_readPart_48 mlX11_291 (hY.lt (k := 217) (by decide)) (ly217 hY) ⟨rfl, rfl⟩ (Nat.succ_le_succ (Nat.le_trans (show _ ≤ 7 by decide) hD)) ⟨Nat.le_of_ble_eq_true rfl, Nat.le_of_ble_eq_true rfl⟩ (Nat.le_of_ble_eq_true rfl) rfl (fun r48 Λc48 Ic48 Lc48 Rc48 hq48 => ?_)
  obtain ⟨rfl, rfl, rfl, hS⟩ := hq48
  refine LW_aloadn 0 dX11_readPart_51 rfl rfl ?_
  refine LW_callV (As := []) (b := 217) (st := []) (ci := 11) (r := (RX11, TX11, 44)) (r_nx hS.1) YX11_next rfl dX11_readPart_52 mlX11_234 (hY.lt (k := 217) (by decide)) (ly217 hY) ⟨rfl, rfl⟩ (Nat.succ_le_succ (Nat.le_trans (show _ ≤ 7 by decide) hD)) ⟨Nat.le_of_ble_eq_true rfl, Nat.le_of_ble_eq_true rfl⟩ (Nat.le_of_ble_eq_true rfl) rfl (fun r52 Λc52 Ic52 Lc52 Rc52 hq52 => ?_)
  obtain ⟨rfl, rfl, rfl, hl52, hT52, hr52⟩ := hq52
  have hS := hS.lx hl52 hT52 (kd_lt_n hB hK)
  refine LW_iconst (v := 1) dX11_readPart_55 (by decide) ?_
  refine LW_zret dX11_readPart_56 rfl (Nat.le_of_ble_eq_true rfl) (Nat.le_of_ble_eq_true rfl) (Or.inr rfl) ?_
  exact SPost.yes (q := (i + 1, lpPush P 1 0)) (show ptG (kd B n) (vl B n) (brB (kd B n) d (smD (kd B n) (vl B n) d)) i P = .inr (i + 1, lpPush P 1 0) by unfold ptG; rw [if_neg (by rw [hk]; decide), if_pos hk]) hS (by show P.1 + 1 + s ≤ i + 1; omega)
set_option maxRecDepth 100000 in
theorem pt_1002 {Λ : hc_L} {I : hc_I} {L : hc_J} {R : hc_R} {I0 : hc_I} {L0 : hc_J} {n i d D s : Nat} {B : Nat → Nat} {A : AS} {P : LwP} (hS : SW I0 L0 n B Λ I L i A P (8 - d)) (hs : P.1 + s ≤ i) (hd : d ≤ 8) (hD : 7 ≤ D) (hk : kd B n i = 1002) : Run (xX11_readPart (D + 1)) [.ref 217] Λ I L R (SPost I0 L0 n B A (8 - d) s (ptG (kd B n) (vl B n) (brB (kd B n) d (smD (kd B n) (vl B n) d)) i P) Λ R) := by
  refine Run.of (show plainName "HailClubModel" = true by decide +kernel) (Nat.le_of_ble_eq_true rfl) ?_
  show LW _ _ _ [(0, .ref 217)] _ _ _ _ _ _
  have hY := hS.y
  have hB := hS.b
  have hn7 := hS.1.n7
  have hK : kd B n i ≠ 2003 := by rw [hk]; decide
  have hin := kd_lt_n hB hK
  refine LW_aloadn 0 dX11_readPart_0 rfl rfl ?_
  refine gX11_25 dX11_readPart_1 flX11_150 (hY.lt (k := 217) (by decide)) (ly217 hY) ?_
  rw [show I 217 25 = 1 from (by rw [hS.1.srt, (tkK_w (q := tp B n i) hB (show 1000 ≤ kd B n i by omega) (show kd B n i ≤ 2000 by omega)).1]; rfl)]
  refine LW_iconst (v := 2) dX11_readPart_4 (by decide) ?_
  refine LW_icmp_ne (tgt := 33) dX11_readPart_5 (by decide) (fun c5 => ?_) (fun c5 => absurd (by decide) c5)
  refine LW_aloadn 0 dX11_readPart_33 rfl rfl ?_
  refine LW_callV (As := []) (b := 217) (st := []) (ci := 11) (r := (RX11, TX11, 44)) (r_askedHere hS.1) YX11_askedHere rfl dX11_readPart_34 mlX11_193 (hY.lt (k := 217) (by decide)) (ly217 hY) ⟨rfl, rfl⟩ (Nat.succ_le_succ (Nat.le_trans (show _ ≤ 7 by decide) hD)) ⟨Nat.le_of_ble_eq_true rfl, Nat.le_of_ble_eq_true rfl⟩ (Nat.le_of_ble_eq_true rfl) rfl (fun r34 Λc34 Ic34 Lc34 Rc34 hq34 => ?_)
  obtain ⟨rfl, rfl, rfl, rfl, rfl⟩ := hq34
  rw [show askV (kd B n i) = 1 from (by rw [hk]; rfl)]
  refine LW_iconst (v := -1) dX11_readPart_37 (by decide) ?_
  refine LW_icmp_eq (tgt := 57) dX11_readPart_38 (by decide) (fun c38 => absurd c38 (by decide)) (fun c38 => ?_)
  refine LW_aloadn 0 dX11_readPart_41 rfl rfl ?_
  refine LW_iconst (v := 1) dX11_readPart_42 (by decide) ?_
  refine LW_aloadn 0 dX11_readPart_43 rfl rfl ?_
  refine LW_callV (As := []) (b := 217) (st := [.int 1, .ref 217]) (ci := 11) (r := (RX11, TX11, 44)) (r_askedHere hS.1) YX11_askedHere rfl dX11_readPart_44 mlX11_193 (hY.lt (k := 217) (by decide)) (ly217 hY) ⟨rfl, rfl⟩ (Nat.succ_le_succ (Nat.le_trans (show _ ≤ 7 by decide) hD)) ⟨Nat.le_of_ble_eq_true rfl, Nat.le_of_ble_eq_true rfl⟩ (Nat.le_of_ble_eq_true rfl) rfl (fun r44 Λc44 Ic44 Lc44 Rc44 hq44 => ?_)
  obtain ⟨rfl, rfl, rfl, rfl, rfl⟩ := hq44
  rw [show askV (kd B n i) = 1 from (by rw [hk]; rfl)]
  refine LW_i2l dX11_readPart_47 ?_
  rw [show (1 : Int32).toInt64 = lN 1 from (by decide)]
  refine LW_callV (As := [.int 1, .long (lN 1)]) (b := 217) (st := []) (ci := 11) (r := (RX11, TX11, 44)) (r_puts hS (by omega) 1 1) YX11_puts rfl dX11_readPart_48 mlX11_291 (hY.lt (k := 217) (by decide)) (ly217 hY) ⟨rfl, rfl⟩ (Nat.succ_le_succ (Nat.le_trans (show _ ≤ 7 by decide) hD)) ⟨Nat.le_of_ble_eq_true rfl, Nat.le_of_ble_eq_true rfl⟩ (Nat.le_of_ble_eq_true rfl) rfl (fun r48 Λc48 Ic48 Lc48 Rc48 hq48 => ?_)
  obtain ⟨rfl, rfl, rfl, hS⟩ := hq48
  refine LW_aloadn 0 dX11_readPart_51 rfl rfl ?_
  refine LW_callV (As := []) (b := 217) (st := []) (ci := 11) (r := (RX11, TX11, 44)) (r_nx hS.1) YX11_next rfl dX11_readPart_52 mlX11_234 (hY.lt (k := 217) (by decide)) (ly217 hY) ⟨rfl, rfl⟩ (Nat.succ_le_succ (Nat.le_trans (show _ ≤ 7 by decide) hD)) ⟨Nat.le_of_ble_eq_true rfl, Nat.le_of_ble_eq_true rfl⟩ (Nat.le_of_ble_eq_true rfl) rfl (fun r52 Λc52 Ic52 Lc52 Rc52 hq52 => ?_)
  obtain ⟨rfl, rfl, rfl, hl52, hT52, hr52⟩ := hq52
  have hS := hS.lx hl52 hT52 (kd_lt_n hB hK)
  refine LW_iconst (v := 1) dX11_readPart_55 (by decide) ?_
  refine LW_zret dX11_readPart_56 rfl (Nat.le_of_ble_eq_true rfl) (Nat.le_of_ble_eq_true rfl) (Or.inr rfl) ?_
  exact SPost.yes (q := (i + 1, lpPush P 1 1)) (show ptG (kd B n) (vl B n) (brB (kd B n) d (smD (kd B n) (vl B n) d)) i P = .inr (i + 1, lpPush P 1 1) by unfold ptG; rw [if_neg (by rw [hk]; decide), if_neg (by rw [hk]; decide), if_pos hk]) hS (by show P.1 + 1 + s ≤ i + 1; omega)
set_option maxRecDepth 100000 in
theorem pt_1012 {Λ : hc_L} {I : hc_I} {L : hc_J} {R : hc_R} {I0 : hc_I} {L0 : hc_J} {n i d D s : Nat} {B : Nat → Nat} {A : AS} {P : LwP} (hS : SW I0 L0 n B Λ I L i A P (8 - d)) (hs : P.1 + s ≤ i) (hd : d ≤ 8) (hD : 7 ≤ D) (hk : kd B n i = 1012) : Run (xX11_readPart (D + 1)) [.ref 217] Λ I L R (SPost I0 L0 n B A (8 - d) s (ptG (kd B n) (vl B n) (brB (kd B n) d (smD (kd B n) (vl B n) d)) i P) Λ R) := by
  refine Run.of (show plainName "HailClubModel" = true by decide +kernel) (Nat.le_of_ble_eq_true rfl) ?_
  show LW _ _ _ [(0, .ref 217)] _ _ _ _ _ _
  have hY := hS.y
  have hB := hS.b
  have hn7 := hS.1.n7
  have hK : kd B n i ≠ 2003 := by rw [hk]; decide
  have hin := kd_lt_n hB hK
  refine LW_aloadn 0 dX11_readPart_0 rfl rfl ?_
  refine gX11_25 dX11_readPart_1 flX11_150 (hY.lt (k := 217) (by decide)) (ly217 hY) ?_
  rw [show I 217 25 = 1 from (by rw [hS.1.srt, (tkK_w (q := tp B n i) hB (show 1000 ≤ kd B n i by omega) (show kd B n i ≤ 2000 by omega)).1]; rfl)]
  refine LW_iconst (v := 2) dX11_readPart_4 (by decide) ?_
  refine LW_icmp_ne (tgt := 33) dX11_readPart_5 (by decide) (fun c5 => ?_) (fun c5 => absurd (by decide) c5)
  refine LW_aloadn 0 dX11_readPart_33 rfl rfl ?_
  refine LW_callV (As := []) (b := 217) (st := []) (ci := 11) (r := (RX11, TX11, 44)) (r_askedHere hS.1) YX11_askedHere rfl dX11_readPart_34 mlX11_193 (hY.lt (k := 217) (by decide)) (ly217 hY) ⟨rfl, rfl⟩ (Nat.succ_le_succ (Nat.le_trans (show _ ≤ 7 by decide) hD)) ⟨Nat.le_of_ble_eq_true rfl, Nat.le_of_ble_eq_true rfl⟩ (Nat.le_of_ble_eq_true rfl) rfl (fun r34 Λc34 Ic34 Lc34 Rc34 hq34 => ?_)
  obtain ⟨rfl, rfl, rfl, rfl, rfl⟩ := hq34
  rw [show askV (kd B n i) = 2 from (by rw [hk]; rfl)]
  refine LW_iconst (v := -1) dX11_readPart_37 (by decide) ?_
  refine LW_icmp_eq (tgt := 57) dX11_readPart_38 (by decide) (fun c38 => absurd c38 (by decide)) (fun c38 => ?_)
  refine LW_aloadn 0 dX11_readPart_41 rfl rfl ?_
  refine LW_iconst (v := 1) dX11_readPart_42 (by decide) ?_
  refine LW_aloadn 0 dX11_readPart_43 rfl rfl ?_
  refine LW_callV (As := []) (b := 217) (st := [.int 1, .ref 217]) (ci := 11) (r := (RX11, TX11, 44)) (r_askedHere hS.1) YX11_askedHere rfl dX11_readPart_44 mlX11_193 (hY.lt (k := 217) (by decide)) (ly217 hY) ⟨rfl, rfl⟩ (Nat.succ_le_succ (Nat.le_trans (show _ ≤ 7 by decide) hD)) ⟨Nat.le_of_ble_eq_true rfl, Nat.le_of_ble_eq_true rfl⟩ (Nat.le_of_ble_eq_true rfl) rfl (fun r44 Λc44 Ic44 Lc44 Rc44 hq44 => ?_)
  obtain ⟨rfl, rfl, rfl, rfl, rfl⟩ := hq44
  rw [show askV (kd B n i) = 2 from (by rw [hk]; rfl)]
  refine LW_i2l dX11_readPart_47 ?_
  rw [show (2 : Int32).toInt64 = lN 2 from (by decide)]
  refine LW_callV (As := [.int 1, .long (lN 2)]) (b := 217) (st := []) (ci := 11) (r := (RX11, TX11, 44)) (r_puts hS (by omega) 1 2) YX11_puts rfl dX11_readPart_48 mlX11_291 (hY.lt (k := 217) (by decide)) (ly217 hY) ⟨rfl, rfl⟩ (Nat.succ_le_succ (Nat.le_trans (show _ ≤ 7 by decide) hD)) ⟨Nat.le_of_ble_eq_true rfl, Nat.le_of_ble_eq_true rfl⟩ (Nat.le_of_ble_eq_true rfl) rfl (fun r48 Λc48 Ic48 Lc48 Rc48 hq48 => ?_)
  obtain ⟨rfl, rfl, rfl, hS⟩ := hq48
  refine LW_aloadn 0 dX11_readPart_51 rfl rfl ?_
  refine LW_callV (As := []) (b := 217) (st := []) (ci := 11) (r := (RX11, TX11, 44)) (r_nx hS.1) YX11_next rfl dX11_readPart_52 mlX11_234 (hY.lt (k := 217) (by decide)) (ly217 hY) ⟨rfl, rfl⟩ (Nat.succ_le_succ (Nat.le_trans (show _ ≤ 7 by decide) hD)) ⟨Nat.le_of_ble_eq_true rfl, Nat.le_of_ble_eq_true rfl⟩ (Nat.le_of_ble_eq_true rfl) rfl (fun r52 Λc52 Ic52 Lc52 Rc52 hq52 => ?_)
  obtain ⟨rfl, rfl, rfl, hl52, hT52, hr52⟩ := hq52
  have hS := hS.lx hl52 hT52 (kd_lt_n hB hK)
  refine LW_iconst (v := 1) dX11_readPart_55 (by decide) ?_
  refine LW_zret dX11_readPart_56 rfl (Nat.le_of_ble_eq_true rfl) (Nat.le_of_ble_eq_true rfl) (Or.inr rfl) ?_
  exact SPost.yes (q := (i + 1, lpPush P 1 2)) (show ptG (kd B n) (vl B n) (brB (kd B n) d (smD (kd B n) (vl B n) d)) i P = .inr (i + 1, lpPush P 1 2) by unfold ptG; rw [if_neg (by rw [hk]; decide), if_neg (by rw [hk]; decide), if_neg (by rw [hk]; decide), if_pos hk]) hS (by show P.1 + 1 + s ≤ i + 1; omega)
set_option maxRecDepth 100000 in
theorem pt_1003 {Λ : hc_L} {I : hc_I} {L : hc_J} {R : hc_R} {I0 : hc_I} {L0 : hc_J} {n i d D s : Nat} {B : Nat → Nat} {A : AS} {P : LwP} (hS : SW I0 L0 n B Λ I L i A P (8 - d)) (hs : P.1 + s ≤ i) (hd : d ≤ 8) (hD : 7 ≤ D) (hk : kd B n i = 1003) : Run (xX11_readPart (D + 1)) [.ref 217] Λ I L R (SPost I0 L0 n B A (8 - d) s (ptG (kd B n) (vl B n) (brB (kd B n) d (smD (kd B n) (vl B n) d)) i P) Λ R) := by
  refine Run.of (show plainName "HailClubModel" = true by decide +kernel) (Nat.le_of_ble_eq_true rfl) ?_
  show LW _ _ _ [(0, .ref 217)] _ _ _ _ _ _
  have hY := hS.y
  have hB := hS.b
  have hn7 := hS.1.n7
  have hK : kd B n i ≠ 2003 := by rw [hk]; decide
  have hin := kd_lt_n hB hK
  refine LW_aloadn 0 dX11_readPart_0 rfl rfl ?_
  refine gX11_25 dX11_readPart_1 flX11_150 (hY.lt (k := 217) (by decide)) (ly217 hY) ?_
  rw [show I 217 25 = 1 from (by rw [hS.1.srt, (tkK_w (q := tp B n i) hB (show 1000 ≤ kd B n i by omega) (show kd B n i ≤ 2000 by omega)).1]; rfl)]
  refine LW_iconst (v := 2) dX11_readPart_4 (by decide) ?_
  refine LW_icmp_ne (tgt := 33) dX11_readPart_5 (by decide) (fun c5 => ?_) (fun c5 => absurd (by decide) c5)
  refine LW_aloadn 0 dX11_readPart_33 rfl rfl ?_
  refine LW_callV (As := []) (b := 217) (st := []) (ci := 11) (r := (RX11, TX11, 44)) (r_askedHere hS.1) YX11_askedHere rfl dX11_readPart_34 mlX11_193 (hY.lt (k := 217) (by decide)) (ly217 hY) ⟨rfl, rfl⟩ (Nat.succ_le_succ (Nat.le_trans (show _ ≤ 7 by decide) hD)) ⟨Nat.le_of_ble_eq_true rfl, Nat.le_of_ble_eq_true rfl⟩ (Nat.le_of_ble_eq_true rfl) rfl (fun r34 Λc34 Ic34 Lc34 Rc34 hq34 => ?_)
  obtain ⟨rfl, rfl, rfl, rfl, rfl⟩ := hq34
  rw [show askV (kd B n i) = 3 from (by rw [hk]; rfl)]
  refine LW_iconst (v := -1) dX11_readPart_37 (by decide) ?_
  refine LW_icmp_eq (tgt := 57) dX11_readPart_38 (by decide) (fun c38 => absurd c38 (by decide)) (fun c38 => ?_)
  refine LW_aloadn 0 dX11_readPart_41 rfl rfl ?_
  refine LW_iconst (v := 1) dX11_readPart_42 (by decide) ?_
  refine LW_aloadn 0 dX11_readPart_43 rfl rfl ?_
  refine LW_callV (As := []) (b := 217) (st := [.int 1, .ref 217]) (ci := 11) (r := (RX11, TX11, 44)) (r_askedHere hS.1) YX11_askedHere rfl dX11_readPart_44 mlX11_193 (hY.lt (k := 217) (by decide)) (ly217 hY) ⟨rfl, rfl⟩ (Nat.succ_le_succ (Nat.le_trans (show _ ≤ 7 by decide) hD)) ⟨Nat.le_of_ble_eq_true rfl, Nat.le_of_ble_eq_true rfl⟩ (Nat.le_of_ble_eq_true rfl) rfl (fun r44 Λc44 Ic44 Lc44 Rc44 hq44 => ?_)
  obtain ⟨rfl, rfl, rfl, rfl, rfl⟩ := hq44
  rw [show askV (kd B n i) = 3 from (by rw [hk]; rfl)]
  refine LW_i2l dX11_readPart_47 ?_
  rw [show (3 : Int32).toInt64 = lN 3 from (by decide)]
  refine LW_callV (As := [.int 1, .long (lN 3)]) (b := 217) (st := []) (ci := 11) (r := (RX11, TX11, 44)) (r_puts hS (by omega) 1 3) YX11_puts rfl dX11_readPart_48 mlX11_291 (hY.lt (k := 217) (by decide)) (ly217 hY) ⟨rfl, rfl⟩ (Nat.succ_le_succ (Nat.le_trans (show _ ≤ 7 by decide) hD)) ⟨Nat.le_of_ble_eq_true rfl, Nat.le_of_ble_eq_true rfl⟩ (Nat.le_of_ble_eq_true rfl) rfl (fun r48 Λc48 Ic48 Lc48 Rc48 hq48 => ?_)
  obtain ⟨rfl, rfl, rfl, hS⟩ := hq48
  refine LW_aloadn 0 dX11_readPart_51 rfl rfl ?_
  refine LW_callV (As := []) (b := 217) (st := []) (ci := 11) (r := (RX11, TX11, 44)) (r_nx hS.1) YX11_next rfl dX11_readPart_52 mlX11_234 (hY.lt (k := 217) (by decide)) (ly217 hY) ⟨rfl, rfl⟩ (Nat.succ_le_succ (Nat.le_trans (show _ ≤ 7 by decide) hD)) ⟨Nat.le_of_ble_eq_true rfl, Nat.le_of_ble_eq_true rfl⟩ (Nat.le_of_ble_eq_true rfl) rfl (fun r52 Λc52 Ic52 Lc52 Rc52 hq52 => ?_)
  obtain ⟨rfl, rfl, rfl, hl52, hT52, hr52⟩ := hq52
  have hS := hS.lx hl52 hT52 (kd_lt_n hB hK)
  refine LW_iconst (v := 1) dX11_readPart_55 (by decide) ?_
  refine LW_zret dX11_readPart_56 rfl (Nat.le_of_ble_eq_true rfl) (Nat.le_of_ble_eq_true rfl) (Or.inr rfl) ?_
  exact SPost.yes (q := (i + 1, lpPush P 1 3)) (show ptG (kd B n) (vl B n) (brB (kd B n) d (smD (kd B n) (vl B n) d)) i P = .inr (i + 1, lpPush P 1 3) by unfold ptG; rw [if_neg (by rw [hk]; decide), if_neg (by rw [hk]; decide), if_neg (by rw [hk]; decide), if_neg (by rw [hk]; decide), if_pos hk]) hS (by show P.1 + 1 + s ≤ i + 1; omega)
set_option maxRecDepth 100000 in
theorem pt_1013 {Λ : hc_L} {I : hc_I} {L : hc_J} {R : hc_R} {I0 : hc_I} {L0 : hc_J} {n i d D s : Nat} {B : Nat → Nat} {A : AS} {P : LwP} (hS : SW I0 L0 n B Λ I L i A P (8 - d)) (hs : P.1 + s ≤ i) (hd : d ≤ 8) (hD : 7 ≤ D) (hk : kd B n i = 1013) (hsm : ∀ d2, d = d2 + 1 → SmT I0 L0 n B d2 D) : Run (xX11_readPart (D + 1)) [.ref 217] Λ I L R (SPost I0 L0 n B A (8 - d) s (ptG (kd B n) (vl B n) (brB (kd B n) d (smD (kd B n) (vl B n) d)) i P) Λ R) := by
  refine Run.of (show plainName "HailClubModel" = true by decide +kernel) (Nat.le_of_ble_eq_true rfl) ?_
  show LW _ _ _ [(0, .ref 217)] _ _ _ _ _ _
  have hY := hS.y
  have hB := hS.b
  have hn7 := hS.1.n7
  have hK : kd B n i ≠ 2003 := by rw [hk]; decide
  have hin := kd_lt_n hB hK
  refine LW_aloadn 0 dX11_readPart_0 rfl rfl ?_
  refine gX11_25 dX11_readPart_1 flX11_150 (hY.lt (k := 217) (by decide)) (ly217 hY) ?_
  rw [show I 217 25 = 1 from (by rw [hS.1.srt, (tkK_w (q := tp B n i) hB (show 1000 ≤ kd B n i by omega) (show kd B n i ≤ 2000 by omega)).1]; rfl)]
  refine LW_iconst (v := 2) dX11_readPart_4 (by decide) ?_
  refine LW_icmp_ne (tgt := 33) dX11_readPart_5 (by decide) (fun c5 => ?_) (fun c5 => absurd (by decide) c5)
  refine LW_aloadn 0 dX11_readPart_33 rfl rfl ?_
  refine LW_callV (As := []) (b := 217) (st := []) (ci := 11) (r := (RX11, TX11, 44)) (r_askedHere hS.1) YX11_askedHere rfl dX11_readPart_34 mlX11_193 (hY.lt (k := 217) (by decide)) (ly217 hY) ⟨rfl, rfl⟩ (Nat.succ_le_succ (Nat.le_trans (show _ ≤ 7 by decide) hD)) ⟨Nat.le_of_ble_eq_true rfl, Nat.le_of_ble_eq_true rfl⟩ (Nat.le_of_ble_eq_true rfl) rfl (fun r34 Λc34 Ic34 Lc34 Rc34 hq34 => ?_)
  obtain ⟨rfl, rfl, rfl, rfl, rfl⟩ := hq34
  rw [show askV (kd B n i) = -1 from (by rw [hk]; rfl)]
  refine LW_iconst (v := -1) dX11_readPart_37 (by decide) ?_
  refine LW_icmp_eq (tgt := 57) dX11_readPart_38 (by decide) (fun c38 => ?_) (fun c38 => absurd (by decide) c38)
  refine LW_aloadn 0 dX11_readPart_57 rfl rfl ?_
  refine LW_ldcS (i := 14) dX11_readPart_58 rfl ?_
  refine LW_callV (As := [.ref (1000000 + 14)]) (b := 217) (st := []) (ci := 11) (r := (RX11, TX11, 44)) (r_isW hS.1 (j := 14) (k := 1013) (by decide) (by decide) rfl) YX11_isWord rfl dX11_readPart_60 mlX11_183 (hY.lt (k := 217) (by decide)) (ly217 hY) ⟨rfl, rfl⟩ (Nat.succ_le_succ (Nat.le_trans (show _ ≤ 7 by decide) hD)) ⟨Nat.le_of_ble_eq_true rfl, Nat.le_of_ble_eq_true rfl⟩ (Nat.le_of_ble_eq_true rfl) rfl (fun r60 Λc60 Ic60 Lc60 Rc60 hq60 => ?_)
  obtain ⟨rfl, rfl, rfl, rfl, rfl⟩ := hq60
  rw [show decide (kd B n i = 1013) = true from decide_eq_true hk]
  refine LW_bif_eq (tgt := 70) dX11_readPart_63 (by decide) (fun c63 => absurd (c63.symm.trans rfl) (by decide)) (fun c63 => ?_)
  refine LW_iconst (v := 2) dX11_readPart_66 (by decide) ?_
  refine LW_goto (tgt := 97) dX11_readPart_67 (by decide) ?_
  refine LW_istoren (ls' := [(0, .ref 217), (1, .int 2)]) dX11_readPart_97 rfl (Nat.le_of_ble_eq_true rfl) rfl ?_
  refine LW_iloadn 1 dX11_readPart_98 rfl rfl ?_
  refine LW_iconst (v := -1) dX11_readPart_99 (by decide) ?_
  refine LW_icmp_ne (tgt := 130) dX11_readPart_100 (by decide) (fun c100 => ?_) (fun c100 => absurd (by decide) c100)
  refine LW_aloadn 0 dX11_readPart_130 rfl rfl ?_
  refine LW_callV (As := []) (b := 217) (st := []) (ci := 11) (r := (RX11, TX11, 44)) (r_nx hS.1) YX11_next rfl dX11_readPart_131 mlX11_234 (hY.lt (k := 217) (by decide)) (ly217 hY) ⟨rfl, rfl⟩ (Nat.succ_le_succ (Nat.le_trans (show _ ≤ 7 by decide) hD)) ⟨Nat.le_of_ble_eq_true rfl, Nat.le_of_ble_eq_true rfl⟩ (Nat.le_of_ble_eq_true rfl) rfl (fun r131 Λc131 Ic131 Lc131 Rc131 hq131 => ?_)
  obtain ⟨rfl, rfl, rfl, hl131, hT131, hr131⟩ := hq131
  have hS := hS.lx hl131 hT131 (kd_lt_n hB hK)
  refine LW_aloadn 0 dX11_readPart_134 rfl rfl ?_
  refine LW_callV (As := []) (b := 217) (st := []) (ci := 11) (r := (RX11, TX11, 44)) (r_opens hS (by omega)) YX11_opens rfl dX11_readPart_135 mlX11_298 (hY.lt (k := 217) (by decide)) (ly217 hY) ⟨rfl, rfl⟩ (Nat.succ_le_succ (Nat.le_trans (show _ ≤ 7 by decide) hD)) ⟨Nat.le_of_ble_eq_true rfl, Nat.le_of_ble_eq_true rfl⟩ (Nat.le_of_ble_eq_true rfl) rfl (fun r135 Λc135 Ic135 Lc135 Rc135 hq135 => ?_)
  obtain ⟨b135, rfl, rfl, rfl, hy135, hn135⟩ := hq135
  refine LW_bif_eq (tgt := 164) dX11_readPart_138 (by decide) (fun c138 => ?_) (fun c138 => ?_)
  · obtain ⟨e, hF, hcase⟩ := hn135 c138
    have hxb : brB (kd B n) d (smD (kd B n) (vl B n) d) 2 (i + 1) P = .inl e := by
      unfold brB
      rcases hcase with ⟨a, rfl⟩ | ⟨a, b, rfl⟩
      · rw [if_neg a]
      · rw [if_pos a, if_pos (by omega)]
    refine LW_iconst (v := 0) dX11_readPart_164 (by decide) ?_
    refine LW_zret dX11_readPart_165 rfl (Nat.le_of_ble_eq_true rfl) (Nat.le_of_ble_eq_true rfl) (Or.inl rfl) ?_
    exact SPost.no (show ptG (kd B n) (vl B n) (brB (kd B n) d (smD (kd B n) (vl B n) d)) i P = .inl _ by unfold ptG; rw [if_neg (by rw [hk]; decide), if_neg (by rw [hk]; decide), if_neg (by rw [hk]; decide), if_neg (by rw [hk]; decide), if_neg (by rw [hk]; decide), if_pos (by omega), if_neg (by rw [hk]; decide), hxb]) hF
  · obtain ⟨hk40, ho8, hS⟩ := hy135 c138
    obtain ⟨d2, hd2⟩ : ∃ d2, d = d2 + 1 := ⟨d - 1, by omega⟩
    replace hS := (show 8 - d + 1 = 8 - d2 by omega) ▸ hS
    have hxb : brB (kd B n) d (smD (kd B n) (vl B n) d) 2 (i + 1) P = brK (kd B n) (smW (kd B n) (ptD (kd B n) (vl B n) d2)) 2 (i + 1 + 1) P := by
      unfold brB
      rw [if_pos hk40, if_neg (by omega), hd2]
      rfl
    refine LW_aloadn 0 dX11_readPart_141 rfl rfl ?_
    refine LW_callV (As := []) (b := 217) (st := []) (ci := 11) (r := (RX11, TX11, 44)) (hsm d2 hd2 _ _ _ _ _ _ _ (s + 1) hS (by omega)) (YX11_readSum D) rfl dX11_readPart_142 mlX11_285 (hY.lt (k := 217) (by decide)) (ly217 hY) ⟨rfl, rfl⟩ (Nat.le_refl _) ⟨Nat.le_of_ble_eq_true rfl, Nat.le_of_ble_eq_true rfl⟩ (Nat.le_of_ble_eq_true rfl) rfl (fun r142 Λc142 Ic142 Lc142 Rc142 hq142 => ?_)
    obtain ⟨rfl, rfl, rfl, hx142⟩ := hq142
    refine LW_bif_eq (tgt := 164) dX11_readPart_145 (by decide) (fun c145 => ?_) (fun c145 => ?_)
    · obtain ⟨e, he⟩ := okS_f (show okS (smW (kd B n) (ptD (kd B n) (vl B n) d2) (i + 1 + 1) P) = false from c145)
      rw [he] at hx142
      have hxb := hxb.trans (brK_e he)
      have hF := hx142
      refine LW_iconst (v := 0) dX11_readPart_164 (by decide) ?_
      refine LW_zret dX11_readPart_165 rfl (Nat.le_of_ble_eq_true rfl) (Nat.le_of_ble_eq_true rfl) (Or.inl rfl) ?_
      exact SPost.no (show ptG (kd B n) (vl B n) (brB (kd B n) d (smD (kd B n) (vl B n) d)) i P = .inl _ by unfold ptG; rw [if_neg (by rw [hk]; decide), if_neg (by rw [hk]; decide), if_neg (by rw [hk]; decide), if_neg (by rw [hk]; decide), if_neg (by rw [hk]; decide), if_pos (by omega), if_neg (by rw [hk]; decide), hxb]) hF
    · obtain ⟨q1, he1⟩ := okS_t (show okS (smW (kd B n) (ptD (kd B n) (vl B n) d2) (i + 1 + 1) P) = true from c145)
      rw [he1] at hx142
      obtain ⟨hS, hs1⟩ := hx142
      have hxb := hxb.trans (brK_s he1)
      have hin1 := hS.2.2.2.2
      refine LW_aloadn 0 dX11_readPart_148 rfl rfl ?_
      refine LW_bipush (v := 44) dX11_readPart_149 (by decide) ?_
      refine LW_callV (As := [.int 44]) (b := 217) (st := []) (ci := 11) (r := (RX11, TX11, 44)) (r_tkS hS.1 (c := 44) (by decide)) YX11_takesSign rfl dX11_readPart_151 mlX11_276 (hY.lt (k := 217) (by decide)) (ly217 hY) ⟨rfl, rfl⟩ (Nat.succ_le_succ (Nat.le_trans (show _ ≤ 7 by decide) hD)) ⟨Nat.le_of_ble_eq_true rfl, Nat.le_of_ble_eq_true rfl⟩ (Nat.le_of_ble_eq_true rfl) rfl (fun r151 Λc151 Ic151 Lc151 Rc151 hq151 => ?_)
      obtain ⟨rfl, rfl, rfl, hl151, hTt151, hFf151⟩ := hq151
      refine LW_bif_eq (tgt := 164) dX11_readPart_154 (by decide) (fun c154 => ?_) (fun c154 => ?_)
      · have hkc := of_decide_eq_false c154
        have hxb := hxb.trans (if_neg hkc)
        have hF := hFf151 c154
        refine LW_iconst (v := 0) dX11_readPart_164 (by decide) ?_
        refine LW_zret dX11_readPart_165 rfl (Nat.le_of_ble_eq_true rfl) (Nat.le_of_ble_eq_true rfl) (Or.inl rfl) ?_
        exact SPost.no (show ptG (kd B n) (vl B n) (brB (kd B n) d (smD (kd B n) (vl B n) d)) i P = .inl _ by unfold ptG; rw [if_neg (by rw [hk]; decide), if_neg (by rw [hk]; decide), if_neg (by rw [hk]; decide), if_neg (by rw [hk]; decide), if_neg (by rw [hk]; decide), if_pos (by omega), if_neg (by rw [hk]; decide), hxb]) hF
      · have hkc := of_decide_eq_true c154
        have hxb := hxb.trans (if_pos hkc)
        have hKc : kd B n q1.1 ≠ 2003 := by rw [hkc]; decide
        have hS := hS.lx hl151 (hTt151 c154).1 (kd_lt_n hB hKc)
        refine LW_aloadn 0 dX11_readPart_157 rfl rfl ?_
        refine LW_callV (As := []) (b := 217) (st := []) (ci := 11) (r := (RX11, TX11, 44)) (hsm d2 hd2 _ _ _ _ _ _ _ (s + 1) hS (by omega)) (YX11_readSum D) rfl dX11_readPart_158 mlX11_285 (hY.lt (k := 217) (by decide)) (ly217 hY) ⟨rfl, rfl⟩ (Nat.le_refl _) ⟨Nat.le_of_ble_eq_true rfl, Nat.le_of_ble_eq_true rfl⟩ (Nat.le_of_ble_eq_true rfl) rfl (fun r158 Λc158 Ic158 Lc158 Rc158 hq158 => ?_)
        obtain ⟨rfl, rfl, rfl, hx158⟩ := hq158
        refine LW_bif_ne (tgt := 166) dX11_readPart_161 (by decide) (fun c161 => ?_) (fun c161 => ?_)
        · obtain ⟨q2, he2⟩ := okS_t (show okS (smW (kd B n) (ptD (kd B n) (vl B n) d2) (q1.1 + 1) q1.2) = true from c161)
          rw [he2] at hx158
          obtain ⟨hS, hs2⟩ := hx158
          have hxb := hxb.trans (brK_s he2)
          have hin2 := hS.2.2.2.2
          refine LW_iloadn 1 dX11_readPart_166 rfl rfl ?_
          refine LW_iconst (v := 4) dX11_readPart_167 (by decide) ?_
          refine LW_icmp_ne (tgt := 189) dX11_readPart_168 (by decide) (fun c168 => ?_) (fun c168 => absurd (by decide) c168)
          refine LW_aloadn 0 dX11_readPart_189 rfl rfl ?_
          refine LW_callV (As := []) (b := 217) (st := []) (ci := 11) (r := (RX11, TX11, 44)) (r_closes (o := 8 - d) (by rw [show 8 - d + 1 = 8 - d2 by omega]; exact hS)) YX11_closes rfl dX11_readPart_190 mlX11_301 (hY.lt (k := 217) (by decide)) (ly217 hY) ⟨rfl, rfl⟩ (Nat.succ_le_succ (Nat.le_trans (show _ ≤ 7 by decide) hD)) ⟨Nat.le_of_ble_eq_true rfl, Nat.le_of_ble_eq_true rfl⟩ (Nat.le_of_ble_eq_true rfl) rfl (fun r190 Λc190 Ic190 Lc190 Rc190 hq190 => ?_)
          obtain ⟨b190, rfl, rfl, rfl, hy190, hn190⟩ := hq190
          refine LW_bif_ne (tgt := 198) dX11_readPart_193 (by decide) (fun c193 => ?_) (fun c193 => ?_)
          · obtain ⟨hkc, hS⟩ := hy190 c193
            have hxb := hxb.trans (if_pos hkc)
            have hino := hS.2.2.2.2
            refine LW_aloadn 0 dX11_readPart_198 rfl rfl ?_
            refine LW_iloadn 1 dX11_readPart_199 rfl rfl ?_
            refine LW_lconst (v := 0) dX11_readPart_200 (by decide) ?_
            refine LW_callV (As := [.int 2, .long 0]) (b := 217) (st := []) (ci := 11) (r := (RX11, TX11, 44)) (r_puts hS (by omega) 2 0) YX11_puts rfl dX11_readPart_201 mlX11_291 (hY.lt (k := 217) (by decide)) (ly217 hY) ⟨rfl, rfl⟩ (Nat.succ_le_succ (Nat.le_trans (show _ ≤ 7 by decide) hD)) ⟨Nat.le_of_ble_eq_true rfl, Nat.le_of_ble_eq_true rfl⟩ (Nat.le_of_ble_eq_true rfl) rfl (fun r201 Λc201 Ic201 Lc201 Rc201 hq201 => ?_)
            obtain ⟨rfl, rfl, rfl, hS⟩ := hq201
            refine LW_iconst (v := 1) dX11_readPart_204 (by decide) ?_
            refine LW_zret dX11_readPart_205 rfl (Nat.le_of_ble_eq_true rfl) (Nat.le_of_ble_eq_true rfl) (Or.inr rfl) ?_
            exact SPost.yes (q := (q2.1 + 1, lpPush q2.2 2 0)) (show ptG (kd B n) (vl B n) (brB (kd B n) d (smD (kd B n) (vl B n) d)) i P = .inr (q2.1 + 1, lpPush q2.2 2 0) by unfold ptG; rw [if_neg (by rw [hk]; decide), if_neg (by rw [hk]; decide), if_neg (by rw [hk]; decide), if_neg (by rw [hk]; decide), if_neg (by rw [hk]; decide), if_pos (by omega), if_neg (by rw [hk]; decide), hxb, hk]; rfl) hS (by show q2.2.1 + 1 + s ≤ q2.1 + 1; omega)
          · obtain ⟨hkc, hF⟩ := hn190 c193
            have hxb := hxb.trans (if_neg hkc)
            refine LW_iconst (v := 0) dX11_readPart_196 (by decide) ?_
            refine LW_zret dX11_readPart_197 rfl (Nat.le_of_ble_eq_true rfl) (Nat.le_of_ble_eq_true rfl) (Or.inl rfl) ?_
            exact SPost.no (show ptG (kd B n) (vl B n) (brB (kd B n) d (smD (kd B n) (vl B n) d)) i P = .inl _ by unfold ptG; rw [if_neg (by rw [hk]; decide), if_neg (by rw [hk]; decide), if_neg (by rw [hk]; decide), if_neg (by rw [hk]; decide), if_neg (by rw [hk]; decide), if_pos (by omega), if_neg (by rw [hk]; decide), hxb]) hF
        · obtain ⟨e, he⟩ := okS_f (show okS (smW (kd B n) (ptD (kd B n) (vl B n) d2) (q1.1 + 1) q1.2) = false from c161)
          rw [he] at hx158
          have hxb := hxb.trans (brK_e he)
          have hF := hx158
          refine LW_iconst (v := 0) dX11_readPart_164 (by decide) ?_
          refine LW_zret dX11_readPart_165 rfl (Nat.le_of_ble_eq_true rfl) (Nat.le_of_ble_eq_true rfl) (Or.inl rfl) ?_
          exact SPost.no (show ptG (kd B n) (vl B n) (brB (kd B n) d (smD (kd B n) (vl B n) d)) i P = .inl _ by unfold ptG; rw [if_neg (by rw [hk]; decide), if_neg (by rw [hk]; decide), if_neg (by rw [hk]; decide), if_neg (by rw [hk]; decide), if_neg (by rw [hk]; decide), if_pos (by omega), if_neg (by rw [hk]; decide), hxb]) hF
set_option maxRecDepth 100000 in
theorem pt_1014 {Λ : hc_L} {I : hc_I} {L : hc_J} {R : hc_R} {I0 : hc_I} {L0 : hc_J} {n i d D s : Nat} {B : Nat → Nat} {A : AS} {P : LwP} (hS : SW I0 L0 n B Λ I L i A P (8 - d)) (hs : P.1 + s ≤ i) (hd : d ≤ 8) (hD : 7 ≤ D) (hk : kd B n i = 1014) (hsm : ∀ d2, d = d2 + 1 → SmT I0 L0 n B d2 D) : Run (xX11_readPart (D + 1)) [.ref 217] Λ I L R (SPost I0 L0 n B A (8 - d) s (ptG (kd B n) (vl B n) (brB (kd B n) d (smD (kd B n) (vl B n) d)) i P) Λ R) := by
  refine Run.of (show plainName "HailClubModel" = true by decide +kernel) (Nat.le_of_ble_eq_true rfl) ?_
  show LW _ _ _ [(0, .ref 217)] _ _ _ _ _ _
  have hY := hS.y
  have hB := hS.b
  have hn7 := hS.1.n7
  have hK : kd B n i ≠ 2003 := by rw [hk]; decide
  have hin := kd_lt_n hB hK
  refine LW_aloadn 0 dX11_readPart_0 rfl rfl ?_
  refine gX11_25 dX11_readPart_1 flX11_150 (hY.lt (k := 217) (by decide)) (ly217 hY) ?_
  rw [show I 217 25 = 1 from (by rw [hS.1.srt, (tkK_w (q := tp B n i) hB (show 1000 ≤ kd B n i by omega) (show kd B n i ≤ 2000 by omega)).1]; rfl)]
  refine LW_iconst (v := 2) dX11_readPart_4 (by decide) ?_
  refine LW_icmp_ne (tgt := 33) dX11_readPart_5 (by decide) (fun c5 => ?_) (fun c5 => absurd (by decide) c5)
  refine LW_aloadn 0 dX11_readPart_33 rfl rfl ?_
  refine LW_callV (As := []) (b := 217) (st := []) (ci := 11) (r := (RX11, TX11, 44)) (r_askedHere hS.1) YX11_askedHere rfl dX11_readPart_34 mlX11_193 (hY.lt (k := 217) (by decide)) (ly217 hY) ⟨rfl, rfl⟩ (Nat.succ_le_succ (Nat.le_trans (show _ ≤ 7 by decide) hD)) ⟨Nat.le_of_ble_eq_true rfl, Nat.le_of_ble_eq_true rfl⟩ (Nat.le_of_ble_eq_true rfl) rfl (fun r34 Λc34 Ic34 Lc34 Rc34 hq34 => ?_)
  obtain ⟨rfl, rfl, rfl, rfl, rfl⟩ := hq34
  rw [show askV (kd B n i) = -1 from (by rw [hk]; rfl)]
  refine LW_iconst (v := -1) dX11_readPart_37 (by decide) ?_
  refine LW_icmp_eq (tgt := 57) dX11_readPart_38 (by decide) (fun c38 => ?_) (fun c38 => absurd (by decide) c38)
  refine LW_aloadn 0 dX11_readPart_57 rfl rfl ?_
  refine LW_ldcS (i := 14) dX11_readPart_58 rfl ?_
  refine LW_callV (As := [.ref (1000000 + 14)]) (b := 217) (st := []) (ci := 11) (r := (RX11, TX11, 44)) (r_isW hS.1 (j := 14) (k := 1013) (by decide) (by decide) rfl) YX11_isWord rfl dX11_readPart_60 mlX11_183 (hY.lt (k := 217) (by decide)) (ly217 hY) ⟨rfl, rfl⟩ (Nat.succ_le_succ (Nat.le_trans (show _ ≤ 7 by decide) hD)) ⟨Nat.le_of_ble_eq_true rfl, Nat.le_of_ble_eq_true rfl⟩ (Nat.le_of_ble_eq_true rfl) rfl (fun r60 Λc60 Ic60 Lc60 Rc60 hq60 => ?_)
  obtain ⟨rfl, rfl, rfl, rfl, rfl⟩ := hq60
  rw [show decide (kd B n i = 1013) = false from decide_eq_false (by rw [hk]; decide)]
  refine LW_bif_eq (tgt := 70) dX11_readPart_63 (by decide) (fun c63 => ?_) (fun c63 => absurd (c63.symm.trans rfl) (by decide))
  refine LW_aloadn 0 dX11_readPart_70 rfl rfl ?_
  refine LW_ldcS (i := 15) dX11_readPart_71 rfl ?_
  refine LW_callV (As := [.ref (1000000 + 15)]) (b := 217) (st := []) (ci := 11) (r := (RX11, TX11, 44)) (r_isW hS.1 (j := 15) (k := 1014) (by decide) (by decide) rfl) YX11_isWord rfl dX11_readPart_73 mlX11_183 (hY.lt (k := 217) (by decide)) (ly217 hY) ⟨rfl, rfl⟩ (Nat.succ_le_succ (Nat.le_trans (show _ ≤ 7 by decide) hD)) ⟨Nat.le_of_ble_eq_true rfl, Nat.le_of_ble_eq_true rfl⟩ (Nat.le_of_ble_eq_true rfl) rfl (fun r73 Λc73 Ic73 Lc73 Rc73 hq73 => ?_)
  obtain ⟨rfl, rfl, rfl, rfl, rfl⟩ := hq73
  rw [show decide (kd B n i = 1014) = true from decide_eq_true hk]
  refine LW_bif_eq (tgt := 83) dX11_readPart_76 (by decide) (fun c76 => absurd (c76.symm.trans rfl) (by decide)) (fun c76 => ?_)
  refine LW_iconst (v := 3) dX11_readPart_79 (by decide) ?_
  refine LW_goto (tgt := 97) dX11_readPart_80 (by decide) ?_
  refine LW_istoren (ls' := [(0, .ref 217), (1, .int 3)]) dX11_readPart_97 rfl (Nat.le_of_ble_eq_true rfl) rfl ?_
  refine LW_iloadn 1 dX11_readPart_98 rfl rfl ?_
  refine LW_iconst (v := -1) dX11_readPart_99 (by decide) ?_
  refine LW_icmp_ne (tgt := 130) dX11_readPart_100 (by decide) (fun c100 => ?_) (fun c100 => absurd (by decide) c100)
  refine LW_aloadn 0 dX11_readPart_130 rfl rfl ?_
  refine LW_callV (As := []) (b := 217) (st := []) (ci := 11) (r := (RX11, TX11, 44)) (r_nx hS.1) YX11_next rfl dX11_readPart_131 mlX11_234 (hY.lt (k := 217) (by decide)) (ly217 hY) ⟨rfl, rfl⟩ (Nat.succ_le_succ (Nat.le_trans (show _ ≤ 7 by decide) hD)) ⟨Nat.le_of_ble_eq_true rfl, Nat.le_of_ble_eq_true rfl⟩ (Nat.le_of_ble_eq_true rfl) rfl (fun r131 Λc131 Ic131 Lc131 Rc131 hq131 => ?_)
  obtain ⟨rfl, rfl, rfl, hl131, hT131, hr131⟩ := hq131
  have hS := hS.lx hl131 hT131 (kd_lt_n hB hK)
  refine LW_aloadn 0 dX11_readPart_134 rfl rfl ?_
  refine LW_callV (As := []) (b := 217) (st := []) (ci := 11) (r := (RX11, TX11, 44)) (r_opens hS (by omega)) YX11_opens rfl dX11_readPart_135 mlX11_298 (hY.lt (k := 217) (by decide)) (ly217 hY) ⟨rfl, rfl⟩ (Nat.succ_le_succ (Nat.le_trans (show _ ≤ 7 by decide) hD)) ⟨Nat.le_of_ble_eq_true rfl, Nat.le_of_ble_eq_true rfl⟩ (Nat.le_of_ble_eq_true rfl) rfl (fun r135 Λc135 Ic135 Lc135 Rc135 hq135 => ?_)
  obtain ⟨b135, rfl, rfl, rfl, hy135, hn135⟩ := hq135
  refine LW_bif_eq (tgt := 164) dX11_readPart_138 (by decide) (fun c138 => ?_) (fun c138 => ?_)
  · obtain ⟨e, hF, hcase⟩ := hn135 c138
    have hxb : brB (kd B n) d (smD (kd B n) (vl B n) d) 2 (i + 1) P = .inl e := by
      unfold brB
      rcases hcase with ⟨a, rfl⟩ | ⟨a, b, rfl⟩
      · rw [if_neg a]
      · rw [if_pos a, if_pos (by omega)]
    refine LW_iconst (v := 0) dX11_readPart_164 (by decide) ?_
    refine LW_zret dX11_readPart_165 rfl (Nat.le_of_ble_eq_true rfl) (Nat.le_of_ble_eq_true rfl) (Or.inl rfl) ?_
    exact SPost.no (show ptG (kd B n) (vl B n) (brB (kd B n) d (smD (kd B n) (vl B n) d)) i P = .inl _ by unfold ptG; rw [if_neg (by rw [hk]; decide), if_neg (by rw [hk]; decide), if_neg (by rw [hk]; decide), if_neg (by rw [hk]; decide), if_neg (by rw [hk]; decide), if_pos (by omega), if_neg (by rw [hk]; decide), hxb]) hF
  · obtain ⟨hk40, ho8, hS⟩ := hy135 c138
    obtain ⟨d2, hd2⟩ : ∃ d2, d = d2 + 1 := ⟨d - 1, by omega⟩
    replace hS := (show 8 - d + 1 = 8 - d2 by omega) ▸ hS
    have hxb : brB (kd B n) d (smD (kd B n) (vl B n) d) 2 (i + 1) P = brK (kd B n) (smW (kd B n) (ptD (kd B n) (vl B n) d2)) 2 (i + 1 + 1) P := by
      unfold brB
      rw [if_pos hk40, if_neg (by omega), hd2]
      rfl
    refine LW_aloadn 0 dX11_readPart_141 rfl rfl ?_
    refine LW_callV (As := []) (b := 217) (st := []) (ci := 11) (r := (RX11, TX11, 44)) (hsm d2 hd2 _ _ _ _ _ _ _ (s + 1) hS (by omega)) (YX11_readSum D) rfl dX11_readPart_142 mlX11_285 (hY.lt (k := 217) (by decide)) (ly217 hY) ⟨rfl, rfl⟩ (Nat.le_refl _) ⟨Nat.le_of_ble_eq_true rfl, Nat.le_of_ble_eq_true rfl⟩ (Nat.le_of_ble_eq_true rfl) rfl (fun r142 Λc142 Ic142 Lc142 Rc142 hq142 => ?_)
    obtain ⟨rfl, rfl, rfl, hx142⟩ := hq142
    refine LW_bif_eq (tgt := 164) dX11_readPart_145 (by decide) (fun c145 => ?_) (fun c145 => ?_)
    · obtain ⟨e, he⟩ := okS_f (show okS (smW (kd B n) (ptD (kd B n) (vl B n) d2) (i + 1 + 1) P) = false from c145)
      rw [he] at hx142
      have hxb := hxb.trans (brK_e he)
      have hF := hx142
      refine LW_iconst (v := 0) dX11_readPart_164 (by decide) ?_
      refine LW_zret dX11_readPart_165 rfl (Nat.le_of_ble_eq_true rfl) (Nat.le_of_ble_eq_true rfl) (Or.inl rfl) ?_
      exact SPost.no (show ptG (kd B n) (vl B n) (brB (kd B n) d (smD (kd B n) (vl B n) d)) i P = .inl _ by unfold ptG; rw [if_neg (by rw [hk]; decide), if_neg (by rw [hk]; decide), if_neg (by rw [hk]; decide), if_neg (by rw [hk]; decide), if_neg (by rw [hk]; decide), if_pos (by omega), if_neg (by rw [hk]; decide), hxb]) hF
    · obtain ⟨q1, he1⟩ := okS_t (show okS (smW (kd B n) (ptD (kd B n) (vl B n) d2) (i + 1 + 1) P) = true from c145)
      rw [he1] at hx142
      obtain ⟨hS, hs1⟩ := hx142
      have hxb := hxb.trans (brK_s he1)
      have hin1 := hS.2.2.2.2
      refine LW_aloadn 0 dX11_readPart_148 rfl rfl ?_
      refine LW_bipush (v := 44) dX11_readPart_149 (by decide) ?_
      refine LW_callV (As := [.int 44]) (b := 217) (st := []) (ci := 11) (r := (RX11, TX11, 44)) (r_tkS hS.1 (c := 44) (by decide)) YX11_takesSign rfl dX11_readPart_151 mlX11_276 (hY.lt (k := 217) (by decide)) (ly217 hY) ⟨rfl, rfl⟩ (Nat.succ_le_succ (Nat.le_trans (show _ ≤ 7 by decide) hD)) ⟨Nat.le_of_ble_eq_true rfl, Nat.le_of_ble_eq_true rfl⟩ (Nat.le_of_ble_eq_true rfl) rfl (fun r151 Λc151 Ic151 Lc151 Rc151 hq151 => ?_)
      obtain ⟨rfl, rfl, rfl, hl151, hTt151, hFf151⟩ := hq151
      refine LW_bif_eq (tgt := 164) dX11_readPart_154 (by decide) (fun c154 => ?_) (fun c154 => ?_)
      · have hkc := of_decide_eq_false c154
        have hxb := hxb.trans (if_neg hkc)
        have hF := hFf151 c154
        refine LW_iconst (v := 0) dX11_readPart_164 (by decide) ?_
        refine LW_zret dX11_readPart_165 rfl (Nat.le_of_ble_eq_true rfl) (Nat.le_of_ble_eq_true rfl) (Or.inl rfl) ?_
        exact SPost.no (show ptG (kd B n) (vl B n) (brB (kd B n) d (smD (kd B n) (vl B n) d)) i P = .inl _ by unfold ptG; rw [if_neg (by rw [hk]; decide), if_neg (by rw [hk]; decide), if_neg (by rw [hk]; decide), if_neg (by rw [hk]; decide), if_neg (by rw [hk]; decide), if_pos (by omega), if_neg (by rw [hk]; decide), hxb]) hF
      · have hkc := of_decide_eq_true c154
        have hxb := hxb.trans (if_pos hkc)
        have hKc : kd B n q1.1 ≠ 2003 := by rw [hkc]; decide
        have hS := hS.lx hl151 (hTt151 c154).1 (kd_lt_n hB hKc)
        refine LW_aloadn 0 dX11_readPart_157 rfl rfl ?_
        refine LW_callV (As := []) (b := 217) (st := []) (ci := 11) (r := (RX11, TX11, 44)) (hsm d2 hd2 _ _ _ _ _ _ _ (s + 1) hS (by omega)) (YX11_readSum D) rfl dX11_readPart_158 mlX11_285 (hY.lt (k := 217) (by decide)) (ly217 hY) ⟨rfl, rfl⟩ (Nat.le_refl _) ⟨Nat.le_of_ble_eq_true rfl, Nat.le_of_ble_eq_true rfl⟩ (Nat.le_of_ble_eq_true rfl) rfl (fun r158 Λc158 Ic158 Lc158 Rc158 hq158 => ?_)
        obtain ⟨rfl, rfl, rfl, hx158⟩ := hq158
        refine LW_bif_ne (tgt := 166) dX11_readPart_161 (by decide) (fun c161 => ?_) (fun c161 => ?_)
        · obtain ⟨q2, he2⟩ := okS_t (show okS (smW (kd B n) (ptD (kd B n) (vl B n) d2) (q1.1 + 1) q1.2) = true from c161)
          rw [he2] at hx158
          obtain ⟨hS, hs2⟩ := hx158
          have hxb := hxb.trans (brK_s he2)
          have hin2 := hS.2.2.2.2
          refine LW_iloadn 1 dX11_readPart_166 rfl rfl ?_
          refine LW_iconst (v := 4) dX11_readPart_167 (by decide) ?_
          refine LW_icmp_ne (tgt := 189) dX11_readPart_168 (by decide) (fun c168 => ?_) (fun c168 => absurd (by decide) c168)
          refine LW_aloadn 0 dX11_readPart_189 rfl rfl ?_
          refine LW_callV (As := []) (b := 217) (st := []) (ci := 11) (r := (RX11, TX11, 44)) (r_closes (o := 8 - d) (by rw [show 8 - d + 1 = 8 - d2 by omega]; exact hS)) YX11_closes rfl dX11_readPart_190 mlX11_301 (hY.lt (k := 217) (by decide)) (ly217 hY) ⟨rfl, rfl⟩ (Nat.succ_le_succ (Nat.le_trans (show _ ≤ 7 by decide) hD)) ⟨Nat.le_of_ble_eq_true rfl, Nat.le_of_ble_eq_true rfl⟩ (Nat.le_of_ble_eq_true rfl) rfl (fun r190 Λc190 Ic190 Lc190 Rc190 hq190 => ?_)
          obtain ⟨b190, rfl, rfl, rfl, hy190, hn190⟩ := hq190
          refine LW_bif_ne (tgt := 198) dX11_readPart_193 (by decide) (fun c193 => ?_) (fun c193 => ?_)
          · obtain ⟨hkc, hS⟩ := hy190 c193
            have hxb := hxb.trans (if_pos hkc)
            have hino := hS.2.2.2.2
            refine LW_aloadn 0 dX11_readPart_198 rfl rfl ?_
            refine LW_iloadn 1 dX11_readPart_199 rfl rfl ?_
            refine LW_lconst (v := 0) dX11_readPart_200 (by decide) ?_
            refine LW_callV (As := [.int 3, .long 0]) (b := 217) (st := []) (ci := 11) (r := (RX11, TX11, 44)) (r_puts hS (by omega) 3 0) YX11_puts rfl dX11_readPart_201 mlX11_291 (hY.lt (k := 217) (by decide)) (ly217 hY) ⟨rfl, rfl⟩ (Nat.succ_le_succ (Nat.le_trans (show _ ≤ 7 by decide) hD)) ⟨Nat.le_of_ble_eq_true rfl, Nat.le_of_ble_eq_true rfl⟩ (Nat.le_of_ble_eq_true rfl) rfl (fun r201 Λc201 Ic201 Lc201 Rc201 hq201 => ?_)
            obtain ⟨rfl, rfl, rfl, hS⟩ := hq201
            refine LW_iconst (v := 1) dX11_readPart_204 (by decide) ?_
            refine LW_zret dX11_readPart_205 rfl (Nat.le_of_ble_eq_true rfl) (Nat.le_of_ble_eq_true rfl) (Or.inr rfl) ?_
            exact SPost.yes (q := (q2.1 + 1, lpPush q2.2 3 0)) (show ptG (kd B n) (vl B n) (brB (kd B n) d (smD (kd B n) (vl B n) d)) i P = .inr (q2.1 + 1, lpPush q2.2 3 0) by unfold ptG; rw [if_neg (by rw [hk]; decide), if_neg (by rw [hk]; decide), if_neg (by rw [hk]; decide), if_neg (by rw [hk]; decide), if_neg (by rw [hk]; decide), if_pos (by omega), if_neg (by rw [hk]; decide), hxb, hk]; rfl) hS (by show q2.2.1 + 1 + s ≤ q2.1 + 1; omega)
          · obtain ⟨hkc, hF⟩ := hn190 c193
            have hxb := hxb.trans (if_neg hkc)
            refine LW_iconst (v := 0) dX11_readPart_196 (by decide) ?_
            refine LW_zret dX11_readPart_197 rfl (Nat.le_of_ble_eq_true rfl) (Nat.le_of_ble_eq_true rfl) (Or.inl rfl) ?_
            exact SPost.no (show ptG (kd B n) (vl B n) (brB (kd B n) d (smD (kd B n) (vl B n) d)) i P = .inl _ by unfold ptG; rw [if_neg (by rw [hk]; decide), if_neg (by rw [hk]; decide), if_neg (by rw [hk]; decide), if_neg (by rw [hk]; decide), if_neg (by rw [hk]; decide), if_pos (by omega), if_neg (by rw [hk]; decide), hxb]) hF
        · obtain ⟨e, he⟩ := okS_f (show okS (smW (kd B n) (ptD (kd B n) (vl B n) d2) (q1.1 + 1) q1.2) = false from c161)
          rw [he] at hx158
          have hxb := hxb.trans (brK_e he)
          have hF := hx158
          refine LW_iconst (v := 0) dX11_readPart_164 (by decide) ?_
          refine LW_zret dX11_readPart_165 rfl (Nat.le_of_ble_eq_true rfl) (Nat.le_of_ble_eq_true rfl) (Or.inl rfl) ?_
          exact SPost.no (show ptG (kd B n) (vl B n) (brB (kd B n) d (smD (kd B n) (vl B n) d)) i P = .inl _ by unfold ptG; rw [if_neg (by rw [hk]; decide), if_neg (by rw [hk]; decide), if_neg (by rw [hk]; decide), if_neg (by rw [hk]; decide), if_neg (by rw [hk]; decide), if_pos (by omega), if_neg (by rw [hk]; decide), hxb]) hF
set_option maxRecDepth 100000 in
theorem pt_1015 {Λ : hc_L} {I : hc_I} {L : hc_J} {R : hc_R} {I0 : hc_I} {L0 : hc_J} {n i d D s : Nat} {B : Nat → Nat} {A : AS} {P : LwP} (hS : SW I0 L0 n B Λ I L i A P (8 - d)) (hs : P.1 + s ≤ i) (hd : d ≤ 8) (hD : 7 ≤ D) (hk : kd B n i = 1015) (hsm : ∀ d2, d = d2 + 1 → SmT I0 L0 n B d2 D) : Run (xX11_readPart (D + 1)) [.ref 217] Λ I L R (SPost I0 L0 n B A (8 - d) s (ptG (kd B n) (vl B n) (brB (kd B n) d (smD (kd B n) (vl B n) d)) i P) Λ R) := by
  refine Run.of (show plainName "HailClubModel" = true by decide +kernel) (Nat.le_of_ble_eq_true rfl) ?_
  show LW _ _ _ [(0, .ref 217)] _ _ _ _ _ _
  have hY := hS.y
  have hB := hS.b
  have hn7 := hS.1.n7
  have hK : kd B n i ≠ 2003 := by rw [hk]; decide
  have hin := kd_lt_n hB hK
  refine LW_aloadn 0 dX11_readPart_0 rfl rfl ?_
  refine gX11_25 dX11_readPart_1 flX11_150 (hY.lt (k := 217) (by decide)) (ly217 hY) ?_
  rw [show I 217 25 = 1 from (by rw [hS.1.srt, (tkK_w (q := tp B n i) hB (show 1000 ≤ kd B n i by omega) (show kd B n i ≤ 2000 by omega)).1]; rfl)]
  refine LW_iconst (v := 2) dX11_readPart_4 (by decide) ?_
  refine LW_icmp_ne (tgt := 33) dX11_readPart_5 (by decide) (fun c5 => ?_) (fun c5 => absurd (by decide) c5)
  refine LW_aloadn 0 dX11_readPart_33 rfl rfl ?_
  refine LW_callV (As := []) (b := 217) (st := []) (ci := 11) (r := (RX11, TX11, 44)) (r_askedHere hS.1) YX11_askedHere rfl dX11_readPart_34 mlX11_193 (hY.lt (k := 217) (by decide)) (ly217 hY) ⟨rfl, rfl⟩ (Nat.succ_le_succ (Nat.le_trans (show _ ≤ 7 by decide) hD)) ⟨Nat.le_of_ble_eq_true rfl, Nat.le_of_ble_eq_true rfl⟩ (Nat.le_of_ble_eq_true rfl) rfl (fun r34 Λc34 Ic34 Lc34 Rc34 hq34 => ?_)
  obtain ⟨rfl, rfl, rfl, rfl, rfl⟩ := hq34
  rw [show askV (kd B n i) = -1 from (by rw [hk]; rfl)]
  refine LW_iconst (v := -1) dX11_readPart_37 (by decide) ?_
  refine LW_icmp_eq (tgt := 57) dX11_readPart_38 (by decide) (fun c38 => ?_) (fun c38 => absurd (by decide) c38)
  refine LW_aloadn 0 dX11_readPart_57 rfl rfl ?_
  refine LW_ldcS (i := 14) dX11_readPart_58 rfl ?_
  refine LW_callV (As := [.ref (1000000 + 14)]) (b := 217) (st := []) (ci := 11) (r := (RX11, TX11, 44)) (r_isW hS.1 (j := 14) (k := 1013) (by decide) (by decide) rfl) YX11_isWord rfl dX11_readPart_60 mlX11_183 (hY.lt (k := 217) (by decide)) (ly217 hY) ⟨rfl, rfl⟩ (Nat.succ_le_succ (Nat.le_trans (show _ ≤ 7 by decide) hD)) ⟨Nat.le_of_ble_eq_true rfl, Nat.le_of_ble_eq_true rfl⟩ (Nat.le_of_ble_eq_true rfl) rfl (fun r60 Λc60 Ic60 Lc60 Rc60 hq60 => ?_)
  obtain ⟨rfl, rfl, rfl, rfl, rfl⟩ := hq60
  rw [show decide (kd B n i = 1013) = false from decide_eq_false (by rw [hk]; decide)]
  refine LW_bif_eq (tgt := 70) dX11_readPart_63 (by decide) (fun c63 => ?_) (fun c63 => absurd (c63.symm.trans rfl) (by decide))
  refine LW_aloadn 0 dX11_readPart_70 rfl rfl ?_
  refine LW_ldcS (i := 15) dX11_readPart_71 rfl ?_
  refine LW_callV (As := [.ref (1000000 + 15)]) (b := 217) (st := []) (ci := 11) (r := (RX11, TX11, 44)) (r_isW hS.1 (j := 15) (k := 1014) (by decide) (by decide) rfl) YX11_isWord rfl dX11_readPart_73 mlX11_183 (hY.lt (k := 217) (by decide)) (ly217 hY) ⟨rfl, rfl⟩ (Nat.succ_le_succ (Nat.le_trans (show _ ≤ 7 by decide) hD)) ⟨Nat.le_of_ble_eq_true rfl, Nat.le_of_ble_eq_true rfl⟩ (Nat.le_of_ble_eq_true rfl) rfl (fun r73 Λc73 Ic73 Lc73 Rc73 hq73 => ?_)
  obtain ⟨rfl, rfl, rfl, rfl, rfl⟩ := hq73
  rw [show decide (kd B n i = 1014) = false from decide_eq_false (by rw [hk]; decide)]
  refine LW_bif_eq (tgt := 83) dX11_readPart_76 (by decide) (fun c76 => ?_) (fun c76 => absurd (c76.symm.trans rfl) (by decide))
  refine LW_aloadn 0 dX11_readPart_83 rfl rfl ?_
  refine LW_ldcS (i := 16) dX11_readPart_84 rfl ?_
  refine LW_callV (As := [.ref (1000000 + 16)]) (b := 217) (st := []) (ci := 11) (r := (RX11, TX11, 44)) (r_isW hS.1 (j := 16) (k := 1015) (by decide) (by decide) rfl) YX11_isWord rfl dX11_readPart_86 mlX11_183 (hY.lt (k := 217) (by decide)) (ly217 hY) ⟨rfl, rfl⟩ (Nat.succ_le_succ (Nat.le_trans (show _ ≤ 7 by decide) hD)) ⟨Nat.le_of_ble_eq_true rfl, Nat.le_of_ble_eq_true rfl⟩ (Nat.le_of_ble_eq_true rfl) rfl (fun r86 Λc86 Ic86 Lc86 Rc86 hq86 => ?_)
  obtain ⟨rfl, rfl, rfl, rfl, rfl⟩ := hq86
  rw [show decide (kd B n i = 1015) = true from decide_eq_true hk]
  refine LW_bif_eq (tgt := 96) dX11_readPart_89 (by decide) (fun c89 => absurd (c89.symm.trans rfl) (by decide)) (fun c89 => ?_)
  refine LW_iconst (v := 4) dX11_readPart_92 (by decide) ?_
  refine LW_goto (tgt := 97) dX11_readPart_93 (by decide) ?_
  refine LW_istoren (ls' := [(0, .ref 217), (1, .int 4)]) dX11_readPart_97 rfl (Nat.le_of_ble_eq_true rfl) rfl ?_
  refine LW_iloadn 1 dX11_readPart_98 rfl rfl ?_
  refine LW_iconst (v := -1) dX11_readPart_99 (by decide) ?_
  refine LW_icmp_ne (tgt := 130) dX11_readPart_100 (by decide) (fun c100 => ?_) (fun c100 => absurd (by decide) c100)
  refine LW_aloadn 0 dX11_readPart_130 rfl rfl ?_
  refine LW_callV (As := []) (b := 217) (st := []) (ci := 11) (r := (RX11, TX11, 44)) (r_nx hS.1) YX11_next rfl dX11_readPart_131 mlX11_234 (hY.lt (k := 217) (by decide)) (ly217 hY) ⟨rfl, rfl⟩ (Nat.succ_le_succ (Nat.le_trans (show _ ≤ 7 by decide) hD)) ⟨Nat.le_of_ble_eq_true rfl, Nat.le_of_ble_eq_true rfl⟩ (Nat.le_of_ble_eq_true rfl) rfl (fun r131 Λc131 Ic131 Lc131 Rc131 hq131 => ?_)
  obtain ⟨rfl, rfl, rfl, hl131, hT131, hr131⟩ := hq131
  have hS := hS.lx hl131 hT131 (kd_lt_n hB hK)
  refine LW_aloadn 0 dX11_readPart_134 rfl rfl ?_
  refine LW_callV (As := []) (b := 217) (st := []) (ci := 11) (r := (RX11, TX11, 44)) (r_opens hS (by omega)) YX11_opens rfl dX11_readPart_135 mlX11_298 (hY.lt (k := 217) (by decide)) (ly217 hY) ⟨rfl, rfl⟩ (Nat.succ_le_succ (Nat.le_trans (show _ ≤ 7 by decide) hD)) ⟨Nat.le_of_ble_eq_true rfl, Nat.le_of_ble_eq_true rfl⟩ (Nat.le_of_ble_eq_true rfl) rfl (fun r135 Λc135 Ic135 Lc135 Rc135 hq135 => ?_)
  obtain ⟨b135, rfl, rfl, rfl, hy135, hn135⟩ := hq135
  refine LW_bif_eq (tgt := 164) dX11_readPart_138 (by decide) (fun c138 => ?_) (fun c138 => ?_)
  · obtain ⟨e, hF, hcase⟩ := hn135 c138
    have hxb : brB (kd B n) d (smD (kd B n) (vl B n) d) 3 (i + 1) P = .inl e := by
      unfold brB
      rcases hcase with ⟨a, rfl⟩ | ⟨a, b, rfl⟩
      · rw [if_neg a]
      · rw [if_pos a, if_pos (by omega)]
    refine LW_iconst (v := 0) dX11_readPart_164 (by decide) ?_
    refine LW_zret dX11_readPart_165 rfl (Nat.le_of_ble_eq_true rfl) (Nat.le_of_ble_eq_true rfl) (Or.inl rfl) ?_
    exact SPost.no (show ptG (kd B n) (vl B n) (brB (kd B n) d (smD (kd B n) (vl B n) d)) i P = .inl _ by unfold ptG; rw [if_neg (by rw [hk]; decide), if_neg (by rw [hk]; decide), if_neg (by rw [hk]; decide), if_neg (by rw [hk]; decide), if_neg (by rw [hk]; decide), if_pos (by omega), if_pos hk, hxb]) hF
  · obtain ⟨hk40, ho8, hS⟩ := hy135 c138
    obtain ⟨d2, hd2⟩ : ∃ d2, d = d2 + 1 := ⟨d - 1, by omega⟩
    replace hS := (show 8 - d + 1 = 8 - d2 by omega) ▸ hS
    have hxb : brB (kd B n) d (smD (kd B n) (vl B n) d) 3 (i + 1) P = brK (kd B n) (smW (kd B n) (ptD (kd B n) (vl B n) d2)) 3 (i + 1 + 1) P := by
      unfold brB
      rw [if_pos hk40, if_neg (by omega), hd2]
      rfl
    refine LW_aloadn 0 dX11_readPart_141 rfl rfl ?_
    refine LW_callV (As := []) (b := 217) (st := []) (ci := 11) (r := (RX11, TX11, 44)) (hsm d2 hd2 _ _ _ _ _ _ _ (s + 1) hS (by omega)) (YX11_readSum D) rfl dX11_readPart_142 mlX11_285 (hY.lt (k := 217) (by decide)) (ly217 hY) ⟨rfl, rfl⟩ (Nat.le_refl _) ⟨Nat.le_of_ble_eq_true rfl, Nat.le_of_ble_eq_true rfl⟩ (Nat.le_of_ble_eq_true rfl) rfl (fun r142 Λc142 Ic142 Lc142 Rc142 hq142 => ?_)
    obtain ⟨rfl, rfl, rfl, hx142⟩ := hq142
    refine LW_bif_eq (tgt := 164) dX11_readPart_145 (by decide) (fun c145 => ?_) (fun c145 => ?_)
    · obtain ⟨e, he⟩ := okS_f (show okS (smW (kd B n) (ptD (kd B n) (vl B n) d2) (i + 1 + 1) P) = false from c145)
      rw [he] at hx142
      have hxb := hxb.trans (brK_e he)
      have hF := hx142
      refine LW_iconst (v := 0) dX11_readPart_164 (by decide) ?_
      refine LW_zret dX11_readPart_165 rfl (Nat.le_of_ble_eq_true rfl) (Nat.le_of_ble_eq_true rfl) (Or.inl rfl) ?_
      exact SPost.no (show ptG (kd B n) (vl B n) (brB (kd B n) d (smD (kd B n) (vl B n) d)) i P = .inl _ by unfold ptG; rw [if_neg (by rw [hk]; decide), if_neg (by rw [hk]; decide), if_neg (by rw [hk]; decide), if_neg (by rw [hk]; decide), if_neg (by rw [hk]; decide), if_pos (by omega), if_pos hk, hxb]) hF
    · obtain ⟨q1, he1⟩ := okS_t (show okS (smW (kd B n) (ptD (kd B n) (vl B n) d2) (i + 1 + 1) P) = true from c145)
      rw [he1] at hx142
      obtain ⟨hS, hs1⟩ := hx142
      have hxb := hxb.trans (brK_s he1)
      have hin1 := hS.2.2.2.2
      refine LW_aloadn 0 dX11_readPart_148 rfl rfl ?_
      refine LW_bipush (v := 44) dX11_readPart_149 (by decide) ?_
      refine LW_callV (As := [.int 44]) (b := 217) (st := []) (ci := 11) (r := (RX11, TX11, 44)) (r_tkS hS.1 (c := 44) (by decide)) YX11_takesSign rfl dX11_readPart_151 mlX11_276 (hY.lt (k := 217) (by decide)) (ly217 hY) ⟨rfl, rfl⟩ (Nat.succ_le_succ (Nat.le_trans (show _ ≤ 7 by decide) hD)) ⟨Nat.le_of_ble_eq_true rfl, Nat.le_of_ble_eq_true rfl⟩ (Nat.le_of_ble_eq_true rfl) rfl (fun r151 Λc151 Ic151 Lc151 Rc151 hq151 => ?_)
      obtain ⟨rfl, rfl, rfl, hl151, hTt151, hFf151⟩ := hq151
      refine LW_bif_eq (tgt := 164) dX11_readPart_154 (by decide) (fun c154 => ?_) (fun c154 => ?_)
      · have hkc := of_decide_eq_false c154
        have hxb := hxb.trans (if_neg hkc)
        have hF := hFf151 c154
        refine LW_iconst (v := 0) dX11_readPart_164 (by decide) ?_
        refine LW_zret dX11_readPart_165 rfl (Nat.le_of_ble_eq_true rfl) (Nat.le_of_ble_eq_true rfl) (Or.inl rfl) ?_
        exact SPost.no (show ptG (kd B n) (vl B n) (brB (kd B n) d (smD (kd B n) (vl B n) d)) i P = .inl _ by unfold ptG; rw [if_neg (by rw [hk]; decide), if_neg (by rw [hk]; decide), if_neg (by rw [hk]; decide), if_neg (by rw [hk]; decide), if_neg (by rw [hk]; decide), if_pos (by omega), if_pos hk, hxb]) hF
      · have hkc := of_decide_eq_true c154
        have hxb := hxb.trans (if_pos hkc)
        have hKc : kd B n q1.1 ≠ 2003 := by rw [hkc]; decide
        have hS := hS.lx hl151 (hTt151 c154).1 (kd_lt_n hB hKc)
        refine LW_aloadn 0 dX11_readPart_157 rfl rfl ?_
        refine LW_callV (As := []) (b := 217) (st := []) (ci := 11) (r := (RX11, TX11, 44)) (hsm d2 hd2 _ _ _ _ _ _ _ (s + 1) hS (by omega)) (YX11_readSum D) rfl dX11_readPart_158 mlX11_285 (hY.lt (k := 217) (by decide)) (ly217 hY) ⟨rfl, rfl⟩ (Nat.le_refl _) ⟨Nat.le_of_ble_eq_true rfl, Nat.le_of_ble_eq_true rfl⟩ (Nat.le_of_ble_eq_true rfl) rfl (fun r158 Λc158 Ic158 Lc158 Rc158 hq158 => ?_)
        obtain ⟨rfl, rfl, rfl, hx158⟩ := hq158
        refine LW_bif_ne (tgt := 166) dX11_readPart_161 (by decide) (fun c161 => ?_) (fun c161 => ?_)
        · obtain ⟨q2, he2⟩ := okS_t (show okS (smW (kd B n) (ptD (kd B n) (vl B n) d2) (q1.1 + 1) q1.2) = true from c161)
          rw [he2] at hx158
          obtain ⟨hS, hs2⟩ := hx158
          have hxb := hxb.trans (brK_s he2)
          have hin2 := hS.2.2.2.2
          refine LW_iloadn 1 dX11_readPart_166 rfl rfl ?_
          refine LW_iconst (v := 4) dX11_readPart_167 (by decide) ?_
          refine LW_icmp_ne (tgt := 189) dX11_readPart_168 (by decide) (fun c168 => absurd c168 (by decide)) (fun c168 => ?_)
          refine LW_aloadn 0 dX11_readPart_171 rfl rfl ?_
          refine LW_bipush (v := 44) dX11_readPart_172 (by decide) ?_
          refine LW_callV (As := [.int 44]) (b := 217) (st := []) (ci := 11) (r := (RX11, TX11, 44)) (r_tkS hS.1 (c := 44) (by decide)) YX11_takesSign rfl dX11_readPart_174 mlX11_276 (hY.lt (k := 217) (by decide)) (ly217 hY) ⟨rfl, rfl⟩ (Nat.succ_le_succ (Nat.le_trans (show _ ≤ 7 by decide) hD)) ⟨Nat.le_of_ble_eq_true rfl, Nat.le_of_ble_eq_true rfl⟩ (Nat.le_of_ble_eq_true rfl) rfl (fun r174 Λc174 Ic174 Lc174 Rc174 hq174 => ?_)
          obtain ⟨rfl, rfl, rfl, hl174, hTt174, hFf174⟩ := hq174
          refine LW_bif_eq (tgt := 187) dX11_readPart_177 (by decide) (fun c177 => ?_) (fun c177 => ?_)
          · have hkc := of_decide_eq_false c177
            have hxb := hxb.trans (if_neg hkc)
            have hF := hFf174 c177
            refine LW_iconst (v := 0) dX11_readPart_187 (by decide) ?_
            refine LW_zret dX11_readPart_188 rfl (Nat.le_of_ble_eq_true rfl) (Nat.le_of_ble_eq_true rfl) (Or.inl rfl) ?_
            exact SPost.no (show ptG (kd B n) (vl B n) (brB (kd B n) d (smD (kd B n) (vl B n) d)) i P = .inl _ by unfold ptG; rw [if_neg (by rw [hk]; decide), if_neg (by rw [hk]; decide), if_neg (by rw [hk]; decide), if_neg (by rw [hk]; decide), if_neg (by rw [hk]; decide), if_pos (by omega), if_pos hk, hxb]) hF
          · have hkc := of_decide_eq_true c177
            have hxb := hxb.trans (if_pos hkc)
            have hKc : kd B n q2.1 ≠ 2003 := by rw [hkc]; decide
            have hS := hS.lx hl174 (hTt174 c177).1 (kd_lt_n hB hKc)
            refine LW_aloadn 0 dX11_readPart_180 rfl rfl ?_
            refine LW_callV (As := []) (b := 217) (st := []) (ci := 11) (r := (RX11, TX11, 44)) (hsm d2 hd2 _ _ _ _ _ _ _ (s + 1) hS (by omega)) (YX11_readSum D) rfl dX11_readPart_181 mlX11_285 (hY.lt (k := 217) (by decide)) (ly217 hY) ⟨rfl, rfl⟩ (Nat.le_refl _) ⟨Nat.le_of_ble_eq_true rfl, Nat.le_of_ble_eq_true rfl⟩ (Nat.le_of_ble_eq_true rfl) rfl (fun r181 Λc181 Ic181 Lc181 Rc181 hq181 => ?_)
            obtain ⟨rfl, rfl, rfl, hx181⟩ := hq181
            refine LW_bif_ne (tgt := 189) dX11_readPart_184 (by decide) (fun c184 => ?_) (fun c184 => ?_)
            · obtain ⟨q3, he3⟩ := okS_t (show okS (smW (kd B n) (ptD (kd B n) (vl B n) d2) (q2.1 + 1) q2.2) = true from c184)
              rw [he3] at hx181
              obtain ⟨hS, hs3⟩ := hx181
              have hxb := hxb.trans (brK_s he3)
              have hin3 := hS.2.2.2.2
              refine LW_aloadn 0 dX11_readPart_189 rfl rfl ?_
              refine LW_callV (As := []) (b := 217) (st := []) (ci := 11) (r := (RX11, TX11, 44)) (r_closes (o := 8 - d) (by rw [show 8 - d + 1 = 8 - d2 by omega]; exact hS)) YX11_closes rfl dX11_readPart_190 mlX11_301 (hY.lt (k := 217) (by decide)) (ly217 hY) ⟨rfl, rfl⟩ (Nat.succ_le_succ (Nat.le_trans (show _ ≤ 7 by decide) hD)) ⟨Nat.le_of_ble_eq_true rfl, Nat.le_of_ble_eq_true rfl⟩ (Nat.le_of_ble_eq_true rfl) rfl (fun r190 Λc190 Ic190 Lc190 Rc190 hq190 => ?_)
              obtain ⟨b190, rfl, rfl, rfl, hy190, hn190⟩ := hq190
              refine LW_bif_ne (tgt := 198) dX11_readPart_193 (by decide) (fun c193 => ?_) (fun c193 => ?_)
              · obtain ⟨hkc, hS⟩ := hy190 c193
                have hxb := hxb.trans (if_pos hkc)
                have hino := hS.2.2.2.2
                refine LW_aloadn 0 dX11_readPart_198 rfl rfl ?_
                refine LW_iloadn 1 dX11_readPart_199 rfl rfl ?_
                refine LW_lconst (v := 0) dX11_readPart_200 (by decide) ?_
                refine LW_callV (As := [.int 4, .long 0]) (b := 217) (st := []) (ci := 11) (r := (RX11, TX11, 44)) (r_puts hS (by omega) 4 0) YX11_puts rfl dX11_readPart_201 mlX11_291 (hY.lt (k := 217) (by decide)) (ly217 hY) ⟨rfl, rfl⟩ (Nat.succ_le_succ (Nat.le_trans (show _ ≤ 7 by decide) hD)) ⟨Nat.le_of_ble_eq_true rfl, Nat.le_of_ble_eq_true rfl⟩ (Nat.le_of_ble_eq_true rfl) rfl (fun r201 Λc201 Ic201 Lc201 Rc201 hq201 => ?_)
                obtain ⟨rfl, rfl, rfl, hS⟩ := hq201
                refine LW_iconst (v := 1) dX11_readPart_204 (by decide) ?_
                refine LW_zret dX11_readPart_205 rfl (Nat.le_of_ble_eq_true rfl) (Nat.le_of_ble_eq_true rfl) (Or.inr rfl) ?_
                exact SPost.yes (q := (q3.1 + 1, lpPush q3.2 4 0)) (show ptG (kd B n) (vl B n) (brB (kd B n) d (smD (kd B n) (vl B n) d)) i P = .inr (q3.1 + 1, lpPush q3.2 4 0) by unfold ptG; rw [if_neg (by rw [hk]; decide), if_neg (by rw [hk]; decide), if_neg (by rw [hk]; decide), if_neg (by rw [hk]; decide), if_neg (by rw [hk]; decide), if_pos (by omega), if_pos hk, hxb, hk]; rfl) hS (by show q3.2.1 + 1 + s ≤ q3.1 + 1; omega)
              · obtain ⟨hkc, hF⟩ := hn190 c193
                have hxb := hxb.trans (if_neg hkc)
                refine LW_iconst (v := 0) dX11_readPart_196 (by decide) ?_
                refine LW_zret dX11_readPart_197 rfl (Nat.le_of_ble_eq_true rfl) (Nat.le_of_ble_eq_true rfl) (Or.inl rfl) ?_
                exact SPost.no (show ptG (kd B n) (vl B n) (brB (kd B n) d (smD (kd B n) (vl B n) d)) i P = .inl _ by unfold ptG; rw [if_neg (by rw [hk]; decide), if_neg (by rw [hk]; decide), if_neg (by rw [hk]; decide), if_neg (by rw [hk]; decide), if_neg (by rw [hk]; decide), if_pos (by omega), if_pos hk, hxb]) hF
            · obtain ⟨e, he⟩ := okS_f (show okS (smW (kd B n) (ptD (kd B n) (vl B n) d2) (q2.1 + 1) q2.2) = false from c184)
              rw [he] at hx181
              have hxb := hxb.trans (brK_e he)
              have hF := hx181
              refine LW_iconst (v := 0) dX11_readPart_187 (by decide) ?_
              refine LW_zret dX11_readPart_188 rfl (Nat.le_of_ble_eq_true rfl) (Nat.le_of_ble_eq_true rfl) (Or.inl rfl) ?_
              exact SPost.no (show ptG (kd B n) (vl B n) (brB (kd B n) d (smD (kd B n) (vl B n) d)) i P = .inl _ by unfold ptG; rw [if_neg (by rw [hk]; decide), if_neg (by rw [hk]; decide), if_neg (by rw [hk]; decide), if_neg (by rw [hk]; decide), if_neg (by rw [hk]; decide), if_pos (by omega), if_pos hk, hxb]) hF
        · obtain ⟨e, he⟩ := okS_f (show okS (smW (kd B n) (ptD (kd B n) (vl B n) d2) (q1.1 + 1) q1.2) = false from c161)
          rw [he] at hx158
          have hxb := hxb.trans (brK_e he)
          have hF := hx158
          refine LW_iconst (v := 0) dX11_readPart_164 (by decide) ?_
          refine LW_zret dX11_readPart_165 rfl (Nat.le_of_ble_eq_true rfl) (Nat.le_of_ble_eq_true rfl) (Or.inl rfl) ?_
          exact SPost.no (show ptG (kd B n) (vl B n) (brB (kd B n) d (smD (kd B n) (vl B n) d)) i P = .inl _ by unfold ptG; rw [if_neg (by rw [hk]; decide), if_neg (by rw [hk]; decide), if_neg (by rw [hk]; decide), if_neg (by rw [hk]; decide), if_neg (by rw [hk]; decide), if_pos (by omega), if_pos hk, hxb]) hF
set_option maxRecDepth 100000 in
theorem pt_long {Λ : hc_L} {I : hc_I} {L : hc_J} {R : hc_R} {I0 : hc_I} {L0 : hc_J} {n i d D s : Nat} {B : Nat → Nat} {A : AS} {P : LwP} (hS : SW I0 L0 n B Λ I L i A P (8 - d)) (hs : P.1 + s ≤ i) (hd : d ≤ 8) (hD : 7 ≤ D) (hs2 : srt B n (tp B n i) = 2) (hk : kd B n i ≠ 2001) : Run (xX11_readPart (D + 1)) [.ref 217] Λ I L R (SPost I0 L0 n B A (8 - d) s (ptG (kd B n) (vl B n) (brB (kd B n) d (smD (kd B n) (vl B n) d)) i P) Λ R) := by
  refine Run.of (show plainName "HailClubModel" = true by decide +kernel) (Nat.le_of_ble_eq_true rfl) ?_
  show LW _ _ _ [(0, .ref 217)] _ _ _ _ _ _
  have hY := hS.y
  have hB := hS.b
  have hn7 := hS.1.n7
  have hk2 : kd B n i = 2002 := by
    have h := tk_all (q := tp B n i) hB
    have e : kd B n i = tkK B n (tp B n i) := rfl
    omega
  have hpn : pNum (kd B n) (vl B n) i 0 99999999 = 1 := if_neg hk
  refine LW_aloadn 0 dX11_readPart_0 rfl rfl ?_
  refine gX11_25 dX11_readPart_1 flX11_150 (hY.lt (k := 217) (by decide)) (ly217 hY) ?_
  rw [show I 217 25 = 2 from (by rw [hS.1.srt, hs2]; rfl)]
  refine LW_iconst (v := 2) dX11_readPart_4 (by decide) ?_
  refine LW_icmp_ne (tgt := 33) dX11_readPart_5 (by decide) (fun c5 => absurd c5 (by decide)) (fun c5 => ?_)
  refine LW_aloadn 0 dX11_readPart_8 rfl rfl ?_
  refine LW_iconst (v := 0) dX11_readPart_9 (by decide) ?_
  refine LW_ldcw dX11_readPart_10 klX11_269 ?_
  refine LW_callV (As := [.int 0, .int 99999999]) (b := 217) (st := []) (ci := 11) (r := (RX11, TX11, 44)) (r_num hS.1 (lo := 0) (hi := 99999999) (by decide) (by decide)) YX11_readNumber rfl dX11_readPart_13 mlX11_250 (hY.lt (k := 217) (by decide)) (ly217 hY) ⟨rfl, rfl⟩ (Nat.succ_le_succ (Nat.le_trans (show _ ≤ 7 by decide) hD)) ⟨Nat.le_of_ble_eq_true rfl, Nat.le_of_ble_eq_true rfl⟩ (Nat.le_of_ble_eq_true rfl) rfl (fun r13 Λc13 Ic13 Lc13 Rc13 hq13 => ?_)
  obtain ⟨rfl, rfl, rfl, hl13, hTt13, hFf13⟩ := hq13
  refine LW_bif_ne (tgt := 21) dX11_readPart_16 (by decide) (fun c16 => absurd (c16.symm.trans (decide_eq_false (by rw [hpn]; decide))) (by decide)) (fun c16 => ?_)
  have hF := hFf13 c16
  rw [hpn] at hF
  refine LW_iconst (v := 0) dX11_readPart_19 (by decide) ?_
  refine LW_zret dX11_readPart_20 rfl (Nat.le_of_ble_eq_true rfl) (Nat.le_of_ble_eq_true rfl) (Or.inl rfl) ?_
  exact SPost.no (show ptG (kd B n) (vl B n) (brB (kd B n) d (smD (kd B n) (vl B n) d)) i P = .inl (1, i) by unfold ptG brB; rw [if_neg hk, if_neg (by omega), if_neg (by omega), if_neg (by omega), if_neg (by omega), if_neg (by omega), if_neg (by omega)]) hF
set_option maxRecDepth 100000 in
theorem pt_else {Λ : hc_L} {I : hc_I} {L : hc_J} {R : hc_R} {I0 : hc_I} {L0 : hc_J} {n i d D s : Nat} {B : Nat → Nat} {A : AS} {P : LwP} (hS : SW I0 L0 n B Λ I L i A P (8 - d)) (hs : P.1 + s ≤ i) (hd : d ≤ 8) (hD : 7 ≤ D) (hs2 : ¬ srt B n (tp B n i) = 2) (hk : kd B n i ≠ 1002 ∧ kd B n i ≠ 1003 ∧ kd B n i ≠ 1011 ∧ kd B n i ≠ 1012 ∧ kd B n i ≠ 1013 ∧ kd B n i ≠ 1014 ∧ kd B n i ≠ 1015 ∧ kd B n i ≠ 2001) (hsm : ∀ d2, d = d2 + 1 → SmT I0 L0 n B d2 D) : Run (xX11_readPart (D + 1)) [.ref 217] Λ I L R (SPost I0 L0 n B A (8 - d) s (ptG (kd B n) (vl B n) (brB (kd B n) d (smD (kd B n) (vl B n) d)) i P) Λ R) := by
  refine Run.of (show plainName "HailClubModel" = true by decide +kernel) (Nat.le_of_ble_eq_true rfl) ?_
  show LW _ _ _ [(0, .ref 217)] _ _ _ _ _ _
  have hY := hS.y
  have hB := hS.b
  have hn7 := hS.1.n7
  obtain ⟨k1, k2, k3, k4, k5, k6, k7, k8⟩ := hk
  have hin := hS.2.2.2.2
  refine LW_aloadn 0 dX11_readPart_0 rfl rfl ?_
  refine gX11_25 dX11_readPart_1 flX11_150 (hY.lt (k := 217) (by decide)) (ly217 hY) ?_
  rw [show I 217 25 = nI (srt B n (tp B n i)) from hS.1.srt]
  refine LW_iconst (v := 2) dX11_readPart_4 (by decide) ?_
  refine LW_icmp_ne (tgt := 33) dX11_readPart_5 (by decide) (fun c5 => ?_) (fun c5 => absurd (fun e => hs2 ((hc_eq (a := srt B n (tp B n i)) (b := 2) (by have := srt_le B n (tp B n i); omega) (by decide)).mp e)) c5)
  refine LW_aloadn 0 dX11_readPart_33 rfl rfl ?_
  refine LW_callV (As := []) (b := 217) (st := []) (ci := 11) (r := (RX11, TX11, 44)) (r_askedHere hS.1) YX11_askedHere rfl dX11_readPart_34 mlX11_193 (hY.lt (k := 217) (by decide)) (ly217 hY) ⟨rfl, rfl⟩ (Nat.succ_le_succ (Nat.le_trans (show _ ≤ 7 by decide) hD)) ⟨Nat.le_of_ble_eq_true rfl, Nat.le_of_ble_eq_true rfl⟩ (Nat.le_of_ble_eq_true rfl) rfl (fun r34 Λc34 Ic34 Lc34 Rc34 hq34 => ?_)
  obtain ⟨rfl, rfl, rfl, rfl, rfl⟩ := hq34
  rw [show askV (kd B n i) = -1 from askV_no.mpr ⟨k3, k1, k4, k2⟩]
  refine LW_iconst (v := -1) dX11_readPart_37 (by decide) ?_
  refine LW_icmp_eq (tgt := 57) dX11_readPart_38 (by decide) (fun c38 => ?_) (fun c38 => absurd (by decide) c38)
  refine LW_aloadn 0 dX11_readPart_57 rfl rfl ?_
  refine LW_ldcS (i := 14) dX11_readPart_58 rfl ?_
  refine LW_callV (As := [.ref (1000000 + 14)]) (b := 217) (st := []) (ci := 11) (r := (RX11, TX11, 44)) (r_isW hS.1 (j := 14) (k := 1013) (by decide) (by decide) rfl) YX11_isWord rfl dX11_readPart_60 mlX11_183 (hY.lt (k := 217) (by decide)) (ly217 hY) ⟨rfl, rfl⟩ (Nat.succ_le_succ (Nat.le_trans (show _ ≤ 7 by decide) hD)) ⟨Nat.le_of_ble_eq_true rfl, Nat.le_of_ble_eq_true rfl⟩ (Nat.le_of_ble_eq_true rfl) rfl (fun r60 Λc60 Ic60 Lc60 Rc60 hq60 => ?_)
  obtain ⟨rfl, rfl, rfl, rfl, rfl⟩ := hq60
  rw [show decide (kd B n i = 1013) = false from decide_eq_false (by omega)]
  refine LW_bif_eq (tgt := 70) dX11_readPart_63 (by decide) (fun c63 => ?_) (fun c63 => absurd (c63.symm.trans rfl) (by decide))
  refine LW_aloadn 0 dX11_readPart_70 rfl rfl ?_
  refine LW_ldcS (i := 15) dX11_readPart_71 rfl ?_
  refine LW_callV (As := [.ref (1000000 + 15)]) (b := 217) (st := []) (ci := 11) (r := (RX11, TX11, 44)) (r_isW hS.1 (j := 15) (k := 1014) (by decide) (by decide) rfl) YX11_isWord rfl dX11_readPart_73 mlX11_183 (hY.lt (k := 217) (by decide)) (ly217 hY) ⟨rfl, rfl⟩ (Nat.succ_le_succ (Nat.le_trans (show _ ≤ 7 by decide) hD)) ⟨Nat.le_of_ble_eq_true rfl, Nat.le_of_ble_eq_true rfl⟩ (Nat.le_of_ble_eq_true rfl) rfl (fun r73 Λc73 Ic73 Lc73 Rc73 hq73 => ?_)
  obtain ⟨rfl, rfl, rfl, rfl, rfl⟩ := hq73
  rw [show decide (kd B n i = 1014) = false from decide_eq_false (by omega)]
  refine LW_bif_eq (tgt := 83) dX11_readPart_76 (by decide) (fun c76 => ?_) (fun c76 => absurd (c76.symm.trans rfl) (by decide))
  refine LW_aloadn 0 dX11_readPart_83 rfl rfl ?_
  refine LW_ldcS (i := 16) dX11_readPart_84 rfl ?_
  refine LW_callV (As := [.ref (1000000 + 16)]) (b := 217) (st := []) (ci := 11) (r := (RX11, TX11, 44)) (r_isW hS.1 (j := 16) (k := 1015) (by decide) (by decide) rfl) YX11_isWord rfl dX11_readPart_86 mlX11_183 (hY.lt (k := 217) (by decide)) (ly217 hY) ⟨rfl, rfl⟩ (Nat.succ_le_succ (Nat.le_trans (show _ ≤ 7 by decide) hD)) ⟨Nat.le_of_ble_eq_true rfl, Nat.le_of_ble_eq_true rfl⟩ (Nat.le_of_ble_eq_true rfl) rfl (fun r86 Λc86 Ic86 Lc86 Rc86 hq86 => ?_)
  obtain ⟨rfl, rfl, rfl, rfl, rfl⟩ := hq86
  rw [show decide (kd B n i = 1015) = false from decide_eq_false (by omega)]
  refine LW_bif_eq (tgt := 96) dX11_readPart_89 (by decide) (fun c89 => ?_) (fun c89 => absurd (c89.symm.trans rfl) (by decide))
  refine LW_iconst (v := -1) dX11_readPart_96 (by decide) ?_
  refine LW_istoren (ls' := [(0, .ref 217), (1, .int (-1))]) dX11_readPart_97 rfl (Nat.le_of_ble_eq_true rfl) rfl ?_
  refine LW_iloadn 1 dX11_readPart_98 rfl rfl ?_
  refine LW_iconst (v := -1) dX11_readPart_99 (by decide) ?_
  refine LW_icmp_ne (tgt := 130) dX11_readPart_100 (by decide) (fun c100 => absurd c100 (by decide)) (fun c100 => ?_)
  refine LW_aloadn 0 dX11_readPart_103 rfl rfl ?_
  refine LW_callV (As := []) (b := 217) (st := []) (ci := 11) (r := (RX11, TX11, 44)) (r_opens hS (by omega)) YX11_opens rfl dX11_readPart_104 mlX11_298 (hY.lt (k := 217) (by decide)) (ly217 hY) ⟨rfl, rfl⟩ (Nat.succ_le_succ (Nat.le_trans (show _ ≤ 7 by decide) hD)) ⟨Nat.le_of_ble_eq_true rfl, Nat.le_of_ble_eq_true rfl⟩ (Nat.le_of_ble_eq_true rfl) rfl (fun r104 Λc104 Ic104 Lc104 Rc104 hq104 => ?_)
  obtain ⟨b104, rfl, rfl, rfl, hy104, hn104⟩ := hq104
  refine LW_bif_eq (tgt := 128) dX11_readPart_107 (by decide) (fun c107 => ?_) (fun c107 => ?_)
  · obtain ⟨e, hF, hcase⟩ := hn104 c107
    have hxb : brB (kd B n) d (smD (kd B n) (vl B n) d) 1 i P = .inl e := by
      unfold brB
      rcases hcase with ⟨a, rfl⟩ | ⟨a, b, rfl⟩
      · rw [if_neg a]
      · rw [if_pos a, if_pos (by omega)]
    refine LW_iconst (v := 0) dX11_readPart_128 (by decide) ?_
    refine LW_zret dX11_readPart_129 rfl (Nat.le_of_ble_eq_true rfl) (Nat.le_of_ble_eq_true rfl) (Or.inl rfl) ?_
    exact SPost.no (show ptG (kd B n) (vl B n) (brB (kd B n) d (smD (kd B n) (vl B n) d)) i P = .inl _ by unfold ptG; rw [if_neg k8, if_neg k3, if_neg k1, if_neg k4, if_neg k2, if_neg (by omega), hxb]) hF
  · obtain ⟨hk40, ho8, hS⟩ := hy104 c107
    obtain ⟨d2, hd2⟩ : ∃ d2, d = d2 + 1 := ⟨d - 1, by omega⟩
    replace hS := (show 8 - d + 1 = 8 - d2 by omega) ▸ hS
    have hxb : brB (kd B n) d (smD (kd B n) (vl B n) d) 1 i P = brK (kd B n) (smW (kd B n) (ptD (kd B n) (vl B n) d2)) 1 (i + 1) P := by
      unfold brB
      rw [if_pos hk40, if_neg (by omega), hd2]
      rfl
    refine LW_aloadn 0 dX11_readPart_110 rfl rfl ?_
    refine LW_callV (As := []) (b := 217) (st := []) (ci := 11) (r := (RX11, TX11, 44)) (hsm d2 hd2 _ _ _ _ _ _ _ s hS (by omega)) (YX11_readSum D) rfl dX11_readPart_111 mlX11_285 (hY.lt (k := 217) (by decide)) (ly217 hY) ⟨rfl, rfl⟩ (Nat.le_refl _) ⟨Nat.le_of_ble_eq_true rfl, Nat.le_of_ble_eq_true rfl⟩ (Nat.le_of_ble_eq_true rfl) rfl (fun r111 Λc111 Ic111 Lc111 Rc111 hq111 => ?_)
    obtain ⟨rfl, rfl, rfl, hx111⟩ := hq111
    refine LW_bif_eq (tgt := 128) dX11_readPart_114 (by decide) (fun c114 => ?_) (fun c114 => ?_)
    · obtain ⟨e, he⟩ := okS_f (show okS (smW (kd B n) (ptD (kd B n) (vl B n) d2) (i + 1) P) = false from c114)
      rw [he] at hx111
      have hxb := hxb.trans (brK_e he)
      have hF := hx111
      refine LW_iconst (v := 0) dX11_readPart_128 (by decide) ?_
      refine LW_zret dX11_readPart_129 rfl (Nat.le_of_ble_eq_true rfl) (Nat.le_of_ble_eq_true rfl) (Or.inl rfl) ?_
      exact SPost.no (show ptG (kd B n) (vl B n) (brB (kd B n) d (smD (kd B n) (vl B n) d)) i P = .inl _ by unfold ptG; rw [if_neg k8, if_neg k3, if_neg k1, if_neg k4, if_neg k2, if_neg (by omega), hxb]) hF
    · obtain ⟨q1, he1⟩ := okS_t (show okS (smW (kd B n) (ptD (kd B n) (vl B n) d2) (i + 1) P) = true from c114)
      rw [he1] at hx111
      obtain ⟨hS, hs1⟩ := hx111
      have hxb := hxb.trans (brK_s he1)
      have hin1 := hS.2.2.2.2
      refine LW_aloadn 0 dX11_readPart_117 rfl rfl ?_
      refine LW_callV (As := []) (b := 217) (st := []) (ci := 11) (r := (RX11, TX11, 44)) (r_closes (o := 8 - d) (by rw [show 8 - d + 1 = 8 - d2 by omega]; exact hS)) YX11_closes rfl dX11_readPart_118 mlX11_301 (hY.lt (k := 217) (by decide)) (ly217 hY) ⟨rfl, rfl⟩ (Nat.succ_le_succ (Nat.le_trans (show _ ≤ 7 by decide) hD)) ⟨Nat.le_of_ble_eq_true rfl, Nat.le_of_ble_eq_true rfl⟩ (Nat.le_of_ble_eq_true rfl) rfl (fun r118 Λc118 Ic118 Lc118 Rc118 hq118 => ?_)
      obtain ⟨b118, rfl, rfl, rfl, hy118, hn118⟩ := hq118
      refine LW_bif_eq (tgt := 128) dX11_readPart_121 (by decide) (fun c121 => ?_) (fun c121 => ?_)
      · obtain ⟨hkc, hF⟩ := hn118 c121
        have hxb := hxb.trans (if_neg hkc)
        refine LW_iconst (v := 0) dX11_readPart_128 (by decide) ?_
        refine LW_zret dX11_readPart_129 rfl (Nat.le_of_ble_eq_true rfl) (Nat.le_of_ble_eq_true rfl) (Or.inl rfl) ?_
        exact SPost.no (show ptG (kd B n) (vl B n) (brB (kd B n) d (smD (kd B n) (vl B n) d)) i P = .inl _ by unfold ptG; rw [if_neg k8, if_neg k3, if_neg k1, if_neg k4, if_neg k2, if_neg (by omega), hxb]) hF
      · obtain ⟨hkc, hS⟩ := hy118 c121
        have hxb := hxb.trans (if_pos hkc)
        refine LW_iconst (v := 1) dX11_readPart_124 (by decide) ?_
        refine LW_goto (tgt := 129) dX11_readPart_125 (by decide) ?_
        refine LW_zret dX11_readPart_129 rfl (Nat.le_of_ble_eq_true rfl) (Nat.le_of_ble_eq_true rfl) (Or.inr rfl) ?_
        exact SPost.yes (q := (q1.1 + 1, q1.2)) (show ptG (kd B n) (vl B n) (brB (kd B n) d (smD (kd B n) (vl B n) d)) i P = .inr (q1.1 + 1, q1.2) by unfold ptG; rw [if_neg k8, if_neg k3, if_neg k1, if_neg k4, if_neg k2, if_neg (by omega), hxb]; rfl) hS (by show q1.2.1 + s ≤ q1.1 + 1; omega)
theorem ptS2 {I0 : hc_I} {L0 : hc_J} {B : Nat → Nat} {n d D : Nat} (hd : d ≤ 8) (hD : 7 ≤ D) (hsm : ∀ d2, d = d2 + 1 → SmT I0 L0 n B d2 D) : PtT I0 L0 n B d (D + 1) := by
  intro Λ I L R i A P s hS hs
  rw [ptD_eq]
  by_cases k1 : kd B n i = 2001
  · exact pt_2001 hS hs hd hD k1
  by_cases k2 : kd B n i = 1011
  · exact pt_1011 hS hs hd hD k2
  by_cases k3 : kd B n i = 1002
  · exact pt_1002 hS hs hd hD k3
  by_cases k4 : kd B n i = 1012
  · exact pt_1012 hS hs hd hD k4
  by_cases k5 : kd B n i = 1003
  · exact pt_1003 hS hs hd hD k5
  by_cases k6 : kd B n i = 1013
  · exact pt_1013 hS hs hd hD k6 hsm
  by_cases k7 : kd B n i = 1014
  · exact pt_1014 hS hs hd hD k7 hsm
  by_cases k8 : kd B n i = 1015
  · exact pt_1015 hS hs hd hD k8 hsm
  by_cases k9 : srt B n (tp B n i) = 2
  · exact pt_long hS hs hd hD k9 k1
  exact pt_else hS hs hd hD k9 ⟨k3, k5, k2, k4, k6, k7, k8, k1⟩ hsm
theorem pdT {I0 : hc_I} {L0 : hc_J} {B : Nat → Nat} {n d D : Nat} (hD : 7 ≤ D) (h : PtT I0 L0 n B d D) : PdT I0 L0 n B d (D + 1) := fun Λ I L R i A P s f pl x hS hs hx => pdS hS hs hD h hx
theorem smT {I0 : hc_I} {L0 : hc_J} {B : Nat → Nat} {n d D : Nat} (hD : 7 ≤ D) (h : PdT I0 L0 n B d D) : SmT I0 L0 n B d (D + 1) := fun Λ I L R i A P s hS hs => smS hS hs hD h
theorem allT {I0 : hc_I} {L0 : hc_J} {B : Nat → Nat} {n : Nat} : ∀ d, d ≤ 8 → PtT I0 L0 n B d (3 * d + 8)
  | 0, _ => ptS2 (D := 7) (by decide) (by decide) (fun d2 h => absurd h (by omega))
  | d + 1, hd => ptS2 (D := 3 * d + 10) hd (by omega) (fun d2 h => by
    have e : d2 = d := by omega
    subst e
    exact smT (D := 3 * d2 + 9) (by omega) (pdT (D := 3 * d2 + 8) (by omega) (allT d2 (by omega))))
theorem r_msum {I0 : hc_I} {L0 : hc_J} {B : Nat → Nat} {n : Nat} : SmT I0 L0 n B 8 34 := smT (D := 33) (by decide) (pdT (D := 32) (by decide) (allT 8 (by decide)))
