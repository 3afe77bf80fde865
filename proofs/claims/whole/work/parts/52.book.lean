/-! the Reader: a book, who joins, a lone name -/
def BJ (z : Nat) : Prop := (21 ≤ z ∧ z < 39) ∨ (42 ≤ z ∧ z < 51)
theorem RJ.b {z : Nat} (h : RJ z) : BJ z := h.elim Or.inl (fun q => Or.inr (by omega))
def lp0 : LwP := (0, fun _ => 0, fun _ => 0)
def lpI (P : LwP) : Prop := P.1 ≤ 700 ∧ (P.1 = 0 ∨ okP P 1)
theorem lpI.ok {P : LwP} (h : lpI P) : lpOk P := by
  rcases h.2 with q | q
  · exact ⟨h.1, fun i hi => by omega, fun z => by omega⟩
  · exact ⟨h.1, q.1, fun _ => by rw [q.2]; decide⟩
theorem pDo_P {K V : Nat → Nat} {qs : List (Nat × Nat)} {i : Nat} {A : AS} {P : LwP} {q : Nat × AS × LwP} (h : pDo K V qs i A P = .inr q) : q.2.2 = P := by rw [pDo_r h]
theorem pLine_lp {K V : Nat → Nat} (hV : ∀ j, K j = 2001 → V j < 100000000) {i : Nat} {A : AS} {P : LwP} {q : Nat × AS × LwP} (h : pLine K V i A P = .inr q) (hP : lpI P) (h7 : q.1 ≤ 700) : lpI q.2.2 := by
  unfold pLine at h
  split at h
  · unfold pMember pName at h
    repeat (split at h)
    all_goals first | cases h | skip
    exact hP
  · split at h
    · unfold pField at h
      repeat (split at h)
      all_goals first | cases h | skip
      have e : q.2.2 = P := pDo_P h
      rw [e]; exact hP
    · split at h
      · rw [pDo_P h]; exact hP
      · split at h
        · rw [pDo_P h]; exact hP
        · split at h
          · rw [pDo_P h]; exact hP
          · split at h
            · unfold pPay at h
              split at h
              · cases h
              · rename_i hp0
                split at h
                · cases h
                · rename_i q' e
                  cases h
                  obtain ⟨a1, a2, a3⟩ := pay_ok hV (by omega) e
                  exact ⟨by show q'.2.1 ≤ 700; have h8 : q'.1 ≤ 700 := h7; omega, Or.inr a1⟩
            · split at h
              · rw [pDo_P h]; exact hP
              · cases h
def loneV (B : Nat → Nat) (n : Nat) : Nat := if kd B n 0 = 2000 ∧ kd B n 1 = 2003 then vl B n 0 else 0
def BgQ (B : Nat → Nat) (n cn : Nat) (I : hc_I) (L : hc_J) : Prop := tkDone I L 47 B n cn ∧ I 45 4 = 0 ∧ I 45 5 = -1 ∧ I 45 6 = nI 0 ∧ I 45 7 = kEnc (kd B n 0) ∧ I 45 8 = nI (tp B n 0) ∧ L 45 9 = lN (vl B n 0) ∧ I 45 10 = nI 0
set_option maxRecDepth 100000 in
theorem r_begin {Λ : hc_L} {I : hc_I} {L : hc_J} {R : hc_R} {B : Nat → Nat} {n : Nat} (hY : LY Λ) (ht : TpAt Λ I 1 n B) (hq : ∀ i, i < 18 → L 51 i = lN (qw i)) : Run xX5_begin [.ref 45] Λ I L R (Qf (fun z => z = 45 ∨ (47 ≤ z ∧ z < 50)) (fun z => z = 45 ∨ z = 50) (fun _ => False) none (fun I' L' _ => ∃ cn, BgQ B n cn I' L') Λ I L R) := by
  refine Run.of (by decide +kernel) (Nat.le_of_ble_eq_true rfl) ?_
  show LW _ _ _ [(0, .ref 45)] _ _ _ _ _ _
  refine LW_aloadn 0 dX5_begin_0 rfl rfl ?_
  refine gX5_0 dX5_begin_1 flX5_24 (hY.lt (k := 45) (by decide)) (ly45 hY) (lf45_0 hY) ?_
  refine LW_callV (As := []) (b := 47) (st := []) (ci := 9) (r := (RX9, TX9, 6)) (r_cut hY.tk ht hq) YX9_cut rfl dX5_begin_4 mlX5_78 (hY.lt (k := 47) (by decide)) (ly47 hY) ⟨rfl, rfl⟩ (by decide) ⟨Nat.le_of_ble_eq_true rfl, Nat.le_of_ble_eq_true rfl⟩ (Nat.le_of_ble_eq_true rfl) rfl (fun r4 Λc4 Ic4 Lc4 Rc4 hq4 => ?_)
  obtain ⟨rfl, rfl, hI4, hL4, hR4, cn, hcn⟩ := hq4
  obtain rfl : R = Rc4 := funext fun z => (hR4 z (fun q => q)).symm
  refine LW_aloadn 0 dX5_begin_7 rfl rfl ?_
  refine LW_iconst (v := 0) dX5_begin_8 (by decide) ?_
  refine pX5_4 dX5_begin_9 flX5_91 (hY.lt (k := 45) (by decide)) (ly45 hY) ?_
  generalize hI9 : hc_u Ic4 45 4 0 = I9
  refine LW_aloadn 0 dX5_begin_12 rfl rfl ?_
  refine LW_iconst (v := -1) dX5_begin_13 (by decide) ?_
  refine pX5_5 dX5_begin_14 flX5_15 (hY.lt (k := 45) (by decide)) (ly45 hY) ?_
  generalize hI14 : hc_u I9 45 5 (-1) = I14
  refine LW_aloadn 0 dX5_begin_17 rfl rfl ?_
  refine LW_iconst (v := 0) dX5_begin_18 (by decide) ?_
  refine pX5_10 dX5_begin_19 flX5_94 (hY.lt (k := 45) (by decide)) (ly45 hY) ?_
  generalize hI19 : hc_u I14 45 10 0 = I19
  refine LW_aloadn 0 dX5_begin_22 rfl rfl ?_
  refine LW_iconst (v := -1) dX5_begin_23 (by decide) ?_
  refine pX5_6 dX5_begin_24 flX5_97 (hY.lt (k := 45) (by decide)) (ly45 hY) ?_
  generalize hI24 : hc_u I19 45 6 (-1) = I24
  refine LW_aloadn 0 dX5_begin_27 rfl rfl ?_
  refine LW_callV (As := []) (b := 45) (st := []) (ci := 5) (r := (RX5, TX5, 11)) (r_step0 hY (hcn.kp (by rw [← hI24, hc_u_row _ _ _ _ (by decide), ← hI19, hc_u_row _ _ _ _ (by decide), ← hI14, hc_u_row _ _ _ _ (by decide), ← hI9, hc_u_row _ _ _ _ (by decide)]) (by rw [← hI24, hc_u_row _ _ _ _ (by decide), ← hI19, hc_u_row _ _ _ _ (by decide), ← hI14, hc_u_row _ _ _ _ (by decide), ← hI9, hc_u_row _ _ _ _ (by decide)]) (by rw [← hI24, hc_u_row _ _ _ _ (by decide), ← hI19, hc_u_row _ _ _ _ (by decide), ← hI14, hc_u_row _ _ _ _ (by decide), ← hI9, hc_u_row _ _ _ _ (by decide)]) rfl) (i := 0) (by rw [← hI24, hc_u_at, if_pos rfl]; decide) hcn.2.1) YX5_step rfl dX5_begin_28 mlX5_60 (hY.lt (k := 45) (by decide)) (ly45 hY) ⟨rfl, rfl⟩ (by decide) ⟨Nat.le_of_ble_eq_true rfl, Nat.le_of_ble_eq_true rfl⟩ (Nat.le_of_ble_eq_true rfl) rfl (fun r28 Λc28 Ic28 Lc28 Rc28 hq28 => ?_)
  obtain ⟨rfl, rfl, hI28, hL28, hR28, h28a, h28b⟩ := hq28
  obtain rfl : R = Rc28 := funext fun z => (hR28 z (fun q => q)).symm
  refine LW_vret dX5_begin_31 rfl (Nat.le_of_ble_eq_true rfl) (Nat.le_of_ble_eq_true rfl) ?_
  have g : ∀ z, z ≠ 45 → Ic28 z = Ic4 z := fun z hz => by rw [hI28 z hz, ← hI24, hc_u_row _ _ _ _ hz, ← hI19, hc_u_row _ _ _ _ hz, ← hI14, hc_u_row _ _ _ _ hz, ← hI9, hc_u_row _ _ _ _ hz]
  refine ⟨rfl, rfl, fun z hz => ?_, fun z hz => ?_, fun _ _ => rfl, cn, hcn.kp (g _ (by decide)) (g _ (by decide)) (g _ (by decide)) (hL28 _ (by decide)), ?_, ?_, h28a 6, h28a 7, h28a 8, h28b 9, ?_⟩
  · rw [g z (by omega), hI4 z (by omega)]
  · rw [hL28 z (by omega), hL4 z (by omega)]
  · rw [h28a 4, if_neg (by decide), if_neg (by decide), if_neg (by decide), ← hI24, hc_u_at, if_neg (by decide), ← hI19, hc_u_at, if_neg (by decide), ← hI14, hc_u_at, if_neg (by decide), ← hI9, hc_u_at, if_pos rfl]
  · rw [h28a 5, if_neg (by decide), if_neg (by decide), if_neg (by decide), ← hI24, hc_u_at, if_neg (by decide), ← hI19, hc_u_at, if_neg (by decide), ← hI14, hc_u_at, if_pos rfl]
  · rw [h28a 10, if_neg (by decide), if_neg (by decide), if_neg (by decide), ← hI24, hc_u_at, if_neg (by decide), ← hI19, hc_u_at, if_pos rfl]; rfl
set_option maxRecDepth 100000 in
theorem r_readLoneName {Λ : hc_L} {I : hc_I} {L : hc_J} {R : hc_R} {B : Nat → Nat} {n : Nat} (hY : LY Λ) (ht : TpAt Λ I 1 n B) (hq : ∀ i, i < 18 → L 51 i = lN (qw i)) : Run xX5_readLoneName [.ref 45] Λ I L R (Qf (fun z => 47 ≤ z ∧ z < 50) (fun z => z = 50) (fun _ => False) (some (.long (lN (loneV B n)))) (fun _ _ _ => True) Λ I L R) := by
  refine Run.of (by decide +kernel) (Nat.le_of_ble_eq_true rfl) ?_
  show LW _ _ _ [(0, .ref 45)] _ _ _ _ _ _
  have h7 := ht.2.2.1
  have hB : ∀ j, j < n → B j < 256 := ht.b
  refine LW_aloadn 0 dX5_readLoneName_0 rfl rfl ?_
  refine gX5_0 dX5_readLoneName_1 flX5_24 (hY.lt (k := 45) (by decide)) (ly45 hY) (lf45_0 hY) ?_
  refine LW_callV (As := []) (b := 47) (st := []) (ci := 9) (r := (RX9, TX9, 6)) (r_cut hY.tk ht hq) YX9_cut rfl dX5_readLoneName_4 mlX5_78 (hY.lt (k := 47) (by decide)) (ly47 hY) ⟨rfl, rfl⟩ (by decide) ⟨Nat.le_of_ble_eq_true rfl, Nat.le_of_ble_eq_true rfl⟩ (Nat.le_of_ble_eq_true rfl) rfl (fun r4 Λc4 Ic4 Lc4 Rc4 hq4 => ?_)
  obtain ⟨rfl, rfl, hI4, hL4, hR4, cn, hcn⟩ := hq4
  obtain rfl : R = Rc4 := funext fun z => (hR4 z (fun q => q)).symm
  refine LW_aloadn 0 dX5_readLoneName_7 rfl rfl ?_
  refine gX5_0 dX5_readLoneName_8 flX5_24 (hY.lt (k := 45) (by decide)) (ly45 hY) (lf45_0 hY) ?_
  refine gX9_3 dX5_readLoneName_11 flX5_81 (hY.lt (k := 47) (by decide)) (ly47 hY) ?_
  rw [show Ic4 47 3 = nI cn from hcn.1]
  refine LW_iconst (v := 2) dX5_readLoneName_14 (by decide) ?_
  refine LW_icmp_ne (tgt := 37) dX5_readLoneName_15 (by decide) (fun c15 => ?_) (fun c15 => ?_)
  · have hlone : loneV B n = 0 := by
      unfold loneV
      rw [if_neg]
      rintro ⟨k0, k1⟩
      have t0 := hcn.2.2.2.1
      have t1 : tp B n 1 = n := (kd_end hB).mp k1
      have t2 : ¬ tp B n 0 = n := fun z => by rw [(kd_end hB).mpr z] at k0; cases k0
      rcases (show cn = 1 ∨ cn = 2 ∨ 3 ≤ cn by have := hcn.2.1; omega) with q | q | q
      · rw [q] at t0; exact t2 t0
      · exact c15 (by rw [q]; rfl)
      · have := hcn.2.2.2.2.1 1 (by omega); omega
    refine LW_iconst (v := 0) dX5_readLoneName_37 (by decide) ?_
    refine LW_istoren (ls' := [(0, .ref 45), (1, .int 0)]) dX5_readLoneName_38 rfl (by decide) rfl ?_
    refine LW_iloadn 1 dX5_readLoneName_39 rfl rfl ?_
    refine LW_if_eq (tgt := 55) dX5_readLoneName_40 (by decide) (fun c40 => ?_) (fun c40 => absurd rfl c40)
    refine LW_lconst (v := 0) dX5_readLoneName_55 (by decide) ?_
    refine LW_lret dX5_readLoneName_56 rfl (Nat.le_of_ble_eq_true rfl) (Nat.le_of_ble_eq_true rfl) ?_
    refine ⟨(by first | (rw [hlone]; done) | (rw [hlone]; rfl)), rfl, fun z hz => hI4 z (by omega), fun z hz => hL4 z hz, fun _ _ => rfl, trivial⟩
  · have hc2 : cn = 2 := (hc_eq (a := cn) (b := 2) (by have := hcn.2.2.1; omega) (by omega)).mp (Classical.not_not.mp c15)
    refine LW_aloadn 0 dX5_readLoneName_18 rfl rfl ?_
    refine gX5_0 dX5_readLoneName_19 flX5_24 (hY.lt (k := 45) (by decide)) (ly45 hY) (lf45_0 hY) ?_
    refine gX9_0 dX5_readLoneName_22 flX5_84 (hY.lt (k := 47) (by decide)) (ly47 hY) (lf47_0 hY) ?_
    refine LW_iconst (v := 0) dX5_readLoneName_25 (by decide) ?_
    refine LW_iald dX5_readLoneName_26 (hY.lt (k := 48) (by decide)) (ly48 hY) rfl (by decide) (Nat.le_of_ble_eq_true rfl) ?_
    rw [show Ic4 48 0 = kEnc (kd B n 0) from ((hcn.2.2.2.2.2 0 (by omega)).1)]
    refine LW_sipush (v := 2000) dX5_readLoneName_27 (by decide) ?_
    refine LW_icmp_ne (tgt := 37) dX5_readLoneName_30 (by decide) (fun c30 => ?_) (fun c30 => ?_)
    · have hlone : loneV B n = 0 := by
        unfold loneV
        rw [if_neg]
        rintro ⟨k0, k1⟩
        exact c30 ((kd_ne hB (c := 2000) (by decide)).mpr k0)
      refine LW_iconst (v := 0) dX5_readLoneName_37 (by decide) ?_
      refine LW_istoren (ls' := [(0, .ref 45), (1, .int 0)]) dX5_readLoneName_38 rfl (by decide) rfl ?_
      refine LW_iloadn 1 dX5_readLoneName_39 rfl rfl ?_
      refine LW_if_eq (tgt := 55) dX5_readLoneName_40 (by decide) (fun c40 => ?_) (fun c40 => absurd rfl c40)
      refine LW_lconst (v := 0) dX5_readLoneName_55 (by decide) ?_
      refine LW_lret dX5_readLoneName_56 rfl (Nat.le_of_ble_eq_true rfl) (Nat.le_of_ble_eq_true rfl) ?_
      refine ⟨(by first | (rw [hlone]; done) | (rw [hlone]; rfl)), rfl, fun z hz => hI4 z (by omega), fun z hz => hL4 z hz, fun _ _ => rfl, trivial⟩
    · have hk0 : kd B n 0 = 2000 := (kd_ne hB (by decide)).mp (Classical.not_not.mp c30)
      have hlone : loneV B n = vl B n 0 := by
        unfold loneV
        have t0 := hcn.2.2.2.1
        rw [hc2] at t0
        rw [if_pos ⟨hk0, (kd_end hB).mpr t0⟩]
      refine LW_iconst (v := 1) dX5_readLoneName_33 (by decide) ?_
      refine LW_goto (tgt := 38) dX5_readLoneName_34 (by decide) ?_
      refine LW_istoren (ls' := [(0, .ref 45), (1, .int 1)]) dX5_readLoneName_38 rfl (by decide) rfl ?_
      refine LW_iloadn 1 dX5_readLoneName_39 rfl rfl ?_
      refine LW_if_eq (tgt := 55) dX5_readLoneName_40 (by decide) (fun c40 => absurd c40 (by decide)) (fun c40 => ?_)
      refine LW_aloadn 0 dX5_readLoneName_43 rfl rfl ?_
      refine gX5_0 dX5_readLoneName_44 flX5_24 (hY.lt (k := 45) (by decide)) (ly45 hY) (lf45_0 hY) ?_
      refine gX9_2 dX5_readLoneName_47 flX5_87 (hY.lt (k := 47) (by decide)) (ly47 hY) (lf47_2 hY) ?_
      refine LW_iconst (v := 0) dX5_readLoneName_50 (by decide) ?_
      refine LW_lald dX5_readLoneName_51 (hY.lt (k := 50) (by decide)) (ly50 hY) rfl (by decide) (Nat.le_of_ble_eq_true rfl) ?_
      rw [show Lc4 50 0 = lN (vl B n 0) from ((hcn.2.2.2.2.2 0 (by omega)).2.2)]
      refine LW_goto (tgt := 56) dX5_readLoneName_52 (by decide) ?_
      refine LW_lret dX5_readLoneName_56 rfl (Nat.le_of_ble_eq_true rfl) (Nat.le_of_ble_eq_true rfl) ?_
      refine ⟨(by first | (rw [hlone]; done) | (rw [hlone]; rfl)), rfl, fun z hz => hI4 z (by omega), fun z hz => hL4 z hz, fun _ _ => rfl, trivial⟩
def BkPost (B : Nat → Nat) (n : Nat) (m : Nat) (Z : LwP → Prop) (x : Rs) (Λ : hc_L) (I : hc_I) (L : hc_J) (R : hc_R) : hc_Q := fun r Λ' I' L' R' => r = some (.int (hc_b (okS x))) ∧ Fr BJ Λ I L R Λ' I' L' R' ∧ Λ'.1 ≤ Λ.1 + m ∧ match x with
  | .inl e => RF B n Λ' I' L' R' e
  | .inr q => (∃ cn, RW B n cn Λ' I' L' R' q.1 0 q.2.1 q.2.2) ∧ Z q.2.2
theorem BkPost.no {B : Nat → Nat} {n m : Nat} {Z : LwP → Prop} {x : Rs} {Λ Λ' : hc_L} {I I' : hc_I} {L L' : hc_J} {R R' : hc_R} {e : Nat × Nat} (hx : x = .inl e) (hf : Fr BJ Λ I L R Λ' I' L' R') (hl : Λ'.1 ≤ Λ.1 + m) (h : RF B n Λ' I' L' R' e) : BkPost B n m Z x Λ I L R (some (.int (hc_b false))) Λ' I' L' R' := by
  subst hx
  exact ⟨rfl, hf, hl, h⟩
theorem BkPost.yes {B : Nat → Nat} {n m cn : Nat} {Z : LwP → Prop} {x : Rs} {Λ Λ' : hc_L} {I I' : hc_I} {L L' : hc_J} {R R' : hc_R} {q : Nat × AS × LwP} (hx : x = .inr q) (hf : Fr BJ Λ I L R Λ' I' L' R') (hl : Λ'.1 ≤ Λ.1 + m) (h : RW B n cn Λ' I' L' R' q.1 0 q.2.1 q.2.2) (hP : Z q.2.2) : BkPost B n m Z x Λ I L R (some (.int (hc_b true))) Λ' I' L' R' := by
  subst hx
  exact ⟨rfl, hf, hl, ⟨cn, h⟩, hP⟩
set_option maxRecDepth 100000 in
theorem bk_loop {B : Nat → Nat} {n cn : Nat} {Λ0 : hc_L} {I0 : hc_I} {L0 : hc_J} {R0 : hc_R} (hB : ∀ j, j < n → B j < 256) (hn7 : n ≤ 700) : ∀ (x : Rs) f j (Λ1 : hc_L) (I1 : hc_I) (L1 : hc_J) (R1 : hc_R) i1 A1 P1, f + j = 701 → j ≤ i1 → RW B n cn Λ1 I1 L1 R1 i1 0 A1 P1 → lpI P1 → Fr BJ Λ0 I0 L0 R0 Λ1 I1 L1 R1 → Λ1.1 ≤ Λ0.1 + j → Λ0.1 + 701 < 1000000 → pBk (kd B n) (vl B n) f i1 A1 P1 = some x → LW xX5_readBook (j, 6 * j) 21 [(0, .ref 45), (1, .int (nI j))] [] Λ1 I1 L1 R1 (BkPost B n 701 lpI x Λ0 I0 L0 R0) := by
  intro x f
  induction f with
  | zero =>
    intro j Λ1 I1 L1 R1 i1 A1 P1 hfj hji hW
    have := hW.c
    have := hW.cn7
    omega
  | succ f ih =>
    intro j Λ1 I1 L1 R1 i1 A1 P1 hfj hji hW hP1 hf hl hl0 hx
    have hY := hW.y
    have hc1 := hW.c
    have hc7 := hW.cn7
    rw [pBk] at hx
    refine LW_iloadn 1 dX5_readBook_21 rfl rfl ?_
    refine LW_sipush (v := 700) dX5_readBook_22 (by decide) ?_
    refine LW_icmp_gt (tgt := 72) dX5_readBook_25 (by decide) (fun c25 => absurd c25 (hc_nlt (a := 700) (b := j) (by omega) (by omega) (by omega))) (fun c25 => ?_)
    refine LW_aloadn 0 dX5_readBook_28 rfl rfl ?_
    refine gX5_7 dX5_readBook_29 flX5_49 (hY.lt (k := 45) (by decide)) (ly45 hY) ?_
    rw [show I1 45 7 = kEnc (kd B n i1) from hW.k]
    refine LW_sipush (v := 2003) dX5_readBook_32 (by decide) ?_
    refine LW_icmp_eq (tgt := 72) dX5_readBook_35 (by decide) (fun c35 => ?_) (fun c35 => ?_)
    · have hk : kd B n i1 = 2003 := (kd_ne hB (by decide)).mp c35
      rw [if_pos hk] at hx
      refine LW_ac (ac' := (701, 4206)) (show j ≤ 701 by omega) (show 6 * j ≤ 4206 by omega) ?_
      refine LW_iconst (v := 1) dX5_readBook_72 (by decide) ?_
      refine LW_zret dX5_readBook_73 rfl (Nat.le_of_ble_eq_true rfl) (Nat.le_of_ble_eq_true rfl) (Or.inr rfl) ?_
      exact BkPost.yes (Option.some.inj hx).symm hf (by omega) hW hP1
    · have hk : ¬ kd B n i1 = 2003 := fun z => c35 ((kd_ne hB (by decide)).mpr z)
      rw [if_neg hk] at hx
      refine LW_aloadn 0 dX5_readBook_38 rfl rfl ?_
      refine LW_callV (As := []) (b := 45) (st := []) (ci := 5) (r := (RX5, TX5, 11)) (r_readLine hB hn7 hW (by omega) hP1.1) YX5_readLine rfl dX5_readBook_39 mlX5_52 (hY.lt (k := 45) (by decide)) (ly45 hY) ⟨rfl, rfl⟩ (by decide) ⟨(by show j + 1 ≤ 701; omega), (by show 6 * j + 6 ≤ 4206; omega)⟩ (Nat.le_of_ble_eq_true rfl) rfl (fun r39 Λc39 Ic39 Lc39 Rc39 hq39 => ?_)
      obtain ⟨rfl, hf239, hl239, hx39⟩ := hq39
      have hf := hf.trans (hf239.mono (fun _ _ q => q.b))
      refine LW_bif_ne (tgt := 47) dX5_readBook_42 (by decide) (fun c42 => ?_) (fun c42 => ?_)
      · obtain ⟨q, he⟩ := okS_t (show okS (pLine (kd B n) (vl B n) i1 A1 P1) = true from c42)
        rw [he] at hx hx39
        have hW := hx39
        have hY := hW.y
        have hcq := hW.c
        have hadv := pLine_adv he
        have hP2 := pLine_lp (fun j hj => vl_n hB hj) he hP1 (by omega)
        replace hx : (if kd B n q.1 = 59 then pBk (kd B n) (vl B n) f (q.1 + 1) q.2.1 q.2.2 else some (.inl (1, q.1))) = some x := hx
        refine LW_aloadn 0 dX5_readBook_47 rfl rfl ?_
        refine gX5_7 dX5_readBook_48 flX5_49 (hY.lt (k := 45) (by decide)) (ly45 hY) ?_
        rw [show Ic39 45 7 = kEnc (kd B n q.1) from hW.k]
        refine LW_bipush (v := 59) dX5_readBook_51 (by decide) ?_
        refine LW_icmp_eq (tgt := 62) dX5_readBook_53 (by decide) (fun c53 => ?_) (fun c53 => ?_)
        · have hk59 : kd B n q.1 = 59 := (kd_ne hB (by decide)).mp c53
          rw [if_pos hk59] at hx
          have hK : kd B n q.1 ≠ 2003 := by rw [hk59]; decide
          refine LW_aloadn 0 dX5_readBook_62 rfl rfl ?_
          refine LW_callV (As := []) (b := 45) (st := []) (ci := 5) (r := (RX5, TX5, 11)) (r_step hB hW hK) YX5_step rfl dX5_readBook_63 mlX5_60 (hY.lt (k := 45) (by decide)) (ly45 hY) ⟨rfl, rfl⟩ (by decide) ⟨(by show j + 1 + 0 ≤ 701; omega), (by show 6 * j + 6 + 0 ≤ 4206; omega)⟩ (Nat.le_of_ble_eq_true rfl) rfl (fun r63 Λc63 Ic63 Lc63 Rc63 hq63 => ?_)
          obtain ⟨rfl, rfl, hI63, hL63, hR63, hW63⟩ := hq63
          obtain rfl : Rc39 = Rc63 := funext fun z => (hR63 z (fun q => q)).symm
          have hW := hW63
          have hf := hf.trans ((Fr.rd (fun z z1 _ => hI63 z z1) hL63).mono (fun _ _ q => q.b))
          refine LW_iinc (n := 1) (v := nI (j + 1)) (ls' := [(0, .ref 45), (1, .int (nI (j + 1)))]) dX5_readBook_66 rfl (hc_inc _) (by decide) rfl ?_
          refine LW_goto (tgt := 21) dX5_readBook_69 (by decide) ?_
          refine LW_ac (ac' := (j + 1, 6 * (j + 1))) (by show j + 1 + 0 ≤ j + 1; omega) (by show 6 * j + 6 + 0 ≤ 6 * (j + 1); omega) ?_
          exact ih (j + 1) _ Ic63 Lc63 Rc39 (q.1 + 1) q.2.1 q.2.2 (by omega) (by omega) hW hP2 hf (by omega) hl0 hx
        · have hk59 : ¬ kd B n q.1 = 59 := fun z => c53 ((kd_ne hB (by decide)).mpr z)
          rw [if_neg hk59] at hx
          refine LW_ac (ac' := (701, 4206)) (show j + 1 ≤ 701 by omega) (show 6 * j + 6 ≤ 4206 by omega) ?_
          refine LW_aloadn 0 dX5_readBook_56 rfl rfl ?_
          refine LW_iconst (v := 1) dX5_readBook_57 (by decide) ?_
          refine LW_callV (As := [.int 1]) (b := 45) (st := []) (ci := 5) (r := (RX5, TX5, 11)) (r_refuse hW 1 rfl) YX5_refuse rfl dX5_readBook_58 mlX5_56 (hY.lt (k := 45) (by decide)) (ly45 hY) ⟨rfl, rfl⟩ (by decide) ⟨Nat.le_of_ble_eq_true rfl, Nat.le_of_ble_eq_true rfl⟩ (Nat.le_of_ble_eq_true rfl) rfl (fun r58 Λc58 Ic58 Lc58 Rc58 hq58 => ?_)
          obtain ⟨rfl, rfl, hI58, hL58, hR58, hF58⟩ := hq58
          obtain rfl : Lc39 = Lc58 := funext fun z => (hL58 z (fun q => q)).symm
          obtain rfl : Rc39 = Rc58 := funext fun z => (hR58 z (fun q => q)).symm
          have hf := hf.trans ((Fr.rd (fun z z1 _ => hI58 z z1) (fun _ _ => rfl)).mono (fun _ _ q => q.b))
          refine LW_zret dX5_readBook_61 rfl (Nat.le_of_ble_eq_true rfl) (Nat.le_of_ble_eq_true rfl) (hc_b01 _) ?_
          exact BkPost.no (Option.some.inj hx).symm hf (by omega) hF58
      · obtain ⟨e, he⟩ := okS_f (show okS (pLine (kd B n) (vl B n) i1 A1 P1) = false from c42)
        rw [he] at hx hx39
        refine LW_ac (ac' := (701, 4206)) (show j + 1 ≤ 701 by omega) (show 6 * j + 6 ≤ 4206 by omega) ?_
        refine LW_iconst (v := 0) dX5_readBook_45 (by decide) ?_
        refine LW_zret dX5_readBook_46 rfl (Nat.le_of_ble_eq_true rfl) (Nat.le_of_ble_eq_true rfl) (Or.inl rfl) ?_
        exact BkPost.no (Option.some.inj hx).symm hf (by omega) hx39
set_option maxRecDepth 100000 in
theorem r_readBook {Λ : hc_L} {I : hc_I} {L : hc_J} {R : hc_R} {B : Nat → Nat} {n : Nat} (hY : LY Λ) (ht : TpAt Λ I 1 n B) (hq : ∀ i, i < 18 → L 51 i = lN (qw i)) (hE : StE Λ R 21) (hΛ : Λ.1 + 701 < 1000000) {X : (Nat → Nat → Int64) → Rs} (hX : ∀ er, pBk (kd B n) (vl B n) 701 0 (aNew er) lp0 = some (X er)) : Run xX5_readBook [.ref 45] Λ I L R (fun r Λ' I' L' R' => ∃ er, BkPost B n 701 lpI (X er) Λ I L R r Λ' I' L' R') := by
  refine Run.of (by decide +kernel) (Nat.le_of_ble_eq_true rfl) ?_
  show LW _ _ _ [(0, .ref 45)] _ _ _ _ _ _
  have hn7 := ht.2.2.1
  have hB : ∀ j, j < n → B j < 256 := ht.b
  refine LW_aloadn 0 dX5_readBook_0 rfl rfl ?_
  refine LW_callV (As := []) (b := 45) (st := []) (ci := 5) (r := (RX5, TX5, 11)) (r_begin hY ht hq) YX5_begin rfl dX5_readBook_1 mlX5_36 (hY.lt (k := 45) (by decide)) (ly45 hY) ⟨rfl, rfl⟩ (by decide) ⟨Nat.le_of_ble_eq_true rfl, Nat.le_of_ble_eq_true rfl⟩ (Nat.le_of_ble_eq_true rfl) rfl (fun r1 Λc1 Ic1 Lc1 Rc1 hq1 => ?_)
  obtain ⟨rfl, rfl, hI1, hL1, hR1, cn, hb⟩ := hq1
  obtain rfl : R = Rc1 := funext fun z => (hR1 z (fun q => q)).symm
  have hf1 : Fr BJ Λ I L R Λ Ic1 Lc1 R := Fr.of hI1 hL1 (fun _ _ => rfl) (fun z hz => Or.inr (by omega)) (fun z hz => Or.inr (by omega)) (fun z hz => absurd hz (fun q => q))
  refine LW_aloadn 0 dX5_readBook_4 rfl rfl ?_
  refine gX5_1 dX5_readBook_5 flX5_28 (hY.lt (k := 45) (by decide)) (ly45 hY) (lf45_1 hY) ?_
  refine LW_callV (As := []) (b := 21) (st := []) (ci := 6) (r := (RX6, TX6, 15)) (r_clear hY.st21 hE) YX6_clear rfl dX5_readBook_8 mlX5_39 (hY.lt (k := 21) (by decide)) (ly21 hY) ⟨rfl, rfl⟩ (by decide) ⟨Nat.le_of_ble_eq_true rfl, Nat.le_of_ble_eq_true rfl⟩ (Nat.le_of_ble_eq_true rfl) rfl (fun r8 Λc8 Ic8 Lc8 Rc8 hq8 => ?_)
  obtain ⟨rfl, rfl, hI8, hL8, hR8, hs8⟩ := hq8
  obtain rfl : R = Rc8 := funext fun z => (hR8 z (fun q => q)).symm
  have hf2 : Fr BJ Λ Ic1 Lc1 R Λ Ic8 Lc8 R := Fr.of hI8 hL8 (fun _ _ => rfl) (fun z hz => Or.inl hz) (fun z hz => Or.inl (by omega)) (fun z hz => absurd hz (fun q => q))
  refine LW_aloadn 0 dX5_readBook_11 rfl rfl ?_
  refine gX5_2 dX5_readBook_12 flX5_32 (hY.lt (k := 45) (by decide)) (ly45 hY) (lf45_2 hY) ?_
  refine LW_iconst (v := 0) dX5_readBook_15 (by decide) ?_
  refine pX4_2 dX5_readBook_16 flX5_44 (hY.lt (k := 42) (by decide)) (ly42 hY) ?_
  generalize hI16 : hc_u Ic8 42 2 0 = I16
  refine LW_iconst (v := 0) dX5_readBook_19 (by decide) ?_
  refine LW_istoren (ls' := [(0, .ref 45), (1, .int 0)]) dX5_readBook_20 rfl (by decide) rfl ?_
  obtain ⟨b0, b1, b2, b3, b4, b5, b6, b7⟩ := hb
  have h1 : ∀ z, z ≠ 42 → I16 z = Ic8 z := fun z hz => by rw [← hI16, hc_u_row _ _ _ _ hz]
  have h2 : I16 45 = Ic1 45 := by rw [h1 45 (by decide), hI8 45 (by decide)]
  have hf3 : Fr BJ Λ Ic8 Lc8 R Λ I16 Lc8 R := Fr.ofI (fun z hz => h1 z (fun e => hz (Or.inr (by omega))))
  have hs3 : St Λ I16 Lc8 R 21 (aNew (fun w m => Lc1 (21 + 12 + w) m)) := hs8.kp3 (fun z _ _ => h1 z (by omega)) (fun _ _ _ => rfl) (fun _ _ _ => rfl) (fun r hr => by
    have := hY.nf hr
    exact h1 r (by omega))
  have hW : RW B n cn Λ I16 Lc8 R 0 0 (aNew (fun w m => Lc1 (21 + 12 + w) m)) lp0 := ⟨hY, b0.kp (by rw [h1 _ (by decide), hI8 _ (by decide)]) (by rw [h1 _ (by decide), hI8 _ (by decide)]) (by rw [h1 _ (by decide), hI8 _ (by decide)]) (hL8 _ (by decide)), b0.2.1, by rw [h2]; exact ⟨b1, b2⟩, by rw [h2]; exact b3, by rw [h2]; exact b4, by rw [h2]; exact b5, by rw [hL8 45 (by decide)]; exact b6, by rw [h2]; exact b7, hs3, hY.lw42, by rw [← hI16, hc_u_at, if_pos rfl]; rfl, fun i hi => absurd hi (Nat.not_lt_zero i)⟩
  refine LW.mono (bk_loop (Λ0 := Λ) (I0 := I) (L0 := L) (R0 := R) hB hn7 (X (fun w m => Lc1 (21 + 12 + w) m)) 701 0 Λ I16 Lc8 R 0 _ lp0 rfl (Nat.le_refl _) hW ⟨Nat.zero_le _, Or.inl rfl⟩ ((hf1.trans hf2).trans hf3) (Nat.le_refl _) hΛ (hX _)) (fun r Λ' I' L' R' hq => ⟨_, hq⟩)
set_option maxRecDepth 100000 in
theorem jn_loop {B : Nat → Nat} {n cn : Nat} {P : LwP} {Λ0 : hc_L} {I0 : hc_I} {L0 : hc_J} {R0 : hc_R} (hB : ∀ j, j < n → B j < 256) : ∀ (x : Rs) f j (Λ1 : hc_L) (I1 : hc_I) (L1 : hc_J) (R1 : hc_R) i1 A1, f + j = 25 → 1 ≤ aM A1 → RW B n cn Λ1 I1 L1 R1 i1 0 A1 P → Fr BJ Λ0 I0 L0 R0 Λ1 I1 L1 R1 → Λ1.1 ≤ Λ0.1 + 1 + j → Λ0.1 + 26 < 1000000 → pJl (kd B n) (vl B n) f i1 A1 P = some x → LW xX5_readJoiner (j, 6 * j) 15 [(0, .ref 45), (1, .int (nI j))] [] Λ1 I1 L1 R1 (BkPost B n 26 (fun _ => True) x Λ0 I0 L0 R0) := by
  intro x f
  induction f with
  | zero =>
    intro j Λ1 I1 L1 R1 i1 A1 hfj hM hW hf hl hl0 hx
    cases hx
  | succ f ih =>
    intro j Λ1 I1 L1 R1 i1 A1 hfj hM hW hf hl hl0 hx
    have hY := hW.y
    have hm12 := hW.s.w.m
    have hf24 := hW.s.w.f
    rw [pJl] at hx
    refine LW_iloadn 1 dX5_readJoiner_15 rfl rfl ?_
    refine LW_bipush (v := 24) dX5_readJoiner_16 (by decide) ?_
    refine LW_icmp_gt (tgt := 72) dX5_readJoiner_18 (by decide) (fun c18 => absurd c18 (hc_nlt (a := 24) (b := j) (by omega) (by omega) (by omega))) (fun c18 => ?_)
    refine LW_aloadn 0 dX5_readJoiner_21 rfl rfl ?_
    refine gX5_7 dX5_readJoiner_22 flX5_49 (hY.lt (k := 45) (by decide)) (ly45 hY) ?_
    rw [show I1 45 7 = kEnc (kd B n i1) from hW.k]
    refine LW_sipush (v := 2003) dX5_readJoiner_25 (by decide) ?_
    refine LW_icmp_eq (tgt := 72) dX5_readJoiner_28 (by decide) (fun c28 => ?_) (fun c28 => ?_)
    · have hk : kd B n i1 = 2003 := (kd_ne hB (by decide)).mp c28
      rw [if_pos hk] at hx
      refine LW_ac (ac' := (25, 150)) (show j ≤ 25 by omega) (show 6 * j ≤ 150 by omega) ?_
      refine LW_iconst (v := 1) dX5_readJoiner_72 (by decide) ?_
      refine LW_zret dX5_readJoiner_73 rfl (Nat.le_of_ble_eq_true rfl) (Nat.le_of_ble_eq_true rfl) (Or.inr rfl) ?_
      exact BkPost.yes (Option.some.inj hx).symm hf (by omega) hW trivial
    · have hk : ¬ kd B n i1 = 2003 := fun z => c28 ((kd_ne hB (by decide)).mpr z)
      rw [if_neg hk] at hx
      refine LW_aloadn 0 dX5_readJoiner_31 rfl rfl ?_
      refine gX5_1 dX5_readJoiner_32 flX5_28 (hY.lt (k := 45) (by decide)) (ly45 hY) (lf45_1 hY) ?_
      refine gX6_12 dX5_readJoiner_35 flX5_66 (hY.lt (k := 21) (by decide)) (ly21 hY) ?_
      rw [show I1 21 12 = nI (aF A1) from hW.fc]
      refine LW_bipush (v := 24) dX5_readJoiner_38 (by decide) ?_
      refine LW_icmp_lt (tgt := 48) dX5_readJoiner_40 (by decide) (fun c40 => ?_) (fun c40 => ?_)
      · have hF24 : aF A1 < 24 := (hc_lt (b := 24) (by omega) (by omega)).mp c40
        rw [if_pos hF24] at hx
        refine LW_aloadn 0 dX5_readJoiner_48 rfl rfl ?_
        refine LW_aloadn 0 dX5_readJoiner_49 rfl rfl ?_
        refine gX5_1 dX5_readJoiner_50 flX5_28 (hY.lt (k := 45) (by decide)) (ly45 hY) (lf45_1 hY) ?_
        refine gX6_11 dX5_readJoiner_53 flX5_72 (hY.lt (k := 21) (by decide)) (ly21 hY) ?_
        rw [show I1 21 11 = nI (aM A1) from hW.mc]
        refine LW_iconst (v := 1) dX5_readJoiner_56 (by decide) ?_
        refine LW_isub dX5_readJoiner_57 ?_
        rw [show ((nI (aM A1)) - 1) = nI (aM A1 - 1) from (by rw [show (1 : Int32) = nI 1 from rfl, nI_sub hM])]
        refine LW_callV (As := [.int (nI (aM A1 - 1))]) (b := 45) (st := []) (ci := 5) (r := (RX5, TX5, 11)) (r_readLand hB hW (by omega) hF24 (ow := aM A1 - 1) (by omega)) YX5_readLand rfl dX5_readJoiner_58 mlX5_75 (hY.lt (k := 45) (by decide)) (ly45 hY) ⟨rfl, rfl⟩ (by decide) ⟨(by show j + 1 ≤ 25; omega), (by show 6 * j + 6 ≤ 150; omega)⟩ (Nat.le_of_ble_eq_true rfl) rfl (fun r58 Λc58 Ic58 Lc58 Rc58 hq58 => ?_)
        obtain ⟨rfl, hf258, hl258, hx58⟩ := hq58
        have hf := hf.trans (hf258.mono (fun _ _ q => q.b))
        refine LW_bif_ne (tgt := 66) dX5_readJoiner_61 (by decide) (fun c61 => ?_) (fun c61 => ?_)
        · obtain ⟨q, he⟩ := okS_t (show okS (pLand (kd B n) (vl B n) (aM A1 - 1) i1 A1 P) = true from c61)
          rw [he] at hx hx58
          obtain ⟨q1, q2, q3⟩ := q
          have heq := pDo_r he
          cases heq
          have hW := hx58
          refine LW_iinc (n := 1) (v := nI (j + 1)) (ls' := [(0, .ref 45), (1, .int (nI (j + 1)))]) dX5_readJoiner_66 rfl (hc_inc _) (by decide) rfl ?_
          refine LW_goto (tgt := 15) dX5_readJoiner_69 (by decide) ?_
          refine LW_ac (ac' := (j + 1, 6 * (j + 1))) (by show j + 1 ≤ j + 1; omega) (by show 6 * j + 6 ≤ 6 * (j + 1); omega) ?_
          exact ih (j + 1) _ Ic58 Lc58 Rc58 (i1 + 5) (aAddF A1 (fdRow (vl B n) (aM A1 - 1) i1)) (by omega) hM hW hf (by omega) hl0 hx
        · obtain ⟨e, he⟩ := okS_f (show okS (pLand (kd B n) (vl B n) (aM A1 - 1) i1 A1 P) = false from c61)
          rw [he] at hx hx58
          refine LW_ac (ac' := (25, 150)) (show j + 1 ≤ 25 by omega) (show 6 * j + 6 ≤ 150 by omega) ?_
          refine LW_iconst (v := 0) dX5_readJoiner_64 (by decide) ?_
          refine LW_zret dX5_readJoiner_65 rfl (Nat.le_of_ble_eq_true rfl) (Nat.le_of_ble_eq_true rfl) (Or.inl rfl) ?_
          exact BkPost.no (Option.some.inj hx).symm hf (by omega) hx58
      · have hF : ¬ aF A1 < 24 := fun z => c40 ((hc_lt (b := 24) (by omega) (by omega)).mpr z)
        rw [if_neg hF] at hx
        refine LW_ac (ac' := (25, 150)) (show j ≤ 25 by omega) (show 6 * j ≤ 150 by omega) ?_
        refine LW_aloadn 0 dX5_readJoiner_43 rfl rfl ?_
        refine LW_callV (As := []) (b := 45) (st := []) (ci := 5) (r := (RX5, TX5, 11)) (r_refuseLand hB hW) YX5_refuseLand rfl dX5_readJoiner_44 mlX5_69 (hY.lt (k := 45) (by decide)) (ly45 hY) ⟨rfl, rfl⟩ (by decide) ⟨Nat.le_of_ble_eq_true rfl, Nat.le_of_ble_eq_true rfl⟩ (Nat.le_of_ble_eq_true rfl) rfl (fun r44 Λc44 Ic44 Lc44 Rc44 hq44 => ?_)
        obtain ⟨rfl, rfl, hI44, hL44, hR44, hF44⟩ := hq44
        obtain rfl : L1 = Lc44 := funext fun z => (hL44 z (fun q => q)).symm
        obtain rfl : R1 = Rc44 := funext fun z => (hR44 z (fun q => q)).symm
        have hf := hf.trans ((Fr.rd (fun z z1 _ => hI44 z z1) (fun _ _ => rfl)).mono (fun _ _ q => q.b))
        refine LW_zret dX5_readJoiner_47 rfl (Nat.le_of_ble_eq_true rfl) (Nat.le_of_ble_eq_true rfl) (hc_b01 _) ?_
        exact BkPost.no (Option.some.inj hx).symm hf (by omega) hF44
set_option maxRecDepth 100000 in
theorem r_readJoiner {Λ : hc_L} {I : hc_I} {L : hc_J} {R : hc_R} {B : Nat → Nat} {n : Nat} (hY : LY Λ) (ht : TpAt Λ I 1 n B) (hq : ∀ i, i < 18 → L 51 i = lN (qw i)) {A : AS} {P : LwP} (hs : St Λ I L R 21 A) (hl : LwAt Λ I 42 P) (hΛ : Λ.1 + 26 < 1000000) {x : Rs} (hx : pJn (kd B n) (vl B n) A P = some x) : Run xX5_readJoiner [.ref 45] Λ I L R (BkPost B n 26 (fun _ => True) x Λ I L R) := by
  refine Run.of (by decide +kernel) (Nat.le_of_ble_eq_true rfl) ?_
  show LW _ _ _ [(0, .ref 45)] _ _ _ _ _ _
  have hn7 := ht.2.2.1
  have hB : ∀ j, j < n → B j < 256 := ht.b
  refine LW_aloadn 0 dX5_readJoiner_0 rfl rfl ?_
  refine LW_callV (As := []) (b := 45) (st := []) (ci := 5) (r := (RX5, TX5, 11)) (r_begin hY ht hq) YX5_begin rfl dX5_readJoiner_1 mlX5_36 (hY.lt (k := 45) (by decide)) (ly45 hY) ⟨rfl, rfl⟩ (by decide) ⟨Nat.le_of_ble_eq_true rfl, Nat.le_of_ble_eq_true rfl⟩ (Nat.le_of_ble_eq_true rfl) rfl (fun r1 Λc1 Ic1 Lc1 Rc1 hq1 => ?_)
  obtain ⟨rfl, rfl, hI1, hL1, hR1, cn, hb⟩ := hq1
  obtain rfl : R = Rc1 := funext fun z => (hR1 z (fun q => q)).symm
  have hf1 : Fr BJ Λ I L R Λ Ic1 Lc1 R := Fr.of hI1 hL1 (fun _ _ => rfl) (fun z hz => Or.inr (by omega)) (fun z hz => Or.inr (by omega)) (fun z hz => absurd hz (fun q => q))
  obtain ⟨b0, b1, b2, b3, b4, b5, b6, b7⟩ := hb
  have hs3 : St Λ Ic1 Lc1 R 21 A := hs.kp3 (fun z _ _ => hI1 z (by omega)) (fun z _ _ => hL1 z (by omega)) (fun _ _ _ => rfl) (fun r hr => by
    have := hY.nf hr
    exact hI1 r (by omega))
  have hW : RW B n cn Λ Ic1 Lc1 R 0 0 A P := ⟨hY, b0, b0.2.1, ⟨b1, b2⟩, b3, b4, b5, b6, b7, hs3, hY.lw42, by rw [hI1 42 (by decide)]; exact hl.2.1, fun i hi => by rw [hI1 43 (by decide)]; exact hl.2.2 i hi⟩
  refine LW_aloadn 0 dX5_readJoiner_4 rfl rfl ?_
  refine LW_callV (As := []) (b := 45) (st := []) (ci := 5) (r := (RX5, TX5, 11)) (r_readNewName hB hW) YX5_readNewName rfl dX5_readJoiner_5 mlX5_63 (hY.lt (k := 45) (by decide)) (ly45 hY) ⟨rfl, rfl⟩ (by decide) ⟨Nat.le_of_ble_eq_true rfl, Nat.le_of_ble_eq_true rfl⟩ (Nat.le_of_ble_eq_true rfl) rfl (fun r5 Λc5 Ic5 Lc5 Rc5 hq5 => ?_)
  obtain ⟨rfl, hf5, hl5, hx5⟩ := hq5
  refine LW_bif_ne (tgt := 13) dX5_readJoiner_8 (by decide) (fun c8 => ?_) (fun c8 => ?_)
  · obtain ⟨q, he⟩ := okS_t (show okS (pName (kd B n) (vl B n) 0 A P) = true from c8)
    rw [he] at hx5
    unfold pJn at hx
    rw [he] at hx
    have hmq : 1 ≤ aM q.2.1 ∧ q.2.2 = P := by
      unfold pName at he
      repeat (split at he)
      all_goals first | cases he | skip
      exact ⟨Nat.le_add_left 1 _, rfl⟩
    obtain ⟨q1, q2, q3⟩ := q
    obtain ⟨hmq, rfl⟩ := hmq
    refine LW_iconst (v := 0) dX5_readJoiner_13 (by decide) ?_
    refine LW_istoren (ls' := [(0, .ref 45), (1, .int 0)]) dX5_readJoiner_14 rfl (by decide) rfl ?_
    refine LW_ac (ac' := (0, 6 * 0)) (Nat.le_of_ble_eq_true rfl) (Nat.le_of_ble_eq_true rfl) ?_
    exact jn_loop hB x 25 0 _ Ic5 Lc5 Rc5 q1 q2 rfl hmq hx5 (hf1.trans (hf5.mono (fun _ _ q => q.b))) (show _ ≤ Λ.1 + 1 + 0 from hl5) hΛ hx
  · obtain ⟨e, he⟩ := okS_f (show okS (pName (kd B n) (vl B n) 0 A P) = false from c8)
    rw [he] at hx5
    unfold pJn at hx
    rw [he] at hx
    refine LW_iconst (v := 0) dX5_readJoiner_11 (by decide) ?_
    refine LW_zret dX5_readJoiner_12 rfl (Nat.le_of_ble_eq_true rfl) (Nat.le_of_ble_eq_true rfl) (Or.inl rfl) ?_
    exact BkPost.no (Option.some.inj hx).symm (hf1.trans (hf5.mono (fun _ _ q => q.b))) (Nat.le_trans hl5 (by omega)) hx5
