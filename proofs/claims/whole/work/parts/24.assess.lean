/-! the Assessor -/
theorem St.jk {Λ : hc_L} {I : hc_I} {L L' : hc_J} {R : hc_R} {s : Nat} {A : AS} (h : St Λ I L R s A) (hL : ∀ k, k < 18 → L' (s + k) = L (s + k)) : St Λ I L' R s A := by
  obtain ⟨h1, h2, h3, h4, h5, h6, h7, h8, h9, h10, h11, h12, h13⟩ := h
  refine ⟨h1, h2, h3, fun j hj => by rw [hL 1 (by omega)]; exact h4 j hj, h5, h6, fun m hm => ?_, h8, h9, h10, h11, h12, fun w m hw hm => ?_⟩
  · rw [hL 4 (by omega)]
    exact h7 m hm
  · rw [show s + 12 + w = s + (12 + w) by omega, hL (12 + w) (by omega), show s + (12 + w) = s + 12 + w by omega]
    exact h13 w m hw hm
/-- the Assessor at a, of the State s and the Law l -/
def AsL (Λ : hc_L) (a s l : Nat) : Prop := a + 3 ≤ Λ.1 ∧ Λ.2.1 a = (100, 0) ∧ Λ.2.1 (a + 1) = (3, 24) ∧ Λ.2.1 (a + 2) = (3, 24) ∧ Λ.2.2 a 0 = some s ∧ Λ.2.2 a 1 = some l ∧ Λ.2.2 a 2 = some (a + 1) ∧ Λ.2.2 a 3 = some (a + 2) ∧ (∀ k, k < 18 → s + k ≠ l + 2) ∧ (∀ k, k < 18 → s + k ≠ a + 1 ∧ s + k ≠ a + 2) ∧ l + 2 ≠ a + 1 ∧ l + 2 ≠ a + 2
theorem AsL.lt {Λ : hc_L} {a s l : Nat} (h : AsL Λ a s l) (k : Nat) (hk : k < 3) : a + k < Λ.1 := Nat.lt_of_lt_of_le (by omega) h.1
theorem AsL.lt0 {Λ : hc_L} {a s l : Nat} (h : AsL Λ a s l) : a < Λ.1 := h.lt 0 (by omega)
theorem aHarm_le {A : AS} (h : wf A) {str i : Nat} (hs : str ≤ 100) (hc : aFd A i 3 < 4) : aHarm A str i ≤ 200 := by
  have h1 := h.2.2.2.2.2.1 _ hc
  have h2 : str * aSo A (aFd A i 3) ≤ 100 * 200 := Nat.mul_le_mul hs h1
  unfold aHarm
  omega
theorem aLostN_le {A : AS} (h : wf A) {i : Nat} (hc : aFd A i 3 < 4) : ∀ j, j ≤ aS A → aLostN A i j ≤ 200 * j
  | 0, _ => Nat.zero_le _
  | j + 1, hj => by
    have h1 := aLostN_le h hc j (by omega)
    have h2 := aHarm_le h (i := i) (h.2.2.2.2.2.2.2.2 j (by omega)).2.2.2.2.2 hc
    unfold aLostN
    split <;> omega
def aPaid (A : AS) (P : LwP) (i t : Nat) : Int64 :=
  if P.1 = 0 then (if t < 8 then 0 else (nI t).toInt64)
  else
    let v := lpVal P (lpQ (nI t).toInt64 (nI (aHzAt A (aFd A i 1) (aFd A i 2))).toInt64 (nI (aYs A (aFd A i 0))).toInt64 (nI (aFd A i 3)).toInt64)
    let w := if v < (nI t).toInt64 then v else (nI t).toInt64
    if w < 0 then 0 else w
def aClaim (A : AS) (P : LwP) (i t : Nat) : Int64 := aCo A i * aPaid A P i t / 100
def abClaims (A : AS) (P : LwP) (k : Nat) : Nat → Int64 := sumJ (fun i => if aSf A i k = true then aClaim A P i (aLost A i) else 0)
set_option maxRecDepth 100000 in
theorem r_harm {Λ : hc_L} {I : hc_I} {L : hc_J} {R : hc_R} {a s l : Nat} {A : AS} (ha : AsL Λ a s l) (h : St Λ I L R s A) {r i : Nat} (hi : i < aF A) (hfd : FdAt Λ I r (aFd A i)) {str : Nat} (hs : str ≤ 100) : Run xX0_harm [.ref a, .ref r, .int (nI str)] Λ I L R (Qr (some (.int (nI (aHarm A str i)))) Λ I L R) := by
  refine Run.of (by decide +kernel) (Nat.le_of_ble_eq_true rfl) ?_
  show LW _ _ _ [(0, .ref a), (1, .ref r), (2, .int (nI str))] _ _ _ _ _ _
  have hb := h.w.2.2.2.2.2.2.2.1 i hi
  have hn := h.w.f
  have hso := h.w.2.2.2.2.2.1 _ hb.2.2.2.1
  have hmm : str * aSo A (aFd A i 3) ≤ 100 * 200 := Nat.mul_le_mul hs hso
  refine LW_iloadn 2 dX0_harm_0 rfl rfl ?_
  refine LW_aloadn 0 dX0_harm_1 rfl rfl ?_
  refine gX0_0 dX0_harm_2 flX0_18 ha.lt0 ha.2.1 ha.2.2.2.2.1 ?_
  refine LW_aloadn 1 dX0_harm_5 rfl rfl ?_
  refine gX2_3 dX0_harm_6 flX0_55 hfd.1 hfd.2.1 ?_
  rw [show I r 3 = nI (aFd A i 3) from hfd.2.2 3 (by decide)]
  refine LW_callV (As := [.int (nI (aFd A i 3))]) (b := s) (st := [.int (nI str)]) (ci := 6) (r := (RX6, TX6, 15)) (r_softOfN h hb.2.2.2.1) YX6_softOf rfl dX0_harm_9 mlX0_60 h.l.lt0 h.l.2.1 ⟨rfl, rfl⟩ (by decide) ⟨Nat.le_refl _, Nat.le_refl _⟩ (Nat.le_of_ble_eq_true rfl) rfl (fun r9 Λc9 Ic9 Lc9 Rc9 hq9 => ?_)
  obtain ⟨rfl, rfl, rfl, rfl, rfl⟩ := hq9
  refine LW_imul dX0_harm_12 ?_
  rw [show ((nI str) * (nI (aSo A (aFd A i 3)))) = nI (str * aSo A (aFd A i 3)) from nI_mul _ _]
  refine LW_bipush (v := 100) dX0_harm_13 (by decide) ?_
  refine LW_idiv dX0_harm_15 (by decide) ?_
  rw [show ((nI (str * aSo A (aFd A i 3))) / 100) = nI (str * aSo A (aFd A i 3) / 100) from pk_div (d := 100) (by omega) (by omega) (by omega)]
  refine LW_iret dX0_harm_16 rfl (Nat.le_of_ble_eq_true rfl) (Nat.le_of_ble_eq_true rfl) ?_
  exact Qr.mk rfl
set_option maxRecDepth 100000 in
theorem r_lost {Λ : hc_L} {I : hc_I} {L : hc_J} {R : hc_R} {a s l : Nat} {A : AS} (ha : AsL Λ a s l) (h : St Λ I L R s A) {r i : Nat} (hi : i < aF A) (hfd : FdAt Λ I r (aFd A i)) : Run xX0_lost [.ref a, .ref r] Λ I L R (Qr (some (.int (nI (aLost A i)))) Λ I L R) := by
  refine Run.of (by decide +kernel) (Nat.le_of_ble_eq_true rfl) ?_
  show LW _ _ _ [(0, .ref a), (1, .ref r)] _ _ _ _ _ _
  have hb := h.w.2.2.2.2.2.2.2.1 i hi
  have hn := h.w.f
  have hsn := h.w.s
  have hle := aLostN_le h.w hb.2.2.2.1 (aS A) (Nat.le_refl _)
  refine LW_iconst (v := 0) dX0_lost_0 (by decide) ?_
  refine LW_istoren (ls' := [(0, .ref a), (1, .ref r), (2, .int 0)]) dX0_lost_1 rfl (by decide) rfl ?_
  refine LW_iconst (v := 0) dX0_lost_2 (by decide) ?_
  refine LW_istoren (ls' := [(0, .ref a), (1, .ref r), (2, .int 0), (3, .int 0)]) dX0_lost_3 rfl (by decide) rfl ?_
  have loop : ∀ j, j ≤ aS A → LW xX0_lost (0, 0) 4 [(0, .ref a), (1, .ref r), (2, .int (nI (aLostN A i j))), (3, .int (nI j))] [] Λ I L R (Qr (some (.int (nI (aLost A i)))) Λ I L R) := by
    refine hc_down ?_ ?_
    · refine LW_iloadn 3 dX0_lost_4 rfl rfl ?_
      refine LW_aloadn 0 dX0_lost_5 rfl rfl ?_
      refine gX0_0 dX0_lost_6 flX0_18 ha.lt0 ha.2.1 ha.2.2.2.2.1 ?_
      refine gX6_13 dX0_lost_9 flX0_26 h.l.lt0 h.l.2.1 ?_
      rw [show I s 13 = nI (aS A) from h.sc]
      refine LW_icmp_ge (tgt := 59) dX0_lost_12 (by decide) (fun c12 => ?_) (fun c12 => absurd (Int32.le_refl _) c12)
      refine LW_bipush (v := 100) dX0_lost_59 (by decide) ?_
      refine LW_iloadn 2 dX0_lost_61 rfl rfl ?_
      refine LW_imin dX0_lost_62 mlX0_49 (by decide) ⟨Nat.le_refl _, Nat.le_refl _⟩ (Nat.le_of_ble_eq_true rfl) ?_
      refine LW_iret dX0_lost_65 rfl (Nat.le_of_ble_eq_true rfl) (Nat.le_of_ble_eq_true rfl) ?_
      refine Qr.mk ?_
      simp only [hc_lt (b := 100) (show aLostN A i (aS A) < 2 ^ 31 by omega) (by omega), show (100 : Int32) = nI 100 from rfl]
      unfold aLost
      split
      · rw [Nat.min_eq_right (by omega)]
      · rw [Nat.min_eq_left (by omega)]
    · intro j hi0 ih
      refine LW_iloadn 3 dX0_lost_4 rfl rfl ?_
      refine LW_aloadn 0 dX0_lost_5 rfl rfl ?_
      refine gX0_0 dX0_lost_6 flX0_18 ha.lt0 ha.2.1 ha.2.2.2.2.1 ?_
      refine gX6_13 dX0_lost_9 flX0_26 h.l.lt0 h.l.2.1 ?_
      rw [show I s 13 = nI (aS A) from h.sc]
      refine LW_icmp_ge (tgt := 59) dX0_lost_12 (by decide) (fun c12 => absurd c12 (hc_nle (by omega) (by omega) hi0)) (fun c12 => ?_)
      obtain ⟨q, hq, hs⟩ := h.sd hi0
      have hsb := h.w.2.2.2.2.2.2.2.2 j hi0
      refine LW_aloadn 0 dX0_lost_15 rfl rfl ?_
      refine gX0_0 dX0_lost_16 flX0_18 ha.lt0 ha.2.1 ha.2.2.2.2.1 ?_
      refine gX6_8 dX0_lost_19 flX0_32 h.l.lt0 h.l.2.1 (h.l.f 8 (by decide)) ?_
      refine LW_iloadn 3 dX0_lost_22 rfl rfl ?_
      refine LW_aald5s (r := q) dX0_lost_23 (h.l.lt 9 (by decide)) h.l.2.2.2.2.2.2.2.2.2.2.1 rfl (by omega) (Nat.le_of_ble_eq_true rfl) hq ?_
      refine LW_astore (ls' := [(0, .ref a), (1, .ref r), (2, .int (nI (aLostN A i j))), (3, .int (nI j)), (4, .ref q)]) dX0_lost_24 (by decide) rfl ?_
      refine LW_aload 4 dX0_lost_26 rfl ?_
      refine LW_ifnull dX0_lost_28 ?_
      refine LW_aload 4 dX0_lost_31 rfl ?_
      refine LW_aloadn 1 dX0_lost_33 rfl rfl ?_
      refine LW_callV (As := [.ref r]) (b := q) (st := []) (ci := 7) (r := (RX7, TX7, 5)) (r_isOver hs hfd ⟨by omega, by omega, by omega, by omega⟩ ⟨hb.2.1, hb.2.2.1⟩) YX7_isOver rfl dX0_lost_34 mlX0_36 hs.1 hs.2.1 ⟨rfl, rfl⟩ (by decide) ⟨Nat.le_refl _, Nat.le_refl _⟩ (Nat.le_of_ble_eq_true rfl) rfl (fun r34 Λc34 Ic34 Lc34 Rc34 hq34 => ?_)
      obtain ⟨rfl, rfl, rfl, rfl, rfl⟩ := hq34
      refine LW_bif_eq (tgt := 53) dX0_lost_37 (by decide) (fun c37 => ?_) (fun c37 => ?_)
      · refine LW_iinc (n := 3) (v := nI (j + 1)) (ls' := [(0, .ref a), (1, .ref r), (2, .int (nI (aLostN A i j))), (3, .int (nI (j + 1))), (4, .ref q)]) dX0_lost_53 rfl (hc_inc _) (by decide) rfl ?_
        refine LW_goto (tgt := 4) dX0_lost_56 (by decide) ?_
        refine LW_ls [0, 1, 2, 3] rfl ?_
        exact hc_lsc (by simp [lv_pick, aLostN, c37]) ih
      · refine LW_iloadn 2 dX0_lost_40 rfl rfl ?_
        refine LW_aloadn 0 dX0_lost_41 rfl rfl ?_
        refine LW_aloadn 1 dX0_lost_42 rfl rfl ?_
        refine LW_aload 4 dX0_lost_43 rfl ?_
        refine gX7_4 dX0_lost_45 flX0_42 hs.1 hs.2.1 ?_
        rw [show I q 4 = nI (aSd A j 4) from hs.2.2 4 (by decide)]
        refine LW_callV (As := [.ref r, .int (nI (aSd A j 4))]) (b := a) (st := [.int (nI (aLostN A i j))]) (ci := 0) (r := (RX0, TX0, 7)) (r_harm ha h hi hfd hsb.2.2.2.2.2) YX0_harm rfl dX0_lost_48 mlX0_45 ha.lt0 ha.2.1 ⟨rfl, rfl⟩ (by decide) ⟨Nat.le_refl _, Nat.le_refl _⟩ (Nat.le_of_ble_eq_true rfl) rfl (fun r48 Λc48 Ic48 Lc48 Rc48 hq48 => ?_)
        obtain ⟨rfl, rfl, rfl, rfl, rfl⟩ := hq48
        refine LW_iadd dX0_lost_51 ?_
        rw [show ((nI (aLostN A i j)) + (nI (aHarm A (aSd A j 4) i))) = nI (aLostN A i j + aHarm A (aSd A j 4) i) from nI_add _ _]
        refine LW_istoren (ls' := [(0, .ref a), (1, .ref r), (2, .int (nI (aLostN A i j + aHarm A (aSd A j 4) i))), (3, .int (nI j)), (4, .ref q)]) dX0_lost_52 rfl (by decide) rfl ?_
        refine LW_iinc (n := 3) (v := nI (j + 1)) (ls' := [(0, .ref a), (1, .ref r), (2, .int (nI (aLostN A i j + aHarm A (aSd A j 4) i))), (3, .int (nI (j + 1))), (4, .ref q)]) dX0_lost_53 rfl (hc_inc _) (by decide) rfl ?_
        refine LW_goto (tgt := 4) dX0_lost_56 (by decide) ?_
        refine LW_ls [0, 1, 2, 3] rfl ?_
        exact hc_lsc (by simp [lv_pick, aLostN, c37]) ih
  exact loop 0 (Nat.zero_le _)
set_option maxRecDepth 100000 in
theorem r_paid {Λ : hc_L} {I : hc_I} {L : hc_J} {R : hc_R} {a s l : Nat} {A : AS} (ha : AsL Λ a s l) (h : St Λ I L R s A) {P : LwP} (hl : LwAt Λ I l P) (hP : lpOk P) {r i : Nat} (hi : i < aF A) (hfd : FdAt Λ I r (aFd A i)) {t : Nat} (ht : t ≤ 100) : Run xX0_paid [.ref a, .ref r, .int (nI t)] Λ I L R (Qj (fun z => z = l + 2) (some (.long (aPaid A P i t))) Λ I L R) := by
  refine Run.of (by decide +kernel) (Nat.le_of_ble_eq_true rfl) ?_
  show LW _ _ _ [(0, .ref a), (1, .ref r), (2, .int (nI t))] _ _ _ _ _ _
  have hb := h.w.2.2.2.2.2.2.2.1 i hi
  have hn := h.w.f
  have h7 := hP.1
  have hP1 : nI P.1 = 0 → P.1 = 0 := fun e => (hc_eq (b := 0) (by omega) (by omega)).mp e
  have hm12 := h.w.m
  have hkn : aKnX A (nI (aFd A i 0)) = true := by
    unfold aKnX
    rw [hc_cl (by omega), decide_eq_true (nI_nn (by omega)), decide_eq_true hb.1]
    rfl
  refine LW_aloadn 0 dX0_paid_0 rfl rfl ?_
  refine gX0_1 dX0_paid_1 flX0_22 ha.lt0 ha.2.1 ha.2.2.2.2.2.1 ?_
  refine gX4_2 dX0_paid_4 flX0_64 hl.1.lt0 hl.1.2.1 ?_
  rw [show I l 2 = nI P.1 from hl.2.1]
  refine LW_if_ne (tgt := 23) dX0_paid_7 (by decide) (fun c7 => ?_) (fun c7 => ?_)
  · have hPn : ¬ P.1 = 0 := fun e => c7 (by rw [e]; rfl)
    have hP0 : 0 < P.1 := Nat.pos_of_ne_zero hPn
    refine LW_aloadn 0 dX0_paid_23 rfl rfl ?_
    refine gX0_0 dX0_paid_24 flX0_18 ha.lt0 ha.2.1 ha.2.2.2.2.1 ?_
    refine LW_aloadn 1 dX0_paid_27 rfl rfl ?_
    refine gX2_0 dX0_paid_28 flX0_69 hfd.1 hfd.2.1 ?_
    rw [show I r 0 = nI (aFd A i 0) from hfd.2.2 0 (by decide)]
    refine LW_callV (As := [.int (nI (aFd A i 0))]) (b := s) (st := []) (ci := 6) (r := (RX6, TX6, 15)) (r_isKnown h (nI (aFd A i 0))) YX6_isKnown rfl dX0_paid_31 mlX0_72 h.l.lt0 h.l.2.1 ⟨rfl, rfl⟩ (by decide) ⟨Nat.le_refl _, Nat.le_refl _⟩ (Nat.le_of_ble_eq_true rfl) rfl (fun r31 Λc31 Ic31 Lc31 Rc31 hq31 => ?_)
    obtain ⟨rfl, rfl, rfl, rfl, rfl⟩ := hq31
    refine LW_bif_eq (tgt := 52) dX0_paid_34 (by decide) (fun c34 => absurd (c34.symm.trans hkn) (by decide)) (fun c34 => ?_)
    refine LW_aloadn 0 dX0_paid_37 rfl rfl ?_
    refine gX0_0 dX0_paid_38 flX0_18 ha.lt0 ha.2.1 ha.2.2.2.2.1 ?_
    refine gX6_6 dX0_paid_41 flX0_76 h.l.lt0 h.l.2.1 (h.l.f 6 (by decide)) ?_
    refine LW_aloadn 1 dX0_paid_44 rfl rfl ?_
    refine gX2_0 dX0_paid_45 flX0_69 hfd.1 hfd.2.1 ?_
    rw [show I r 0 = nI (aFd A i 0) from hfd.2.2 0 (by decide)]
    refine LW_iald dX0_paid_48 (h.l.lt 7 (by decide)) h.l.2.2.2.2.2.2.2.2.1 rfl (by omega) (Nat.le_of_ble_eq_true rfl) ?_
    rw [show I (s + 7) (aFd A i 0) = nI (aYs A (aFd A i 0)) from h.ys hb.1]
    refine LW_goto (tgt := 53) dX0_paid_49 (by decide) ?_
    refine LW_istoren (ls' := [(0, .ref a), (1, .ref r), (2, .int (nI t)), (3, .int (nI (aYs A (aFd A i 0))))]) dX0_paid_53 rfl (by decide) rfl ?_
    refine LW_aloadn 0 dX0_paid_54 rfl rfl ?_
    refine gX0_1 dX0_paid_55 flX0_22 ha.lt0 ha.2.1 ha.2.2.2.2.2.1 ?_
    refine LW_iloadn 2 dX0_paid_58 rfl rfl ?_
    refine LW_aloadn 0 dX0_paid_59 rfl rfl ?_
    refine gX0_0 dX0_paid_60 flX0_18 ha.lt0 ha.2.1 ha.2.2.2.2.1 ?_
    refine LW_aloadn 1 dX0_paid_63 rfl rfl ?_
    refine gX2_1 dX0_paid_64 flX0_80 hfd.1 hfd.2.1 ?_
    rw [show I r 1 = nI (aFd A i 1) from hfd.2.2 1 (by decide)]
    refine LW_aloadn 1 dX0_paid_67 rfl rfl ?_
    refine gX2_2 dX0_paid_68 flX0_83 hfd.1 hfd.2.1 ?_
    rw [show I r 2 = nI (aFd A i 2) from hfd.2.2 2 (by decide)]
    refine LW_callV (As := [.int (nI (aFd A i 1)), .int (nI (aFd A i 2))]) (b := s) (st := [.int (nI t), .ref l]) (ci := 6) (r := (RX6, TX6, 15)) (r_hazardAtN h hb.2.1 hb.2.2.1) YX6_hazardAt rfl dX0_paid_71 mlX0_86 h.l.lt0 h.l.2.1 ⟨rfl, rfl⟩ (by decide) ⟨Nat.le_refl _, Nat.le_refl _⟩ (Nat.le_of_ble_eq_true rfl) rfl (fun r71 Λc71 Ic71 Lc71 Rc71 hq71 => ?_)
    obtain ⟨rfl, rfl, rfl, rfl, rfl⟩ := hq71
    refine LW_iloadn 3 dX0_paid_74 rfl rfl ?_
    refine LW_aloadn 1 dX0_paid_75 rfl rfl ?_
    refine gX2_3 dX0_paid_76 flX0_55 hfd.1 hfd.2.1 ?_
    rw [show I r 3 = nI (aFd A i 3) from hfd.2.2 3 (by decide)]
    refine LW_callV (As := [.int (nI t), .int (nI (aHzAt A (aFd A i 1) (aFd A i 2))), .int (nI (aYs A (aFd A i 0))), .int (nI (aFd A i 3))]) (b := l) (st := []) (ci := 4) (r := (RX4, TX4, 3)) (r_value hl hP hP0 _ _ _ _) YX4_value rfl dX0_paid_79 mlX0_89 hl.1.lt0 hl.1.2.1 ⟨rfl, rfl⟩ (by decide) ⟨Nat.le_refl _, Nat.le_refl _⟩ (Nat.le_of_ble_eq_true rfl) rfl (fun r79 Λc79 Ic79 Lc79 Rc79 hq79 => ?_)
    obtain ⟨rfl, rfl, rfl, hL79, rfl⟩ := hq79
    refine LW_lstore (ls' := [(0, .ref a), (1, .ref r), (2, .int (nI t)), (3, .int (nI (aYs A (aFd A i 0)))), (4, .long (lpVal P (lpQ (nI t).toInt64 (nI (aHzAt A (aFd A i 1) (aFd A i 2))).toInt64 (nI (aYs A (aFd A i 0))).toInt64 (nI (aFd A i 3)).toInt64)))]) dX0_paid_82 (by decide) rfl ?_
    refine LW_lconst (v := 0) dX0_paid_84 (by decide) ?_
    refine LW_iloadn 2 dX0_paid_85 rfl rfl ?_
    refine LW_i2l dX0_paid_86 ?_
    refine LW_lload 4 dX0_paid_87 rfl ?_
    refine LW_lmin dX0_paid_89 mlX0_93 (by decide) ⟨Nat.le_refl _, Nat.le_refl _⟩ (Nat.le_of_ble_eq_true rfl) ?_
    refine LW_lmax dX0_paid_92 mlX0_96 (by decide) ⟨Nat.le_refl _, Nat.le_refl _⟩ (Nat.le_of_ble_eq_true rfl) ?_
    refine LW_lret dX0_paid_95 rfl (Nat.le_of_ble_eq_true rfl) (Nat.le_of_ble_eq_true rfl) ?_
    refine Qj.mk ?_ hL79
    unfold aPaid
    rw [if_neg hPn]
  · refine LW_iloadn 2 dX0_paid_10 rfl rfl ?_
    refine LW_bipush (v := 8) dX0_paid_11 (by decide) ?_
    refine LW_icmp_ge (tgt := 20) dX0_paid_13 (by decide) (fun c13 => ?_) (fun c13 => ?_)
    · refine LW_iloadn 2 dX0_paid_20 rfl rfl ?_
      refine LW_i2l dX0_paid_21 ?_
      refine LW_lret dX0_paid_22 rfl (Nat.le_of_ble_eq_true rfl) (Nat.le_of_ble_eq_true rfl) ?_
      refine Qj.mk ?_ (fun _ _ => rfl)
      unfold aPaid
      rw [if_pos (hP1 (Classical.not_not.mp c7))]
      first | (rw [if_neg (by intro h8; exact absurd c13 (hc_nle (a := 8) (by omega) (by omega) h8))]; done) | (rw [if_pos (by rcases Nat.lt_or_ge t 8 with q | q; exact q; exact absurd ((hc_le (a := 8) (by omega) (by omega)).mpr q) c13)])
    · refine LW_lconst (v := 0) dX0_paid_16 (by decide) ?_
      refine LW_goto (tgt := 22) dX0_paid_17 (by decide) ?_
      refine LW_lret dX0_paid_22 rfl (Nat.le_of_ble_eq_true rfl) (Nat.le_of_ble_eq_true rfl) ?_
      refine Qj.mk ?_ (fun _ _ => rfl)
      unfold aPaid
      rw [if_pos (hP1 (Classical.not_not.mp c7))]
      first | (rw [if_neg (by intro h8; exact absurd c13 (hc_nle (a := 8) (by omega) (by omega) h8))]; done) | (rw [if_pos (by rcases Nat.lt_or_ge t 8 with q | q; exact q; exact absurd ((hc_le (a := 8) (by omega) (by omega)).mpr q) c13)])
set_option maxRecDepth 100000 in
theorem r_claim {Λ : hc_L} {I : hc_I} {L : hc_J} {R : hc_R} {a s l : Nat} {A : AS} (ha : AsL Λ a s l) (h : St Λ I L R s A) {P : LwP} (hl : LwAt Λ I l P) (hP : lpOk P) {r i : Nat} (hi : i < aF A) (hfd : FdAt Λ I r (aFd A i)) {t : Nat} (ht : t ≤ 100) : Run xX0_claim [.ref a, .ref r, .int (nI t)] Λ I L R (Qj (fun z => z = l + 2) (some (.long (aClaim A P i t))) Λ I L R) := by
  refine Run.of (by decide +kernel) (Nat.le_of_ble_eq_true rfl) ?_
  show LW _ _ _ [(0, .ref a), (1, .ref r), (2, .int (nI t))] _ _ _ _ _ _
  refine LW_aloadn 1 dX0_claim_0 rfl rfl ?_
  refine LW_callV (As := []) (b := r) (st := []) (ci := 2) (r := (RX2, TX2, 6)) (r_coinsN hfd) YX2_coins rfl dX0_claim_1 mlX0_99 hfd.1 hfd.2.1 ⟨rfl, rfl⟩ (by decide) ⟨Nat.le_refl _, Nat.le_refl _⟩ (Nat.le_of_ble_eq_true rfl) rfl (fun r1 Λc1 Ic1 Lc1 Rc1 hq1 => ?_)
  obtain ⟨rfl, rfl, rfl, rfl, rfl⟩ := hq1
  refine LW_aloadn 0 dX0_claim_4 rfl rfl ?_
  refine LW_aloadn 1 dX0_claim_5 rfl rfl ?_
  refine LW_iloadn 2 dX0_claim_6 rfl rfl ?_
  refine LW_callV (As := [.ref r, .int (nI t)]) (b := a) (st := [.long (aCo A i)]) (ci := 0) (r := (RX0, TX0, 7)) (r_paid ha h hl hP hi hfd ht) YX0_paid rfl dX0_claim_7 mlX0_103 ha.lt0 ha.2.1 ⟨rfl, rfl⟩ (by decide) ⟨Nat.le_refl _, Nat.le_refl _⟩ (Nat.le_of_ble_eq_true rfl) rfl (fun r7 Λc7 Ic7 Lc7 Rc7 hq7 => ?_)
  obtain ⟨rfl, rfl, rfl, hL7, rfl⟩ := hq7
  refine LW_lmul dX0_claim_10 ?_
  refine LW_ldc2 dX0_claim_11 klX0_107 ?_
  refine LW_ldiv dX0_claim_14 (by decide) ?_
  refine LW_lret dX0_claim_15 rfl (Nat.le_of_ble_eq_true rfl) (Nat.le_of_ble_eq_true rfl) ?_
  exact Qj.mk rfl hL7
