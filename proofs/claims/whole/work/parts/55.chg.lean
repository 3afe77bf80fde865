/-! HailClub: what changes it -/
def UJ (z : Nat) : Prop := (3 ≤ z ∧ z < 21) ∨ (52 ≤ z ∧ z < 198) ∨ SJ z
def hCons (A : AS) (H : Nat → AS) : Nat → AS
  | 0 => A
  | k + 1 => H k
/-- the club is A' now, what it was is kept -/
def sPut (S : HS) (A' : AS) : HS := (A', sP S, sB S, sN S, hCons (sA S) (sH S), min 8 (sC S + 1), sF S, sQ S)
theorem HW.up {Λ Λ' : hc_L} {I I' : hc_I} {L L' : hc_J} {R R' : hc_R} {S : HS} {A' : AS} {H' : Nat → AS} {C' : Nat} (h : HW Λ I L R S) (f : Fr UJ Λ I L R Λ' I' L' R') (hs : St Λ' I' L' R' 3 A') (hk : HsK Λ' I' L' R' H' C') : HW Λ' I' L' R' (A', sP S, sB S, sN S, H', C', sF S, sQ S) := by
  obtain ⟨h1, h2, h3, h4, h5, h6, ⟨D, h7⟩, h8, h9⟩ := h
  have hy' := h1.fr f
  have no : ∀ z, z < 198 → ¬ (3 ≤ z ∧ z < 21) → z < 52 → z ≠ 41 → z ≠ 44 → ¬ UJ z := fun z a b c d e q => by
    rcases q with q | q | q
    · exact b q
    · omega
    · have := q.2; omega
  have e45 : I' 45 = I 45 := f.2.1 45 (h1.lt (by decide)) (no _ (by decide) (by decide) (by decide) (by decide) (by decide))
  have e51 : L' 51 = L 51 := f.2.2.1 51 (h1.lt (by decide)) (no _ (by decide) (by decide) (by decide) (by decide) (by decide))
  refine ⟨hy', hs, ⟨h3.1.fr hy'.lw39 f ⟨no _ (by decide) (by decide) (by decide) (by decide) (by decide), no _ (by decide) (by decide) (by decide) (by decide) (by decide)⟩, h3.2⟩, hk, h5.fr h1 hy' f (no _ (by decide) (by decide) (by decide) (by decide) (by decide)) (no _ (by decide) (by decide) (by decide) (by decide) (by decide)), by rw [e51]; exact h6, ⟨D, h7.fr h1 hy'.st21 f (fun z q => ?_)⟩, by rw [e45]; exact h8, by rw [e45]; exact h9⟩
  rcases q with q | q | q
  · omega
  · omega
  · have := q.1; have := q.2; omega
theorem UJ.c {z : Nat} (h : UJ z) : CJ z := by
  rcases h with q | q | q
  · show z < 217; omega
  · show z < 217; omega
  · exact q.1
theorem HsK.put {Λ : hc_L} {I : hc_I} {L : hc_J} {R : hc_R} {H K : Nat → AS} {A : AS} {nx ct : Nat} (h8 : nx < 8) (hK : ∀ k, k < ct → K ((nx + 7 - k) % 8) = H k) (h : HsAt Λ I L R 52 (lpUp K nx A) ((nx + 1) % 8) (min 8 (ct + 1))) : HsK Λ I L R (hCons A H) (min 8 (ct + 1)) := by
  refine ⟨_, _, h, fun k hk => ?_⟩
  unfold lpUp
  cases k with
  | zero => rw [if_pos (by omega)]; rfl
  | succ k =>
    rw [if_neg (by omega)]
    have := hK k (by omega)
    show _ = H k
    rw [← this]
    congr 1
    omega
theorem HsK.pop {Λ : hc_L} {I : hc_I} {L : hc_J} {R : hc_R} {H K : Nat → AS} {nx ct : Nat} (h8 : nx < 8) (hc : ct ≤ 8) (hK : ∀ k, k < ct → K ((nx + 7 - k) % 8) = H k) (h : HsAt Λ I L R 52 K ((nx + 7) % 8) (ct - 1)) : HsK Λ I L R (fun k => H (k + 1)) (ct - 1) := by
  refine ⟨_, _, h, fun k hk => ?_⟩
  have := hK (k + 1) (by omega)
  show _ = H (k + 1)
  rw [← this]
  congr 1
  omega
theorem Fr.keep {Λ : hc_L} {I I' : hc_I} {L L' : hc_J} {R R' : hc_R} (hI : ∀ z, ¬ (z = 52 ∨ (52 + 2 ≤ z ∧ z < 52 + 146)) → I' z = I z) (hL : ∀ z, ¬ (z = 52 ∨ (52 + 2 ≤ z ∧ z < 52 + 146)) → L' z = L z) (hR : ∀ z, ¬ (z = 52 ∨ (52 + 2 ≤ z ∧ z < 52 + 146)) → R' z = R z) : Fr UJ Λ I L R Λ I' L' R' := Fr.of hI hL hR (fun z q => Or.inr (Or.inl (by omega))) (fun z q => Or.inr (Or.inl (by omega))) (fun z q => Or.inr (Or.inl (by omega)))
theorem Fr.st3 {Λ : hc_L} {I I' : hc_I} {L L' : hc_J} {R R' : hc_R} (hI : ∀ z, ¬ (3 ≤ z ∧ z < 21) → I' z = I z) (hL : ∀ z, ¬ (3 ≤ z ∧ z < 21) → L' z = L z) (hR : ∀ z, ¬ (3 ≤ z ∧ z < 21) → R' z = R z) : Fr UJ Λ I L R Λ I' L' R' := Fr.of hI hL hR (fun z q => Or.inl q) (fun z q => Or.inl q) (fun z q => Or.inl q)
theorem HsK.st3 {Λ : hc_L} {I I' : hc_I} {L L' : hc_J} {R R' : hc_R} {H : Nat → AS} {C : Nat} (h : HsK Λ I L R H C) (hY : LY Λ) (hI : ∀ z, ¬ (3 ≤ z ∧ z < 21) → I' z = I z) (hL : ∀ z, ¬ (3 ≤ z ∧ z < 21) → L' z = L z) (hR : ∀ z, ¬ (3 ≤ z ∧ z < 21) → R' z = R z) : HsK Λ I' L' R' H C :=
  h.fr (J := fun z => 3 ≤ z ∧ z < 21) hY hY (Fr.of hI hL hR (fun z q => q) (fun z q => q) (fun z q => q)) (fun z q => by omega)
def qLeaveB (S : HS) (x : Int32) : Bool := aIsX (sA S) x && !aLv (sA S) x.toNatClampNeg
def nLeave (S : HS) (x : Int32) : HS := if qLeaveB S x = true then sPut S (aSLv (sA S) x.toNatClampNeg) else S
set_option maxRecDepth 100000 in
theorem h_leave {Λ : hc_L} {I : hc_I} {L : hc_J} {R : hc_R} {S : HS} (hH : HW Λ I L R S) (x : Int32) : Run xX10_leave [.ref 0, .int x] Λ I L R (HPost (some (.int (hc_b (qLeaveB S x)))) (nLeave S x) Λ I L R) := by
  refine Run.of (by decide +kernel) (Nat.le_of_ble_eq_true rfl) ?_
  show LW _ _ _ [(0, .ref 0), (1, .int x)] _ _ _ _ _ _
  have hY := hH.y
  have hA := hH.s.w
  obtain ⟨K, nx, hK1, hK2⟩ := hH.2.2.2.1
  refine LW_aloadn 0 dX10_leave_0 rfl rfl ?_
  refine gX10_1 dX10_leave_1 flX10_19 (hY.lt (k := 0) (by decide)) (ly0 hY) (lf0_1 hY) ?_
  refine LW_iloadn 1 dX10_leave_4 rfl rfl ?_
  refine LW_callV (As := [.int x]) (b := 3) (st := []) (ci := 6) (r := (RX6, TX6, 15)) (r_isThere hH.s x) YX6_isThere rfl dX10_leave_5 mlX10_145 (hY.lt (k := 3) (by decide)) (ly3 hY) ⟨rfl, rfl⟩ (by decide) ⟨Nat.le_of_ble_eq_true rfl, Nat.le_of_ble_eq_true rfl⟩ (Nat.le_of_ble_eq_true rfl) rfl (fun r5 Λc5 Ic5 Lc5 Rc5 hq5 => ?_)
  obtain ⟨rfl, rfl, rfl, rfl, rfl⟩ := hq5
  refine LW_bif_eq (tgt := 23) dX10_leave_8 (by decide) (fun c8 => ?_) (fun c8 => ?_)
  · refine LW_iconst (v := 0) dX10_leave_23 (by decide) ?_
    refine LW_zret dX10_leave_24 rfl (Nat.le_of_ble_eq_true rfl) (Nat.le_of_ble_eq_true rfl) (Or.inl rfl) ?_
    have e : qLeaveB S x = false := by unfold qLeaveB; rw [c8]; rfl
    have e2 : nLeave S x = S := if_neg (by rw [e]; decide)
    rw [e, e2]
    exact HPost.r hH rfl
  · obtain ⟨k, hkm, hk, rfl, hki⟩ := aIsX_k hA c8
    refine LW_aloadn 0 dX10_leave_11 rfl rfl ?_
    refine gX10_1 dX10_leave_12 flX10_19 (hY.lt (k := 0) (by decide)) (ly0 hY) (lf0_1 hY) ?_
    refine gX6_5 dX10_leave_15 flX10_171 (hY.lt (k := 3) (by decide)) (ly3 hY) (lf3_5 hY) ?_
    refine LW_iloadn 1 dX10_leave_18 rfl rfl ?_
    refine LW_zald dX10_leave_19 (hY.lt (k := 9) (by decide)) (ly9 hY) rfl hk (Nat.le_of_ble_eq_true rfl) ?_
    rw [show I 9 k = hc_b (aLv (sA S) k) from hH.s.lv hkm]
    refine LW_bif_eq (tgt := 25) dX10_leave_20 (by decide) (fun c20 => ?_) (fun c20 => ?_)
    · refine LW_aloadn 0 dX10_leave_25 rfl rfl ?_
      refine gX10_6 dX10_leave_26 flX10_48 (hY.lt (k := 0) (by decide)) (ly0 hY) (lf0_6 hY) ?_
      refine LW_aloadn 0 dX10_leave_29 rfl rfl ?_
      refine gX10_1 dX10_leave_30 flX10_19 (hY.lt (k := 0) (by decide)) (ly0 hY) (lf0_1 hY) ?_
      refine LW_callV (As := [.ref 3]) (b := 52) (st := []) (ci := 3) (r := (RX3, TX3, 3)) (r_keep hK1 hH.s (Or.inl (by decide))) YX3_keep rfl dX10_leave_33 mlX10_113 (hY.lt (k := 52) (by decide)) (ly52 hY) ⟨rfl, rfl⟩ (by decide) ⟨Nat.le_of_ble_eq_true rfl, Nat.le_of_ble_eq_true rfl⟩ (Nat.le_of_ble_eq_true rfl) rfl (fun r33 Λc33 Ic33 Lc33 Rc33 hq33 => ?_)
      obtain ⟨rfl, rfl, hI33, hL33, hR33, hK33, hs33⟩ := hq33
      have hf33 := Fr.keep hI33 hL33 hR33 (Λ := Λ)
      have hk33 := HsK.put hK1.2.1 hK2 hK33
      refine LW_aloadn 0 dX10_leave_36 rfl rfl ?_
      refine gX10_1 dX10_leave_37 flX10_19 (hY.lt (k := 0) (by decide)) (ly0 hY) (lf0_1 hY) ?_
      refine gX6_5 dX10_leave_40 flX10_171 (hY.lt (k := 3) (by decide)) (ly3 hY) (lf3_5 hY) ?_
      refine LW_iloadn 1 dX10_leave_43 rfl rfl ?_
      refine LW_iconst (v := 1) dX10_leave_44 (by decide) ?_
      refine LW_zast dX10_leave_45 (hY.lt (k := 9) (by decide)) (ly9 hY) rfl hk (Nat.le_of_ble_eq_true rfl) ?_
      generalize hI45 : hc_u Ic33 9 k (vp_nar .boolean 1) = I45
      refine LW_iconst (v := 1) dX10_leave_46 (by decide) ?_
      refine LW_zret dX10_leave_47 rfl (Nat.le_of_ble_eq_true rfl) (Nat.le_of_ble_eq_true rfl) (Or.inr rfl) ?_
      have e : qLeaveB S (nI k) = true := by unfold qLeaveB; rw [c8, hc_cl (by omega), c20]; rfl
      have e2 : nLeave S (nI k) = sPut S (aSLv (sA S) k) := by unfold nLeave; rw [if_pos e, hc_cl (by omega)]
      rw [e, e2]
      have hI2 : ∀ z, z ≠ 3 + 6 → I45 z = Ic33 z := fun z hz => by rw [← hI45, hc_u_row _ _ _ _ hz]
      have hs2 := hs33.sLv (I' := I45) (m := k) hkm hI2 (fun q => by rw [← hI45, hc_u_at]; rfl)
      refine ⟨rfl, ?_, Nat.le_add_right _ _, hH.up (hf33.trans ?_) hs2 (hk33.st3 hY (fun z hz => hI2 z (by omega)) (fun _ _ => rfl) (fun _ _ => rfl))⟩
      · exact (hf33.trans (Fr.st3 (fun z hz => hI2 z (by omega)) (fun _ _ => rfl) (fun _ _ => rfl))).mono (fun _ _ q => q.c)
      · exact Fr.st3 (fun z hz => hI2 z (by omega)) (fun _ _ => rfl) (fun _ _ => rfl)
    · refine LW_iconst (v := 0) dX10_leave_23 (by decide) ?_
      refine LW_zret dX10_leave_24 rfl (Nat.le_of_ble_eq_true rfl) (Nat.le_of_ble_eq_true rfl) (Or.inl rfl) ?_
      have e : qLeaveB S (nI k) = false := by unfold qLeaveB; rw [c8, hc_cl (by omega), c20]; rfl
      have e2 : nLeave S (nI k) = S := if_neg (by rw [e]; decide)
      rw [e, e2]
      exact HPost.r hH rfl
def qSetB (S : HS) (x v : Int32) : Bool := (decide (x = 0) || (decide (x = 5) || decide (x = 6))) && (decide (0 ≤ v) && (decide (v ≤ hc_rm7 x.toNatClampNeg) && !decide (v.toInt64 = aRu (sA S) x.toNatClampNeg)))
def nSet (S : HS) (x v : Int32) : HS := if qSetB S x v = true then sPut S (aSRu (sA S) x.toNatClampNeg v.toInt64) else S
set_option maxRecDepth 100000 in
theorem h_set0 {Λ : hc_L} {I : hc_I} {L : hc_J} {R : hc_R} {S : HS} (hH : HW Λ I L R S) (v : Int32) : Run xX10_set [.ref 0, .int 0, .int v] Λ I L R (HPost (some (.int (hc_b (qSetB S 0 v)))) (nSet S 0 v) Λ I L R) := by
  refine Run.of (by decide +kernel) (Nat.le_of_ble_eq_true rfl) ?_
  show LW _ _ _ [(0, .ref 0), (1, .int 0), (2, .int v)] _ _ _ _ _ _
  have hY := hH.y
  have hA := hH.s.w
  obtain ⟨K, nx, hK1, hK2⟩ := hH.2.2.2.1
  refine LW_iloadn 1 dX10_set_0 rfl rfl ?_
  refine LW_if_eq (tgt := 17) dX10_set_1 (by decide) (fun c1 => ?_) (fun c1 => absurd rfl c1)
  refine LW_iloadn 2 dX10_set_17 rfl rfl ?_
  refine LW_if_lt (tgt := 45) dX10_set_18 (by decide) (fun c18 => ?_) (fun c18 => ?_)
  · refine LW_iconst (v := 0) dX10_set_45 (by decide) ?_
    refine LW_zret dX10_set_46 rfl (Nat.le_of_ble_eq_true rfl) (Nat.le_of_ble_eq_true rfl) (Or.inl rfl) ?_
    have e : qSetB S 0 v = false := by
      unfold qSetB
      first | (rw [decide_eq_true (show v.toInt64 = aRu (sA S) (Int32.toNatClampNeg 0) from Classical.not_not.mp c42)]; simp; done) | (rw [decide_eq_false (show ¬ v ≤ hc_rm7 (Int32.toNatClampNeg 0) from Int32.not_le.mpr c27)]; simp; done) | (rw [decide_eq_false (Int32.not_le.mpr c18)]; simp; done)
    have e2 : nSet S 0 v = S := if_neg (by rw [e]; decide)
    rw [e, e2]
    exact HPost.r hH rfl
  · have hv0 : 0 ≤ v := Int32.not_lt.mp c18
    refine LW_iloadn 2 dX10_set_21 rfl rfl ?_
    refine LW_getsR dX10_set_22 (Or.inl flX10_287) ?_
    refine LW_iloadn 1 dX10_set_25 rfl rfl ?_
    refine LW_ialdR dX10_set_26 rfl (by decide) ?_
    refine LW_icmp_gt (tgt := 45) dX10_set_27 (by decide) (fun c27 => ?_) (fun c27 => ?_)
    · refine LW_iconst (v := 0) dX10_set_45 (by decide) ?_
      refine LW_zret dX10_set_46 rfl (Nat.le_of_ble_eq_true rfl) (Nat.le_of_ble_eq_true rfl) (Or.inl rfl) ?_
      have e : qSetB S 0 v = false := by
        unfold qSetB
        first | (rw [decide_eq_true (show v.toInt64 = aRu (sA S) (Int32.toNatClampNeg 0) from Classical.not_not.mp c42)]; simp; done) | (rw [decide_eq_false (show ¬ v ≤ hc_rm7 (Int32.toNatClampNeg 0) from Int32.not_le.mpr c27)]; simp; done) | (rw [decide_eq_false (Int32.not_le.mpr c18)]; simp; done)
      have e2 : nSet S 0 v = S := if_neg (by rw [e]; decide)
      rw [e, e2]
      exact HPost.r hH rfl
    · have hv1 : v ≤ hc_rm7 0 := Int32.not_lt.mp c27
      refine LW_iloadn 2 dX10_set_30 rfl rfl ?_
      refine LW_i2l dX10_set_31 ?_
      refine LW_aloadn 0 dX10_set_32 rfl rfl ?_
      refine gX10_1 dX10_set_33 flX10_19 (hY.lt (k := 0) (by decide)) (ly0 hY) (lf0_1 hY) ?_
      refine gX6_0 dX10_set_36 flX10_109 (hY.lt (k := 3) (by decide)) (ly3 hY) (lf3_0 hY) ?_
      refine LW_iloadn 1 dX10_set_39 rfl rfl ?_
      refine LW_lald dX10_set_40 (hY.lt (k := 4) (by decide)) (ly4 hY) rfl (by decide) (Nat.le_of_ble_eq_true rfl) ?_
      rw [show L 4 0 = aRu (sA S) 0 from hH.s.ru (by decide)]
      refine LW_lcmp dX10_set_41 ?_
      refine LW_lif_ne (tgt := 47) dX10_set_42 (by decide) (fun c42 => ?_) (fun c42 => ?_)
      · have hv2 : ¬ v.toInt64 = aRu (sA S) 0 := c42
        refine LW_aloadn 0 dX10_set_47 rfl rfl ?_
        refine gX10_6 dX10_set_48 flX10_48 (hY.lt (k := 0) (by decide)) (ly0 hY) (lf0_6 hY) ?_
        refine LW_aloadn 0 dX10_set_51 rfl rfl ?_
        refine gX10_1 dX10_set_52 flX10_19 (hY.lt (k := 0) (by decide)) (ly0 hY) (lf0_1 hY) ?_
        refine LW_callV (As := [.ref 3]) (b := 52) (st := []) (ci := 3) (r := (RX3, TX3, 3)) (r_keep hK1 hH.s (Or.inl (by decide))) YX3_keep rfl dX10_set_55 mlX10_113 (hY.lt (k := 52) (by decide)) (ly52 hY) ⟨rfl, rfl⟩ (by decide) ⟨Nat.le_of_ble_eq_true rfl, Nat.le_of_ble_eq_true rfl⟩ (Nat.le_of_ble_eq_true rfl) rfl (fun r55 Λc55 Ic55 Lc55 Rc55 hq55 => ?_)
        obtain ⟨rfl, rfl, hI55, hL55, hR55, hK55, hs55⟩ := hq55
        have hf55 := Fr.keep hI55 hL55 hR55 (Λ := Λ)
        have hk55 := HsK.put hK1.2.1 hK2 hK55
        refine LW_aloadn 0 dX10_set_58 rfl rfl ?_
        refine gX10_1 dX10_set_59 flX10_19 (hY.lt (k := 0) (by decide)) (ly0 hY) (lf0_1 hY) ?_
        refine gX6_0 dX10_set_62 flX10_109 (hY.lt (k := 3) (by decide)) (ly3 hY) (lf3_0 hY) ?_
        refine LW_iloadn 1 dX10_set_65 rfl rfl ?_
        refine LW_iloadn 2 dX10_set_66 rfl rfl ?_
        refine LW_i2l dX10_set_67 ?_
        refine LW_last dX10_set_68 (hY.lt (k := 4) (by decide)) (ly4 hY) rfl (by decide) (Nat.le_of_ble_eq_true rfl) ?_
        generalize hL68 : hc_u Lc55 4 0 v.toInt64 = L68
        refine LW_iconst (v := 1) dX10_set_69 (by decide) ?_
        refine LW_zret dX10_set_70 rfl (Nat.le_of_ble_eq_true rfl) (Nat.le_of_ble_eq_true rfl) (Or.inr rfl) ?_
        have e : qSetB S 0 v = true := by unfold qSetB; rw [decide_eq_true hv0, decide_eq_true (show v ≤ hc_rm7 (Int32.toNatClampNeg 0) from hv1), decide_eq_false (show ¬ v.toInt64 = aRu (sA S) (Int32.toNatClampNeg 0) from hv2)]; rfl
        have e2 : nSet S 0 v = sPut S (aSRu (sA S) 0 v.toInt64) := if_pos e
        rw [e, e2]
        have hL2 : ∀ z, z ≠ 3 + 1 → L68 z = Lc55 z := fun z hz => by rw [← hL68, hc_u_row _ _ _ _ hz]
        have hs2 := hs55.sRu (L' := L68) (j := 0) (v := v.toInt64) hL2 (fun q => by rw [← hL68, hc_u_at])
        refine ⟨rfl, ?_, Nat.le_add_right _ _, hH.up (hf55.trans ?_) hs2 (hk55.st3 hY (fun _ _ => rfl) (fun z hz => hL2 z (by omega)) (fun _ _ => rfl))⟩
        · exact (hf55.trans (Fr.st3 (fun _ _ => rfl) (fun z hz => hL2 z (by omega)) (fun _ _ => rfl))).mono (fun _ _ q => q.c)
        · exact Fr.st3 (fun _ _ => rfl) (fun z hz => hL2 z (by omega)) (fun _ _ => rfl)
      · refine LW_iconst (v := 0) dX10_set_45 (by decide) ?_
        refine LW_zret dX10_set_46 rfl (Nat.le_of_ble_eq_true rfl) (Nat.le_of_ble_eq_true rfl) (Or.inl rfl) ?_
        have e : qSetB S 0 v = false := by
          unfold qSetB
          first | (rw [decide_eq_true (show v.toInt64 = aRu (sA S) (Int32.toNatClampNeg 0) from Classical.not_not.mp c42)]; simp; done) | (rw [decide_eq_false (show ¬ v ≤ hc_rm7 (Int32.toNatClampNeg 0) from Int32.not_le.mpr c27)]; simp; done) | (rw [decide_eq_false (Int32.not_le.mpr c18)]; simp; done)
        have e2 : nSet S 0 v = S := if_neg (by rw [e]; decide)
        rw [e, e2]
        exact HPost.r hH rfl
set_option maxRecDepth 100000 in
theorem h_set5 {Λ : hc_L} {I : hc_I} {L : hc_J} {R : hc_R} {S : HS} (hH : HW Λ I L R S) (v : Int32) : Run xX10_set [.ref 0, .int 5, .int v] Λ I L R (HPost (some (.int (hc_b (qSetB S 5 v)))) (nSet S 5 v) Λ I L R) := by
  refine Run.of (by decide +kernel) (Nat.le_of_ble_eq_true rfl) ?_
  show LW _ _ _ [(0, .ref 0), (1, .int 5), (2, .int v)] _ _ _ _ _ _
  have hY := hH.y
  have hA := hH.s.w
  obtain ⟨K, nx, hK1, hK2⟩ := hH.2.2.2.1
  refine LW_iloadn 1 dX10_set_0 rfl rfl ?_
  refine LW_if_eq (tgt := 17) dX10_set_1 (by decide) (fun c1 => absurd c1 (by decide)) (fun c1 => ?_)
  refine LW_iloadn 1 dX10_set_4 rfl rfl ?_
  refine LW_iconst (v := 5) dX10_set_5 (by decide) ?_
  refine LW_icmp_eq (tgt := 17) dX10_set_6 (by decide) (fun c6 => ?_) (fun c6 => absurd rfl c6)
  refine LW_iloadn 2 dX10_set_17 rfl rfl ?_
  refine LW_if_lt (tgt := 45) dX10_set_18 (by decide) (fun c18 => ?_) (fun c18 => ?_)
  · refine LW_iconst (v := 0) dX10_set_45 (by decide) ?_
    refine LW_zret dX10_set_46 rfl (Nat.le_of_ble_eq_true rfl) (Nat.le_of_ble_eq_true rfl) (Or.inl rfl) ?_
    have e : qSetB S 5 v = false := by
      unfold qSetB
      first | (rw [decide_eq_true (show v.toInt64 = aRu (sA S) (Int32.toNatClampNeg 5) from Classical.not_not.mp c42)]; simp; done) | (rw [decide_eq_false (show ¬ v ≤ hc_rm7 (Int32.toNatClampNeg 5) from Int32.not_le.mpr c27)]; simp; done) | (rw [decide_eq_false (Int32.not_le.mpr c18)]; simp; done)
    have e2 : nSet S 5 v = S := if_neg (by rw [e]; decide)
    rw [e, e2]
    exact HPost.r hH rfl
  · have hv0 : 0 ≤ v := Int32.not_lt.mp c18
    refine LW_iloadn 2 dX10_set_21 rfl rfl ?_
    refine LW_getsR dX10_set_22 (Or.inl flX10_287) ?_
    refine LW_iloadn 1 dX10_set_25 rfl rfl ?_
    refine LW_ialdR dX10_set_26 rfl (by decide) ?_
    refine LW_icmp_gt (tgt := 45) dX10_set_27 (by decide) (fun c27 => ?_) (fun c27 => ?_)
    · refine LW_iconst (v := 0) dX10_set_45 (by decide) ?_
      refine LW_zret dX10_set_46 rfl (Nat.le_of_ble_eq_true rfl) (Nat.le_of_ble_eq_true rfl) (Or.inl rfl) ?_
      have e : qSetB S 5 v = false := by
        unfold qSetB
        first | (rw [decide_eq_true (show v.toInt64 = aRu (sA S) (Int32.toNatClampNeg 5) from Classical.not_not.mp c42)]; simp; done) | (rw [decide_eq_false (show ¬ v ≤ hc_rm7 (Int32.toNatClampNeg 5) from Int32.not_le.mpr c27)]; simp; done) | (rw [decide_eq_false (Int32.not_le.mpr c18)]; simp; done)
      have e2 : nSet S 5 v = S := if_neg (by rw [e]; decide)
      rw [e, e2]
      exact HPost.r hH rfl
    · have hv1 : v ≤ hc_rm7 5 := Int32.not_lt.mp c27
      refine LW_iloadn 2 dX10_set_30 rfl rfl ?_
      refine LW_i2l dX10_set_31 ?_
      refine LW_aloadn 0 dX10_set_32 rfl rfl ?_
      refine gX10_1 dX10_set_33 flX10_19 (hY.lt (k := 0) (by decide)) (ly0 hY) (lf0_1 hY) ?_
      refine gX6_0 dX10_set_36 flX10_109 (hY.lt (k := 3) (by decide)) (ly3 hY) (lf3_0 hY) ?_
      refine LW_iloadn 1 dX10_set_39 rfl rfl ?_
      refine LW_lald dX10_set_40 (hY.lt (k := 4) (by decide)) (ly4 hY) rfl (by decide) (Nat.le_of_ble_eq_true rfl) ?_
      rw [show L 4 5 = aRu (sA S) 5 from hH.s.ru (by decide)]
      refine LW_lcmp dX10_set_41 ?_
      refine LW_lif_ne (tgt := 47) dX10_set_42 (by decide) (fun c42 => ?_) (fun c42 => ?_)
      · have hv2 : ¬ v.toInt64 = aRu (sA S) 5 := c42
        refine LW_aloadn 0 dX10_set_47 rfl rfl ?_
        refine gX10_6 dX10_set_48 flX10_48 (hY.lt (k := 0) (by decide)) (ly0 hY) (lf0_6 hY) ?_
        refine LW_aloadn 0 dX10_set_51 rfl rfl ?_
        refine gX10_1 dX10_set_52 flX10_19 (hY.lt (k := 0) (by decide)) (ly0 hY) (lf0_1 hY) ?_
        refine LW_callV (As := [.ref 3]) (b := 52) (st := []) (ci := 3) (r := (RX3, TX3, 3)) (r_keep hK1 hH.s (Or.inl (by decide))) YX3_keep rfl dX10_set_55 mlX10_113 (hY.lt (k := 52) (by decide)) (ly52 hY) ⟨rfl, rfl⟩ (by decide) ⟨Nat.le_of_ble_eq_true rfl, Nat.le_of_ble_eq_true rfl⟩ (Nat.le_of_ble_eq_true rfl) rfl (fun r55 Λc55 Ic55 Lc55 Rc55 hq55 => ?_)
        obtain ⟨rfl, rfl, hI55, hL55, hR55, hK55, hs55⟩ := hq55
        have hf55 := Fr.keep hI55 hL55 hR55 (Λ := Λ)
        have hk55 := HsK.put hK1.2.1 hK2 hK55
        refine LW_aloadn 0 dX10_set_58 rfl rfl ?_
        refine gX10_1 dX10_set_59 flX10_19 (hY.lt (k := 0) (by decide)) (ly0 hY) (lf0_1 hY) ?_
        refine gX6_0 dX10_set_62 flX10_109 (hY.lt (k := 3) (by decide)) (ly3 hY) (lf3_0 hY) ?_
        refine LW_iloadn 1 dX10_set_65 rfl rfl ?_
        refine LW_iloadn 2 dX10_set_66 rfl rfl ?_
        refine LW_i2l dX10_set_67 ?_
        refine LW_last dX10_set_68 (hY.lt (k := 4) (by decide)) (ly4 hY) rfl (by decide) (Nat.le_of_ble_eq_true rfl) ?_
        generalize hL68 : hc_u Lc55 4 5 v.toInt64 = L68
        refine LW_iconst (v := 1) dX10_set_69 (by decide) ?_
        refine LW_zret dX10_set_70 rfl (Nat.le_of_ble_eq_true rfl) (Nat.le_of_ble_eq_true rfl) (Or.inr rfl) ?_
        have e : qSetB S 5 v = true := by unfold qSetB; rw [decide_eq_true hv0, decide_eq_true (show v ≤ hc_rm7 (Int32.toNatClampNeg 5) from hv1), decide_eq_false (show ¬ v.toInt64 = aRu (sA S) (Int32.toNatClampNeg 5) from hv2)]; rfl
        have e2 : nSet S 5 v = sPut S (aSRu (sA S) 5 v.toInt64) := if_pos e
        rw [e, e2]
        have hL2 : ∀ z, z ≠ 3 + 1 → L68 z = Lc55 z := fun z hz => by rw [← hL68, hc_u_row _ _ _ _ hz]
        have hs2 := hs55.sRu (L' := L68) (j := 5) (v := v.toInt64) hL2 (fun q => by rw [← hL68, hc_u_at])
        refine ⟨rfl, ?_, Nat.le_add_right _ _, hH.up (hf55.trans ?_) hs2 (hk55.st3 hY (fun _ _ => rfl) (fun z hz => hL2 z (by omega)) (fun _ _ => rfl))⟩
        · exact (hf55.trans (Fr.st3 (fun _ _ => rfl) (fun z hz => hL2 z (by omega)) (fun _ _ => rfl))).mono (fun _ _ q => q.c)
        · exact Fr.st3 (fun _ _ => rfl) (fun z hz => hL2 z (by omega)) (fun _ _ => rfl)
      · refine LW_iconst (v := 0) dX10_set_45 (by decide) ?_
        refine LW_zret dX10_set_46 rfl (Nat.le_of_ble_eq_true rfl) (Nat.le_of_ble_eq_true rfl) (Or.inl rfl) ?_
        have e : qSetB S 5 v = false := by
          unfold qSetB
          first | (rw [decide_eq_true (show v.toInt64 = aRu (sA S) (Int32.toNatClampNeg 5) from Classical.not_not.mp c42)]; simp; done) | (rw [decide_eq_false (show ¬ v ≤ hc_rm7 (Int32.toNatClampNeg 5) from Int32.not_le.mpr c27)]; simp; done) | (rw [decide_eq_false (Int32.not_le.mpr c18)]; simp; done)
        have e2 : nSet S 5 v = S := if_neg (by rw [e]; decide)
        rw [e, e2]
        exact HPost.r hH rfl
set_option maxRecDepth 100000 in
theorem h_set6 {Λ : hc_L} {I : hc_I} {L : hc_J} {R : hc_R} {S : HS} (hH : HW Λ I L R S) (v : Int32) : Run xX10_set [.ref 0, .int 6, .int v] Λ I L R (HPost (some (.int (hc_b (qSetB S 6 v)))) (nSet S 6 v) Λ I L R) := by
  refine Run.of (by decide +kernel) (Nat.le_of_ble_eq_true rfl) ?_
  show LW _ _ _ [(0, .ref 0), (1, .int 6), (2, .int v)] _ _ _ _ _ _
  have hY := hH.y
  have hA := hH.s.w
  obtain ⟨K, nx, hK1, hK2⟩ := hH.2.2.2.1
  refine LW_iloadn 1 dX10_set_0 rfl rfl ?_
  refine LW_if_eq (tgt := 17) dX10_set_1 (by decide) (fun c1 => absurd c1 (by decide)) (fun c1 => ?_)
  refine LW_iloadn 1 dX10_set_4 rfl rfl ?_
  refine LW_iconst (v := 5) dX10_set_5 (by decide) ?_
  refine LW_icmp_eq (tgt := 17) dX10_set_6 (by decide) (fun c6 => absurd c6 (by decide)) (fun c6 => ?_)
  refine LW_iloadn 1 dX10_set_9 rfl rfl ?_
  refine LW_bipush (v := 6) dX10_set_10 (by decide) ?_
  refine LW_icmp_eq (tgt := 17) dX10_set_12 (by decide) (fun c12 => ?_) (fun c12 => absurd rfl c12)
  refine LW_iloadn 2 dX10_set_17 rfl rfl ?_
  refine LW_if_lt (tgt := 45) dX10_set_18 (by decide) (fun c18 => ?_) (fun c18 => ?_)
  · refine LW_iconst (v := 0) dX10_set_45 (by decide) ?_
    refine LW_zret dX10_set_46 rfl (Nat.le_of_ble_eq_true rfl) (Nat.le_of_ble_eq_true rfl) (Or.inl rfl) ?_
    have e : qSetB S 6 v = false := by
      unfold qSetB
      first | (rw [decide_eq_true (show v.toInt64 = aRu (sA S) (Int32.toNatClampNeg 6) from Classical.not_not.mp c42)]; simp; done) | (rw [decide_eq_false (show ¬ v ≤ hc_rm7 (Int32.toNatClampNeg 6) from Int32.not_le.mpr c27)]; simp; done) | (rw [decide_eq_false (Int32.not_le.mpr c18)]; simp; done)
    have e2 : nSet S 6 v = S := if_neg (by rw [e]; decide)
    rw [e, e2]
    exact HPost.r hH rfl
  · have hv0 : 0 ≤ v := Int32.not_lt.mp c18
    refine LW_iloadn 2 dX10_set_21 rfl rfl ?_
    refine LW_getsR dX10_set_22 (Or.inl flX10_287) ?_
    refine LW_iloadn 1 dX10_set_25 rfl rfl ?_
    refine LW_ialdR dX10_set_26 rfl (by decide) ?_
    refine LW_icmp_gt (tgt := 45) dX10_set_27 (by decide) (fun c27 => ?_) (fun c27 => ?_)
    · refine LW_iconst (v := 0) dX10_set_45 (by decide) ?_
      refine LW_zret dX10_set_46 rfl (Nat.le_of_ble_eq_true rfl) (Nat.le_of_ble_eq_true rfl) (Or.inl rfl) ?_
      have e : qSetB S 6 v = false := by
        unfold qSetB
        first | (rw [decide_eq_true (show v.toInt64 = aRu (sA S) (Int32.toNatClampNeg 6) from Classical.not_not.mp c42)]; simp; done) | (rw [decide_eq_false (show ¬ v ≤ hc_rm7 (Int32.toNatClampNeg 6) from Int32.not_le.mpr c27)]; simp; done) | (rw [decide_eq_false (Int32.not_le.mpr c18)]; simp; done)
      have e2 : nSet S 6 v = S := if_neg (by rw [e]; decide)
      rw [e, e2]
      exact HPost.r hH rfl
    · have hv1 : v ≤ hc_rm7 6 := Int32.not_lt.mp c27
      refine LW_iloadn 2 dX10_set_30 rfl rfl ?_
      refine LW_i2l dX10_set_31 ?_
      refine LW_aloadn 0 dX10_set_32 rfl rfl ?_
      refine gX10_1 dX10_set_33 flX10_19 (hY.lt (k := 0) (by decide)) (ly0 hY) (lf0_1 hY) ?_
      refine gX6_0 dX10_set_36 flX10_109 (hY.lt (k := 3) (by decide)) (ly3 hY) (lf3_0 hY) ?_
      refine LW_iloadn 1 dX10_set_39 rfl rfl ?_
      refine LW_lald dX10_set_40 (hY.lt (k := 4) (by decide)) (ly4 hY) rfl (by decide) (Nat.le_of_ble_eq_true rfl) ?_
      rw [show L 4 6 = aRu (sA S) 6 from hH.s.ru (by decide)]
      refine LW_lcmp dX10_set_41 ?_
      refine LW_lif_ne (tgt := 47) dX10_set_42 (by decide) (fun c42 => ?_) (fun c42 => ?_)
      · have hv2 : ¬ v.toInt64 = aRu (sA S) 6 := c42
        refine LW_aloadn 0 dX10_set_47 rfl rfl ?_
        refine gX10_6 dX10_set_48 flX10_48 (hY.lt (k := 0) (by decide)) (ly0 hY) (lf0_6 hY) ?_
        refine LW_aloadn 0 dX10_set_51 rfl rfl ?_
        refine gX10_1 dX10_set_52 flX10_19 (hY.lt (k := 0) (by decide)) (ly0 hY) (lf0_1 hY) ?_
        refine LW_callV (As := [.ref 3]) (b := 52) (st := []) (ci := 3) (r := (RX3, TX3, 3)) (r_keep hK1 hH.s (Or.inl (by decide))) YX3_keep rfl dX10_set_55 mlX10_113 (hY.lt (k := 52) (by decide)) (ly52 hY) ⟨rfl, rfl⟩ (by decide) ⟨Nat.le_of_ble_eq_true rfl, Nat.le_of_ble_eq_true rfl⟩ (Nat.le_of_ble_eq_true rfl) rfl (fun r55 Λc55 Ic55 Lc55 Rc55 hq55 => ?_)
        obtain ⟨rfl, rfl, hI55, hL55, hR55, hK55, hs55⟩ := hq55
        have hf55 := Fr.keep hI55 hL55 hR55 (Λ := Λ)
        have hk55 := HsK.put hK1.2.1 hK2 hK55
        refine LW_aloadn 0 dX10_set_58 rfl rfl ?_
        refine gX10_1 dX10_set_59 flX10_19 (hY.lt (k := 0) (by decide)) (ly0 hY) (lf0_1 hY) ?_
        refine gX6_0 dX10_set_62 flX10_109 (hY.lt (k := 3) (by decide)) (ly3 hY) (lf3_0 hY) ?_
        refine LW_iloadn 1 dX10_set_65 rfl rfl ?_
        refine LW_iloadn 2 dX10_set_66 rfl rfl ?_
        refine LW_i2l dX10_set_67 ?_
        refine LW_last dX10_set_68 (hY.lt (k := 4) (by decide)) (ly4 hY) rfl (by decide) (Nat.le_of_ble_eq_true rfl) ?_
        generalize hL68 : hc_u Lc55 4 6 v.toInt64 = L68
        refine LW_iconst (v := 1) dX10_set_69 (by decide) ?_
        refine LW_zret dX10_set_70 rfl (Nat.le_of_ble_eq_true rfl) (Nat.le_of_ble_eq_true rfl) (Or.inr rfl) ?_
        have e : qSetB S 6 v = true := by unfold qSetB; rw [decide_eq_true hv0, decide_eq_true (show v ≤ hc_rm7 (Int32.toNatClampNeg 6) from hv1), decide_eq_false (show ¬ v.toInt64 = aRu (sA S) (Int32.toNatClampNeg 6) from hv2)]; rfl
        have e2 : nSet S 6 v = sPut S (aSRu (sA S) 6 v.toInt64) := if_pos e
        rw [e, e2]
        have hL2 : ∀ z, z ≠ 3 + 1 → L68 z = Lc55 z := fun z hz => by rw [← hL68, hc_u_row _ _ _ _ hz]
        have hs2 := hs55.sRu (L' := L68) (j := 6) (v := v.toInt64) hL2 (fun q => by rw [← hL68, hc_u_at])
        refine ⟨rfl, ?_, Nat.le_add_right _ _, hH.up (hf55.trans ?_) hs2 (hk55.st3 hY (fun _ _ => rfl) (fun z hz => hL2 z (by omega)) (fun _ _ => rfl))⟩
        · exact (hf55.trans (Fr.st3 (fun _ _ => rfl) (fun z hz => hL2 z (by omega)) (fun _ _ => rfl))).mono (fun _ _ q => q.c)
        · exact Fr.st3 (fun _ _ => rfl) (fun z hz => hL2 z (by omega)) (fun _ _ => rfl)
      · refine LW_iconst (v := 0) dX10_set_45 (by decide) ?_
        refine LW_zret dX10_set_46 rfl (Nat.le_of_ble_eq_true rfl) (Nat.le_of_ble_eq_true rfl) (Or.inl rfl) ?_
        have e : qSetB S 6 v = false := by
          unfold qSetB
          first | (rw [decide_eq_true (show v.toInt64 = aRu (sA S) (Int32.toNatClampNeg 6) from Classical.not_not.mp c42)]; simp; done) | (rw [decide_eq_false (show ¬ v ≤ hc_rm7 (Int32.toNatClampNeg 6) from Int32.not_le.mpr c27)]; simp; done) | (rw [decide_eq_false (Int32.not_le.mpr c18)]; simp; done)
        have e2 : nSet S 6 v = S := if_neg (by rw [e]; decide)
        rw [e, e2]
        exact HPost.r hH rfl
set_option maxRecDepth 100000 in
theorem h_setE {Λ : hc_L} {I : hc_I} {L : hc_J} {R : hc_R} {S : HS} (hH : HW Λ I L R S) {x : Int32} (v : Int32) (hx : x ≠ 0 ∧ x ≠ 5 ∧ x ≠ 6) : Run xX10_set [.ref 0, .int x, .int v] Λ I L R (HPost (some (.int (hc_b (qSetB S x v)))) (nSet S x v) Λ I L R) := by
  refine Run.of (by decide +kernel) (Nat.le_of_ble_eq_true rfl) ?_
  show LW _ _ _ [(0, .ref 0), (1, .int x), (2, .int v)] _ _ _ _ _ _
  have hY := hH.y
  refine LW_iloadn 1 dX10_set_0 rfl rfl ?_
  refine LW_if_eq (tgt := 17) dX10_set_1 (by decide) (fun c1 => absurd c1 hx.1) (fun c1 => ?_)
  refine LW_iloadn 1 dX10_set_4 rfl rfl ?_
  refine LW_iconst (v := 5) dX10_set_5 (by decide) ?_
  refine LW_icmp_eq (tgt := 17) dX10_set_6 (by decide) (fun c6 => absurd c6 hx.2.1) (fun c6 => ?_)
  refine LW_iloadn 1 dX10_set_9 rfl rfl ?_
  refine LW_bipush (v := 6) dX10_set_10 (by decide) ?_
  refine LW_icmp_eq (tgt := 17) dX10_set_12 (by decide) (fun c12 => absurd c12 hx.2.2) (fun c12 => ?_)
  refine LW_iconst (v := 0) dX10_set_15 (by decide) ?_
  refine LW_zret dX10_set_16 rfl (Nat.le_of_ble_eq_true rfl) (Nat.le_of_ble_eq_true rfl) (Or.inl rfl) ?_
  have e : qSetB S x v = false := by unfold qSetB; rw [decide_eq_false hx.1, decide_eq_false hx.2.1, decide_eq_false hx.2.2]; rfl
  have e2 : nSet S x v = S := if_neg (by rw [e]; decide)
  rw [e, e2]
  exact HPost.r hH rfl
theorem h_set {Λ : hc_L} {I : hc_I} {L : hc_J} {R : hc_R} {S : HS} (hH : HW Λ I L R S) (x v : Int32) : Run xX10_set [.ref 0, .int x, .int v] Λ I L R (HPost (some (.int (hc_b (qSetB S x v)))) (nSet S x v) Λ I L R) := by
  by_cases k0 : x = 0
  · subst k0; exact h_set0 hH v
  by_cases k5 : x = 5
  · subst k5; exact h_set5 hH v
  by_cases k6 : x = 6
  · subst k6; exact h_set6 hH v
  exact h_setE hH v ⟨k0, k5, k6⟩
def nUndo (S : HS) : HS := if sC S = 0 then S else (sH S 0, sP S, sB S, sN S, fun k => sH S (k + 1), sC S - 1, sF S, sQ S)
set_option maxRecDepth 100000 in
theorem h_undo {Λ : hc_L} {I : hc_I} {L : hc_J} {R : hc_R} {S : HS} (hH : HW Λ I L R S) : Run xX10_undo [.ref 0] Λ I L R (HPost (some (.int (hc_b (decide (¬ sC S = 0))))) (nUndo S) Λ I L R) := by
  refine Run.of (by decide +kernel) (Nat.le_of_ble_eq_true rfl) ?_
  show LW _ _ _ [(0, .ref 0)] _ _ _ _ _ _
  have hY := hH.y
  obtain ⟨K, nx, hK1, hK2⟩ := hH.2.2.2.1
  by_cases h0 : sC S = 0
  · have e2 : nUndo S = S := if_pos h0
    rw [e2, decide_eq_false (fun z => z h0)]
    refine LW_aloadn 0 dX10_undo_0 rfl rfl ?_
    refine gX10_6 dX10_undo_1 flX10_48 (hY.lt (k := 0) (by decide)) (ly0 hY) (lf0_6 hY) ?_
    refine LW_aloadn 0 dX10_undo_4 rfl rfl ?_
    refine gX10_1 dX10_undo_5 flX10_19 (hY.lt (k := 0) (by decide)) (ly0 hY) (lf0_1 hY) ?_
    refine LW_callV (As := [.ref 3]) (b := 52) (st := []) (ci := 3) (r := (RX3, TX3, 3)) (r_takeBack0 hK1 hH.s (Or.inl (by decide)) h0) YX3_takeBack rfl dX10_undo_8 mlX10_191 (hY.lt (k := 52) (by decide)) (ly52 hY) ⟨rfl, rfl⟩ (by decide) ⟨Nat.le_of_ble_eq_true rfl, Nat.le_of_ble_eq_true rfl⟩ (Nat.le_of_ble_eq_true rfl) rfl (fun r8 Λc8 Ic8 Lc8 Rc8 hq8 => ?_)
    obtain ⟨rfl, rfl, rfl, rfl, rfl⟩ := hq8
    refine LW_zret dX10_undo_11 rfl (Nat.le_of_ble_eq_true rfl) (Nat.le_of_ble_eq_true rfl) (hc_b01 _) ?_
    exact HPost.r hH rfl
  · have e2 : nUndo S = (sH S 0, sP S, sB S, sN S, fun k => sH S (k + 1), sC S - 1, sF S, sQ S) := if_neg h0
    rw [e2, decide_eq_true h0]
    refine LW_aloadn 0 dX10_undo_0 rfl rfl ?_
    refine gX10_6 dX10_undo_1 flX10_48 (hY.lt (k := 0) (by decide)) (ly0 hY) (lf0_6 hY) ?_
    refine LW_aloadn 0 dX10_undo_4 rfl rfl ?_
    refine gX10_1 dX10_undo_5 flX10_19 (hY.lt (k := 0) (by decide)) (ly0 hY) (lf0_1 hY) ?_
    refine LW_callV (As := [.ref 3]) (b := 52) (st := []) (ci := 3) (r := (RX3, TX3, 3)) (r_takeBack1 hK1 hH.s (Or.inl (by decide)) (Nat.pos_of_ne_zero h0)) YX3_takeBack rfl dX10_undo_8 mlX10_191 (hY.lt (k := 52) (by decide)) (ly52 hY) ⟨rfl, rfl⟩ (by decide) ⟨Nat.le_of_ble_eq_true rfl, Nat.le_of_ble_eq_true rfl⟩ (Nat.le_of_ble_eq_true rfl) rfl (fun r8 Λc8 Ic8 Lc8 Rc8 hq8 => ?_)
    obtain ⟨rfl, rfl, hI8, hL8, hR8, hK8, hs8⟩ := hq8
    refine LW_zret dX10_undo_11 rfl (Nat.le_of_ble_eq_true rfl) (Nat.le_of_ble_eq_true rfl) (hc_b01 _) ?_
    have hff : Fr UJ Λ I L R Λ Ic8 Lc8 Rc8 := Fr.of hI8 hL8 hR8 (fun z q => by unfold UJ; omega) (fun z q => by unfold UJ; omega) (fun z q => by unfold UJ; omega)
    have e0 : K ((nx + 7) % 8) = sH S 0 := hK2 0 (Nat.pos_of_ne_zero h0)
    rw [e0] at hs8
    exact ⟨rfl, hff.mono (fun _ _ q => q.c), Nat.le_add_right _ _, hH.up hff hs8 (HsK.pop hK1.2.1 hH.c8 hK2 hK8)⟩
theorem aEnd_er {Λ : hc_L} {I : hc_I} {L : hc_J} {R : hc_R} {s : Nat} {A : AS} {pr : Nat → Bool} {er er' : Nat → Nat → Int64} {t t' : Int64} (h : St Λ I L R s (aEnd A pr er t)) (he : ∀ w m, w < 6 → m < 12 → er w m = er' w m) (ht : t = t') : St Λ I L R s (aEnd A pr er' t') := by
  subst ht
  exact ⟨h.1, h.2.1, h.2.2.1, h.2.2.2.1, h.2.2.2.2.1, h.2.2.2.2.2.1, h.2.2.2.2.2.2.1, h.2.2.2.2.2.2.2.1, h.2.2.2.2.2.2.2.2.1, h.2.2.2.2.2.2.2.2.2.1, h.2.2.2.2.2.2.2.2.2.2.1, h.2.2.2.2.2.2.2.2.2.2.2.1, fun w m hw hm => (h.2.2.2.2.2.2.2.2.2.2.2.2 w m hw hm).trans (he w m hw hm)⟩
def aClose (A : AS) (P : LwP) : AS := aEnd A (prX A (-1)) (kR A P (prX A (-1))) (kT A P (prX A (-1)) 10)
def qClose (A : AS) (P : LwP) : Int64 := if abMt A (aM A) = 0 then -1 else kT A P (prX A (-1)) 0
def nClose (S : HS) : HS := if abMt (sA S) (aM (sA S)) = 0 then S else sPut S (aClose (sA S) (sP S))
set_option maxRecDepth 100000 in
theorem h_close {Λ : hc_L} {I : hc_I} {L : hc_J} {R : hc_R} {S : HS} (hH : HW Λ I L R S) (hy : aY (sA S) < 600) (hys : ∀ m, m < aM (sA S) → aYs (sA S) m < 600) : Run xX10_close [.ref 0] Λ I L R (HPost (some (.long (qClose (sA S) (sP S)))) (nClose S) Λ I L R) := by
  refine Run.of (by decide +kernel) (Nat.le_of_ble_eq_true rfl) ?_
  show LW _ _ _ [(0, .ref 0)] _ _ _ _ _ _
  have hY := hH.y
  have hA := hH.s.w
  obtain ⟨K, nx, hK1, hK2⟩ := hH.2.2.2.1
  refine LW_aloadn 0 dX10_close_0 rfl rfl ?_
  refine gX10_1 dX10_close_1 flX10_19 (hY.lt (k := 0) (by decide)) (ly0 hY) (lf0_1 hY) ?_
  refine LW_callV (As := []) (b := 3) (st := []) (ci := 6) (r := (RX6, TX6, 15)) (r_membersThere hH.s) YX6_membersThere rfl dX10_close_4 mlX10_175 (hY.lt (k := 3) (by decide)) (ly3 hY) ⟨rfl, rfl⟩ (by decide) ⟨Nat.le_of_ble_eq_true rfl, Nat.le_of_ble_eq_true rfl⟩ (Nat.le_of_ble_eq_true rfl) rfl (fun r4 Λc4 Ic4 Lc4 Rc4 hq4 => ?_)
  obtain ⟨rfl, rfl, rfl, rfl, rfl⟩ := hq4
  refine LW_if_ne (tgt := 14) dX10_close_7 (by decide) (fun c7 => ?_) (fun c7 => ?_)
  · refine LW_aloadn 0 dX10_close_14 rfl rfl ?_
    refine gX10_6 dX10_close_15 flX10_48 (hY.lt (k := 0) (by decide)) (ly0 hY) (lf0_6 hY) ?_
    refine LW_aloadn 0 dX10_close_18 rfl rfl ?_
    refine gX10_1 dX10_close_19 flX10_19 (hY.lt (k := 0) (by decide)) (ly0 hY) (lf0_1 hY) ?_
    refine LW_callV (As := [.ref 3]) (b := 52) (st := []) (ci := 3) (r := (RX3, TX3, 3)) (r_keep hK1 hH.s (Or.inl (by decide))) YX3_keep rfl dX10_close_22 mlX10_113 (hY.lt (k := 52) (by decide)) (ly52 hY) ⟨rfl, rfl⟩ (by decide) ⟨Nat.le_of_ble_eq_true rfl, Nat.le_of_ble_eq_true rfl⟩ (Nat.le_of_ble_eq_true rfl) rfl (fun r22 Λc22 Ic22 Lc22 Rc22 hq22 => ?_)
    obtain ⟨rfl, rfl, hI22, hL22, hR22, hK22, hs22⟩ := hq22
    have hf22 := Fr.keep hI22 hL22 hR22 (Λ := Λ)
    have hk22 := HsK.put hK1.2.1 hK2 hK22
    have hl22 : LwAt Λ Ic22 39 (sP S) := hH.l.fr hY.lw39 hf22 ⟨by unfold UJ SJ; omega, by unfold UJ SJ; omega⟩
    refine LW_aloadn 0 dX10_close_25 rfl rfl ?_
    refine gX10_8 dX10_close_26 flX10_66 (hY.lt (k := 0) (by decide)) (ly0 hY) (lf0_8 hY) ?_
    refine LW_iconst (v := -1) dX10_close_29 (by decide) ?_
    refine LW_callV (As := [.int (-1)]) (b := 201) (st := []) (ci := 1) (r := (RX1, TX1, 11)) (r_reckon hY.en hs22 hY.as hl22 hH.p (fun k j hk hj => by omega) (-1)) YX1_reckon rfl dX10_close_30 mlX10_181 (hY.lt (k := 201) (by decide)) (ly201 hY) ⟨rfl, rfl⟩ (by decide) ⟨Nat.le_of_ble_eq_true rfl, Nat.le_of_ble_eq_true rfl⟩ (Nat.le_of_ble_eq_true rfl) rfl (fun r30 Λc30 Ic30 Lc30 Rc30 hq30 => ?_)
    obtain ⟨rfl, rfl, hI30, hL30, hR30, hT30, hRw30, hPr30, hPt30⟩ := hq30
    obtain rfl : Rc22 = Rc30 := hR30
    have hf30 : Fr SJ Λ Ic22 Lc22 Rc22 Λ Ic30 Lc30 Rc22 := Fr.of hI30 hL30 (fun _ _ => rfl) kI_s kJ_s (fun z (q : False) => absurd q (fun q => q))
    have hs3 := hs22.fr hY hY.st3 hf30 (fun z q => ⟨q.s.1, fun c => by have := q.s.2; omega⟩)
    have hk3 := hk22.fr hY hY hf30 (fun z q => ⟨q.s.1, fun c => by have := q.s.2; omega⟩)
    refine LW_aloadn 0 dX10_close_33 rfl rfl ?_
    refine gX10_1 dX10_close_34 flX10_19 (hY.lt (k := 0) (by decide)) (ly0 hY) (lf0_1 hY) ?_
    refine LW_aloadn 0 dX10_close_37 rfl rfl ?_
    refine gX10_8 dX10_close_38 flX10_66 (hY.lt (k := 0) (by decide)) (ly0 hY) (lf0_8 hY) ?_
    refine LW_callV (As := [.ref 201]) (b := 3) (st := []) (ci := 6) (r := (RX6, TX6, 15)) (r_endYear hY.en hs3 (pr := prX (sA S) (-1)) hPr30 (fun j _ h => prX_lt h) hy hys) YX6_endYear rfl dX10_close_41 mlX10_184 (hY.lt (k := 3) (by decide)) (ly3 hY) ⟨rfl, rfl⟩ (by decide) ⟨Nat.le_of_ble_eq_true rfl, Nat.le_of_ble_eq_true rfl⟩ (Nat.le_of_ble_eq_true rfl) rfl (fun r41 Λc41 Ic41 Lc41 Rc41 hq41 => ?_)
    obtain ⟨rfl, rfl, hI41, hL41, hR41, hs41⟩ := hq41
    obtain rfl : Rc22 = Rc41 := funext fun z => (hR41 z (fun q => q)).symm
    have hs5 : St Λ Ic41 Lc41 Rc22 3 (aClose (sA S) (sP S)) := aEnd_er hs41 (fun w m hw hm => hRw30 w m hw hm) (hT30 10 (by decide))
    refine LW_aloadn 0 dX10_close_44 rfl rfl ?_
    refine gX10_8 dX10_close_45 flX10_66 (hY.lt (k := 0) (by decide)) (ly0 hY) (lf0_8 hY) ?_
    refine gX1_2 dX10_close_48 flX10_188 (hY.lt (k := 201) (by decide)) (ly201 hY) (lf201_2 hY) ?_
    refine LW_iconst (v := 0) dX10_close_51 (by decide) ?_
    refine LW_lald dX10_close_52 (hY.lt (k := 202) (by decide)) (ly202 hY) rfl (by decide) (Nat.le_of_ble_eq_true rfl) ?_
    rw [show Lc41 202 0 = kT (sA S) (sP S) (prX (sA S) (-1)) 0 from (by rw [hL41 202 (by decide)]; exact hT30 0 (by decide))]
    refine LW_lret dX10_close_53 rfl (Nat.le_of_ble_eq_true rfl) (Nat.le_of_ble_eq_true rfl) ?_
    have e2 : nClose S = sPut S (aClose (sA S) (sP S)) := if_neg c7
    rw [e2]
    have hff : Fr UJ Λ I L R Λ Ic41 Lc41 Rc22 := (hf22.trans (hf30.mono (fun _ _ q => Or.inr (Or.inr q)))).trans (Fr.st3 (fun z hz => hI41 z (by omega)) (fun z hz => hL41 z (by omega)) (fun _ _ => rfl))
    exact ⟨by unfold qClose; rw [if_neg c7], hff.mono (fun _ _ q => q.c), Nat.le_add_right _ _, hH.up hff hs5 (hk3.st3 hY (fun z hz => hI41 z (by omega)) (fun z hz => hL41 z (by omega)) (fun _ _ => rfl))⟩
  · refine LW_ldc2 dX10_close_10 klX10_179 ?_
    refine LW_lret dX10_close_13 rfl (Nat.le_of_ble_eq_true rfl) (Nat.le_of_ble_eq_true rfl) ?_
    have e2 : nClose S = S := if_pos (Classical.not_not.mp c7)
    rw [e2]
    exact HPost.r hH (by unfold qClose; rw [if_pos (Classical.not_not.mp c7)])
def stRow (x y tx ty s : Nat) : Nat → Nat
  | 0 => x
  | 1 => y
  | 2 => tx
  | 3 => ty
  | _ => s
def qStormB (S : HS) (x y tx ty s : Int32) : Bool := decide (aS (sA S) < 16) && (aArea x y tx ty && aStr s)
def stX (x y tx ty s : Int32) : Nat → Nat := stRow x.toNatClampNeg y.toNatClampNeg tx.toNatClampNeg ty.toNatClampNeg s.toNatClampNeg
def qStorm (S : HS) (x y tx ty s : Int32) : Int32 := if qStormB S x y tx ty s = true then abFu (aAddS (sA S) (stX x y tx ty s)) (stX x y tx ty s) (aF (sA S)) else -1
def nStorm (S : HS) (x y tx ty s : Int32) : HS := if qStormB S x y tx ty s = true then sPut S (aAddS (sA S) (stX x y tx ty s)) else S
theorem aArea_k {x y tx ty : Int32} (c : aArea x y tx ty = true) : ∃ a b u v : Nat, (x = nI a ∧ y = nI b ∧ tx = nI u ∧ ty = nI v) ∧ a < 8 ∧ b < 8 ∧ u < 8 ∧ v < 8 ∧ a ≤ u ∧ b ≤ v := by
  simp only [aArea, Bool.and_eq_true, decide_eq_true_eq] at c
  obtain ⟨a, b, rfl, rfl, ha, hb⟩ := aCell_k c.1
  obtain ⟨u, v, rfl, rfl, hu, hv⟩ := aCell_k c.2.1
  exact ⟨a, b, u, v, ⟨rfl, rfl, rfl, rfl⟩, ha, hb, hu, hv, (hc_le (by omega) (by omega)).mp c.2.2.1, (hc_le (by omega) (by omega)).mp c.2.2.2⟩
theorem dvX7 (E : hc_E) (k : Nat) (hk : k < 5) : defaultValue (hc_ty 7 k) = hc_fv E (hc_ty 7 k) 0 0 none := by
  rcases (show k = 0 ∨ k = 1 ∨ k = 2 ∨ k = 3 ∨ k = 4 by omega) with rfl | rfl | rfl | rfl | rfl <;> rfl
set_option maxRecDepth 100000 in
theorem r_StormInit {Λ : hc_L} {I : hc_I} {L : hc_J} {R : hc_R} {w : Nat} (h1 : w < Λ.1) (h2 : Λ.2.1 w = (107, 0)) (a b c d e : Int32) : Run xX7_init [.ref w, .int a, .int b, .int c, .int d, .int e] Λ I L R (Qf (fun z => z = w) (fun _ => False) (fun _ => False) none (fun I' _ _ => ∀ j, I' w j = if j = 4 then e else if j = 3 then d else if j = 2 then c else if j = 1 then b else if j = 0 then a else I w j) Λ I L R) := by
  refine Run.of (by decide +kernel) (Nat.le_of_ble_eq_true rfl) ?_
  show LW _ _ _ [(0, .ref w), (1, .int a), (2, .int b), (3, .int c), (4, .int d), (5, .int e)] _ _ _ _ _ _
  refine LW_aloadn 0 dX7_init_0 rfl rfl ?_
  refine LW_objInit dX7_init_1 mlX7_1 hc_oi hc_oc (by decide) (Nat.le_of_ble_eq_true rfl) ?_
  refine LW_aloadn 0 dX7_init_4 rfl rfl ?_
  refine LW_iloadn 1 dX7_init_5 rfl rfl ?_
  refine pX7_0 dX7_init_6 flX7_7 h1 h2 rfl rfl ?_
  generalize hI6 : hc_u I w 0 a = I6
  refine LW_aloadn 0 dX7_init_9 rfl rfl ?_
  refine LW_iloadn 2 dX7_init_10 rfl rfl ?_
  refine pX7_1 dX7_init_11 flX7_13 h1 h2 rfl rfl ?_
  generalize hI11 : hc_u I6 w 1 b = I11
  refine LW_aloadn 0 dX7_init_14 rfl rfl ?_
  refine LW_iloadn 3 dX7_init_15 rfl rfl ?_
  refine pX7_2 dX7_init_16 flX7_16 h1 h2 rfl rfl ?_
  generalize hI16 : hc_u I11 w 2 c = I16
  refine LW_aloadn 0 dX7_init_19 rfl rfl ?_
  refine LW_iload 4 dX7_init_20 rfl ?_
  refine pX7_3 dX7_init_22 flX7_19 h1 h2 rfl rfl ?_
  generalize hI22 : hc_u I16 w 3 d = I22
  refine LW_aloadn 0 dX7_init_25 rfl rfl ?_
  refine LW_iload 5 dX7_init_26 rfl ?_
  refine pX7_4 dX7_init_28 flX7_22 h1 h2 rfl rfl ?_
  generalize hI28 : hc_u I22 w 4 e = I28
  refine LW_vret dX7_init_31 rfl (Nat.le_of_ble_eq_true rfl) (Nat.le_of_ble_eq_true rfl) ?_
  refine ⟨rfl, rfl, fun z hz => ?_, fun _ _ => rfl, fun _ _ => rfl, fun j => ?_⟩
  · rw [← hI28, hc_u_row _ _ _ _ hz, ← hI22, hc_u_row _ _ _ _ hz, ← hI16, hc_u_row _ _ _ _ hz, ← hI11, hc_u_row _ _ _ _ hz, ← hI6, hc_u_row _ _ _ _ hz]
  · rw [← hI28, hc_u_at, ← hI22, hc_u_at, ← hI16, hc_u_at, ← hI11, hc_u_at, ← hI6, hc_u_at]
set_option maxRecDepth 100000 in
theorem h_storm {Λ : hc_L} {I : hc_I} {L : hc_J} {R : hc_R} {S : HS} (hH : HW Λ I L R S) (hΛ : Λ.1 + 701 < 1000000) (x y tx ty s : Int32) : Run xX10_storm [.ref 0, .int x, .int y, .int tx, .int ty, .int s] Λ I L R (HPost (some (.int (qStorm S x y tx ty s))) (nStorm S x y tx ty s) Λ I L R) := by
  refine Run.of (by decide +kernel) (Nat.le_of_ble_eq_true rfl) ?_
  show LW _ _ _ [(0, .ref 0), (1, .int x), (2, .int y), (3, .int tx), (4, .int ty), (5, .int s)] _ _ _ _ _ _
  have hY := hH.y
  have hA := hH.s.w
  have hs16 := hA.s
  obtain ⟨K, nx, hK1, hK2⟩ := hH.2.2.2.1
  refine LW_aloadn 0 dX10_storm_0 rfl rfl ?_
  refine gX10_1 dX10_storm_1 flX10_19 (hY.lt (k := 0) (by decide)) (ly0 hY) (lf0_1 hY) ?_
  refine gX6_13 dX10_storm_4 flX10_148 (hY.lt (k := 3) (by decide)) (ly3 hY) ?_
  rw [show I 3 13 = nI (aS (sA S)) from hH.s.sc]
  refine LW_bipush (v := 16) dX10_storm_7 (by decide) ?_
  refine LW_icmp_ge (tgt := 31) dX10_storm_9 (by decide) (fun c9 => ?_) (fun c9 => ?_)
  · refine LW_iconst (v := -1) dX10_storm_31 (by decide) ?_
    refine LW_iret dX10_storm_32 rfl (Nat.le_of_ble_eq_true rfl) (Nat.le_of_ble_eq_true rfl) ?_
    have e : qStormB S x y tx ty s = false := by
      unfold qStormB
      first | (rw [c28]; simp; done) | (rw [c20]; simp; done) | (rw [decide_eq_false (fun z => absurd ((hc_le (a := 16) (b := aS (sA S)) (by decide) (by omega)).mp c9) (by omega))]; rfl)
    have e2 : nStorm S x y tx ty s = S := if_neg (by rw [e]; decide)
    rw [e2]
    exact HPost.r hH (by unfold qStorm; rw [if_neg (by rw [e]; decide)])
  · refine LW_iloadn 1 dX10_storm_12 rfl rfl ?_
    refine LW_iloadn 2 dX10_storm_13 rfl rfl ?_
    refine LW_iloadn 3 dX10_storm_14 rfl rfl ?_
    refine LW_iload 4 dX10_storm_15 rfl ?_
    refine LW_callS (As := [.int x, .int y, .int tx, .int ty]) (st := []) (r_isArea x y tx ty) YX10_isArea rfl dX10_storm_17 mlX10_151 (by decide) ⟨Nat.le_of_ble_eq_true rfl, Nat.le_of_ble_eq_true rfl⟩ (Nat.le_of_ble_eq_true rfl) rfl (fun r17 Λc17 Ic17 Lc17 Rc17 hq17 => ?_)
    obtain ⟨rfl, rfl, rfl, rfl, rfl⟩ := hq17
    refine LW_bif_eq (tgt := 31) dX10_storm_20 (by decide) (fun c20 => ?_) (fun c20 => ?_)
    · refine LW_iconst (v := -1) dX10_storm_31 (by decide) ?_
      refine LW_iret dX10_storm_32 rfl (Nat.le_of_ble_eq_true rfl) (Nat.le_of_ble_eq_true rfl) ?_
      have e : qStormB S x y tx ty s = false := by
        unfold qStormB
        first | (rw [c28]; simp; done) | (rw [c20]; simp; done) | (rw [decide_eq_false (fun z => absurd ((hc_le (a := 16) (b := aS (sA S)) (by decide) (by omega)).mp c9) (by omega))]; rfl)
      have e2 : nStorm S x y tx ty s = S := if_neg (by rw [e]; decide)
      rw [e2]
      exact HPost.r hH (by unfold qStorm; rw [if_neg (by rw [e]; decide)])
    · refine LW_iload 5 dX10_storm_23 rfl ?_
      refine LW_callS (As := [.int s]) (st := []) (r_isStrength s) YX10_isStrength rfl dX10_storm_25 mlX10_155 (by decide) ⟨Nat.le_of_ble_eq_true rfl, Nat.le_of_ble_eq_true rfl⟩ (Nat.le_of_ble_eq_true rfl) rfl (fun r25 Λc25 Ic25 Lc25 Rc25 hq25 => ?_)
      obtain ⟨rfl, rfl, rfl, rfl, rfl⟩ := hq25
      refine LW_bif_ne (tgt := 33) dX10_storm_28 (by decide) (fun c28 => ?_) (fun c28 => ?_)
      · have hS16 : aS (sA S) < 16 := Nat.lt_of_not_le (fun z => c9 ((hc_le (a := 16) (b := aS (sA S)) (by decide) (by omega)).mpr z))
        have hok : qStormB S x y tx ty s = true := by unfold qStormB; rw [c20, c28, decide_eq_true hS16]; rfl
        obtain ⟨a, b, u, v, ⟨rfl, rfl, rfl, rfl⟩, ha8, hb8, hu8, hv8, hau, hbv⟩ := aArea_k c20
        obtain ⟨q, rfl, hq1⟩ := aStr_k c28
        have hst : stX (nI a) (nI b) (nI u) (nI v) (nI q) = stRow a b u v q := by unfold stX; rw [hc_cl (by omega), hc_cl (by omega), hc_cl (by omega), hc_cl (by omega), hc_cl (by omega)]
        refine LW_aloadn 0 dX10_storm_33 rfl rfl ?_
        refine gX10_6 dX10_storm_34 flX10_48 (hY.lt (k := 0) (by decide)) (ly0 hY) (lf0_6 hY) ?_
        refine LW_aloadn 0 dX10_storm_37 rfl rfl ?_
        refine gX10_1 dX10_storm_38 flX10_19 (hY.lt (k := 0) (by decide)) (ly0 hY) (lf0_1 hY) ?_
        refine LW_callV (As := [.ref 3]) (b := 52) (st := []) (ci := 3) (r := (RX3, TX3, 3)) (r_keep hK1 hH.s (Or.inl (by decide))) YX3_keep rfl dX10_storm_41 mlX10_113 (hY.lt (k := 52) (by decide)) (ly52 hY) ⟨rfl, rfl⟩ (by decide) ⟨Nat.le_of_ble_eq_true rfl, Nat.le_of_ble_eq_true rfl⟩ (Nat.le_of_ble_eq_true rfl) rfl (fun r41 Λc41 Ic41 Lc41 Rc41 hq41 => ?_)
        obtain ⟨rfl, rfl, hI41, hL41, hR41, hK41, hs41⟩ := hq41
        have hf41 := Fr.keep hI41 hL41 hR41 (Λ := Λ)
        have hk41 := HsK.put hK1.2.1 hK2 hK41
        refine LW_new (ci := 7) (C := RX7) (T := TX7) (N := 5) rfl inX7 tyX7_ok dvX7 dX10_storm_44 clX10_158 insX7 iniX7 (by omega) ⟨Nat.le_of_ble_eq_true rfl, Nat.le_of_ble_eq_true rfl⟩ ?_
        have hY0 := hY
        generalize hw44 : Λ.1 = w44
        have hw238 : 238 ≤ w44 := by rw [← hw44]; exact hY.1
        obtain ⟨Λ44, hΛ44⟩ : ∃ x, x = hc_nw Λ (100 + 7) 0 := ⟨_, rfl⟩
        rw [← hΛ44]
        have hwl : w44 < Λ44.1 := by rw [hΛ44, ← hw44]; exact Nat.lt_succ_self _
        have hwy : Λ44.2.1 w44 = (107, 0) := by rw [hΛ44, ← hw44]; exact hc_nwl Λ 107 0
        have hn0 : Fr (fun _ => False) Λ Ic41 Lc41 Rc41 Λ44 (hc_r Ic41 w44 (fun _ => 0)) (hc_r Lc41 w44 (fun _ => 0)) (hc_r Rc41 w44 (fun _ => none)) := by rw [hΛ44, ← hw44]; exact Fr.new _ _ _ _ _
        generalize hI44 : hc_r Ic41 w44 (fun _ => 0) = I44 at hn0 ⊢
        generalize hL44 : hc_r Lc41 w44 (fun _ => 0) = L44 at hn0 ⊢
        generalize hR44 : hc_r Rc41 w44 (fun _ => none) = R44 at hn0 ⊢
        have hY := hY.fr hn0
        refine LW_dup dX10_storm_47 rfl ?_
        refine LW_iloadn 1 dX10_storm_48 rfl rfl ?_
        refine LW_iloadn 2 dX10_storm_49 rfl rfl ?_
        refine LW_iloadn 3 dX10_storm_50 rfl rfl ?_
        refine LW_iload 4 dX10_storm_51 rfl ?_
        refine LW_iload 5 dX10_storm_53 rfl ?_
        refine LW_callI (As := [.int (nI a), .int (nI b), .int (nI u), .int (nI v), .int (nI q)]) (b := w44) (st := [.ref w44]) (r_StormInit hwl hwy (nI a) (nI b) (nI u) (nI v) (nI q)) YX7_init rfl dX10_storm_55 mlX10_160 hwl (by decide) ⟨Nat.le_of_ble_eq_true rfl, Nat.le_of_ble_eq_true rfl⟩ (Nat.le_of_ble_eq_true rfl) rfl (fun r55 Λc55 Ic55 Lc55 Rc55 hq55 => ?_)
        obtain ⟨rfl, rfl, hI55, hL55, hR55, h55⟩ := hq55
        obtain rfl : L44 = Lc55 := funext fun z => (hL55 z (fun q => q)).symm
        obtain rfl : R44 = Rc55 := funext fun z => (hR55 z (fun q => q)).symm
        have hn1 : Fr (fun _ => False) Λ Ic41 Lc41 Rc41 Λ44 Ic55 L44 R44 := ⟨hn0.1, fun z hz q => by rw [hI55 z (by omega)]; exact hn0.2.1 z hz q, hn0.2.2⟩
        have hs6 := hs41.fr hY0 hY.st3 hn1 (fun z (q : False) => absurd q (fun q => q))
        have hk6 := hk41.fr hY0 hY hn1 (fun z (q : False) => absurd q (fun q => q))
        have hsd : SdAt Λ44 Ic55 w44 (stRow a b u v q) := ⟨hwl, hwy, fun j hj => by
          rw [h55]
          rcases (show j = 0 ∨ j = 1 ∨ j = 2 ∨ j = 3 ∨ j = 4 by omega) with rfl | rfl | rfl | rfl | rfl <;> rfl⟩
        refine LW_astore (ls' := [(0, .ref 0), (1, .int (nI a)), (2, .int (nI b)), (3, .int (nI u)), (4, .int (nI v)), (5, .int (nI q)), (6, .ref w44)]) dX10_storm_58 (by decide) rfl ?_
        refine LW_aloadn 0 dX10_storm_60 rfl rfl ?_
        refine gX10_1 dX10_storm_61 flX10_19 (hY.lt (k := 0) (by decide)) (ly0 hY) (lf0_1 hY) ?_
        refine LW_aload 6 dX10_storm_64 rfl ?_
        refine LW_callV (As := [.ref w44]) (b := 3) (st := []) (ci := 6) (r := (RX6, TX6, 15)) (r_addStorm hY.st3 hwl hwy hs6.sc hS16) YX6_addStorm rfl dX10_storm_66 mlX10_163 (hY.lt (k := 3) (by decide)) (ly3 hY) ⟨rfl, rfl⟩ (by decide) ⟨Nat.le_of_ble_eq_true rfl, Nat.le_of_ble_eq_true rfl⟩ (Nat.le_of_ble_eq_true rfl) rfl (fun r66 Λc66 Ic66 Lc66 Rc66 hq66 => ?_)
        obtain ⟨rfl, rfl, hI66, hL66, hR66, h66, h66r⟩ := hq66
        obtain rfl : L44 = Lc66 := funext fun z => (hL66 z (fun q => q)).symm
        have hs7 : St Λ44 Ic66 L44 Rc66 3 (aAddS (sA S) (stRow a b u v q)) := hs6.addS hsd ⟨hau, hu8, hbv, hv8, hq1.1, hq1.2⟩ hS16 hI66 h66 hR66 h66r
        have hsd2 : SdAt Λ44 Ic66 w44 (stRow a b u v q) := hsd.kp (hI66 w44 (fun e => by omega))
        refine LW_aloadn 0 dX10_storm_69 rfl rfl ?_
        refine gX10_1 dX10_storm_70 flX10_19 (hY.lt (k := 0) (by decide)) (ly0 hY) (lf0_1 hY) ?_
        refine LW_aload 6 dX10_storm_73 rfl ?_
        refine LW_callV (As := [.ref w44]) (b := 3) (st := []) (ci := 6) (r := (RX6, TX6, 15)) (r_fieldsUnder hs7 hsd2 (show a < 8 ∧ b < 8 ∧ u < 8 ∧ v < 8 from ⟨ha8, hb8, hu8, hv8⟩)) YX6_fieldsUnder rfl dX10_storm_75 mlX10_167 (hY.lt (k := 3) (by decide)) (ly3 hY) ⟨rfl, rfl⟩ (by decide) ⟨Nat.le_of_ble_eq_true rfl, Nat.le_of_ble_eq_true rfl⟩ (Nat.le_of_ble_eq_true rfl) rfl (fun r75 Λc75 Ic75 Lc75 Rc75 hq75 => ?_)
        obtain ⟨rfl, rfl, rfl, rfl, rfl⟩ := hq75
        refine LW_iret dX10_storm_78 rfl (Nat.le_of_ble_eq_true rfl) (Nat.le_of_ble_eq_true rfl) ?_
        have e2 : nStorm S (nI a) (nI b) (nI u) (nI v) (nI q) = sPut S (aAddS (sA S) (stRow a b u v q)) := by unfold nStorm; rw [if_pos hok, hst]
        rw [e2]
        have hff : Fr UJ Λ I L R Λ44 Ic66 L44 Rc66 := (hf41.trans (hn1.mono (fun _ _ (q : False) => absurd q (fun q => q)))).trans (Fr.st3 (fun z hz => hI66 z (by omega)) (fun _ _ => rfl) (fun z hz => hR66 z (by omega)))
        refine ⟨by unfold qStorm; rw [if_pos hok, hst]; rfl, hff.mono (fun _ _ q => q.c), ?_, hH.up hff hs7 (hk6.st3 hY (fun z hz => hI66 z (by omega)) (fun _ _ => rfl) (fun z hz => hR66 z (by omega)))⟩
        rw [hΛ44]
        exact Nat.add_le_add_left (by decide) _
      · refine LW_iconst (v := -1) dX10_storm_31 (by decide) ?_
        refine LW_iret dX10_storm_32 rfl (Nat.le_of_ble_eq_true rfl) (Nat.le_of_ble_eq_true rfl) ?_
        have e : qStormB S x y tx ty s = false := by
          unfold qStormB
          first | (rw [c28]; simp; done) | (rw [c20]; simp; done) | (rw [decide_eq_false (fun z => absurd ((hc_le (a := 16) (b := aS (sA S)) (by decide) (by omega)).mp c9) (by omega))]; rfl)
        have e2 : nStorm S x y tx ty s = S := if_neg (by rw [e]; decide)
        rw [e2]
        exact HPost.r hH (by unfold qStorm; rw [if_neg (by rw [e]; decide)])
