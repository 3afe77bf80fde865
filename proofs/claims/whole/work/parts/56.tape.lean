/-! HailClub: the tape -/
/-- the i-th byte of a number, as a number -/
def byN (y : Int32) (i : Nat) : Nat := ((y >>> (tsh i &&& 31)) &&& 255).toNatClampNeg
theorem sb8 : ∀ c, c < 256 → (nI c).toInt8.toInt32 = sb c := by decide +kernel
theorem and255 (x : Int32) : ∃ c, c < 256 ∧ x &&& 255 = nI c := by
  refine ⟨(x &&& 255).toBitVec.toNat, ?_, ?_⟩
  · have : (x &&& 255).toBitVec = x.toBitVec &&& 255#32 := rfl
    rw [this, BitVec.toNat_and]
    exact Nat.lt_of_le_of_lt Nat.and_le_right (by decide)
  · show x &&& 255 = Int32.ofNat _
    apply Int32.toBitVec_inj.mp
    show _ = BitVec.ofNat 32 _
    rw [BitVec.ofNat_toNat, BitVec.setWidth_eq]
theorem and8 (x : Int32) : (x &&& 255).toInt8 = x.toInt8 := by
  have h255 : ∀ i, i < 8 → (255#32).getLsbD i = true := by decide
  apply Int8.toBitVec_inj.mp
  rw [Int32.toBitVec_toInt8, Int32.toBitVec_toInt8]
  apply BitVec.eq_of_getLsbD_eq
  intro i hi
  rw [BitVec.getLsbD_signExtend, BitVec.getLsbD_signExtend, if_pos (by omega), if_pos (by omega)]
  rw [show (x &&& 255).toBitVec = x.toBitVec &&& 255#32 from rfl, BitVec.getLsbD_and, h255 i hi, Bool.and_true]
theorem byN_sb (y : Int32) (i : Nat) : byN y i < 256 ∧ tcb y i = sb (byN y i) ∧ (y >>> (tsh i &&& 31)) &&& 255 = nI (byN y i) := by
  obtain ⟨c, hc, e⟩ := and255 (y >>> (tsh i &&& 31))
  have e2 : byN y i = c := by unfold byN; rw [e, hc_cl (by omega)]
  rw [e2]
  refine ⟨hc, ?_, e⟩
  unfold tcb
  rw [← and8, e, sb8 c hc]
/-- four bytes more; twenty -/
def fd4 (B : Nat → Nat) (n : Nat) (y : Int32) : Nat → Nat := fun j => if n ≤ j ∧ j < n + 4 then byN y (j - n) else B j
def fd20 (B : Nat → Nat) (n : Nat) (a b c d e : Int32) : Nat → Nat := fd4 (fd4 (fd4 (fd4 (fd4 B n a) (n + 4) b) (n + 8) c) (n + 12) d) (n + 16) e
theorem TpAt.f4 {Λ : hc_L} {I I' : hc_I} {n : Nat} {B : Nat → Nat} {y : Int32} (h : TpAt Λ I 1 n B) (h4 : n + 4 ≤ 700) (h1 : I' 1 1 = nI (n + 4)) (h2 : ∀ j, I' (1 + 1) j = if n ≤ j ∧ j < n + 4 then tcb y (j - n) else I (1 + 1) j) : TpAt Λ I' 1 (n + 4) (fd4 B n y) := by
  refine ⟨h.1, h1, h4, fun j hj => ?_⟩
  rw [h2]
  unfold fd4
  obtain ⟨b1, b2, -⟩ := byN_sb y (j - n)
  by_cases c : n ≤ j ∧ j < n + 4
  · rw [if_pos c, if_pos c]
    exact ⟨b2, b1⟩
  · rw [if_neg c, if_neg c]
    exact h.2.2.2 j (by omega)
def qFeed (S : HS) : Int32 := if sN S + 20 ≤ 700 then nI (sN S + 20) else -1
def nFeed (S : HS) (a b c d e : Int32) : HS := if sN S + 20 ≤ 700 then sTape S (sN S + 20) (fd20 (sB S) (sN S) a b c d e) else S
set_option maxRecDepth 100000 in
theorem h_feed {Λ : hc_L} {I : hc_I} {L : hc_J} {R : hc_R} {S : HS} (hH : HW Λ I L R S) (a b c d e : Int32) : Run xX10_feed [.ref 0, .int a, .int b, .int c, .int d, .int e] Λ I L R (HPost (some (.int (qFeed S))) (nFeed S a b c d e) Λ I L R) := by
  refine Run.of (by decide +kernel) (Nat.le_of_ble_eq_true rfl) ?_
  show LW _ _ _ [(0, .ref 0), (1, .int a), (2, .int b), (3, .int c), (4, .int d), (5, .int e)] _ _ _ _ _ _
  have hY := hH.y
  refine LW_aloadn 0 dX10_feed_0 rfl rfl ?_
  refine gX10_0 dX10_feed_1 flX10_12 (hY.lt (k := 0) (by decide)) (ly0 hY) (lf0_0 hY) ?_
  refine LW_bipush (v := 20) dX10_feed_4 (by decide) ?_
  refine LW_callV (As := [.int 20]) (b := 1) (st := []) (ci := 8) (r := (RX8, TX8, 2)) (r_takes hY.tp hH.tn hH.n7) YX8_takes rfl dX10_feed_6 mlX10_70 (hY.lt (k := 1) (by decide)) (ly1 hY) ⟨rfl, rfl⟩ (by decide) ⟨Nat.le_of_ble_eq_true rfl, Nat.le_of_ble_eq_true rfl⟩ (Nat.le_of_ble_eq_true rfl) rfl (fun r6 Λc6 Ic6 Lc6 Rc6 hq6 => ?_)
  obtain ⟨rfl, rfl, rfl, rfl, rfl⟩ := hq6
  refine LW_bif_ne (tgt := 14) dX10_feed_9 (by decide) (fun c9 => ?_) (fun c9 => ?_)
  · have h20 := of_decide_eq_true c9
    refine LW_aloadn 0 dX10_feed_14 rfl rfl ?_
    refine gX10_0 dX10_feed_15 flX10_12 (hY.lt (k := 0) (by decide)) (ly0 hY) (lf0_0 hY) ?_
    refine LW_iloadn 1 dX10_feed_18 rfl rfl ?_
    refine LW_callV (As := [.int a]) (b := 1) (st := []) (ci := 8) (r := (RX8, TX8, 2)) (r_append hY.tp (n := sN S) hH.t.2.1 (by omega) a) YX8_append rfl dX10_feed_19 mlX10_74 (hY.lt (k := 1) (by decide)) (ly1 hY) ⟨rfl, rfl⟩ (by decide) ⟨Nat.le_of_ble_eq_true rfl, Nat.le_of_ble_eq_true rfl⟩ (Nat.le_of_ble_eq_true rfl) rfl (fun r19 Λc19 Ic19 Lc19 Rc19 hq19 => ?_)
    obtain ⟨rfl, rfl, hI19, hL19, hR19, h19a, h19b⟩ := hq19
    obtain rfl : L = Lc19 := funext fun z => (hL19 z (fun q => q)).symm
    obtain rfl : R = Rc19 := funext fun z => (hR19 z (fun q => q)).symm
    have ht19 := hH.t.f4 (I' := Ic19) (y := a) (by omega) h19a h19b
    refine LW_aloadn 0 dX10_feed_22 rfl rfl ?_
    refine gX10_0 dX10_feed_23 flX10_12 (hY.lt (k := 0) (by decide)) (ly0 hY) (lf0_0 hY) ?_
    refine LW_iloadn 2 dX10_feed_26 rfl rfl ?_
    refine LW_callV (As := [.int b]) (b := 1) (st := []) (ci := 8) (r := (RX8, TX8, 2)) (r_append hY.tp (n := sN S + 4) ht19.2.1 (by omega) b) YX8_append rfl dX10_feed_27 mlX10_74 (hY.lt (k := 1) (by decide)) (ly1 hY) ⟨rfl, rfl⟩ (by decide) ⟨Nat.le_of_ble_eq_true rfl, Nat.le_of_ble_eq_true rfl⟩ (Nat.le_of_ble_eq_true rfl) rfl (fun r27 Λc27 Ic27 Lc27 Rc27 hq27 => ?_)
    obtain ⟨rfl, rfl, hI27, hL27, hR27, h27a, h27b⟩ := hq27
    obtain rfl : L = Lc27 := funext fun z => (hL27 z (fun q => q)).symm
    obtain rfl : R = Rc27 := funext fun z => (hR27 z (fun q => q)).symm
    have ht27 := ht19.f4 (I' := Ic27) (y := b) (by omega) h27a h27b
    refine LW_aloadn 0 dX10_feed_30 rfl rfl ?_
    refine gX10_0 dX10_feed_31 flX10_12 (hY.lt (k := 0) (by decide)) (ly0 hY) (lf0_0 hY) ?_
    refine LW_iloadn 3 dX10_feed_34 rfl rfl ?_
    refine LW_callV (As := [.int c]) (b := 1) (st := []) (ci := 8) (r := (RX8, TX8, 2)) (r_append hY.tp (n := sN S + 8) ht27.2.1 (by omega) c) YX8_append rfl dX10_feed_35 mlX10_74 (hY.lt (k := 1) (by decide)) (ly1 hY) ⟨rfl, rfl⟩ (by decide) ⟨Nat.le_of_ble_eq_true rfl, Nat.le_of_ble_eq_true rfl⟩ (Nat.le_of_ble_eq_true rfl) rfl (fun r35 Λc35 Ic35 Lc35 Rc35 hq35 => ?_)
    obtain ⟨rfl, rfl, hI35, hL35, hR35, h35a, h35b⟩ := hq35
    obtain rfl : L = Lc35 := funext fun z => (hL35 z (fun q => q)).symm
    obtain rfl : R = Rc35 := funext fun z => (hR35 z (fun q => q)).symm
    have ht35 := ht27.f4 (I' := Ic35) (y := c) (by omega) h35a h35b
    refine LW_aloadn 0 dX10_feed_38 rfl rfl ?_
    refine gX10_0 dX10_feed_39 flX10_12 (hY.lt (k := 0) (by decide)) (ly0 hY) (lf0_0 hY) ?_
    refine LW_iload 4 dX10_feed_42 rfl ?_
    refine LW_callV (As := [.int d]) (b := 1) (st := []) (ci := 8) (r := (RX8, TX8, 2)) (r_append hY.tp (n := sN S + 12) ht35.2.1 (by omega) d) YX8_append rfl dX10_feed_44 mlX10_74 (hY.lt (k := 1) (by decide)) (ly1 hY) ⟨rfl, rfl⟩ (by decide) ⟨Nat.le_of_ble_eq_true rfl, Nat.le_of_ble_eq_true rfl⟩ (Nat.le_of_ble_eq_true rfl) rfl (fun r44 Λc44 Ic44 Lc44 Rc44 hq44 => ?_)
    obtain ⟨rfl, rfl, hI44, hL44, hR44, h44a, h44b⟩ := hq44
    obtain rfl : L = Lc44 := funext fun z => (hL44 z (fun q => q)).symm
    obtain rfl : R = Rc44 := funext fun z => (hR44 z (fun q => q)).symm
    have ht44 := ht35.f4 (I' := Ic44) (y := d) (by omega) h44a h44b
    refine LW_aloadn 0 dX10_feed_47 rfl rfl ?_
    refine gX10_0 dX10_feed_48 flX10_12 (hY.lt (k := 0) (by decide)) (ly0 hY) (lf0_0 hY) ?_
    refine LW_iload 5 dX10_feed_51 rfl ?_
    refine LW_callV (As := [.int e]) (b := 1) (st := []) (ci := 8) (r := (RX8, TX8, 2)) (r_append hY.tp (n := sN S + 16) ht44.2.1 (by omega) e) YX8_append rfl dX10_feed_53 mlX10_74 (hY.lt (k := 1) (by decide)) (ly1 hY) ⟨rfl, rfl⟩ (by decide) ⟨Nat.le_of_ble_eq_true rfl, Nat.le_of_ble_eq_true rfl⟩ (Nat.le_of_ble_eq_true rfl) rfl (fun r53 Λc53 Ic53 Lc53 Rc53 hq53 => ?_)
    obtain ⟨rfl, rfl, hI53, hL53, hR53, h53a, h53b⟩ := hq53
    obtain rfl : L = Lc53 := funext fun z => (hL53 z (fun q => q)).symm
    obtain rfl : R = Rc53 := funext fun z => (hR53 z (fun q => q)).symm
    have ht53 := ht44.f4 (I' := Ic53) (y := e) (by omega) h53a h53b
    refine LW_aloadn 0 dX10_feed_56 rfl rfl ?_
    refine gX10_0 dX10_feed_57 flX10_12 (hY.lt (k := 0) (by decide)) (ly0 hY) (lf0_0 hY) ?_
    refine gX8_1 dX10_feed_60 flX10_78 (hY.lt (k := 1) (by decide)) (ly1 hY) ?_
    rw [show Ic53 1 1 = nI (sN S + 20) from ht53.2.1]
    refine LW_iret dX10_feed_63 rfl (Nat.le_of_ble_eq_true rfl) (Nat.le_of_ble_eq_true rfl) ?_
    have e2 : nFeed S a b c d e = sTape S (sN S + 20) (fd20 (sB S) (sN S) a b c d e) := if_pos h20
    rw [e2]
    have hI : ∀ z, ¬ (z = 1 ∨ z = 1 + 1) → Ic53 z = I z := fun z hz => by rw [hI53 z hz, hI44 z hz, hI35 z hz, hI27 z hz, hI19 z hz]
    exact ⟨by unfold qFeed; rw [if_pos h20], (Fr.ofI (J := fun z => z = 1 ∨ z = 1 + 1) hI).mono (fun z _ q => by show z < 217; omega), Nat.le_add_right _ _, hH.tape hI ht53⟩
  · refine LW_iconst (v := -1) dX10_feed_12 (by decide) ?_
    refine LW_iret dX10_feed_13 rfl (Nat.le_of_ble_eq_true rfl) (Nat.le_of_ble_eq_true rfl) ?_
    have e2 : nFeed S a b c d e = S := if_neg (of_decide_eq_false c9)
    rw [e2]
    exact HPost.r hH (by unfold qFeed; rw [if_neg (of_decide_eq_false c9)])
theorem HW.rd {Λ Λ' : hc_L} {I I' : hc_I} {L L' : hc_J} {R R' : hc_R} {S : HS} (h : HW Λ I L R S) (f : Fr BJ Λ I L R Λ' I' L' R') {fc : Nat} {q : Int32} (hD : ∃ D, St Λ' I' L' R' 21 D) (h4 : I' 45 4 = nI fc) (h5 : I' 45 5 = q) : HW Λ' I' L' R' (sA S, sP S, sB S, sN S, sH S, sC S, fc, q) := by
  obtain ⟨h1, h2, h3, h4', h5', h6, h7, h8, h9⟩ := h
  have hy' := h1.fr f
  have no : ∀ z, ¬ BJ z → z < 238 → L' z = L z := fun z hz h => f.2.2.1 z (h1.lt h) hz
  refine ⟨hy', h2.fr h1 hy'.st3 f (fun z q => by unfold BJ at q; omega), ⟨h3.1.fr hy'.lw39 f ⟨by unfold BJ; omega, by unfold BJ; omega⟩, h3.2⟩, h4'.fr h1 hy' f (fun z q => by unfold BJ at q; omega), h5'.fr h1 hy' f (by unfold BJ; omega) (by unfold BJ; omega), by rw [no 51 (by unfold BJ; omega) (by decide)]; exact h6, hD, h4, h5⟩
theorem LwAt.any {Λ : hc_L} {I : hc_I} {l : Nat} (h : LwL Λ l) : ∃ P, LwAt Λ I l P := by
  have e : ∀ x : Int32, x = nI x.toBitVec.toNat := fun x => by
    apply Int32.toBitVec_inj.mp
    show _ = BitVec.ofNat 32 _
    rw [BitVec.ofNat_toNat, BitVec.setWidth_eq]
  exact ⟨((I l 2).toBitVec.toNat, fun _ => 0, fun i => (I (l + 1) i).toBitVec.toNat), h, e _, fun i _ => e _⟩
def sBad (S : HS) (c : Nat) (q : Int32) : HS := (sA S, sP S, sB S, 0, sH S, sC S, c, q)
/-- named() -/
def nmdV (S : HS) : Int32 := abNamed (sA S) (lN (loneV (sB S) (sN S)))
def qNamed (S : HS) : Int32 := if aIsX (sA S) (nmdV S) = true then nmdV S else -1
theorem TpAt.no {Λ : hc_L} {I I' : hc_I} {n : Nat} {B : Nat → Nat} (h : TpAt Λ I 1 n B) (h1 : I' 1 1 = nI 0) : TpAt Λ I' 1 0 B := ⟨h.1, h1, Nat.zero_le _, fun j hj => absurd hj (Nat.not_lt_zero j)⟩
theorem BJ.c {z : Nat} (h : BJ z) : CJ z := by
  unfold BJ at h
  show z < 217
  omega
set_option maxRecDepth 100000 in
theorem h_named {Λ : hc_L} {I : hc_I} {L : hc_J} {R : hc_R} {S : HS} (hH : HW Λ I L R S)  : Run xX10_named [.ref 0] Λ I L R (HPost (some (.int (qNamed S))) (sTape S 0 (sB S)) Λ I L R) := by
  refine Run.of (by decide +kernel) (Nat.le_of_ble_eq_true rfl) ?_
  show LW _ _ _ [(0, .ref 0)] _ _ _ _ _ _
  have hY := hH.y
  refine LW_aloadn 0 dX10_named_0 rfl rfl ?_
  refine gX10_5 dX10_named_1 flX10_41 (hY.lt (k := 0) (by decide)) (ly0 hY) (lf0_5 hY) ?_
  refine LW_callV (As := []) (b := 45) (st := []) (ci := 5) (r := (RX5, TX5, 11)) (r_readLoneName hY hH.t hH.2.2.2.2.2.1) YX5_readLoneName rfl dX10_named_4 mlX10_138 (hY.lt (k := 45) (by decide)) (ly45 hY) ⟨rfl, rfl⟩ (by decide) ⟨Nat.le_of_ble_eq_true rfl, Nat.le_of_ble_eq_true rfl⟩ (Nat.le_of_ble_eq_true rfl) rfl (fun r4 Λc4 Ic4 Lc4 Rc4 hq4 => ?_)
  obtain ⟨rfl, rfl, hI4, hL4, hR4, -⟩ := hq4
  obtain rfl : R = Rc4 := funext fun z => (hR4 z (fun q => q)).symm
  have hf1 : Fr BJ Λ I L R Λ Ic4 Lc4 R := Fr.of hI4 hL4 (fun _ _ => rfl) (fun z q => Or.inr (by omega)) (fun z q => Or.inr (by omega)) (fun z q => absurd q (fun q => q))
  obtain ⟨D, hD⟩ := hH.2.2.2.2.2.2.1
  have hH1 : HW Λ Ic4 Lc4 R S := hH.rd hf1 ⟨D, hD.kp3 (fun z _ _ => hI4 z (by omega)) (fun z _ _ => hL4 z (by omega)) (fun _ _ _ => rfl) (fun r hr => by
    have := hY.nf hr
    exact hI4 r (by omega))⟩ (by rw [hI4 45 (by decide)]; exact hH.2.2.2.2.2.2.2.1) (by rw [hI4 45 (by decide)]; exact hH.2.2.2.2.2.2.2.2)
  refine LW_lstoren (ls' := [(0, .ref 0), (1, .long (lN (loneV (sB S) (sN S))))]) dX10_named_7 rfl (by decide) rfl ?_
  refine LW_aloadn 0 dX10_named_8 rfl rfl ?_
  refine gX10_0 dX10_named_9 flX10_12 (hY.lt (k := 0) (by decide)) (ly0 hY) (lf0_0 hY) ?_
  refine LW_iconst (v := 0) dX10_named_12 (by decide) ?_
  refine pX8_1 dX10_named_13 flX10_78 (hY.lt (k := 1) (by decide)) (ly1 hY) ?_
  generalize hI13 : hc_u Ic4 1 1 0 = I13
  have hI0 : ∀ z, ¬ (z = 1 ∨ z = 1 + 1) → I13 z = Ic4 z := fun z hz => by rw [← hI13, hc_u_row _ _ _ _ (by omega)]
  have hH2 : HW Λ I13 Lc4 R (sTape S 0 (sB S)) := hH1.tape hI0 (hH1.t.no (by rw [← hI13, hc_u_at, if_pos rfl]; rfl))
  have hf2 : Fr CJ Λ Ic4 Lc4 R Λ I13 Lc4 R := (Fr.ofI (J := fun z => z = 1 ∨ z = 1 + 1) hI0).mono (fun z _ q => by show z < 217; omega)
  refine LW_aloadn 0 dX10_named_16 rfl rfl ?_
  refine gX10_1 dX10_named_17 flX10_19 (hY.lt (k := 0) (by decide)) (ly0 hY) (lf0_1 hY) ?_
  refine LW_lloadn 1 dX10_named_20 rfl rfl ?_
  refine LW_callV (As := [.long (lN (loneV (sB S) (sN S)))]) (b := 3) (st := []) (ci := 6) (r := (RX6, TX6, 15)) (r_memberNamed hH2.s _) YX6_memberNamed rfl dX10_named_21 mlX10_141 (hY.lt (k := 3) (by decide)) (ly3 hY) ⟨rfl, rfl⟩ (by decide) ⟨Nat.le_of_ble_eq_true rfl, Nat.le_of_ble_eq_true rfl⟩ (Nat.le_of_ble_eq_true rfl) rfl (fun r21 Λc21 Ic21 Lc21 Rc21 hq21 => ?_)
  obtain ⟨rfl, rfl, rfl, rfl, rfl⟩ := hq21
  refine LW_istoren (ls' := [(0, .ref 0), (1, .long (lN (loneV (sB S) (sN S)))), (3, .int (nmdV S))]) dX10_named_24 rfl (by decide) rfl ?_
  refine LW_aloadn 0 dX10_named_25 rfl rfl ?_
  refine gX10_1 dX10_named_26 flX10_19 (hY.lt (k := 0) (by decide)) (ly0 hY) (lf0_1 hY) ?_
  refine LW_iloadn 2 dX10_named_29 rfl rfl ?_
  refine LW_callV (As := [.int (nmdV S)]) (b := 3) (st := []) (ci := 6) (r := (RX6, TX6, 15)) (r_isThere hH2.s (nmdV S)) YX6_isThere rfl dX10_named_30 mlX10_145 (hY.lt (k := 3) (by decide)) (ly3 hY) ⟨rfl, rfl⟩ (by decide) ⟨Nat.le_of_ble_eq_true rfl, Nat.le_of_ble_eq_true rfl⟩ (Nat.le_of_ble_eq_true rfl) rfl (fun r30 Λc30 Ic30 Lc30 Rc30 hq30 => ?_)
  obtain ⟨rfl, rfl, rfl, rfl, rfl⟩ := hq30
  refine LW_bif_eq (tgt := 40) dX10_named_33 (by decide) (fun c33 => ?_) (fun c33 => ?_)
  · refine LW_iconst (v := -1) dX10_named_40 (by decide) ?_
    refine LW_iret dX10_named_41 rfl (Nat.le_of_ble_eq_true rfl) (Nat.le_of_ble_eq_true rfl) ?_
    exact ⟨by unfold qNamed; rw [if_neg (by rw [show aIsX (sA S) (nmdV S) = false from c33]; decide)], (hf1.mono (fun _ _ q => q.c)).trans hf2, Nat.le_add_right _ _, hH2⟩
  · refine LW_iloadn 2 dX10_named_36 rfl rfl ?_
    refine LW_goto (tgt := 41) dX10_named_37 (by decide) ?_
    refine LW_iret dX10_named_41 rfl (Nat.le_of_ble_eq_true rfl) (Nat.le_of_ble_eq_true rfl) ?_
    exact ⟨by unfold qNamed; rw [if_pos (show aIsX (sA S) (nmdV S) = true from c33)], (hf1.mono (fun _ _ q => q.c)).trans hf2, Nat.le_add_right _ _, hH2⟩
abbrev bkR (S : HS) (er : Nat → Nat → Int64) : Option Rs := pBk (kd (sB S) (sN S)) (vl (sB S) (sN S)) 701 0 (aNew er) lp0
/-- a book: the answer and what is held then -/
def nBook (S : HS) (x : Rs) : HS := match x with
  | .inl e => sBad S e.1 (nI (tp (sB S) (sN S) e.2))
  | .inr q => (q.2.1, q.2.2, sB S, 0, sH S, 0, 0, -1)
def qBook (x : Rs) : Int32 := match x with
  | .inl _ => -1
  | .inr q => nI (aF q.2.1)
set_option maxRecDepth 100000 in
theorem h_book {Λ : hc_L} {I : hc_I} {L : hc_J} {R : hc_R} {S : HS} (hH : HW Λ I L R S) (hΛ : Λ.1 + 701 < 1000000) {X : (Nat → Nat → Int64) → Rs} (hX : ∀ er, bkR S er = some (X er)) : Run xX10_book [.ref 0] Λ I L R (fun r Λ' I' L' R' => ∃ er, HPost (some (.int (qBook (X er)))) (nBook S (X er)) Λ I L R r Λ' I' L' R') := by
  refine Run.of (by decide +kernel) (Nat.le_of_ble_eq_true rfl) ?_
  show LW _ _ _ [(0, .ref 0)] _ _ _ _ _ _
  have hY := hH.y
  obtain ⟨D0, hD0⟩ := hH.2.2.2.2.2.2.1
  have hE := hD0.e
  refine LW_aloadn 0 dX10_book_0 rfl rfl ?_
  refine gX10_5 dX10_book_1 flX10_41 (hY.lt (k := 0) (by decide)) (ly0 hY) (lf0_5 hY) ?_
  refine LW_callV (As := []) (b := 45) (st := []) (ci := 5) (r := (RX5, TX5, 11)) (r_readBook hY hH.t hH.2.2.2.2.2.1 hE hΛ hX) YX5_readBook rfl dX10_book_4 mlX10_82 (hY.lt (k := 45) (by decide)) (ly45 hY) ⟨rfl, rfl⟩ (by decide) ⟨Nat.le_of_ble_eq_true rfl, Nat.le_of_ble_eq_true rfl⟩ (Nat.le_of_ble_eq_true rfl) rfl (fun r4 Λc4 Ic4 Lc4 Rc4 hq4 => ?_)
  obtain ⟨er, rfl, hf1, hle, hx⟩ := hq4
  have hY := hY.fr hf1
  refine LW_istoren (ls' := [(0, .ref 0), (1, .int (hc_b (okS (X er))))]) dX10_book_7 rfl (by decide) rfl ?_
  refine LW_aloadn 0 dX10_book_8 rfl rfl ?_
  refine gX10_0 dX10_book_9 flX10_12 (hY.lt (k := 0) (by decide)) (ly0 hY) (lf0_0 hY) ?_
  refine LW_iconst (v := 0) dX10_book_12 (by decide) ?_
  refine pX8_1 dX10_book_13 flX10_78 (hY.lt (k := 1) (by decide)) (ly1 hY) ?_
  generalize hI13 : hc_u Ic4 1 1 0 = I13
  refine LW_iloadn 1 dX10_book_16 rfl rfl ?_
  refine LW_bif_ne (tgt := 22) dX10_book_17 (by decide) (fun c17 => ?_) (fun c17 => ?_)
  · obtain ⟨q, he⟩ := okS_t (show okS (X er) = true from c17)
    rw [he] at hx
    obtain ⟨⟨cn, hW⟩, hlp⟩ := hx
    have hH1 : HW Λc4 Ic4 Lc4 Rc4 (sA S, sP S, sB S, sN S, sH S, sC S, 0, -1) := hH.rd hf1 ⟨_, hW.s⟩ hW.2.2.2.1.1 hW.2.2.2.1.2
    have hI0 : ∀ z, ¬ (z = 1 ∨ z = 1 + 1) → I13 z = Ic4 z := fun z hz => by rw [← hI13, hc_u_row _ _ _ _ (by omega)]
    have hH2 : HW Λc4 I13 Lc4 Rc4 (sTape (sA S, sP S, sB S, sN S, sH S, sC S, 0, -1) 0 (sB S)) := hH1.tape hI0 (hH1.t.no (by rw [← hI13, hc_u_at, if_pos rfl]; rfl))
    have hf2 : Fr CJ Λc4 Ic4 Lc4 Rc4 Λc4 I13 Lc4 Rc4 := (Fr.ofI (J := fun z => z = 1 ∨ z = 1 + 1) hI0).mono (fun z _ q => by show z < 217; omega)
    have hs21 : St Λc4 I13 Lc4 Rc4 21 q.2.1 := hW.s.kp3 (fun z _ _ => hI0 z (by omega)) (fun _ _ _ => rfl) (fun _ _ _ => rfl) (fun r hr => by
      have := hY.nf hr
      exact hI0 r (by omega))
    refine LW_aloadn 0 dX10_book_22 rfl rfl ?_
    refine gX10_1 dX10_book_23 flX10_19 (hY.lt (k := 0) (by decide)) (ly0 hY) (lf0_1 hY) ?_
    refine LW_aloadn 0 dX10_book_26 rfl rfl ?_
    refine gX10_2 dX10_book_27 flX10_23 (hY.lt (k := 0) (by decide)) (ly0 hY) (lf0_2 hY) ?_
    refine LW_callV (As := [.ref 21]) (b := 3) (st := []) (ci := 6) (r := (RX6, TX6, 15)) (r_copyFrom hY.st3 hs21 (Or.inl (by decide))) YX6_copyFrom rfl dX10_book_30 mlX10_86 (hY.lt (k := 3) (by decide)) (ly3 hY) ⟨rfl, rfl⟩ (by decide) ⟨Nat.le_of_ble_eq_true rfl, Nat.le_of_ble_eq_true rfl⟩ (Nat.le_of_ble_eq_true rfl) rfl (fun r30 Λc30 Ic30 Lc30 Rc30 hq30 => ?_)
    obtain ⟨rfl, rfl, hI30, hL30, hR30, hs30⟩ := hq30
    refine LW_aloadn 0 dX10_book_33 rfl rfl ?_
    have hl42 : LwAt Λc4 Ic30 42 q.2.2 := ⟨hW.l.1, by rw [hI30 42 (by decide), hI0 42 (by decide)]; exact hW.l.2.1, fun i hi => by rw [hI30 43 (by decide), hI0 43 (by decide)]; exact hW.l.2.2 i hi⟩
    refine gX10_3 dX10_book_34 flX10_29 (hY.lt (k := 0) (by decide)) (ly0 hY) (lf0_3 hY) ?_
    refine LW_aloadn 0 dX10_book_37 rfl rfl ?_
    refine gX10_4 dX10_book_38 flX10_33 (hY.lt (k := 0) (by decide)) (ly0 hY) (lf0_4 hY) ?_
    refine LW_callV (As := [.ref 42]) (b := 39) (st := []) (ci := 4) (r := (RX4, TX4, 3)) (r_lawCopy hY.lw39 hl42 (Or.inl (by decide))) YX4_copyFrom rfl dX10_book_41 mlX10_90 (hY.lt (k := 39) (by decide)) (ly39 hY) ⟨rfl, rfl⟩ (by decide) ⟨Nat.le_of_ble_eq_true rfl, Nat.le_of_ble_eq_true rfl⟩ (Nat.le_of_ble_eq_true rfl) rfl (fun r41 Λc41 Ic41 Lc41 Rc41 hq41 => ?_)
    obtain ⟨rfl, rfl, hI41, hL41, hR41, hl41⟩ := hq41
    obtain rfl : Lc30 = Lc41 := funext fun z => (hL41 z (fun q => q)).symm
    obtain rfl : Rc30 = Rc41 := funext fun z => (hR41 z (fun q => q)).symm
    refine LW_aloadn 0 dX10_book_44 rfl rfl ?_
    refine gX10_6 dX10_book_45 flX10_48 (hY.lt (k := 0) (by decide)) (ly0 hY) (lf0_6 hY) ?_
    refine LW_iconst (v := 0) dX10_book_48 (by decide) ?_
    refine pX3_2 dX10_book_49 flX10_93 (hY.lt (k := 52) (by decide)) (ly52 hY) ?_
    generalize hI49 : hc_u Ic41 52 2 0 = I49
    refine LW_aloadn 0 dX10_book_52 rfl rfl ?_
    refine gX10_1 dX10_book_53 flX10_19 (hY.lt (k := 0) (by decide)) (ly0 hY) (lf0_1 hY) ?_
    refine gX6_12 dX10_book_56 flX10_96 (hY.lt (k := 3) (by decide)) (ly3 hY) ?_
    rw [show I49 3 12 = nI (aF q.2.1) from (by rw [← hI49, hc_u_row _ _ _ _ (by decide), hI41 3 (by decide)]; exact hs30.fc)]
    refine LW_iret dX10_book_59 rfl (Nat.le_of_ble_eq_true rfl) (Nat.le_of_ble_eq_true rfl) ?_
    have hf3 : Fr (fun z => 3 ≤ z ∧ z < 21) Λc4 I13 Lc4 Rc4 Λc4 Ic30 Lc30 Rc30 := Fr.of hI30 hL30 hR30 (fun z q => by omega) (fun z q => by omega) (fun z q => by omega)
    have hf4 : Fr (fun z => z = 39 ∨ z = 39 + 1) Λc4 Ic30 Lc30 Rc30 Λc4 Ic41 Lc30 Rc30 := Fr.ofI hI41
    have hI5 : ∀ z, z ≠ 52 → I49 z = Ic41 z := fun z hz => by rw [← hI49, hc_u_row _ _ _ _ hz]
    have hf5 : Fr (fun z => z = 52) Λc4 Ic41 Lc30 Rc30 Λc4 I49 Lc30 Rc30 := Fr.ofI hI5
    have hff : Fr (fun z => (3 ≤ z ∧ z < 21) ∨ (z = 39 ∨ z = 39 + 1) ∨ z = 52) Λc4 I13 Lc4 Rc4 Λc4 I49 Lc30 Rc30 := ((hf3.mono (fun _ _ q => Or.inl q)).trans (hf4.mono (fun _ _ q => Or.inr (Or.inl q)))).trans (hf5.mono (fun _ _ q => Or.inr (Or.inr q)))
    have hs6 := hs30.fr hY hY.st3 hf4 (fun z q => by omega)
    have hs7 := hs6.fr hY hY.st3 hf5 (fun z q => by omega)
    have hl7 := hl41.fr hY.lw39 hf5 (by decide)
    obtain ⟨K, nx, hK1, hK2⟩ := hH2.2.2.2.1
    have hK3 := (hK1.fr hY hY hf3 (fun z q => by omega)).fr hY hY hf4 (fun z q => by omega)
    have hKK : HsK Λc4 I49 Lc30 Rc30 (sH S) 0 := by
      refine ⟨K, nx, ⟨hY.hs, hK3.2.1, Nat.zero_le _, ?_, ?_, fun i hi => ?_⟩, fun k hk => absurd hk (Nat.not_lt_zero k)⟩
      · rw [← hI49, hc_u_at, if_neg (by decide)]; exact hK3.2.2.2.1
      · rw [← hI49, hc_u_at, if_pos rfl]; rfl
      · have hst : StL Λc4 (52 + 2 + 18 * i) := (hK3.2.2.2.2.2 i hi).l
        exact (hK3.2.2.2.2.2 i hi).fr hY hst hf5 (fun z q => by omega)
    obtain ⟨g1, g2, g3, g4, g5, g6, ⟨D, g7⟩, g8, g9⟩ := hH2
    have e45 : I49 45 = I13 45 := hff.2.1 45 (hY.lt (by decide)) (by omega)
    have e51 : Lc30 51 = Lc4 51 := hff.2.2.1 51 (hY.lt (by decide)) (by omega)
    refine ⟨er, by rw [he]; rfl, ((hf1.mono (fun _ _ q => q.c)).trans hf2).trans (hff.mono (fun z _ q => by show z < 217; omega)), hle, ?_⟩
    rw [he]
    exact ⟨hY, hs7, ⟨hl7, hlp⟩, hKK, g5.fr hY hY hff (by omega) (by omega), by rw [e51]; exact g6, ⟨D, g7.fr hY hY.st21 hff (fun z q => by omega)⟩, by rw [e45]; exact g8, by rw [e45]; exact g9⟩
  · obtain ⟨e, he⟩ := okS_f (show okS (X er) = false from c17)
    rw [he] at hx
    have hH1 : HW Λc4 Ic4 Lc4 Rc4 (sA S, sP S, sB S, sN S, sH S, sC S, e.1, nI (tp (sB S) (sN S) e.2)) := hH.rd hf1 hx.2.2.2 hx.2.1 hx.2.2.1
    have hI0 : ∀ z, ¬ (z = 1 ∨ z = 1 + 1) → I13 z = Ic4 z := fun z hz => by rw [← hI13, hc_u_row _ _ _ _ (by omega)]
    have hH2 : HW Λc4 I13 Lc4 Rc4 (sTape (sA S, sP S, sB S, sN S, sH S, sC S, e.1, nI (tp (sB S) (sN S) e.2)) 0 (sB S)) := hH1.tape hI0 (hH1.t.no (by rw [← hI13, hc_u_at, if_pos rfl]; rfl))
    have hf2 : Fr CJ Λc4 Ic4 Lc4 Rc4 Λc4 I13 Lc4 Rc4 := (Fr.ofI (J := fun z => z = 1 ∨ z = 1 + 1) hI0).mono (fun z _ q => by show z < 217; omega)
    refine LW_iconst (v := -1) dX10_book_20 (by decide) ?_
    refine LW_iret dX10_book_21 rfl (Nat.le_of_ble_eq_true rfl) (Nat.le_of_ble_eq_true rfl) ?_
    exact ⟨er, by rw [he]; rfl, (hf1.mono (fun _ _ q => q.c)).trans hf2, hle, by rw [he]; exact hH2⟩
def bOth (A : AS) : Int64 := abAllP A (aF A) - abPts A (aM A - 1) (aF A)
def bIn (A : AS) : Int64 := if bOth A ≤ 0 then 0 else if aRu A 1 * abPts A (aM A - 1) (aF A) / bOth A < 9999999 then aRu A 1 * abPts A (aM A - 1) (aF A) / bOth A else 9999999
abbrev jnR (S : HS) (P : LwP) : Option Rs := pJn (kd (sB S) (sN S)) (vl (sB S) (sN S)) (sA S) P
def aJoin (A : AS) : AS := aSRu A 1 (aRu A 1 + bIn A)
def nJoin (S : HS) (x : Rs) : HS := match x with
  | .inl e => sBad S e.1 (nI (tp (sB S) (sN S) e.2))
  | .inr q => (aJoin q.2.1, sP S, sB S, 0, hCons (sA S) (sH S), min 8 (sC S + 1), 0, -1)
def qJoin (x : Rs) : Int32 := match x with
  | .inl _ => -1
  | .inr q => (bIn q.2.1).toInt32
set_option maxRecDepth 100000 in
theorem r_buyIn {Λ : hc_L} {I : hc_I} {L : hc_J} {R : hc_R} {A : AS} (h : St Λ I L R 21 A) (h1 : 1 ≤ aM A) : Run xX10_buyIn [.ref 21, .int (nI (aM A - 1))] Λ I L R (Qr (some (.long (bIn A))) Λ I L R) := by
  refine Run.of (by decide +kernel) (Nat.le_of_ble_eq_true rfl) ?_
  show LW _ _ _ [(0, .ref 21), (1, .int (nI (aM A - 1)))] _ _ _ _ _ _
  have hm12 := h.w.m
  refine LW_aloadn 0 dX10_buyIn_0 rfl rfl ?_
  refine LW_iloadn 1 dX10_buyIn_1 rfl rfl ?_
  refine LW_callV (As := [.int (nI (aM A - 1))]) (b := 21) (st := []) (ci := 6) (r := (RX6, TX6, 15)) (r_pointsOf h (k := aM A - 1) (by omega)) YX6_pointsOf rfl dX10_buyIn_2 mlX10_116 h.l.lt0 h.l.2.1 ⟨rfl, rfl⟩ (by decide) ⟨Nat.le_of_ble_eq_true rfl, Nat.le_of_ble_eq_true rfl⟩ (Nat.le_of_ble_eq_true rfl) rfl (fun r2 Λc2 Ic2 Lc2 Rc2 hq2 => ?_)
  obtain ⟨rfl, rfl, rfl, rfl, rfl⟩ := hq2
  refine LW_lstoren (ls' := [(0, .ref 21), (1, .int (nI (aM A - 1))), (2, .long (abPts A (aM A - 1) (aF A)))]) dX10_buyIn_5 rfl (by decide) rfl ?_
  refine LW_aloadn 0 dX10_buyIn_6 rfl rfl ?_
  refine LW_callV (As := []) (b := 21) (st := []) (ci := 6) (r := (RX6, TX6, 15)) (r_allPoints h) YX6_allPoints rfl dX10_buyIn_7 mlX10_120 h.l.lt0 h.l.2.1 ⟨rfl, rfl⟩ (by decide) ⟨Nat.le_of_ble_eq_true rfl, Nat.le_of_ble_eq_true rfl⟩ (Nat.le_of_ble_eq_true rfl) rfl (fun r7 Λc7 Ic7 Lc7 Rc7 hq7 => ?_)
  obtain ⟨rfl, rfl, rfl, rfl, rfl⟩ := hq7
  refine LW_lloadn 2 dX10_buyIn_10 rfl rfl ?_
  refine LW_lsub dX10_buyIn_11 ?_
  rw [show ((abAllP A (aF A)) - (abPts A (aM A - 1) (aF A))) = bOth A from rfl]
  refine LW_lstore (ls' := [(0, .ref 21), (1, .int (nI (aM A - 1))), (2, .long (abPts A (aM A - 1) (aF A))), (4, .long (bOth A))]) dX10_buyIn_12 (by decide) rfl ?_
  refine LW_lload 3 dX10_buyIn_14 rfl ?_
  refine LW_lconst (v := 0) dX10_buyIn_16 (by decide) ?_
  refine LW_lcmp dX10_buyIn_17 ?_
  refine LW_lif_gt (tgt := 23) dX10_buyIn_18 (by decide) (fun c18 => ?_) (fun c18 => ?_)
  · refine LW_ldc2 dX10_buyIn_23 klX10_124 ?_
    refine LW_aloadn 0 dX10_buyIn_26 rfl rfl ?_
    refine gX6_0 dX10_buyIn_27 flX10_109 h.l.lt0 h.l.2.1 (h.l.f 0 (by decide)) ?_
    refine LW_iconst (v := 1) dX10_buyIn_30 (by decide) ?_
    refine LW_lald dX10_buyIn_31 (h.l.lt 1 (by decide)) h.l.2.2.1 rfl (by decide) (Nat.le_of_ble_eq_true rfl) ?_
    rw [show L (21 + 1) 1 = aRu A 1 from h.ru (by decide)]
    refine LW_lloadn 2 dX10_buyIn_32 rfl rfl ?_
    refine LW_lmul dX10_buyIn_33 ?_
    refine LW_lload 3 dX10_buyIn_34 rfl ?_
    refine LW_ldiv dX10_buyIn_36 (fun e => absurd (show bOth A ≤ 0 by rw [e]; decide) (Int64.not_le.mpr c18)) ?_
    refine LW_lmin dX10_buyIn_37 mlX10_126 (by decide) ⟨Nat.le_refl _, Nat.le_refl _⟩ (Nat.le_of_ble_eq_true rfl) ?_
    refine LW_lret dX10_buyIn_40 rfl (Nat.le_of_ble_eq_true rfl) (Nat.le_of_ble_eq_true rfl) ?_
    refine Qr.mk ?_
    unfold bIn
    rw [if_neg (Int64.not_le.mpr c18)]
  · refine LW_lconst (v := 0) dX10_buyIn_21 (by decide) ?_
    refine LW_lret dX10_buyIn_22 rfl (Nat.le_of_ble_eq_true rfl) (Nat.le_of_ble_eq_true rfl) ?_
    refine Qr.mk ?_
    unfold bIn
    rw [if_pos (Int64.not_lt.mp c18)]
theorem pJl_m {K V : Nat → Nat} : ∀ f i A P q, pJl K V f i A P = some (.inr q) → aM q.2.1 = aM A
  | 0, _, _, _, _, h => by cases h
  | f + 1, i, A, P, q, h => by
    rw [pJl] at h
    split at h
    · cases h; rfl
    · split at h
      · split at h
        · cases h
        · rename_i q' e
          have e2 := pDo_r e
          have := pJl_m f _ _ _ _ h
          rw [this, e2]
          rfl
      · cases h
theorem pJn_m {K V : Nat → Nat} {A : AS} {P : LwP} {q : Nat × AS × LwP} (h : pJn K V A P = some (.inr q)) : 1 ≤ aM q.2.1 := by
  unfold pJn at h
  split at h
  · cases h
  · rename_i q' e
    rw [pJl_m _ _ _ _ _ h]
    unfold pName at e
    repeat (split at e)
    all_goals first | cases e | skip
    exact Nat.le_add_left 1 _
set_option maxRecDepth 100000 in
theorem h_join {Λ : hc_L} {I : hc_I} {L : hc_J} {R : hc_R} {S : HS} (hH : HW Λ I L R S) (hΛ : Λ.1 + 701 < 1000000) {X : LwP → Rs} (hX : ∀ P, jnR S P = some (X P)) : Run xX10_join [.ref 0] Λ I L R (fun r Λ' I' L' R' => ∃ P, HPost (some (.int (qJoin (X P)))) (nJoin S (X P)) Λ I L R r Λ' I' L' R') := by
  refine Run.of (by decide +kernel) (Nat.le_of_ble_eq_true rfl) ?_
  show LW _ _ _ [(0, .ref 0)] _ _ _ _ _ _
  have hY := hH.y
  refine LW_aloadn 0 dX10_join_0 rfl rfl ?_
  refine gX10_2 dX10_join_1 flX10_23 (hY.lt (k := 0) (by decide)) (ly0 hY) (lf0_2 hY) ?_
  refine LW_aloadn 0 dX10_join_4 rfl rfl ?_
  refine gX10_1 dX10_join_5 flX10_19 (hY.lt (k := 0) (by decide)) (ly0 hY) (lf0_1 hY) ?_
  refine LW_callV (As := [.ref 3]) (b := 21) (st := []) (ci := 6) (r := (RX6, TX6, 15)) (r_copyFrom hY.st21 hH.s (Or.inr (by decide))) YX6_copyFrom rfl dX10_join_8 mlX10_86 (hY.lt (k := 21) (by decide)) (ly21 hY) ⟨rfl, rfl⟩ (by decide) ⟨Nat.le_of_ble_eq_true rfl, Nat.le_of_ble_eq_true rfl⟩ (Nat.le_of_ble_eq_true rfl) rfl (fun r8 Λc8 Ic8 Lc8 Rc8 hq8 => ?_)
  obtain ⟨rfl, rfl, hI8, hL8, hR8, hs8⟩ := hq8
  have hf0 : Fr BJ Λ I L R Λ Ic8 Lc8 Rc8 := Fr.of hI8 hL8 hR8 (fun z q => Or.inl (by omega)) (fun z q => Or.inl (by omega)) (fun z q => Or.inl (by omega))
  have hH0 : HW Λ Ic8 Lc8 Rc8 S := hH.rd hf0 ⟨_, hs8⟩ (by rw [hI8 45 (by decide)]; exact hH.2.2.2.2.2.2.2.1) (by rw [hI8 45 (by decide)]; exact hH.2.2.2.2.2.2.2.2)
  obtain ⟨P, hP⟩ := LwAt.any (I := Ic8) hY.lw42
  refine LW_aloadn 0 dX10_join_11 rfl rfl ?_
  refine gX10_5 dX10_join_12 flX10_41 (hY.lt (k := 0) (by decide)) (ly0 hY) (lf0_5 hY) ?_
  refine LW_callV (As := []) (b := 45) (st := []) (ci := 5) (r := (RX5, TX5, 11)) (r_readJoiner hY hH0.t hH0.2.2.2.2.2.1 hs8 hP (by omega) (hX P)) YX5_readJoiner rfl dX10_join_15 mlX10_99 (hY.lt (k := 45) (by decide)) (ly45 hY) ⟨rfl, rfl⟩ (by decide) ⟨Nat.le_of_ble_eq_true rfl, Nat.le_of_ble_eq_true rfl⟩ (Nat.le_of_ble_eq_true rfl) rfl (fun r15 Λc15 Ic15 Lc15 Rc15 hq15 => ?_)
  obtain ⟨rfl, hf1, hle, hx⟩ := hq15
  have hY := hY.fr hf1
  refine LW_istoren (ls' := [(0, .ref 0), (1, .int (hc_b (okS (X P))))]) dX10_join_18 rfl (by decide) rfl ?_
  refine LW_aloadn 0 dX10_join_19 rfl rfl ?_
  refine gX10_0 dX10_join_20 flX10_12 (hY.lt (k := 0) (by decide)) (ly0 hY) (lf0_0 hY) ?_
  refine LW_iconst (v := 0) dX10_join_23 (by decide) ?_
  refine pX8_1 dX10_join_24 flX10_78 (hY.lt (k := 1) (by decide)) (ly1 hY) ?_
  generalize hI24 : hc_u Ic15 1 1 0 = I24
  refine LW_iloadn 1 dX10_join_27 rfl rfl ?_
  refine LW_bif_ne (tgt := 33) dX10_join_28 (by decide) (fun c28 => ?_) (fun c28 => ?_)
  · obtain ⟨q, he⟩ := okS_t (show okS (X P) = true from c28)
    rw [he] at hx
    obtain ⟨⟨cn, hW⟩, -⟩ := hx
    have hH1 : HW Λc15 Ic15 Lc15 Rc15 (sA S, sP S, sB S, sN S, sH S, sC S, 0, -1) := hH0.rd hf1 ⟨_, hW.s⟩ hW.2.2.2.1.1 hW.2.2.2.1.2
    have hI0 : ∀ z, ¬ (z = 1 ∨ z = 1 + 1) → I24 z = Ic15 z := fun z hz => by rw [← hI24, hc_u_row _ _ _ _ (by omega)]
    have hH2 : HW Λc15 I24 Lc15 Rc15 (sTape (sA S, sP S, sB S, sN S, sH S, sC S, 0, -1) 0 (sB S)) := hH1.tape hI0 (hH1.t.no (by rw [← hI24, hc_u_at, if_pos rfl]; rfl))
    have hf2 : Fr CJ Λc15 Ic15 Lc15 Rc15 Λc15 I24 Lc15 Rc15 := (Fr.ofI (J := fun z => z = 1 ∨ z = 1 + 1) hI0).mono (fun z _ q => by show z < 217; omega)
    have hs21 : St Λc15 I24 Lc15 Rc15 21 q.2.1 := hW.s.kp3 (fun z _ _ => hI0 z (by omega)) (fun _ _ _ => rfl) (fun _ _ _ => rfl) (fun r hr => by
      have := hY.nf hr
      exact hI0 r (by omega))
    have hm1 : 1 ≤ aM q.2.1 := pJn_m ((hX P).trans (by rw [he]))
    refine LW_aloadn 0 dX10_join_33 rfl rfl ?_
    refine gX10_2 dX10_join_34 flX10_23 (hY.lt (k := 0) (by decide)) (ly0 hY) (lf0_2 hY) ?_
    refine LW_aloadn 0 dX10_join_37 rfl rfl ?_
    refine gX10_2 dX10_join_38 flX10_23 (hY.lt (k := 0) (by decide)) (ly0 hY) (lf0_2 hY) ?_
    refine gX6_11 dX10_join_41 flX10_102 (hY.lt (k := 21) (by decide)) (ly21 hY) ?_
    rw [show I24 21 11 = nI (aM q.2.1) from hs21.m]
    refine LW_iconst (v := 1) dX10_join_44 (by decide) ?_
    refine LW_isub dX10_join_45 ?_
    rw [show ((nI (aM q.2.1)) - 1) = nI (aM q.2.1 - 1) from (by rw [show (1 : Int32) = nI 1 from rfl, nI_sub hm1])]
    refine LW_callS (As := [.ref 21, .int (nI (aM q.2.1 - 1))]) (st := []) (r_buyIn hs21 hm1) YX10_buyIn rfl dX10_join_46 mlX10_105 (by decide) ⟨Nat.le_of_ble_eq_true rfl, Nat.le_of_ble_eq_true rfl⟩ (Nat.le_of_ble_eq_true rfl) rfl (fun r46 Λc46 Ic46 Lc46 Rc46 hq46 => ?_)
    obtain ⟨rfl, rfl, rfl, rfl, rfl⟩ := hq46
    refine LW_lstoren (ls' := [(0, .ref 0), (1, .int (hc_b (okS (X P)))), (2, .long (bIn q.2.1))]) dX10_join_49 rfl (by decide) rfl ?_
    refine LW_aloadn 0 dX10_join_50 rfl rfl ?_
    refine gX10_2 dX10_join_51 flX10_23 (hY.lt (k := 0) (by decide)) (ly0 hY) (lf0_2 hY) ?_
    refine gX6_0 dX10_join_54 flX10_109 (hY.lt (k := 21) (by decide)) (ly21 hY) (lf21_0 hY) ?_
    refine LW_iconst (v := 1) dX10_join_57 (by decide) ?_
    refine LW_dup2 dX10_join_58 rfl rfl ?_
    refine LW_lald dX10_join_59 (hY.lt (k := 22) (by decide)) (ly22 hY) rfl (by decide) (Nat.le_of_ble_eq_true rfl) ?_
    rw [show Lc15 22 1 = aRu q.2.1 1 from hs21.ru (by decide)]
    refine LW_lloadn 2 dX10_join_60 rfl rfl ?_
    refine LW_ladd dX10_join_61 ?_
    refine LW_last dX10_join_62 (hY.lt (k := 22) (by decide)) (ly22 hY) rfl (by decide) (Nat.le_of_ble_eq_true rfl) ?_
    generalize hL62 : hc_u Lc15 22 1 ((aRu q.2.1 1) + (bIn q.2.1)) = L62
    have hL6 : ∀ z, z ≠ 21 + 1 → L62 z = Lc15 z := fun z hz => by rw [← hL62, hc_u_row _ _ _ _ hz]
    have hs21a : St Λc15 I24 L62 Rc15 21 (aJoin q.2.1) := hs21.sRu (L' := L62) (j := 1) (v := aRu q.2.1 1 + bIn q.2.1) hL6 (fun k => by rw [← hL62, hc_u_at])
    have hf3 : Fr BJ Λc15 I24 Lc15 Rc15 Λc15 I24 L62 Rc15 := Fr.ofL (fun z hz => hL6 z (fun e => hz (Or.inl (by omega))))
    have hH3 : HW Λc15 I24 L62 Rc15 (sA S, sP S, sB S, 0, sH S, sC S, 0, -1) := hH2.rd hf3 ⟨_, hs21a⟩ hH2.2.2.2.2.2.2.2.1 hH2.2.2.2.2.2.2.2.2
    have hs3k := hH3.s
    obtain ⟨K, nx, hK1, hK2⟩ := hH3.2.2.2.1
    refine LW_aloadn 0 dX10_join_63 rfl rfl ?_
    refine gX10_6 dX10_join_64 flX10_48 (hY.lt (k := 0) (by decide)) (ly0 hY) (lf0_6 hY) ?_
    refine LW_aloadn 0 dX10_join_67 rfl rfl ?_
    refine gX10_1 dX10_join_68 flX10_19 (hY.lt (k := 0) (by decide)) (ly0 hY) (lf0_1 hY) ?_
    refine LW_callV (As := [.ref 3]) (b := 52) (st := []) (ci := 3) (r := (RX3, TX3, 3)) (r_keep hK1 hs3k (Or.inl (by decide))) YX3_keep rfl dX10_join_71 mlX10_113 (hY.lt (k := 52) (by decide)) (ly52 hY) ⟨rfl, rfl⟩ (by decide) ⟨Nat.le_of_ble_eq_true rfl, Nat.le_of_ble_eq_true rfl⟩ (Nat.le_of_ble_eq_true rfl) rfl (fun r71 Λc71 Ic71 Lc71 Rc71 hq71 => ?_)
    obtain ⟨rfl, rfl, hI71, hL71, hR71, hK71, hs71⟩ := hq71
    have hf4 := Fr.keep hI71 hL71 hR71 (Λ := Λc15)
    have hk4 := HsK.put hK1.2.1 hK2 hK71
    have hs21b := hs21a.fr hY hY.st21 (Fr.of (J := fun z => z = 52 ∨ (52 + 2 ≤ z ∧ z < 52 + 146)) (Λ := Λc15) hI71 hL71 hR71 (fun _ q => q) (fun _ q => q) (fun _ q => q)) (fun z q => by omega)
    refine LW_aloadn 0 dX10_join_74 rfl rfl ?_
    refine gX10_1 dX10_join_75 flX10_19 (hY.lt (k := 0) (by decide)) (ly0 hY) (lf0_1 hY) ?_
    refine LW_aloadn 0 dX10_join_78 rfl rfl ?_
    refine gX10_2 dX10_join_79 flX10_23 (hY.lt (k := 0) (by decide)) (ly0 hY) (lf0_2 hY) ?_
    refine LW_callV (As := [.ref 21]) (b := 3) (st := []) (ci := 6) (r := (RX6, TX6, 15)) (r_copyFrom hY.st3 hs21b (Or.inl (by decide))) YX6_copyFrom rfl dX10_join_82 mlX10_86 (hY.lt (k := 3) (by decide)) (ly3 hY) ⟨rfl, rfl⟩ (by decide) ⟨Nat.le_of_ble_eq_true rfl, Nat.le_of_ble_eq_true rfl⟩ (Nat.le_of_ble_eq_true rfl) rfl (fun r82 Λc82 Ic82 Lc82 Rc82 hq82 => ?_)
    obtain ⟨rfl, rfl, hI82, hL82, hR82, hs82⟩ := hq82
    refine LW_lloadn 2 dX10_join_85 rfl rfl ?_
    refine LW_l2i dX10_join_86 ?_
    refine LW_iret dX10_join_87 rfl (Nat.le_of_ble_eq_true rfl) (Nat.le_of_ble_eq_true rfl) ?_
    have hf5 : Fr UJ Λc15 Ic71 Lc71 Rc71 Λc15 Ic82 Lc82 Rc82 := Fr.st3 (fun z hz => hI82 z (by omega)) (fun z hz => hL82 z (by omega)) (fun z hz => hR82 z (by omega))
    refine ⟨P, by rw [he]; rfl, (((((hf0.mono (fun _ _ q => q.c)).trans (hf1.mono (fun _ _ q => q.c))).trans hf2).trans (hf3.mono (fun _ _ q => q.c))).trans (hf4.mono (fun _ _ q => q.c))).trans (hf5.mono (fun _ _ q => q.c)), Nat.le_trans hle (by omega), ?_⟩
    rw [he]
    exact hH3.up (hf4.trans hf5) hs82 (hk4.st3 hY (fun z hz => hI82 z (by omega)) (fun z hz => hL82 z (by omega)) (fun z hz => hR82 z (by omega)))
  · obtain ⟨e, he⟩ := okS_f (show okS (X P) = false from c28)
    rw [he] at hx
    have hH1 : HW Λc15 Ic15 Lc15 Rc15 (sA S, sP S, sB S, sN S, sH S, sC S, e.1, nI (tp (sB S) (sN S) e.2)) := hH0.rd hf1 hx.2.2.2 hx.2.1 hx.2.2.1
    have hI0 : ∀ z, ¬ (z = 1 ∨ z = 1 + 1) → I24 z = Ic15 z := fun z hz => by rw [← hI24, hc_u_row _ _ _ _ (by omega)]
    have hH2 : HW Λc15 I24 Lc15 Rc15 (sTape (sA S, sP S, sB S, sN S, sH S, sC S, e.1, nI (tp (sB S) (sN S) e.2)) 0 (sB S)) := hH1.tape hI0 (hH1.t.no (by rw [← hI24, hc_u_at, if_pos rfl]; rfl))
    have hf2 : Fr CJ Λc15 Ic15 Lc15 Rc15 Λc15 I24 Lc15 Rc15 := (Fr.ofI (J := fun z => z = 1 ∨ z = 1 + 1) hI0).mono (fun z _ q => by show z < 217; omega)
    refine LW_iconst (v := -1) dX10_join_31 (by decide) ?_
    refine LW_iret dX10_join_32 rfl (Nat.le_of_ble_eq_true rfl) (Nat.le_of_ble_eq_true rfl) ?_
    exact ⟨P, by rw [he]; rfl, ((hf0.mono (fun _ _ q => q.c)).trans (hf1.mono (fun _ _ q => q.c))).trans hf2, Nat.le_trans hle (by omega), by rw [he]; exact hH2⟩
