/-! the Reader: the law -/
def smD (K V : Nat → Nat) : Nat → Nat → LwP → Ls
  | 0 => fun i _ => .inl (5, i)
  | d + 1 => smW K (ptD K V d)
theorem ptD_eq (K V : Nat → Nat) (d : Nat) : ptD K V d = ptG K V (brB K d (smD K V d)) := by cases d <;> rfl
theorem brB_ok {K V : Nat → Nat} (hV : ∀ j, K j = 2001 → V j < 100000000) {d : Nat} (hd : d ≤ 8) {h : Nat} (hh : h + 4 * d ≤ 36) {k i : Nat} {P : LwP} {q : Nat × LwP} (h1 : 1 ≤ k) (h3 : k ≤ 3) (hP : okP P h) (hq : brB K d (smD K V d) k i P = .inr q) : okP q.2 (h + k) ∧ P.1 < q.2.1 ∧ q.2.1 + i + 1 ≤ P.1 + q.1 := by
  unfold brB at hq
  split at hq
  · split at hq
    · cases hq
    · cases d with
      | zero => contradiction
      | succ d =>
        have ih := ptD_ok hV d (by omega)
        obtain ⟨a1, a2, a3, a4⟩ := brK_ok (smW_ok (K := K) (H := 36 - 4 * d - 2) (by rw [show 36 - 4 * d - 2 + 2 = 36 - 4 * d by omega]; exact ih) (by omega)) k h _ _ _ (by omega) hP hq
        exact ⟨a1, a3 h1, by omega⟩
  · cases hq
theorem lu_no {x dflt : Int} : ∀ (ps : List (Int × Int)), (∀ q ∈ ps, q.1 ≠ x) → Op.lookupswitch.offset ps dflt x = dflt := by
  intro ps
  induction ps with
  | nil => intro _; rfl
  | cons a t ih =>
    intro h
    have h1 := h a List.mem_cons_self
    have h2 := ih (fun q hq => h q (List.mem_cons_of_mem _ hq))
    simp only [Op.lookupswitch.offset] at h2 ⊢
    first
      | (rw [if_neg h1]; exact h2)
      | (rw [if_neg (by simpa using h1)]; exact h2)
      | (simp only [List.find?_cons]; rw [show (a.1 == x) = false by simpa using h1]; exact h2)
theorem kd_toInt {B : Nat → Nat} {n : Nat} (hB : ∀ j, j < n → B j < 256) {i c : Nat} (hc : c < 128 ∨ (256 ≤ c ∧ c < 3000)) (h : kd B n i ≠ c) : (c : Int) ≠ (kEnc (kd B n i)).toInt := by
  intro e
  rw [kE_int (kd_lt hB i)] at e
  split at e
  · omega
  · split at e <;> omega
def LPost (B : Nat → Nat) (n cn op : Nat) (A : AS) (x : Ls) (Λ : hc_L) (I : hc_I) (L : hc_J) (R : hc_R) : hc_Q := fun r Λ' I' L' R' => r = some (.int (hc_b (okS x))) ∧ Λ = Λ' ∧ R = R' ∧ Fr RJ Λ I L R Λ' I' L' R' ∧ match x with
  | .inl e => RF B n Λ' I' L' R' e
  | .inr q => RW B n cn Λ' I' L' R' q.1 op A q.2
theorem LPost.no {B : Nat → Nat} {n cn op : Nat} {A : AS} {x : Ls} {Λ : hc_L} {I I' : hc_I} {L L' : hc_J} {R : hc_R} {e : Nat × Nat} (hx : x = .inl e) (hf : Fr RJ Λ I L R Λ I' L' R) (h : RF B n Λ I' L' R e) : LPost B n cn op A x Λ I L R (some (.int (hc_b false))) Λ I' L' R := by
  subst hx
  exact ⟨rfl, rfl, rfl, hf, h⟩
theorem LPost.yes {B : Nat → Nat} {n cn op : Nat} {A : AS} {x : Ls} {Λ : hc_L} {I I' : hc_I} {L L' : hc_J} {R : hc_R} {q : Nat × LwP} (hx : x = .inr q) (hf : Fr RJ Λ I L R Λ I' L' R) (h : RW B n cn Λ I' L' R q.1 op A q.2) : LPost B n cn op A x Λ I L R (some (.int (hc_b true))) Λ I' L' R := by
  subst hx
  exact ⟨rfl, rfl, rfl, hf, h⟩
theorem LPost.tr {B : Nat → Nat} {n cn op : Nat} {A : AS} {x : Ls} {Λ Λ' : hc_L} {I I1 I' : hc_I} {L L1 L' : hc_J} {R R' : hc_R} {r : Option Value} (hf : Fr RJ Λ I L R Λ I1 L1 R) (h : LPost B n cn op A x Λ I1 L1 R r Λ' I' L' R') : LPost B n cn op A x Λ I L R r Λ' I' L' R' := ⟨h.1, h.2.1, h.2.2.1, hf.trans h.2.2.2.1, h.2.2.2.2⟩
section RWL
variable {B : Nat → Nat} {n cn i op : Nat} {A : AS} {P P' : LwP} {Λ : hc_L} {I I' : hc_I} {L : hc_J} {R : hc_R}
theorem RW.lw (h : RW B n cn Λ I L R i op A P) (hI : ∀ z, ¬ (z = 42 ∨ z = 42 + 1) → I' z = I z) (hl : LwAt Λ I' 42 P') : RW B n cn Λ I' L R i op A P' := by
  have e : ∀ z, z ≠ 42 → z ≠ 43 → I' z = I z := fun z a b => hI z (by omega)
  have e45 : I' 45 = I 45 := e 45 (by decide) (by decide)
  refine ⟨h.y, h.t.kp (e _ (by decide) (by decide)) (e _ (by decide) (by decide)) (e _ (by decide) (by decide)) rfl, h.c, by rw [e45]; exact h.2.2.2.1, by rw [e45]; exact h.a, by rw [e45]; exact h.k, by rw [e45]; exact h.p, h.v, by rw [e45]; exact h.o, ?_, hl⟩
  exact h.s.kp3 (fun z _ _ => e z (by omega) (by omega)) (fun _ _ _ => rfl) (fun _ _ _ => rfl) (fun r hr => by
    have := h.y.nf hr
    exact e r (by omega) (by omega))
theorem Fr.lw (hI : ∀ z, ¬ (z = 42 ∨ z = 42 + 1) → I' z = I z) : Fr RJ Λ I L R Λ I' L R := Fr.ofI (fun z hz => hI z (fun q => hz (Or.inr (by omega))))
theorem RW.opn (h : RW B n cn Λ I L R i op A P) {op' : Nat} (hI : ∀ z, z ≠ 45 → I' z = I z) (h45 : ∀ j, I' 45 j = if j = 10 then nI op' else I 45 j) : RW B n cn Λ I' L R i op' A P :=
  ⟨h.y, h.t.kp (hI _ (by decide)) (hI _ (by decide)) (hI _ (by decide)) rfl, h.c, ⟨(h45 4).trans h.2.2.2.1.1, (h45 5).trans h.2.2.2.1.2⟩, (h45 6).trans h.a, (h45 7).trans h.k, (h45 8).trans h.p, h.v, h45 10, h.s.rd h.y (fun z z1 _ => hI z z1) (fun _ _ => rfl), h.l.rd (fun z z1 _ => hI z z1)⟩
end RWL
def BrC (B : Nat → Nat) (n cn d D : Nat) : Prop := ∀ (Λ : hc_L) (I : hc_I) (L : hc_J) (R : hc_R) (i : Nat) (A : AS) (P : LwP) (h kk : Nat), RW B n cn Λ I L R i (8 - d) A P → okP P h → h + 4 * d ≤ 36 → P.1 ≤ i → 1 ≤ kk → kk ≤ 3 → Run (xX5_readInBrackets D) [.ref 45, .int (nI kk)] Λ I L R (LPost B n cn (8 - d) A (brB (kd B n) d (smD (kd B n) (vl B n) d) kk i P) Λ I L R)
def PtC (B : Nat → Nat) (n cn d D : Nat) : Prop := ∀ (Λ : hc_L) (I : hc_I) (L : hc_J) (R : hc_R) (i : Nat) (A : AS) (P : LwP) (h : Nat), RW B n cn Λ I L R i (8 - d) A P → okP P h → h + 4 * d ≤ 36 → P.1 ≤ i → Run (xX5_readPart D) [.ref 45] Λ I L R (LPost B n cn (8 - d) A (ptD (kd B n) (vl B n) d i P) Λ I L R)
def SmC (B : Nat → Nat) (n cn d D : Nat) : Prop := ∀ (Λ : hc_L) (I : hc_I) (L : hc_J) (R : hc_R) (i : Nat) (A : AS) (P : LwP) (h : Nat), RW B n cn Λ I L R i (8 - d) A P → okP P h → h + 2 + 4 * d ≤ 36 → P.1 ≤ i → Run (xX5_readSum D) [.ref 45] Λ I L R (LPost B n cn (8 - d) A (smW (kd B n) (ptD (kd B n) (vl B n) d) i P) Λ I L R)
set_option maxRecDepth 100000 in
theorem r_pt_2001 {Λ : hc_L} {I : hc_I} {L : hc_J} {R : hc_R} {B : Nat → Nat} {n cn i d D : Nat} {A : AS} {P : LwP} (hB : ∀ j, j < n → B j < 256) (hd : d ≤ 8) (hW : RW B n cn Λ I L R i (8 - d) A P) {h : Nat} (hP : okP P h) (hh : h + 4 * d ≤ 36) (hPi : P.1 ≤ i) (hk : kd B n i = 2001) : Run (xX5_readPart (D + 1)) [.ref 45] Λ I L R (LPost B n cn (8 - d) A (ptG (kd B n) (vl B n) (brB (kd B n) d (smD (kd B n) (vl B n) d)) i P) Λ I L R) := by
  refine Run.of (show plainName "HailClub$Reader" = true by decide +kernel) (Nat.le_of_ble_eq_true rfl) ?_
  show LW _ _ _ [(0, .ref 45)] _ _ _ _ _ _
  have hY := hW.y
  have hf : Fr RJ Λ I L R Λ I L R := Fr.rf
  have hc7 := hW.cn7
  have hK : kd B n i ≠ 2003 := by rw [hk]; decide
  have hnx := hW.nx hB hK
  refine LW_aloadn 0 dX5_readPart_0 rfl rfl ?_
  refine gX5_7 dX5_readPart_1 flX5_49 (hY.lt (k := 45) (by decide)) (ly45 hY) ?_
  rw [show I 45 7 = 2001 from (by rw [hW.k, hk]; rfl)]
  refine LW_istoren (ls' := [(0, .ref 45), (1, .int 2001)]) dX5_readPart_4 rfl (Nat.le_of_ble_eq_true rfl) rfl ?_
  refine LW_iloadn 1 dX5_readPart_5 rfl rfl ?_
  refine LW_lookup (off := 74) (tgt := 80) dX5_readPart_6 (by decide) (by decide) (by decide) ?_
  refine LW_aloadn 0 dX5_readPart_80 rfl rfl ?_
  refine gX5_2 dX5_readPart_81 flX5_32 (hY.lt (k := 45) (by decide)) (ly45 hY) (lf45_2 hY) ?_
  refine LW_aloadn 0 dX5_readPart_84 rfl rfl ?_
  refine gX5_9 dX5_readPart_85 flX5_106 (hY.lt (k := 45) (by decide)) (ly45 hY) ?_
  rw [show L 45 9 = lN (vl B n i) from hW.v]
  refine LW_l2i dX5_readPart_88 ?_
  rw [show (lN (vl B n i)).toInt32 = nI (vl B n i) from (lN_i _)]
  refine LW_callV (As := [.int (nI (vl B n i))]) (b := 42) (st := []) (ci := 4) (r := (RX4, TX4, 3)) (r_lawAdd hW.l (by omega) (k := 0) (v := vl B n i) rfl) YX4_add rfl dX5_readPart_89 mlX5_174 (hY.lt (k := 42) (by decide)) (ly42 hY) ⟨rfl, rfl⟩ (Nat.succ_le_succ (Nat.zero_le _)) ⟨Nat.le_of_ble_eq_true rfl, Nat.le_of_ble_eq_true rfl⟩ (Nat.le_of_ble_eq_true rfl) rfl (fun r89 Λc89 Ic89 Lc89 Rc89 hq89 => ?_)
  obtain ⟨rfl, rfl, hI89, hL89, hR89, hP89⟩ := hq89
  obtain rfl : L = Lc89 := funext fun z => (hL89 z (fun q => q)).symm
  obtain rfl : R = Rc89 := funext fun z => (hR89 z (fun q => q)).symm
  have hf := hf.trans (Fr.lw hI89)
  have hW := hW.lw hI89 hP89
  refine LW_aloadn 0 dX5_readPart_92 rfl rfl ?_
  refine LW_callV (As := []) (b := 45) (st := []) (ci := 5) (r := (RX5, TX5, 11)) (r_step hB hW hK) YX5_step rfl dX5_readPart_93 mlX5_60 (hY.lt (k := 45) (by decide)) (ly45 hY) ⟨rfl, rfl⟩ (Nat.succ_le_succ (Nat.zero_le _)) ⟨Nat.le_of_ble_eq_true rfl, Nat.le_of_ble_eq_true rfl⟩ (Nat.le_of_ble_eq_true rfl) rfl (fun r93 Λc93 Ic93 Lc93 Rc93 hq93 => ?_)
  obtain ⟨rfl, rfl, hI93, hL93, hR93, hW93⟩ := hq93
  obtain rfl : R = Rc93 := funext fun z => (hR93 z (fun q => q)).symm
  have hW := hW93
  have hf := hf.trans (Fr.rd (fun z z1 _ => hI93 z z1) hL93)
  refine LW_iconst (v := 1) dX5_readPart_96 (by decide) ?_
  refine LW_zret dX5_readPart_97 rfl (Nat.le_of_ble_eq_true rfl) (Nat.le_of_ble_eq_true rfl) (Or.inr rfl) ?_
  have hx : ptG (kd B n) (vl B n) (brB (kd B n) d (smD (kd B n) (vl B n) d)) i P = .inr (i + 1, lpPush P 0 (vl B n i)) := by unfold ptG; rw [if_pos hk]
  exact LPost.yes hx hf hW
set_option maxRecDepth 100000 in
theorem r_pt_1011 {Λ : hc_L} {I : hc_I} {L : hc_J} {R : hc_R} {B : Nat → Nat} {n cn i d D : Nat} {A : AS} {P : LwP} (hB : ∀ j, j < n → B j < 256) (hd : d ≤ 8) (hW : RW B n cn Λ I L R i (8 - d) A P) {h : Nat} (hP : okP P h) (hh : h + 4 * d ≤ 36) (hPi : P.1 ≤ i) (hk : kd B n i = 1011) : Run (xX5_readPart (D + 1)) [.ref 45] Λ I L R (LPost B n cn (8 - d) A (ptG (kd B n) (vl B n) (brB (kd B n) d (smD (kd B n) (vl B n) d)) i P) Λ I L R) := by
  refine Run.of (show plainName "HailClub$Reader" = true by decide +kernel) (Nat.le_of_ble_eq_true rfl) ?_
  show LW _ _ _ [(0, .ref 45)] _ _ _ _ _ _
  have hY := hW.y
  have hf : Fr RJ Λ I L R Λ I L R := Fr.rf
  have hc7 := hW.cn7
  have hK : kd B n i ≠ 2003 := by rw [hk]; decide
  have hnx := hW.nx hB hK
  refine LW_aloadn 0 dX5_readPart_0 rfl rfl ?_
  refine gX5_7 dX5_readPart_1 flX5_49 (hY.lt (k := 45) (by decide)) (ly45 hY) ?_
  rw [show I 45 7 = 1011 from (by rw [hW.k, hk]; rfl)]
  refine LW_istoren (ls' := [(0, .ref 45), (1, .int 1011)]) dX5_readPart_4 rfl (Nat.le_of_ble_eq_true rfl) rfl ?_
  refine LW_iloadn 1 dX5_readPart_5 rfl rfl ?_
  refine LW_lookup (off := 92) (tgt := 98) dX5_readPart_6 (by decide) (by decide) (by decide) ?_
  refine LW_aloadn 0 dX5_readPart_98 rfl rfl ?_
  refine gX5_2 dX5_readPart_99 flX5_32 (hY.lt (k := 45) (by decide)) (ly45 hY) (lf45_2 hY) ?_
  refine LW_iloadn 1 dX5_readPart_102 rfl rfl ?_
  refine LW_ineg dX5_readPart_103 ?_
  refine LW_callV (As := [.int (-1011)]) (b := 42) (st := []) (ci := 4) (r := (RX4, TX4, 3)) (r_lawAdd hW.l (by omega) (k := 1) (v := 0) (by decide)) YX4_add rfl dX5_readPart_104 mlX5_174 (hY.lt (k := 42) (by decide)) (ly42 hY) ⟨rfl, rfl⟩ (Nat.succ_le_succ (Nat.zero_le _)) ⟨Nat.le_of_ble_eq_true rfl, Nat.le_of_ble_eq_true rfl⟩ (Nat.le_of_ble_eq_true rfl) rfl (fun r104 Λc104 Ic104 Lc104 Rc104 hq104 => ?_)
  obtain ⟨rfl, rfl, hI104, hL104, hR104, hP104⟩ := hq104
  obtain rfl : L = Lc104 := funext fun z => (hL104 z (fun q => q)).symm
  obtain rfl : R = Rc104 := funext fun z => (hR104 z (fun q => q)).symm
  have hf := hf.trans (Fr.lw hI104)
  have hW := hW.lw hI104 hP104
  refine LW_aloadn 0 dX5_readPart_107 rfl rfl ?_
  refine LW_callV (As := []) (b := 45) (st := []) (ci := 5) (r := (RX5, TX5, 11)) (r_step hB hW hK) YX5_step rfl dX5_readPart_108 mlX5_60 (hY.lt (k := 45) (by decide)) (ly45 hY) ⟨rfl, rfl⟩ (Nat.succ_le_succ (Nat.zero_le _)) ⟨Nat.le_of_ble_eq_true rfl, Nat.le_of_ble_eq_true rfl⟩ (Nat.le_of_ble_eq_true rfl) rfl (fun r108 Λc108 Ic108 Lc108 Rc108 hq108 => ?_)
  obtain ⟨rfl, rfl, hI108, hL108, hR108, hW108⟩ := hq108
  obtain rfl : R = Rc108 := funext fun z => (hR108 z (fun q => q)).symm
  have hW := hW108
  have hf := hf.trans (Fr.rd (fun z z1 _ => hI108 z z1) hL108)
  refine LW_iconst (v := 1) dX5_readPart_111 (by decide) ?_
  refine LW_zret dX5_readPart_112 rfl (Nat.le_of_ble_eq_true rfl) (Nat.le_of_ble_eq_true rfl) (Or.inr rfl) ?_
  have hx : ptG (kd B n) (vl B n) (brB (kd B n) d (smD (kd B n) (vl B n) d)) i P = .inr (i + 1, lpPush P 1 (0)) := by unfold ptG; rw [if_neg (by rw [hk]; decide), if_pos hk]
  exact LPost.yes hx hf hW
set_option maxRecDepth 100000 in
theorem r_pt_1002 {Λ : hc_L} {I : hc_I} {L : hc_J} {R : hc_R} {B : Nat → Nat} {n cn i d D : Nat} {A : AS} {P : LwP} (hB : ∀ j, j < n → B j < 256) (hd : d ≤ 8) (hW : RW B n cn Λ I L R i (8 - d) A P) {h : Nat} (hP : okP P h) (hh : h + 4 * d ≤ 36) (hPi : P.1 ≤ i) (hk : kd B n i = 1002) : Run (xX5_readPart (D + 1)) [.ref 45] Λ I L R (LPost B n cn (8 - d) A (ptG (kd B n) (vl B n) (brB (kd B n) d (smD (kd B n) (vl B n) d)) i P) Λ I L R) := by
  refine Run.of (show plainName "HailClub$Reader" = true by decide +kernel) (Nat.le_of_ble_eq_true rfl) ?_
  show LW _ _ _ [(0, .ref 45)] _ _ _ _ _ _
  have hY := hW.y
  have hf : Fr RJ Λ I L R Λ I L R := Fr.rf
  have hc7 := hW.cn7
  have hK : kd B n i ≠ 2003 := by rw [hk]; decide
  have hnx := hW.nx hB hK
  refine LW_aloadn 0 dX5_readPart_0 rfl rfl ?_
  refine gX5_7 dX5_readPart_1 flX5_49 (hY.lt (k := 45) (by decide)) (ly45 hY) ?_
  rw [show I 45 7 = 1002 from (by rw [hW.k, hk]; rfl)]
  refine LW_istoren (ls' := [(0, .ref 45), (1, .int 1002)]) dX5_readPart_4 rfl (Nat.le_of_ble_eq_true rfl) rfl ?_
  refine LW_iloadn 1 dX5_readPart_5 rfl rfl ?_
  refine LW_lookup (off := 92) (tgt := 98) dX5_readPart_6 (by decide) (by decide) (by decide) ?_
  refine LW_aloadn 0 dX5_readPart_98 rfl rfl ?_
  refine gX5_2 dX5_readPart_99 flX5_32 (hY.lt (k := 45) (by decide)) (ly45 hY) (lf45_2 hY) ?_
  refine LW_iloadn 1 dX5_readPart_102 rfl rfl ?_
  refine LW_ineg dX5_readPart_103 ?_
  refine LW_callV (As := [.int (-1002)]) (b := 42) (st := []) (ci := 4) (r := (RX4, TX4, 3)) (r_lawAdd hW.l (by omega) (k := 1) (v := 1) (by decide)) YX4_add rfl dX5_readPart_104 mlX5_174 (hY.lt (k := 42) (by decide)) (ly42 hY) ⟨rfl, rfl⟩ (Nat.succ_le_succ (Nat.zero_le _)) ⟨Nat.le_of_ble_eq_true rfl, Nat.le_of_ble_eq_true rfl⟩ (Nat.le_of_ble_eq_true rfl) rfl (fun r104 Λc104 Ic104 Lc104 Rc104 hq104 => ?_)
  obtain ⟨rfl, rfl, hI104, hL104, hR104, hP104⟩ := hq104
  obtain rfl : L = Lc104 := funext fun z => (hL104 z (fun q => q)).symm
  obtain rfl : R = Rc104 := funext fun z => (hR104 z (fun q => q)).symm
  have hf := hf.trans (Fr.lw hI104)
  have hW := hW.lw hI104 hP104
  refine LW_aloadn 0 dX5_readPart_107 rfl rfl ?_
  refine LW_callV (As := []) (b := 45) (st := []) (ci := 5) (r := (RX5, TX5, 11)) (r_step hB hW hK) YX5_step rfl dX5_readPart_108 mlX5_60 (hY.lt (k := 45) (by decide)) (ly45 hY) ⟨rfl, rfl⟩ (Nat.succ_le_succ (Nat.zero_le _)) ⟨Nat.le_of_ble_eq_true rfl, Nat.le_of_ble_eq_true rfl⟩ (Nat.le_of_ble_eq_true rfl) rfl (fun r108 Λc108 Ic108 Lc108 Rc108 hq108 => ?_)
  obtain ⟨rfl, rfl, hI108, hL108, hR108, hW108⟩ := hq108
  obtain rfl : R = Rc108 := funext fun z => (hR108 z (fun q => q)).symm
  have hW := hW108
  have hf := hf.trans (Fr.rd (fun z z1 _ => hI108 z z1) hL108)
  refine LW_iconst (v := 1) dX5_readPart_111 (by decide) ?_
  refine LW_zret dX5_readPart_112 rfl (Nat.le_of_ble_eq_true rfl) (Nat.le_of_ble_eq_true rfl) (Or.inr rfl) ?_
  have hx : ptG (kd B n) (vl B n) (brB (kd B n) d (smD (kd B n) (vl B n) d)) i P = .inr (i + 1, lpPush P 1 (1)) := by unfold ptG; rw [if_neg (by rw [hk]; decide), if_neg (by rw [hk]; decide), if_pos hk]
  exact LPost.yes hx hf hW
set_option maxRecDepth 100000 in
theorem r_pt_1012 {Λ : hc_L} {I : hc_I} {L : hc_J} {R : hc_R} {B : Nat → Nat} {n cn i d D : Nat} {A : AS} {P : LwP} (hB : ∀ j, j < n → B j < 256) (hd : d ≤ 8) (hW : RW B n cn Λ I L R i (8 - d) A P) {h : Nat} (hP : okP P h) (hh : h + 4 * d ≤ 36) (hPi : P.1 ≤ i) (hk : kd B n i = 1012) : Run (xX5_readPart (D + 1)) [.ref 45] Λ I L R (LPost B n cn (8 - d) A (ptG (kd B n) (vl B n) (brB (kd B n) d (smD (kd B n) (vl B n) d)) i P) Λ I L R) := by
  refine Run.of (show plainName "HailClub$Reader" = true by decide +kernel) (Nat.le_of_ble_eq_true rfl) ?_
  show LW _ _ _ [(0, .ref 45)] _ _ _ _ _ _
  have hY := hW.y
  have hf : Fr RJ Λ I L R Λ I L R := Fr.rf
  have hc7 := hW.cn7
  have hK : kd B n i ≠ 2003 := by rw [hk]; decide
  have hnx := hW.nx hB hK
  refine LW_aloadn 0 dX5_readPart_0 rfl rfl ?_
  refine gX5_7 dX5_readPart_1 flX5_49 (hY.lt (k := 45) (by decide)) (ly45 hY) ?_
  rw [show I 45 7 = 1012 from (by rw [hW.k, hk]; rfl)]
  refine LW_istoren (ls' := [(0, .ref 45), (1, .int 1012)]) dX5_readPart_4 rfl (Nat.le_of_ble_eq_true rfl) rfl ?_
  refine LW_iloadn 1 dX5_readPart_5 rfl rfl ?_
  refine LW_lookup (off := 92) (tgt := 98) dX5_readPart_6 (by decide) (by decide) (by decide) ?_
  refine LW_aloadn 0 dX5_readPart_98 rfl rfl ?_
  refine gX5_2 dX5_readPart_99 flX5_32 (hY.lt (k := 45) (by decide)) (ly45 hY) (lf45_2 hY) ?_
  refine LW_iloadn 1 dX5_readPart_102 rfl rfl ?_
  refine LW_ineg dX5_readPart_103 ?_
  refine LW_callV (As := [.int (-1012)]) (b := 42) (st := []) (ci := 4) (r := (RX4, TX4, 3)) (r_lawAdd hW.l (by omega) (k := 1) (v := 2) (by decide)) YX4_add rfl dX5_readPart_104 mlX5_174 (hY.lt (k := 42) (by decide)) (ly42 hY) ⟨rfl, rfl⟩ (Nat.succ_le_succ (Nat.zero_le _)) ⟨Nat.le_of_ble_eq_true rfl, Nat.le_of_ble_eq_true rfl⟩ (Nat.le_of_ble_eq_true rfl) rfl (fun r104 Λc104 Ic104 Lc104 Rc104 hq104 => ?_)
  obtain ⟨rfl, rfl, hI104, hL104, hR104, hP104⟩ := hq104
  obtain rfl : L = Lc104 := funext fun z => (hL104 z (fun q => q)).symm
  obtain rfl : R = Rc104 := funext fun z => (hR104 z (fun q => q)).symm
  have hf := hf.trans (Fr.lw hI104)
  have hW := hW.lw hI104 hP104
  refine LW_aloadn 0 dX5_readPart_107 rfl rfl ?_
  refine LW_callV (As := []) (b := 45) (st := []) (ci := 5) (r := (RX5, TX5, 11)) (r_step hB hW hK) YX5_step rfl dX5_readPart_108 mlX5_60 (hY.lt (k := 45) (by decide)) (ly45 hY) ⟨rfl, rfl⟩ (Nat.succ_le_succ (Nat.zero_le _)) ⟨Nat.le_of_ble_eq_true rfl, Nat.le_of_ble_eq_true rfl⟩ (Nat.le_of_ble_eq_true rfl) rfl (fun r108 Λc108 Ic108 Lc108 Rc108 hq108 => ?_)
  obtain ⟨rfl, rfl, hI108, hL108, hR108, hW108⟩ := hq108
  obtain rfl : R = Rc108 := funext fun z => (hR108 z (fun q => q)).symm
  have hW := hW108
  have hf := hf.trans (Fr.rd (fun z z1 _ => hI108 z z1) hL108)
  refine LW_iconst (v := 1) dX5_readPart_111 (by decide) ?_
  refine LW_zret dX5_readPart_112 rfl (Nat.le_of_ble_eq_true rfl) (Nat.le_of_ble_eq_true rfl) (Or.inr rfl) ?_
  have hx : ptG (kd B n) (vl B n) (brB (kd B n) d (smD (kd B n) (vl B n) d)) i P = .inr (i + 1, lpPush P 1 (2)) := by unfold ptG; rw [if_neg (by rw [hk]; decide), if_neg (by rw [hk]; decide), if_neg (by rw [hk]; decide), if_pos hk]
  exact LPost.yes hx hf hW
set_option maxRecDepth 100000 in
theorem r_pt_1003 {Λ : hc_L} {I : hc_I} {L : hc_J} {R : hc_R} {B : Nat → Nat} {n cn i d D : Nat} {A : AS} {P : LwP} (hB : ∀ j, j < n → B j < 256) (hd : d ≤ 8) (hW : RW B n cn Λ I L R i (8 - d) A P) {h : Nat} (hP : okP P h) (hh : h + 4 * d ≤ 36) (hPi : P.1 ≤ i) (hk : kd B n i = 1003) : Run (xX5_readPart (D + 1)) [.ref 45] Λ I L R (LPost B n cn (8 - d) A (ptG (kd B n) (vl B n) (brB (kd B n) d (smD (kd B n) (vl B n) d)) i P) Λ I L R) := by
  refine Run.of (show plainName "HailClub$Reader" = true by decide +kernel) (Nat.le_of_ble_eq_true rfl) ?_
  show LW _ _ _ [(0, .ref 45)] _ _ _ _ _ _
  have hY := hW.y
  have hf : Fr RJ Λ I L R Λ I L R := Fr.rf
  have hc7 := hW.cn7
  have hK : kd B n i ≠ 2003 := by rw [hk]; decide
  have hnx := hW.nx hB hK
  refine LW_aloadn 0 dX5_readPart_0 rfl rfl ?_
  refine gX5_7 dX5_readPart_1 flX5_49 (hY.lt (k := 45) (by decide)) (ly45 hY) ?_
  rw [show I 45 7 = 1003 from (by rw [hW.k, hk]; rfl)]
  refine LW_istoren (ls' := [(0, .ref 45), (1, .int 1003)]) dX5_readPart_4 rfl (Nat.le_of_ble_eq_true rfl) rfl ?_
  refine LW_iloadn 1 dX5_readPart_5 rfl rfl ?_
  refine LW_lookup (off := 92) (tgt := 98) dX5_readPart_6 (by decide) (by decide) (by decide) ?_
  refine LW_aloadn 0 dX5_readPart_98 rfl rfl ?_
  refine gX5_2 dX5_readPart_99 flX5_32 (hY.lt (k := 45) (by decide)) (ly45 hY) (lf45_2 hY) ?_
  refine LW_iloadn 1 dX5_readPart_102 rfl rfl ?_
  refine LW_ineg dX5_readPart_103 ?_
  refine LW_callV (As := [.int (-1003)]) (b := 42) (st := []) (ci := 4) (r := (RX4, TX4, 3)) (r_lawAdd hW.l (by omega) (k := 1) (v := 3) (by decide)) YX4_add rfl dX5_readPart_104 mlX5_174 (hY.lt (k := 42) (by decide)) (ly42 hY) ⟨rfl, rfl⟩ (Nat.succ_le_succ (Nat.zero_le _)) ⟨Nat.le_of_ble_eq_true rfl, Nat.le_of_ble_eq_true rfl⟩ (Nat.le_of_ble_eq_true rfl) rfl (fun r104 Λc104 Ic104 Lc104 Rc104 hq104 => ?_)
  obtain ⟨rfl, rfl, hI104, hL104, hR104, hP104⟩ := hq104
  obtain rfl : L = Lc104 := funext fun z => (hL104 z (fun q => q)).symm
  obtain rfl : R = Rc104 := funext fun z => (hR104 z (fun q => q)).symm
  have hf := hf.trans (Fr.lw hI104)
  have hW := hW.lw hI104 hP104
  refine LW_aloadn 0 dX5_readPart_107 rfl rfl ?_
  refine LW_callV (As := []) (b := 45) (st := []) (ci := 5) (r := (RX5, TX5, 11)) (r_step hB hW hK) YX5_step rfl dX5_readPart_108 mlX5_60 (hY.lt (k := 45) (by decide)) (ly45 hY) ⟨rfl, rfl⟩ (Nat.succ_le_succ (Nat.zero_le _)) ⟨Nat.le_of_ble_eq_true rfl, Nat.le_of_ble_eq_true rfl⟩ (Nat.le_of_ble_eq_true rfl) rfl (fun r108 Λc108 Ic108 Lc108 Rc108 hq108 => ?_)
  obtain ⟨rfl, rfl, hI108, hL108, hR108, hW108⟩ := hq108
  obtain rfl : R = Rc108 := funext fun z => (hR108 z (fun q => q)).symm
  have hW := hW108
  have hf := hf.trans (Fr.rd (fun z z1 _ => hI108 z z1) hL108)
  refine LW_iconst (v := 1) dX5_readPart_111 (by decide) ?_
  refine LW_zret dX5_readPart_112 rfl (Nat.le_of_ble_eq_true rfl) (Nat.le_of_ble_eq_true rfl) (Or.inr rfl) ?_
  have hx : ptG (kd B n) (vl B n) (brB (kd B n) d (smD (kd B n) (vl B n) d)) i P = .inr (i + 1, lpPush P 1 (3)) := by unfold ptG; rw [if_neg (by rw [hk]; decide), if_neg (by rw [hk]; decide), if_neg (by rw [hk]; decide), if_neg (by rw [hk]; decide), if_pos hk]
  exact LPost.yes hx hf hW
set_option maxRecDepth 100000 in
theorem r_pt_1013 {Λ : hc_L} {I : hc_I} {L : hc_J} {R : hc_R} {B : Nat → Nat} {n cn i d D : Nat} {A : AS} {P : LwP} (hB : ∀ j, j < n → B j < 256) (hd : d ≤ 8) (hW : RW B n cn Λ I L R i (8 - d) A P) {h : Nat} (hP : okP P h) (hh : h + 4 * d ≤ 36) (hPi : P.1 ≤ i) (hk : kd B n i = 1013) (hbr : BrC B n cn d D) : Run (xX5_readPart (D + 1)) [.ref 45] Λ I L R (LPost B n cn (8 - d) A (ptG (kd B n) (vl B n) (brB (kd B n) d (smD (kd B n) (vl B n) d)) i P) Λ I L R) := by
  refine Run.of (show plainName "HailClub$Reader" = true by decide +kernel) (Nat.le_of_ble_eq_true rfl) ?_
  show LW _ _ _ [(0, .ref 45)] _ _ _ _ _ _
  have hY := hW.y
  have hf : Fr RJ Λ I L R Λ I L R := Fr.rf
  have hc7 := hW.cn7
  have hK : kd B n i ≠ 2003 := by rw [hk]; decide
  have hnx := hW.nx hB hK
  refine LW_aloadn 0 dX5_readPart_0 rfl rfl ?_
  refine gX5_7 dX5_readPart_1 flX5_49 (hY.lt (k := 45) (by decide)) (ly45 hY) ?_
  rw [show I 45 7 = 1013 from (by rw [hW.k, hk]; rfl)]
  refine LW_istoren (ls' := [(0, .ref 45), (1, .int 1013)]) dX5_readPart_4 rfl (Nat.le_of_ble_eq_true rfl) rfl ?_
  refine LW_iloadn 1 dX5_readPart_5 rfl rfl ?_
  refine LW_lookup (off := 107) (tgt := 113) dX5_readPart_6 (by decide) (by decide) (by decide) ?_
  refine LW_aloadn 0 dX5_readPart_113 rfl rfl ?_
  refine LW_callV (As := []) (b := 45) (st := []) (ci := 5) (r := (RX5, TX5, 11)) (r_step hB hW hK) YX5_step rfl dX5_readPart_114 mlX5_60 (hY.lt (k := 45) (by decide)) (ly45 hY) ⟨rfl, rfl⟩ (Nat.succ_le_succ (Nat.zero_le _)) ⟨Nat.le_of_ble_eq_true rfl, Nat.le_of_ble_eq_true rfl⟩ (Nat.le_of_ble_eq_true rfl) rfl (fun r114 Λc114 Ic114 Lc114 Rc114 hq114 => ?_)
  obtain ⟨rfl, rfl, hI114, hL114, hR114, hW114⟩ := hq114
  obtain rfl : R = Rc114 := funext fun z => (hR114 z (fun q => q)).symm
  have hW := hW114
  have hf := hf.trans (Fr.rd (fun z z1 _ => hI114 z z1) hL114)
  refine LW_aloadn 0 dX5_readPart_117 rfl rfl ?_
  refine LW_iloadn 1 dX5_readPart_118 rfl rfl ?_
  refine LW_sipush (v := 1015) dX5_readPart_119 (by decide) ?_
  refine LW_icmp_ne (tgt := 129) dX5_readPart_122 (by decide) (fun c122 => ?_) (fun c122 => absurd (by decide) c122)
  refine LW_iconst (v := 2) dX5_readPart_129 (by decide) ?_
  refine LW_callV (As := [.int 2]) (b := 45) (st := []) (ci := 5) (r := (RX5, TX5, 11)) (hbr _ _ _ _ _ _ _ h 2 hW hP hh (by omega) (by decide) (by decide)) (YX5_readInBrackets D) rfl dX5_readPart_130 mlX5_178 (hY.lt (k := 45) (by decide)) (ly45 hY) ⟨rfl, rfl⟩ (Nat.le_refl _) ⟨Nat.le_of_ble_eq_true rfl, Nat.le_of_ble_eq_true rfl⟩ (Nat.le_of_ble_eq_true rfl) rfl (fun r130 Λc130 Ic130 Lc130 Rc130 hq130 => ?_)
  obtain ⟨rfl, rfl, rfl, hf2130, hx130⟩ := hq130
  have hf := hf.trans hf2130
  refine LW_bif_ne (tgt := 138) dX5_readPart_133 (by decide) (fun c133 => ?_) (fun c133 => ?_)
  · obtain ⟨q, he⟩ := okS_t (show okS (brB (kd B n) d (smD (kd B n) (vl B n) d) 2 (i + 1) P) = true from c133)
    rw [he] at hx130
    have hW := hx130
    have hob := brB_ok (fun j hj => vl_n hB hj) hd hh (by decide) (by decide) hP he
    refine LW_aloadn 0 dX5_readPart_138 rfl rfl ?_
    refine gX5_2 dX5_readPart_139 flX5_32 (hY.lt (k := 45) (by decide)) (ly45 hY) (lf45_2 hY) ?_
    refine LW_iloadn 1 dX5_readPart_142 rfl rfl ?_
    refine LW_ineg dX5_readPart_143 ?_
    refine LW_callV (As := [.int (-1013)]) (b := 42) (st := []) (ci := 4) (r := (RX4, TX4, 3)) (r_lawAdd hW.l (by have := hW.c; have := hW.cn7; omega) (k := 2) (v := 0) (by decide)) YX4_add rfl dX5_readPart_144 mlX5_174 (hY.lt (k := 42) (by decide)) (ly42 hY) ⟨rfl, rfl⟩ (Nat.succ_le_succ (Nat.zero_le _)) ⟨Nat.le_of_ble_eq_true rfl, Nat.le_of_ble_eq_true rfl⟩ (Nat.le_of_ble_eq_true rfl) rfl (fun r144 Λc144 Ic144 Lc144 Rc144 hq144 => ?_)
    obtain ⟨rfl, rfl, hI144, hL144, hR144, hP144⟩ := hq144
    obtain rfl : Lc130 = Lc144 := funext fun z => (hL144 z (fun q => q)).symm
    obtain rfl : R = Rc144 := funext fun z => (hR144 z (fun q => q)).symm
    have hf := hf.trans (Fr.lw hI144)
    have hW := hW.lw hI144 hP144
    refine LW_iconst (v := 1) dX5_readPart_147 (by decide) ?_
    refine LW_zret dX5_readPart_148 rfl (Nat.le_of_ble_eq_true rfl) (Nat.le_of_ble_eq_true rfl) (Or.inr rfl) ?_
    have hx : ptG (kd B n) (vl B n) (brB (kd B n) d (smD (kd B n) (vl B n) d)) i P = .inr (q.1, lpPush q.2 2 0) := by unfold ptG; rw [if_neg (by rw [hk]; decide), if_neg (by rw [hk]; decide), if_neg (by rw [hk]; decide), if_neg (by rw [hk]; decide), if_neg (by rw [hk]; decide), if_pos (by omega), if_neg (by rw [hk]; decide), he, hk]
    exact LPost.yes hx hf hW
  · obtain ⟨e, he⟩ := okS_f (show okS (brB (kd B n) d (smD (kd B n) (vl B n) d) 2 (i + 1) P) = false from c133)
    rw [he] at hx130
    refine LW_iconst (v := 0) dX5_readPart_136 (by decide) ?_
    refine LW_zret dX5_readPart_137 rfl (Nat.le_of_ble_eq_true rfl) (Nat.le_of_ble_eq_true rfl) (Or.inl rfl) ?_
    have hx : ptG (kd B n) (vl B n) (brB (kd B n) d (smD (kd B n) (vl B n) d)) i P = .inl e := by unfold ptG; rw [if_neg (by rw [hk]; decide), if_neg (by rw [hk]; decide), if_neg (by rw [hk]; decide), if_neg (by rw [hk]; decide), if_neg (by rw [hk]; decide), if_pos (by omega), if_neg (by rw [hk]; decide), he]
    exact LPost.no hx hf hx130
set_option maxRecDepth 100000 in
theorem r_pt_1014 {Λ : hc_L} {I : hc_I} {L : hc_J} {R : hc_R} {B : Nat → Nat} {n cn i d D : Nat} {A : AS} {P : LwP} (hB : ∀ j, j < n → B j < 256) (hd : d ≤ 8) (hW : RW B n cn Λ I L R i (8 - d) A P) {h : Nat} (hP : okP P h) (hh : h + 4 * d ≤ 36) (hPi : P.1 ≤ i) (hk : kd B n i = 1014) (hbr : BrC B n cn d D) : Run (xX5_readPart (D + 1)) [.ref 45] Λ I L R (LPost B n cn (8 - d) A (ptG (kd B n) (vl B n) (brB (kd B n) d (smD (kd B n) (vl B n) d)) i P) Λ I L R) := by
  refine Run.of (show plainName "HailClub$Reader" = true by decide +kernel) (Nat.le_of_ble_eq_true rfl) ?_
  show LW _ _ _ [(0, .ref 45)] _ _ _ _ _ _
  have hY := hW.y
  have hf : Fr RJ Λ I L R Λ I L R := Fr.rf
  have hc7 := hW.cn7
  have hK : kd B n i ≠ 2003 := by rw [hk]; decide
  have hnx := hW.nx hB hK
  refine LW_aloadn 0 dX5_readPart_0 rfl rfl ?_
  refine gX5_7 dX5_readPart_1 flX5_49 (hY.lt (k := 45) (by decide)) (ly45 hY) ?_
  rw [show I 45 7 = 1014 from (by rw [hW.k, hk]; rfl)]
  refine LW_istoren (ls' := [(0, .ref 45), (1, .int 1014)]) dX5_readPart_4 rfl (Nat.le_of_ble_eq_true rfl) rfl ?_
  refine LW_iloadn 1 dX5_readPart_5 rfl rfl ?_
  refine LW_lookup (off := 107) (tgt := 113) dX5_readPart_6 (by decide) (by decide) (by decide) ?_
  refine LW_aloadn 0 dX5_readPart_113 rfl rfl ?_
  refine LW_callV (As := []) (b := 45) (st := []) (ci := 5) (r := (RX5, TX5, 11)) (r_step hB hW hK) YX5_step rfl dX5_readPart_114 mlX5_60 (hY.lt (k := 45) (by decide)) (ly45 hY) ⟨rfl, rfl⟩ (Nat.succ_le_succ (Nat.zero_le _)) ⟨Nat.le_of_ble_eq_true rfl, Nat.le_of_ble_eq_true rfl⟩ (Nat.le_of_ble_eq_true rfl) rfl (fun r114 Λc114 Ic114 Lc114 Rc114 hq114 => ?_)
  obtain ⟨rfl, rfl, hI114, hL114, hR114, hW114⟩ := hq114
  obtain rfl : R = Rc114 := funext fun z => (hR114 z (fun q => q)).symm
  have hW := hW114
  have hf := hf.trans (Fr.rd (fun z z1 _ => hI114 z z1) hL114)
  refine LW_aloadn 0 dX5_readPart_117 rfl rfl ?_
  refine LW_iloadn 1 dX5_readPart_118 rfl rfl ?_
  refine LW_sipush (v := 1015) dX5_readPart_119 (by decide) ?_
  refine LW_icmp_ne (tgt := 129) dX5_readPart_122 (by decide) (fun c122 => ?_) (fun c122 => absurd (by decide) c122)
  refine LW_iconst (v := 2) dX5_readPart_129 (by decide) ?_
  refine LW_callV (As := [.int 2]) (b := 45) (st := []) (ci := 5) (r := (RX5, TX5, 11)) (hbr _ _ _ _ _ _ _ h 2 hW hP hh (by omega) (by decide) (by decide)) (YX5_readInBrackets D) rfl dX5_readPart_130 mlX5_178 (hY.lt (k := 45) (by decide)) (ly45 hY) ⟨rfl, rfl⟩ (Nat.le_refl _) ⟨Nat.le_of_ble_eq_true rfl, Nat.le_of_ble_eq_true rfl⟩ (Nat.le_of_ble_eq_true rfl) rfl (fun r130 Λc130 Ic130 Lc130 Rc130 hq130 => ?_)
  obtain ⟨rfl, rfl, rfl, hf2130, hx130⟩ := hq130
  have hf := hf.trans hf2130
  refine LW_bif_ne (tgt := 138) dX5_readPart_133 (by decide) (fun c133 => ?_) (fun c133 => ?_)
  · obtain ⟨q, he⟩ := okS_t (show okS (brB (kd B n) d (smD (kd B n) (vl B n) d) 2 (i + 1) P) = true from c133)
    rw [he] at hx130
    have hW := hx130
    have hob := brB_ok (fun j hj => vl_n hB hj) hd hh (by decide) (by decide) hP he
    refine LW_aloadn 0 dX5_readPart_138 rfl rfl ?_
    refine gX5_2 dX5_readPart_139 flX5_32 (hY.lt (k := 45) (by decide)) (ly45 hY) (lf45_2 hY) ?_
    refine LW_iloadn 1 dX5_readPart_142 rfl rfl ?_
    refine LW_ineg dX5_readPart_143 ?_
    refine LW_callV (As := [.int (-1014)]) (b := 42) (st := []) (ci := 4) (r := (RX4, TX4, 3)) (r_lawAdd hW.l (by have := hW.c; have := hW.cn7; omega) (k := 3) (v := 0) (by decide)) YX4_add rfl dX5_readPart_144 mlX5_174 (hY.lt (k := 42) (by decide)) (ly42 hY) ⟨rfl, rfl⟩ (Nat.succ_le_succ (Nat.zero_le _)) ⟨Nat.le_of_ble_eq_true rfl, Nat.le_of_ble_eq_true rfl⟩ (Nat.le_of_ble_eq_true rfl) rfl (fun r144 Λc144 Ic144 Lc144 Rc144 hq144 => ?_)
    obtain ⟨rfl, rfl, hI144, hL144, hR144, hP144⟩ := hq144
    obtain rfl : Lc130 = Lc144 := funext fun z => (hL144 z (fun q => q)).symm
    obtain rfl : R = Rc144 := funext fun z => (hR144 z (fun q => q)).symm
    have hf := hf.trans (Fr.lw hI144)
    have hW := hW.lw hI144 hP144
    refine LW_iconst (v := 1) dX5_readPart_147 (by decide) ?_
    refine LW_zret dX5_readPart_148 rfl (Nat.le_of_ble_eq_true rfl) (Nat.le_of_ble_eq_true rfl) (Or.inr rfl) ?_
    have hx : ptG (kd B n) (vl B n) (brB (kd B n) d (smD (kd B n) (vl B n) d)) i P = .inr (q.1, lpPush q.2 3 0) := by unfold ptG; rw [if_neg (by rw [hk]; decide), if_neg (by rw [hk]; decide), if_neg (by rw [hk]; decide), if_neg (by rw [hk]; decide), if_neg (by rw [hk]; decide), if_pos (by omega), if_neg (by rw [hk]; decide), he, hk]
    exact LPost.yes hx hf hW
  · obtain ⟨e, he⟩ := okS_f (show okS (brB (kd B n) d (smD (kd B n) (vl B n) d) 2 (i + 1) P) = false from c133)
    rw [he] at hx130
    refine LW_iconst (v := 0) dX5_readPart_136 (by decide) ?_
    refine LW_zret dX5_readPart_137 rfl (Nat.le_of_ble_eq_true rfl) (Nat.le_of_ble_eq_true rfl) (Or.inl rfl) ?_
    have hx : ptG (kd B n) (vl B n) (brB (kd B n) d (smD (kd B n) (vl B n) d)) i P = .inl e := by unfold ptG; rw [if_neg (by rw [hk]; decide), if_neg (by rw [hk]; decide), if_neg (by rw [hk]; decide), if_neg (by rw [hk]; decide), if_neg (by rw [hk]; decide), if_pos (by omega), if_neg (by rw [hk]; decide), he]
    exact LPost.no hx hf hx130
set_option maxRecDepth 100000 in
theorem r_pt_1015 {Λ : hc_L} {I : hc_I} {L : hc_J} {R : hc_R} {B : Nat → Nat} {n cn i d D : Nat} {A : AS} {P : LwP} (hB : ∀ j, j < n → B j < 256) (hd : d ≤ 8) (hW : RW B n cn Λ I L R i (8 - d) A P) {h : Nat} (hP : okP P h) (hh : h + 4 * d ≤ 36) (hPi : P.1 ≤ i) (hk : kd B n i = 1015) (hbr : BrC B n cn d D) : Run (xX5_readPart (D + 1)) [.ref 45] Λ I L R (LPost B n cn (8 - d) A (ptG (kd B n) (vl B n) (brB (kd B n) d (smD (kd B n) (vl B n) d)) i P) Λ I L R) := by
  refine Run.of (show plainName "HailClub$Reader" = true by decide +kernel) (Nat.le_of_ble_eq_true rfl) ?_
  show LW _ _ _ [(0, .ref 45)] _ _ _ _ _ _
  have hY := hW.y
  have hf : Fr RJ Λ I L R Λ I L R := Fr.rf
  have hc7 := hW.cn7
  have hK : kd B n i ≠ 2003 := by rw [hk]; decide
  have hnx := hW.nx hB hK
  refine LW_aloadn 0 dX5_readPart_0 rfl rfl ?_
  refine gX5_7 dX5_readPart_1 flX5_49 (hY.lt (k := 45) (by decide)) (ly45 hY) ?_
  rw [show I 45 7 = 1015 from (by rw [hW.k, hk]; rfl)]
  refine LW_istoren (ls' := [(0, .ref 45), (1, .int 1015)]) dX5_readPart_4 rfl (Nat.le_of_ble_eq_true rfl) rfl ?_
  refine LW_iloadn 1 dX5_readPart_5 rfl rfl ?_
  refine LW_lookup (off := 107) (tgt := 113) dX5_readPart_6 (by decide) (by decide) (by decide) ?_
  refine LW_aloadn 0 dX5_readPart_113 rfl rfl ?_
  refine LW_callV (As := []) (b := 45) (st := []) (ci := 5) (r := (RX5, TX5, 11)) (r_step hB hW hK) YX5_step rfl dX5_readPart_114 mlX5_60 (hY.lt (k := 45) (by decide)) (ly45 hY) ⟨rfl, rfl⟩ (Nat.succ_le_succ (Nat.zero_le _)) ⟨Nat.le_of_ble_eq_true rfl, Nat.le_of_ble_eq_true rfl⟩ (Nat.le_of_ble_eq_true rfl) rfl (fun r114 Λc114 Ic114 Lc114 Rc114 hq114 => ?_)
  obtain ⟨rfl, rfl, hI114, hL114, hR114, hW114⟩ := hq114
  obtain rfl : R = Rc114 := funext fun z => (hR114 z (fun q => q)).symm
  have hW := hW114
  have hf := hf.trans (Fr.rd (fun z z1 _ => hI114 z z1) hL114)
  refine LW_aloadn 0 dX5_readPart_117 rfl rfl ?_
  refine LW_iloadn 1 dX5_readPart_118 rfl rfl ?_
  refine LW_sipush (v := 1015) dX5_readPart_119 (by decide) ?_
  refine LW_icmp_ne (tgt := 129) dX5_readPart_122 (by decide) (fun c122 => absurd c122 (by decide)) (fun c122 => ?_)
  refine LW_iconst (v := 3) dX5_readPart_125 (by decide) ?_
  refine LW_goto (tgt := 130) dX5_readPart_126 (by decide) ?_
  refine LW_callV (As := [.int 3]) (b := 45) (st := []) (ci := 5) (r := (RX5, TX5, 11)) (hbr _ _ _ _ _ _ _ h 3 hW hP hh (by omega) (by decide) (by decide)) (YX5_readInBrackets D) rfl dX5_readPart_130 mlX5_178 (hY.lt (k := 45) (by decide)) (ly45 hY) ⟨rfl, rfl⟩ (Nat.le_refl _) ⟨Nat.le_of_ble_eq_true rfl, Nat.le_of_ble_eq_true rfl⟩ (Nat.le_of_ble_eq_true rfl) rfl (fun r130 Λc130 Ic130 Lc130 Rc130 hq130 => ?_)
  obtain ⟨rfl, rfl, rfl, hf2130, hx130⟩ := hq130
  have hf := hf.trans hf2130
  refine LW_bif_ne (tgt := 138) dX5_readPart_133 (by decide) (fun c133 => ?_) (fun c133 => ?_)
  · obtain ⟨q, he⟩ := okS_t (show okS (brB (kd B n) d (smD (kd B n) (vl B n) d) 3 (i + 1) P) = true from c133)
    rw [he] at hx130
    have hW := hx130
    have hob := brB_ok (fun j hj => vl_n hB hj) hd hh (by decide) (by decide) hP he
    refine LW_aloadn 0 dX5_readPart_138 rfl rfl ?_
    refine gX5_2 dX5_readPart_139 flX5_32 (hY.lt (k := 45) (by decide)) (ly45 hY) (lf45_2 hY) ?_
    refine LW_iloadn 1 dX5_readPart_142 rfl rfl ?_
    refine LW_ineg dX5_readPart_143 ?_
    refine LW_callV (As := [.int (-1015)]) (b := 42) (st := []) (ci := 4) (r := (RX4, TX4, 3)) (r_lawAdd hW.l (by have := hW.c; have := hW.cn7; omega) (k := 4) (v := 0) (by decide)) YX4_add rfl dX5_readPart_144 mlX5_174 (hY.lt (k := 42) (by decide)) (ly42 hY) ⟨rfl, rfl⟩ (Nat.succ_le_succ (Nat.zero_le _)) ⟨Nat.le_of_ble_eq_true rfl, Nat.le_of_ble_eq_true rfl⟩ (Nat.le_of_ble_eq_true rfl) rfl (fun r144 Λc144 Ic144 Lc144 Rc144 hq144 => ?_)
    obtain ⟨rfl, rfl, hI144, hL144, hR144, hP144⟩ := hq144
    obtain rfl : Lc130 = Lc144 := funext fun z => (hL144 z (fun q => q)).symm
    obtain rfl : R = Rc144 := funext fun z => (hR144 z (fun q => q)).symm
    have hf := hf.trans (Fr.lw hI144)
    have hW := hW.lw hI144 hP144
    refine LW_iconst (v := 1) dX5_readPart_147 (by decide) ?_
    refine LW_zret dX5_readPart_148 rfl (Nat.le_of_ble_eq_true rfl) (Nat.le_of_ble_eq_true rfl) (Or.inr rfl) ?_
    have hx : ptG (kd B n) (vl B n) (brB (kd B n) d (smD (kd B n) (vl B n) d)) i P = .inr (q.1, lpPush q.2 4 0) := by unfold ptG; rw [if_neg (by rw [hk]; decide), if_neg (by rw [hk]; decide), if_neg (by rw [hk]; decide), if_neg (by rw [hk]; decide), if_neg (by rw [hk]; decide), if_pos (by omega), if_pos hk, he, hk]
    exact LPost.yes hx hf hW
  · obtain ⟨e, he⟩ := okS_f (show okS (brB (kd B n) d (smD (kd B n) (vl B n) d) 3 (i + 1) P) = false from c133)
    rw [he] at hx130
    refine LW_iconst (v := 0) dX5_readPart_136 (by decide) ?_
    refine LW_zret dX5_readPart_137 rfl (Nat.le_of_ble_eq_true rfl) (Nat.le_of_ble_eq_true rfl) (Or.inl rfl) ?_
    have hx : ptG (kd B n) (vl B n) (brB (kd B n) d (smD (kd B n) (vl B n) d)) i P = .inl e := by unfold ptG; rw [if_neg (by rw [hk]; decide), if_neg (by rw [hk]; decide), if_neg (by rw [hk]; decide), if_neg (by rw [hk]; decide), if_neg (by rw [hk]; decide), if_pos (by omega), if_pos hk, he]
    exact LPost.no hx hf hx130
set_option maxRecDepth 100000 in
theorem r_pt_else {Λ : hc_L} {I : hc_I} {L : hc_J} {R : hc_R} {B : Nat → Nat} {n cn i d D : Nat} {A : AS} {P : LwP} (hB : ∀ j, j < n → B j < 256) (hd : d ≤ 8) (hW : RW B n cn Λ I L R i (8 - d) A P) {h : Nat} (hP : okP P h) (hh : h + 4 * d ≤ 36) (hPi : P.1 ≤ i) (hk : kd B n i ≠ 1002 ∧ kd B n i ≠ 1003 ∧ kd B n i ≠ 1011 ∧ kd B n i ≠ 1012 ∧ kd B n i ≠ 1013 ∧ kd B n i ≠ 1014 ∧ kd B n i ≠ 1015 ∧ kd B n i ≠ 2001) (hbr : BrC B n cn d D) : Run (xX5_readPart (D + 1)) [.ref 45] Λ I L R (LPost B n cn (8 - d) A (ptG (kd B n) (vl B n) (brB (kd B n) d (smD (kd B n) (vl B n) d)) i P) Λ I L R) := by
  refine Run.of (show plainName "HailClub$Reader" = true by decide +kernel) (Nat.le_of_ble_eq_true rfl) ?_
  show LW _ _ _ [(0, .ref 45)] _ _ _ _ _ _
  have hY := hW.y
  obtain ⟨k1, k2, k3, k4, k5, k6, k7, k8⟩ := hk
  refine LW_aloadn 0 dX5_readPart_0 rfl rfl ?_
  refine gX5_7 dX5_readPart_1 flX5_49 (hY.lt (k := 45) (by decide)) (ly45 hY) ?_
  rw [show I 45 7 = kEnc (kd B n i) from hW.k]
  refine LW_istoren (ls' := [(0, .ref 45), (1, .int (kEnc (kd B n i)))]) dX5_readPart_4 rfl (Nat.le_of_ble_eq_true rfl) rfl ?_
  refine LW_iloadn 1 dX5_readPart_5 rfl rfl ?_
  refine LW_lookup (off := 143) (tgt := 149) dX5_readPart_6 (by decide) (lu_no _ (by
    intro q hq
    simp only [List.mem_cons, List.not_mem_nil, or_false] at hq
    rcases hq with rfl | rfl | rfl | rfl | rfl | rfl | rfl | rfl
    · exact kd_toInt hB (c := 1002) (by decide) (by omega)
    · exact kd_toInt hB (c := 1003) (by decide) (by omega)
    · exact kd_toInt hB (c := 1011) (by decide) (by omega)
    · exact kd_toInt hB (c := 1012) (by decide) (by omega)
    · exact kd_toInt hB (c := 1013) (by decide) (by omega)
    · exact kd_toInt hB (c := 1014) (by decide) (by omega)
    · exact kd_toInt hB (c := 1015) (by decide) (by omega)
    · exact kd_toInt hB (c := 2001) (by decide) (by omega))) (by decide) ?_
  refine LW_aloadn 0 dX5_readPart_149 rfl rfl ?_
  refine LW_iconst (v := 1) dX5_readPart_150 (by decide) ?_
  refine LW_callV (As := [.int 1]) (b := 45) (st := []) (ci := 5) (r := (RX5, TX5, 11)) (hbr _ _ _ _ _ _ _ h 1 hW hP hh hPi (by decide) (by decide)) (YX5_readInBrackets D) rfl dX5_readPart_151 mlX5_178 (hY.lt (k := 45) (by decide)) (ly45 hY) ⟨rfl, rfl⟩ (Nat.le_refl _) ⟨Nat.le_of_ble_eq_true rfl, Nat.le_of_ble_eq_true rfl⟩ (Nat.le_of_ble_eq_true rfl) rfl (fun r151 Λc151 Ic151 Lc151 Rc151 hq151 => ?_)
  obtain ⟨rfl, hq2151⟩ := hq151
  refine LW_zret dX5_readPart_154 rfl (Nat.le_of_ble_eq_true rfl) (Nat.le_of_ble_eq_true rfl) (hc_b01 _) ?_
  have hx : ptG (kd B n) (vl B n) (brB (kd B n) d (smD (kd B n) (vl B n) d)) i P = brB (kd B n) d (smD (kd B n) (vl B n) d) 1 i P := by unfold ptG; rw [if_neg k8, if_neg k3, if_neg k1, if_neg k4, if_neg k2, if_neg (by omega)]
  rw [hx]
  exact ⟨rfl, hq2151⟩
theorem ptS {B : Nat → Nat} {n cn d D : Nat} (hB : ∀ j, j < n → B j < 256) (hd : d ≤ 8) (hbr : BrC B n cn d D) : PtC B n cn d (D + 1) := by
  intro Λ I L R i A P h hW hP hh hPi
  rw [ptD_eq]
  by_cases k1 : kd B n i = 2001
  · exact r_pt_2001 hB hd hW hP hh hPi k1
  by_cases k2 : kd B n i = 1011
  · exact r_pt_1011 hB hd hW hP hh hPi k2
  by_cases k3 : kd B n i = 1002
  · exact r_pt_1002 hB hd hW hP hh hPi k3
  by_cases k4 : kd B n i = 1012
  · exact r_pt_1012 hB hd hW hP hh hPi k4
  by_cases k5 : kd B n i = 1003
  · exact r_pt_1003 hB hd hW hP hh hPi k5
  by_cases k6 : kd B n i = 1013
  · exact r_pt_1013 hB hd hW hP hh hPi k6 hbr
  by_cases k7 : kd B n i = 1014
  · exact r_pt_1014 hB hd hW hP hh hPi k7 hbr
  by_cases k8 : kd B n i = 1015
  · exact r_pt_1015 hB hd hW hP hh hPi k8 hbr
  exact r_pt_else hB hd hW hP hh hPi ⟨k3, k5, k2, k4, k6, k7, k8, k1⟩ hbr
set_option maxRecDepth 100000 in
theorem br0 {Λ : hc_L} {I : hc_I} {L : hc_J} {R : hc_R} {B : Nat → Nat} {n cn i d D : Nat} {A : AS} {P : LwP} (hB : ∀ j, j < n → B j < 256) {kk : Nat} (hW : RW B n cn Λ I L R i (8 - 0) A P) : Run (xX5_readInBrackets (D + 1)) [.ref 45, .int (nI kk)] Λ I L R (LPost B n cn (8 - 0) A (brB (kd B n) 0 (smD (kd B n) (vl B n) 0) kk i P) Λ I L R) := by
  refine Run.of (show plainName "HailClub$Reader" = true by decide +kernel) (Nat.le_of_ble_eq_true rfl) ?_
  show LW _ _ _ [(0, .ref 45), (1, .int (nI kk))] _ _ _ _ _ _
  have hY := hW.y
  have hf : Fr RJ Λ I L R Λ I L R := Fr.rf
  have hc7 := hW.cn7
  refine LW_aloadn 0 dX5_readInBrackets_0 rfl rfl ?_
  refine gX5_7 dX5_readInBrackets_1 flX5_49 (hY.lt (k := 45) (by decide)) (ly45 hY) ?_
  rw [show I 45 7 = kEnc (kd B n i) from hW.k]
  refine LW_bipush (v := 40) dX5_readInBrackets_4 (by decide) ?_
  refine LW_icmp_eq (tgt := 15) dX5_readInBrackets_6 (by decide) (fun c6 => ?_) (fun c6 => ?_)
  · have hk : kd B n i = 40 := (kd_ne hB (by decide)).mp c6
    have hK : kd B n i ≠ 2003 := by rw [hk]; decide
    refine LW_aloadn 0 dX5_readInBrackets_15 rfl rfl ?_
    refine gX5_10 dX5_readInBrackets_16 flX5_94 (hY.lt (k := 45) (by decide)) (ly45 hY) ?_
    rw [show I 45 10 = nI (8 - 0) from hW.o]
    refine LW_bipush (v := 8) dX5_readInBrackets_19 (by decide) ?_
    refine LW_icmp_lt (tgt := 30) dX5_readInBrackets_21 (by decide) (fun c21 => absurd c21 (by decide)) (fun c21 => ?_)
    refine LW_aloadn 0 dX5_readInBrackets_24 rfl rfl ?_
    refine LW_iconst (v := 5) dX5_readInBrackets_25 (by decide) ?_
    refine LW_callV (As := [.int 5]) (b := 45) (st := []) (ci := 5) (r := (RX5, TX5, 11)) (r_refuse hW 5 rfl) YX5_refuse rfl dX5_readInBrackets_26 mlX5_56 (hY.lt (k := 45) (by decide)) (ly45 hY) ⟨rfl, rfl⟩ (Nat.succ_le_succ (Nat.zero_le _)) ⟨Nat.le_of_ble_eq_true rfl, Nat.le_of_ble_eq_true rfl⟩ (Nat.le_of_ble_eq_true rfl) rfl (fun r26 Λc26 Ic26 Lc26 Rc26 hq26 => ?_)
    obtain ⟨rfl, rfl, hI26, hL26, hR26, hF26⟩ := hq26
    obtain rfl : L = Lc26 := funext fun z => (hL26 z (fun q => q)).symm
    obtain rfl : R = Rc26 := funext fun z => (hR26 z (fun q => q)).symm
    have hf := hf.trans (Fr.rd (fun z z1 _ => hI26 z z1) (fun _ _ => rfl))
    refine LW_zret dX5_readInBrackets_29 rfl (Nat.le_of_ble_eq_true rfl) (Nat.le_of_ble_eq_true rfl) (hc_b01 _) ?_
    have hx : brB (kd B n) 0 (smD (kd B n) (vl B n) 0) kk i P = .inl (5, i) := by unfold brB; rw [if_pos hk, if_pos rfl]
    exact LPost.no hx hf hF26
  · have hk : ¬ kd B n i = 40 := fun z => c6 ((kd_ne hB (by decide)).mpr z)
    refine LW_aloadn 0 dX5_readInBrackets_9 rfl rfl ?_
    refine LW_iconst (v := 1) dX5_readInBrackets_10 (by decide) ?_
    refine LW_callV (As := [.int 1]) (b := 45) (st := []) (ci := 5) (r := (RX5, TX5, 11)) (r_refuse hW 1 rfl) YX5_refuse rfl dX5_readInBrackets_11 mlX5_56 (hY.lt (k := 45) (by decide)) (ly45 hY) ⟨rfl, rfl⟩ (Nat.succ_le_succ (Nat.zero_le _)) ⟨Nat.le_of_ble_eq_true rfl, Nat.le_of_ble_eq_true rfl⟩ (Nat.le_of_ble_eq_true rfl) rfl (fun r11 Λc11 Ic11 Lc11 Rc11 hq11 => ?_)
    obtain ⟨rfl, rfl, hI11, hL11, hR11, hF11⟩ := hq11
    obtain rfl : L = Lc11 := funext fun z => (hL11 z (fun q => q)).symm
    obtain rfl : R = Rc11 := funext fun z => (hR11 z (fun q => q)).symm
    have hf := hf.trans (Fr.rd (fun z z1 _ => hI11 z z1) (fun _ _ => rfl))
    refine LW_zret dX5_readInBrackets_14 rfl (Nat.le_of_ble_eq_true rfl) (Nat.le_of_ble_eq_true rfl) (hc_b01 _) ?_
    have hx : brB (kd B n) 0 (smD (kd B n) (vl B n) 0) kk i P = .inl (1, i) := if_neg hk
    exact LPost.no hx hf hF11
set_option maxRecDepth 100000 in
theorem brS1 {Λ : hc_L} {I : hc_I} {L : hc_J} {R : hc_R} {B : Nat → Nat} {n cn i d D : Nat} {A : AS} {P : LwP} (hB : ∀ j, j < n → B j < 256) {kk : Nat} (hd : d + 1 ≤ 8) (hW : RW B n cn Λ I L R i (8 - (d + 1)) A P) {h : Nat} (hP : okP P h) (hh : h + 4 * (d + 1) ≤ 36) (hPi : P.1 ≤ i) (hk1 : 1 ≤ kk) (hk3 : kk ≤ 3) (hsm : SmC B n cn d D) : Run (xX5_readInBrackets (D + 1)) [.ref 45, .int (nI kk)] Λ I L R (LPost B n cn (8 - (d + 1)) A (brB (kd B n) (d + 1) (smD (kd B n) (vl B n) (d + 1)) kk i P) Λ I L R) := by
  refine Run.of (show plainName "HailClub$Reader" = true by decide +kernel) (Nat.le_of_ble_eq_true rfl) ?_
  show LW _ _ _ [(0, .ref 45), (1, .int (nI kk))] _ _ _ _ _ _
  have hY := hW.y
  have hf : Fr RJ Λ I L R Λ I L R := Fr.rf
  have hc7 := hW.cn7
  have loop : ∀ (x : Ls) k j (I1 : hc_I) (L1 : hc_J) i1 P1 h1, (j + k = kk + 1) → (1 ≤ j) → RW B n cn Λ I1 L1 R i1 (8 - d) A P1 → okP P1 h1 → (h1 + k ≤ 36 - 4 * d - 2 + 1) → P1.1 ≤ i1 → Fr RJ Λ I L R Λ I1 L1 R → brK (kd B n) (smW (kd B n) (ptD (kd B n) (vl B n) d)) k i1 P1 = x → LW (xX5_readInBrackets (D + 1)) (0, 0) 46 [(0, .ref 45), (1, .int (nI kk)), (2, .int (nI j))] [] Λ I1 L1 R (LPost B n cn (8 - (d + 1)) A (x) Λ I L R) := by
    intro x k
    induction k with
    | zero =>
      intro j I1 L1 i1 P1 h1 hjk hj1 hW hP1 hh1 hPi1 hf hx
      refine LW_iloadn 2 dX5_readInBrackets_46 rfl rfl ?_
      refine LW_iloadn 1 dX5_readInBrackets_47 rfl rfl ?_
      refine LW_icmp_gt (tgt := 95) dX5_readInBrackets_48 (by decide) (fun c48 => ?_) (fun c48 => absurd ((hc_lt (by omega) (by omega)).mpr (by omega)) c48)
      refine LW_aloadn 0 dX5_readInBrackets_95 rfl rfl ?_
      refine LW_dup dX5_readInBrackets_96 rfl ?_
      refine gX5_10 dX5_readInBrackets_97 flX5_94 (hY.lt (k := 45) (by decide)) (ly45 hY) ?_
      rw [show I1 45 10 = nI (8 - d) from hW.o]
      refine LW_iconst (v := 1) dX5_readInBrackets_100 (by decide) ?_
      refine LW_isub dX5_readInBrackets_101 ?_
      rw [show ((nI (8 - d)) - 1) = nI (8 - (d + 1)) from (by rw [show (1 : Int32) = nI 1 from rfl, nI_sub (by omega)]; congr 1)]
      refine pX5_10 dX5_readInBrackets_102 flX5_94 (hY.lt (k := 45) (by decide)) (ly45 hY) ?_
      generalize hI102 : hc_u I1 45 10 (nI (8 - (d + 1))) = I102
      refine LW_iconst (v := 1) dX5_readInBrackets_105 (by decide) ?_
      refine LW_zret dX5_readInBrackets_106 rfl (Nat.le_of_ble_eq_true rfl) (Nat.le_of_ble_eq_true rfl) (Or.inr rfl) ?_
      have hW2 : RW B n cn Λ I102 L1 R i1 (8 - (d + 1)) A P1 := hW.opn (fun z hz => by rw [← hI102, hc_u_row _ _ _ _ hz]) (fun q => by rw [← hI102, hc_u_at])
      exact LPost.yes hx.symm (hf.trans (Fr.rd (fun z z1 _ => by rw [← hI102, hc_u_row _ _ _ _ z1]) (fun _ _ => rfl))) hW2
    | succ k ih =>
      intro j I1 L1 i1 P1 h1 hjk hj1 hW hP1 hh1 hPi1 hf hx
      rw [brK] at hx
      refine LW_iloadn 2 dX5_readInBrackets_46 rfl rfl ?_
      refine LW_iloadn 1 dX5_readInBrackets_47 rfl rfl ?_
      refine LW_icmp_gt (tgt := 95) dX5_readInBrackets_48 (by decide) (fun c48 => absurd c48 (hc_nlt (by omega) (by omega) (by omega))) (fun c48 => ?_)
      refine LW_aloadn 0 dX5_readInBrackets_51 rfl rfl ?_
      refine LW_callV (As := []) (b := 45) (st := []) (ci := 5) (r := (RX5, TX5, 11)) (hsm _ _ _ _ _ _ _ h1 hW hP1 (by omega) hPi1) (YX5_readSum D) rfl dX5_readInBrackets_52 mlX5_168 (hY.lt (k := 45) (by decide)) (ly45 hY) ⟨rfl, rfl⟩ (Nat.le_refl _) ⟨Nat.le_of_ble_eq_true rfl, Nat.le_of_ble_eq_true rfl⟩ (Nat.le_of_ble_eq_true rfl) rfl (fun r52 Λc52 Ic52 Lc52 Rc52 hq52 => ?_)
      obtain ⟨rfl, rfl, rfl, hf252, hx52⟩ := hq52
      have hf := hf.trans hf252
      refine LW_bif_ne (tgt := 60) dX5_readInBrackets_55 (by decide) (fun c55 => ?_) (fun c55 => ?_)
      · obtain ⟨q, he⟩ := okS_t (show okS (smW (kd B n) (ptD (kd B n) (vl B n) d) i1 P1) = true from c55)
        rw [he] at hx hx52
        have hW := hx52
        have hob := smW_ok (K := kd B n) (H := 36 - 4 * d - 2) (by rw [show 36 - 4 * d - 2 + 2 = 36 - 4 * d by omega]; exact ptD_ok (fun j hj => vl_n hB hj) d (by omega)) (by omega) h1 (by omega) i1 P1 q hP1 he
        replace hx : (if kd B n q.1 = (if k = 0 then 41 else 44) then brK (kd B n) (smW (kd B n) (ptD (kd B n) (vl B n) d)) k (q.1 + 1) q.2 else .inl (1, q.1)) = x := hx
        refine LW_aloadn 0 dX5_readInBrackets_60 rfl rfl ?_
        refine gX5_7 dX5_readInBrackets_61 flX5_49 (hY.lt (k := 45) (by decide)) (ly45 hY) ?_
        rw [show Ic52 45 7 = kEnc (kd B n q.1) from hW.k]
        refine LW_iloadn 2 dX5_readInBrackets_64 rfl rfl ?_
        refine LW_iloadn 1 dX5_readInBrackets_65 rfl rfl ?_
        refine LW_icmp_ge (tgt := 74) dX5_readInBrackets_66 (by decide) (fun c66 => ?_) (fun c66 => ?_)
        · have hek : (if k = 0 then 41 else 44) = 41 := if_pos (by have := (hc_le (a := kk) (b := j) (by omega) (by omega)).mp c66; omega)
          refine LW_bipush (v := 41) dX5_readInBrackets_74 (by decide) ?_
          refine LW_icmp_eq (tgt := 85) dX5_readInBrackets_76 (by decide) (fun c76 => ?_) (fun c76 => ?_)
          · have hkq : kd B n q.1 = 41 := (kd_ne hB (by decide)).mp c76
            rw [hek, if_pos hkq] at hx
            have hK : kd B n q.1 ≠ 2003 := by rw [hkq]; decide
            refine LW_aloadn 0 dX5_readInBrackets_85 rfl rfl ?_
            refine LW_callV (As := []) (b := 45) (st := []) (ci := 5) (r := (RX5, TX5, 11)) (r_step hB hW hK) YX5_step rfl dX5_readInBrackets_86 mlX5_60 (hY.lt (k := 45) (by decide)) (ly45 hY) ⟨rfl, rfl⟩ (Nat.succ_le_succ (Nat.zero_le _)) ⟨Nat.le_of_ble_eq_true rfl, Nat.le_of_ble_eq_true rfl⟩ (Nat.le_of_ble_eq_true rfl) rfl (fun r86 Λc86 Ic86 Lc86 Rc86 hq86 => ?_)
            obtain ⟨rfl, rfl, hI86, hL86, hR86, hW86⟩ := hq86
            obtain rfl : R = Rc86 := funext fun z => (hR86 z (fun q => q)).symm
            have hW := hW86
            have hf := hf.trans (Fr.rd (fun z z1 _ => hI86 z z1) hL86)
            refine LW_iinc (n := 2) (v := nI (j + 1)) (ls' := [(0, .ref 45), (1, .int (nI kk)), (2, .int (nI (j + 1)))]) dX5_readInBrackets_89 rfl (hc_inc _) (Nat.le_of_ble_eq_true rfl) rfl ?_
            refine LW_goto (tgt := 46) dX5_readInBrackets_92 (by decide) ?_
            exact ih (j + 1) Ic86 Lc86 (q.1 + 1) q.2 (h1 + 1) (by omega) (by omega) hW hob.1 (by omega) (by omega) hf hx
          · have hkq : ¬ kd B n q.1 = 41 := fun z => c76 ((kd_ne hB (by decide)).mpr z)
            rw [hek, if_neg hkq] at hx
            refine LW_aloadn 0 dX5_readInBrackets_79 rfl rfl ?_
            refine LW_iconst (v := 1) dX5_readInBrackets_80 (by decide) ?_
            refine LW_callV (As := [.int 1]) (b := 45) (st := []) (ci := 5) (r := (RX5, TX5, 11)) (r_refuse hW 1 rfl) YX5_refuse rfl dX5_readInBrackets_81 mlX5_56 (hY.lt (k := 45) (by decide)) (ly45 hY) ⟨rfl, rfl⟩ (Nat.succ_le_succ (Nat.zero_le _)) ⟨Nat.le_of_ble_eq_true rfl, Nat.le_of_ble_eq_true rfl⟩ (Nat.le_of_ble_eq_true rfl) rfl (fun r81 Λc81 Ic81 Lc81 Rc81 hq81 => ?_)
            obtain ⟨rfl, rfl, hI81, hL81, hR81, hF81⟩ := hq81
            obtain rfl : Lc52 = Lc81 := funext fun z => (hL81 z (fun q => q)).symm
            obtain rfl : R = Rc81 := funext fun z => (hR81 z (fun q => q)).symm
            have hf := hf.trans (Fr.rd (fun z z1 _ => hI81 z z1) (fun _ _ => rfl))
            refine LW_zret dX5_readInBrackets_84 rfl (Nat.le_of_ble_eq_true rfl) (Nat.le_of_ble_eq_true rfl) (hc_b01 _) ?_
            exact LPost.no hx.symm hf hF81
        · have hek : (if k = 0 then 41 else 44) = 44 := if_neg (by have := mt (hc_le (a := kk) (b := j) (by omega) (by omega)).mpr c66; omega)
          refine LW_bipush (v := 44) dX5_readInBrackets_69 (by decide) ?_
          refine LW_goto (tgt := 76) dX5_readInBrackets_71 (by decide) ?_
          refine LW_icmp_eq (tgt := 85) dX5_readInBrackets_76 (by decide) (fun c76 => ?_) (fun c76 => ?_)
          · have hkq : kd B n q.1 = 44 := (kd_ne hB (by decide)).mp c76
            rw [hek, if_pos hkq] at hx
            have hK : kd B n q.1 ≠ 2003 := by rw [hkq]; decide
            refine LW_aloadn 0 dX5_readInBrackets_85 rfl rfl ?_
            refine LW_callV (As := []) (b := 45) (st := []) (ci := 5) (r := (RX5, TX5, 11)) (r_step hB hW hK) YX5_step rfl dX5_readInBrackets_86 mlX5_60 (hY.lt (k := 45) (by decide)) (ly45 hY) ⟨rfl, rfl⟩ (Nat.succ_le_succ (Nat.zero_le _)) ⟨Nat.le_of_ble_eq_true rfl, Nat.le_of_ble_eq_true rfl⟩ (Nat.le_of_ble_eq_true rfl) rfl (fun r86 Λc86 Ic86 Lc86 Rc86 hq86 => ?_)
            obtain ⟨rfl, rfl, hI86, hL86, hR86, hW86⟩ := hq86
            obtain rfl : R = Rc86 := funext fun z => (hR86 z (fun q => q)).symm
            have hW := hW86
            have hf := hf.trans (Fr.rd (fun z z1 _ => hI86 z z1) hL86)
            refine LW_iinc (n := 2) (v := nI (j + 1)) (ls' := [(0, .ref 45), (1, .int (nI kk)), (2, .int (nI (j + 1)))]) dX5_readInBrackets_89 rfl (hc_inc _) (Nat.le_of_ble_eq_true rfl) rfl ?_
            refine LW_goto (tgt := 46) dX5_readInBrackets_92 (by decide) ?_
            exact ih (j + 1) Ic86 Lc86 (q.1 + 1) q.2 (h1 + 1) (by omega) (by omega) hW hob.1 (by omega) (by omega) hf hx
          · have hkq : ¬ kd B n q.1 = 44 := fun z => c76 ((kd_ne hB (by decide)).mpr z)
            rw [hek, if_neg hkq] at hx
            refine LW_aloadn 0 dX5_readInBrackets_79 rfl rfl ?_
            refine LW_iconst (v := 1) dX5_readInBrackets_80 (by decide) ?_
            refine LW_callV (As := [.int 1]) (b := 45) (st := []) (ci := 5) (r := (RX5, TX5, 11)) (r_refuse hW 1 rfl) YX5_refuse rfl dX5_readInBrackets_81 mlX5_56 (hY.lt (k := 45) (by decide)) (ly45 hY) ⟨rfl, rfl⟩ (Nat.succ_le_succ (Nat.zero_le _)) ⟨Nat.le_of_ble_eq_true rfl, Nat.le_of_ble_eq_true rfl⟩ (Nat.le_of_ble_eq_true rfl) rfl (fun r81 Λc81 Ic81 Lc81 Rc81 hq81 => ?_)
            obtain ⟨rfl, rfl, hI81, hL81, hR81, hF81⟩ := hq81
            obtain rfl : Lc52 = Lc81 := funext fun z => (hL81 z (fun q => q)).symm
            obtain rfl : R = Rc81 := funext fun z => (hR81 z (fun q => q)).symm
            have hf := hf.trans (Fr.rd (fun z z1 _ => hI81 z z1) (fun _ _ => rfl))
            refine LW_zret dX5_readInBrackets_84 rfl (Nat.le_of_ble_eq_true rfl) (Nat.le_of_ble_eq_true rfl) (hc_b01 _) ?_
            exact LPost.no hx.symm hf hF81
      · obtain ⟨e, he⟩ := okS_f (show okS (smW (kd B n) (ptD (kd B n) (vl B n) d) i1 P1) = false from c55)
        rw [he] at hx hx52
        refine LW_iconst (v := 0) dX5_readInBrackets_58 (by decide) ?_
        refine LW_zret dX5_readInBrackets_59 rfl (Nat.le_of_ble_eq_true rfl) (Nat.le_of_ble_eq_true rfl) (Or.inl rfl) ?_
        exact LPost.no hx.symm hf hx52
  refine LW_aloadn 0 dX5_readInBrackets_0 rfl rfl ?_
  refine gX5_7 dX5_readInBrackets_1 flX5_49 (hY.lt (k := 45) (by decide)) (ly45 hY) ?_
  rw [show I 45 7 = kEnc (kd B n i) from hW.k]
  refine LW_bipush (v := 40) dX5_readInBrackets_4 (by decide) ?_
  refine LW_icmp_eq (tgt := 15) dX5_readInBrackets_6 (by decide) (fun c6 => ?_) (fun c6 => ?_)
  · have hk : kd B n i = 40 := (kd_ne hB (by decide)).mp c6
    have hK : kd B n i ≠ 2003 := by rw [hk]; decide
    refine LW_aloadn 0 dX5_readInBrackets_15 rfl rfl ?_
    refine gX5_10 dX5_readInBrackets_16 flX5_94 (hY.lt (k := 45) (by decide)) (ly45 hY) ?_
    rw [show I 45 10 = nI (8 - (d + 1)) from hW.o]
    refine LW_bipush (v := 8) dX5_readInBrackets_19 (by decide) ?_
    refine LW_icmp_lt (tgt := 30) dX5_readInBrackets_21 (by decide) (fun c21 => ?_) (fun c21 => absurd ((hc_lt (a := 8 - (d + 1)) (b := 8) (by omega) (by omega)).mpr (by omega)) c21)
    refine LW_aloadn 0 dX5_readInBrackets_30 rfl rfl ?_
    refine LW_dup dX5_readInBrackets_31 rfl ?_
    refine gX5_10 dX5_readInBrackets_32 flX5_94 (hY.lt (k := 45) (by decide)) (ly45 hY) ?_
    rw [show I 45 10 = nI (8 - (d + 1)) from hW.o]
    refine LW_iconst (v := 1) dX5_readInBrackets_35 (by decide) ?_
    refine LW_iadd dX5_readInBrackets_36 ?_
    rw [show ((nI (8 - (d + 1))) + 1) = nI (8 - d) from (by rw [show (1 : Int32) = nI 1 from rfl, nI_add]; congr 1; omega)]
    refine pX5_10 dX5_readInBrackets_37 flX5_94 (hY.lt (k := 45) (by decide)) (ly45 hY) ?_
    generalize hI37 : hc_u I 45 10 (nI (8 - d)) = I37
    have hf := hf.trans (Fr.rd (I' := I37) (L' := L) (fun z z1 _ => by rw [← hI37, hc_u_row _ _ _ _ z1]) (fun _ _ => rfl))
    have hW : RW B n cn Λ I37 L R i (8 - d) A P := hW.opn (fun z hz => by rw [← hI37, hc_u_row _ _ _ _ hz]) (fun q => by rw [← hI37, hc_u_at])
    refine LW_aloadn 0 dX5_readInBrackets_40 rfl rfl ?_
    refine LW_callV (As := []) (b := 45) (st := []) (ci := 5) (r := (RX5, TX5, 11)) (r_step hB hW hK) YX5_step rfl dX5_readInBrackets_41 mlX5_60 (hY.lt (k := 45) (by decide)) (ly45 hY) ⟨rfl, rfl⟩ (Nat.succ_le_succ (Nat.zero_le _)) ⟨Nat.le_of_ble_eq_true rfl, Nat.le_of_ble_eq_true rfl⟩ (Nat.le_of_ble_eq_true rfl) rfl (fun r41 Λc41 Ic41 Lc41 Rc41 hq41 => ?_)
    obtain ⟨rfl, rfl, hI41, hL41, hR41, hW41⟩ := hq41
    obtain rfl : R = Rc41 := funext fun z => (hR41 z (fun q => q)).symm
    have hW := hW41
    have hf := hf.trans (Fr.rd (fun z z1 _ => hI41 z z1) hL41)
    refine LW_iconst (v := 1) dX5_readInBrackets_44 (by decide) ?_
    refine LW_istoren (ls' := [(0, .ref 45), (1, .int (nI kk)), (2, .int 1)]) dX5_readInBrackets_45 rfl (Nat.le_of_ble_eq_true rfl) rfl ?_
    have hx : brB (kd B n) (d + 1) (smD (kd B n) (vl B n) (d + 1)) kk i P = brK (kd B n) (smW (kd B n) (ptD (kd B n) (vl B n) d)) kk (i + 1) P := by unfold brB; rw [if_pos hk, if_neg (Nat.succ_ne_zero d)]; rfl
    rw [hx]
    exact loop _ kk 1 Ic41 Lc41 (i + 1) P h (by omega) (by decide) hW hP (by omega) (by omega) hf rfl
  · have hk : ¬ kd B n i = 40 := fun z => c6 ((kd_ne hB (by decide)).mpr z)
    refine LW_aloadn 0 dX5_readInBrackets_9 rfl rfl ?_
    refine LW_iconst (v := 1) dX5_readInBrackets_10 (by decide) ?_
    refine LW_callV (As := [.int 1]) (b := 45) (st := []) (ci := 5) (r := (RX5, TX5, 11)) (r_refuse hW 1 rfl) YX5_refuse rfl dX5_readInBrackets_11 mlX5_56 (hY.lt (k := 45) (by decide)) (ly45 hY) ⟨rfl, rfl⟩ (Nat.succ_le_succ (Nat.zero_le _)) ⟨Nat.le_of_ble_eq_true rfl, Nat.le_of_ble_eq_true rfl⟩ (Nat.le_of_ble_eq_true rfl) rfl (fun r11 Λc11 Ic11 Lc11 Rc11 hq11 => ?_)
    obtain ⟨rfl, rfl, hI11, hL11, hR11, hF11⟩ := hq11
    obtain rfl : L = Lc11 := funext fun z => (hL11 z (fun q => q)).symm
    obtain rfl : R = Rc11 := funext fun z => (hR11 z (fun q => q)).symm
    have hf := hf.trans (Fr.rd (fun z z1 _ => hI11 z z1) (fun _ _ => rfl))
    refine LW_zret dX5_readInBrackets_14 rfl (Nat.le_of_ble_eq_true rfl) (Nat.le_of_ble_eq_true rfl) (hc_b01 _) ?_
    have hx : brB (kd B n) (d + 1) (smD (kd B n) (vl B n) (d + 1)) kk i P = .inl (1, i) := if_neg hk
    exact LPost.no hx hf hF11
