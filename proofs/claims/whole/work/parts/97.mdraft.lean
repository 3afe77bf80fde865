/-! the reference reads: its draft; five numbers, a member, a field -/
/-- the draft of the club, of its law -/
def Da (I : hc_I) (L : hc_J) (A : AS) : Prop := (aM A ≤ 12 ∧ aF A ≤ 24 ∧ aS A = 0 ∧ aY A = 0 ∧ (∀ m, m < aM A → aTh A m = true ∧ aLv A m = false ∧ aYs A m = 0) ∧ ∀ m, m < 12 → aEt A m = false) ∧ (I 217 12 = nI (aM A) ∧ I 217 13 = nI (aF A)) ∧ (((I 217 14).toInt64 = aRu A 0 ∧ (I 217 15).toInt64 = aRu A 1 ∧ (I 217 16).toInt64 = aRu A 5 ∧ (I 217 17).toInt64 = aRu A 6) ∧ (I 224 3).toInt64 = aRu A 2 ∧ (I 224 4).toInt64 = aRu A 3 ∧ (I 224 5).toInt64 = aRu A 4) ∧
  (∀ c, c < 64 → I 222 (64 + c) = nI (aHz A c)) ∧ (∀ c, c < 4 → I 223 (4 + c) = nI (aSo A c)) ∧ (∀ m, m < aM A → L 220 (12 + m) = aNm A m) ∧ ∀ f, f < aF A → ∀ a, a < 6 → I 221 (6 * (24 + f) + a) = nI (aFd A f a)
def Dp (I : hc_I) (L : hc_J) (P : LwP) : Prop := I 217 11 = nI P.1 ∧ ∀ k, k < P.1 → I 226 (700 + k) = nI (P.2.1 k) ∧ L 225 (700 + k) = lN (P.2.2 k)
def TD (I : hc_I) (L : hc_J) (A : AS) (P : LwP) : Prop := Da I L A ∧ Dp I L P ∧ I 217 18 = hc_b (decide (0 < P.1))
theorem Da.kp {I I' : hc_I} {L L' : hc_J} {A : AS} (h : Da I L A) (e1 : ∀ j, 12 ≤ j → j ≤ 17 → I' 217 j = I 217 j) (e2 : ∀ z, 221 ≤ z → z ≤ 224 → I' z = I z) (e3 : L' 220 = L 220) : Da I' L' A := by
  obtain ⟨h1, ⟨h2, h3⟩, ⟨⟨h4, h5, h6, h7⟩, h8, h9, h10⟩, h11, h12, h13, h14⟩ := h
  refine ⟨h1, ⟨by rw [e1 12 (by decide) (by decide)]; exact h2, by rw [e1 13 (by decide) (by decide)]; exact h3⟩, ⟨⟨by rw [e1 14 (by decide) (by decide)]; exact h4, by rw [e1 15 (by decide) (by decide)]; exact h5, by rw [e1 16 (by decide) (by decide)]; exact h6, by rw [e1 17 (by decide) (by decide)]; exact h7⟩, by rw [e2 224 (by decide) (by decide)]; exact ⟨h8, h9, h10⟩⟩, by rw [e2 222 (by decide) (by decide)]; exact h11, by rw [e2 223 (by decide) (by decide)]; exact h12, by rw [e3]; exact h13, by rw [e2 221 (by decide) (by decide)]; exact h14⟩
theorem Da.lx {I I' : hc_I} {L L' : hc_J} {A : AS} (h : Da I L A) (f : LxFr I I' L L') : Da I' L' A := h.kp (fun j h1 h2 => f.2.1 j (by unfold LxJ; omega)) (fun z h1 h2 => f.1 z (by omega)) (f.2.2 _ (by decide))
theorem Dp.lx {I I' : hc_I} {L L' : hc_J} {P : LwP} (h : Dp I L P) (f : LxFr I I' L L') : Dp I' L' P := ⟨(f.2.1 11 (by unfold LxJ; omega)).trans h.1, fun k hk => by rw [f.1 226 (by decide), f.2.2 225 (by decide)]; exact h.2 k hk⟩
theorem TD.lx {I I' : hc_I} {L L' : hc_J} {A : AS} {P : LwP} (h : TD I L A P) (f : LxFr I I' L L') : TD I' L' A P := ⟨h.1.lx f, h.2.1.lx f, (f.2.1 18 (by unfold LxJ; omega)).trans h.2.2⟩
def TW (I0 : hc_I) (L0 : hc_J) (n : Nat) (B : Nat → Nat) (Λ : hc_L) (I : hc_I) (L : hc_J) (i : Nat) (A : AS) (P : LwP) : Prop := TK I0 L0 n B Λ I L i ∧ TD I L A P ∧ P.1 ≤ i
def TPost (I0 : hc_I) (L0 : hc_J) (n : Nat) (B : Nat → Nat) (x : Rs) (Λ : hc_L) (R : hc_R) : hc_Q := fun r Λ' I' L' R' => r = some (.int (hc_b (okS x))) ∧ Λ = Λ' ∧ R = R' ∧ match x with
  | .inl e => TF I0 L0 n B Λ' I' L' e
  | .inr q => TW I0 L0 n B Λ' I' L' q.1 q.2.1 q.2.2
theorem TPost.no {I0 : hc_I} {L0 : hc_J} {n : Nat} {B : Nat → Nat} {x : Rs} {Λ : hc_L} {I : hc_I} {L : hc_J} {R : hc_R} {e : Nat × Nat} (hx : x = .inl e) (h : TF I0 L0 n B Λ I L e) : TPost I0 L0 n B x Λ R (some (.int (hc_b false))) Λ I L R := by
  subst hx
  exact ⟨rfl, rfl, rfl, h⟩
theorem TPost.yes {I0 : hc_I} {L0 : hc_J} {n : Nat} {B : Nat → Nat} {x : Rs} {Λ : hc_L} {I : hc_I} {L : hc_J} {R : hc_R} {q : Nat × AS × LwP} (hx : x = .inr q) (h : TW I0 L0 n B Λ I L q.1 q.2.1 q.2.2) : TPost I0 L0 n B x Λ R (some (.int (hc_b true))) Λ I L R := by
  subst hx
  exact ⟨rfl, rfl, rfl, h⟩
theorem pNums_s {K V : Nat → Nat} {i lo hi : Nat} {qs : List (Nat × Nat)} (h : pNum K V i lo hi = 0) : pNums K V ((lo, hi) :: qs) i = pNums K V qs (i + 1) := if_pos h
theorem pNums_e {K V : Nat → Nat} {i lo hi : Nat} {qs : List (Nat × Nat)} (h : ¬ pNum K V i lo hi = 0) : pNums K V ((lo, hi) :: qs) i = some (pNum K V i lo hi, i) := if_neg h
theorem pNum_0 {K V : Nat → Nat} {i lo hi : Nat} (h : pNum K V i lo hi = 0) : K i = 2001 ∧ lo ≤ V i ∧ V i ≤ hi := by
  unfold pNum at h
  split at h
  · rename_i c
    split at h
    · rename_i d; exact ⟨c, d⟩
    · cases h
  · cases h
/-! five numbers come into a row of fields -/
def FvFr (a : Nat) (I I' : hc_I) (L L' : hc_J) : Prop := (∀ z, z ≠ 217 → z ≠ 221 → I' z = I z) ∧ (∀ j, ¬ LxJ j → I' 217 j = I 217 j) ∧ (∀ j, ¬ (a ≤ j ∧ j < a + 6) → I' 221 j = I 221 j) ∧ ∀ z, z ≠ 217 → L' z = L z
def FvS (V : Nat → Nat) (a m i k : Nat) (I I' : hc_I) (L L' : hc_J) : Prop := FvFr a I I' L L' ∧ ∀ b, b < k → I' 221 (a + b) = nI (fdRow V m i b)
theorem FvFr.lx {a : Nat} {I I1 I2 : hc_I} {L L1 L2 : hc_J} (h : FvFr a I I1 L L1) (f : LxFr I1 I2 L1 L2) : FvFr a I I2 L L2 := ⟨fun z h1 h2 => (f.1 z h1).trans (h.1 z h1 h2), fun j hj => (f.2.1 j hj).trans (h.2.1 j hj), fun j hj => by rw [f.1 221 (by decide)]; exact h.2.2.1 j hj, fun z hz => (f.2.2 z hz).trans (h.2.2.2 z hz)⟩
theorem FvFr.r {a : Nat} {I I' : hc_I} {L L' : hc_J} (h : FvFr a I I' L L') (ha : 144 ≤ a) : RFr I I' L L' := by
  refine ⟨fun z hz => h.1 z hz.1 (fun e => hz.2.1 (by omega)), fun z j hj => ?_, fun z hz => h.2.2.2 z hz.1, fun z j hj => ?_⟩
  · by_cases c : z = 217
    · subst c; exact h.2.1 j (by unfold rfJ at hj; unfold LxJ; omega)
    · by_cases d : z = 221
      · subst d; exact h.2.2.1 j (by unfold rfJ at hj; omega)
      · rw [h.1 z c d]
  · rw [h.2.2.2 z (by unfold rfL at hj; omega)]
theorem FvS.s0 {V : Nat → Nat} {a m i : Nat} {I : hc_I} {L : hc_J} : FvS V a m i 1 I (hc_u I 221 a (nI m)) L L := by
  refine ⟨⟨fun z h1 h2 => by rw [hc_u_row _ _ _ _ h2], fun j hj => by rw [hc_u_row _ _ _ _ (by decide)], fun j hj => by rw [hc_u_at, if_neg (by omega)], fun _ _ => rfl⟩, fun b hb => ?_⟩
  rw [show b = 0 by omega]
  rw [hc_u_at, if_pos (Nat.add_zero a)]; rfl
theorem FvS.st {V : Nat → Nat} {a m i k : Nat} {I I1 I2 : hc_I} {L L1 L2 : hc_J} (h : FvS V a m i k I I1 L L1) (f : LxFr I1 I2 L1 L2) (hk : k < 6) {v : Int32} (hv : v = nI (fdRow V m i k)) : FvS V a m i (k + 1) I (hc_u I2 221 (a + k) v) L L2 := by
  have g := h.1.lx f
  refine ⟨⟨fun z h1 h2 => by rw [hc_u_row _ _ _ _ h2]; exact g.1 z h1 h2, fun j hj => by rw [hc_u_row _ _ _ _ (by decide)]; exact g.2.1 j hj, fun j hj => by rw [hc_u_at, if_neg (by omega)]; exact g.2.2.1 j hj, g.2.2.2⟩, fun b hb => ?_⟩
  rw [hc_u_at]
  by_cases c : b = k
  · rw [c, if_pos rfl]; exact hv
  · rw [if_neg (by omega), f.1 221 (by decide)]; exact h.2 b (by omega)
theorem TK.fv {Λ : hc_L} {I : hc_I} {L : hc_J} {I0 : hc_I} {L0 : hc_J} {n i : Nat} {B : Nat → Nat} (h : TK I0 L0 n B Λ I L i) {a : Nat} (ha : 144 ≤ a) (x : Int32) : TK I0 L0 n B Λ (hc_u I 221 a x) L i := by
  refine h.kp ⟨fun z hz => by rw [hc_u_row _ _ _ _ (by unfold rfZ at hz; omega)], fun z j hj => ?_, fun _ _ => rfl, fun _ _ _ => rfl⟩ (fun j _ => by rw [hc_u_row _ _ _ _ (by decide)]) rfl
  show (if z = 221 ∧ j = a then x else I z j) = I z j
  rw [if_neg (by unfold rfJ at hj; omega)]
abbrev fvQ : List (Nat × Nat) := [(0, 7), (0, 7), (0, 3), (1, 99), (1, 999)]
def FvPost (I0 : hc_I) (L0 : hc_J) (n : Nat) (B : Nat → Nat) (a m i : Nat) (Λ : hc_L) (I : hc_I) (L : hc_J) (R : hc_R) : hc_Q := fun r Λ' I' L' R' => ∃ b : Bool, r = some (.int (hc_b b)) ∧ Λ = Λ' ∧ R = R' ∧ FvFr a I I' L L' ∧ (b = true → pNums (kd B n) (vl B n) fvQ i = none ∧ TK I0 L0 n B Λ I' L' (i + 5) ∧ ∀ b, b < 6 → I' 221 (a + b) = nI (fdRow (vl B n) m i b)) ∧ (b = false → ∃ e, pNums (kd B n) (vl B n) fvQ i = some e ∧ TF I0 L0 n B Λ I' L' e)
set_option maxRecDepth 100000 in
theorem r_five {Λ : hc_L} {I : hc_I} {L : hc_J} {R : hc_R} {I0 : hc_I} {L0 : hc_J} {n i : Nat} {B : Nat → Nat} (hT : TK I0 L0 n B Λ I L i) {a m : Nat} (ha : 144 ≤ a) (ha2 : a + 6 ≤ 294) : Run xX11_readFive [.ref 217, .int (nI a), .int (nI m)] Λ I L R (FvPost I0 L0 n B a m i Λ I L R) := by
  refine Run.of (by decide +kernel) (Nat.le_of_ble_eq_true rfl) ?_
  show LW _ _ _ [(0, .ref 217), (1, .int (nI a)), (2, .int (nI m))] _ _ _ _ _ _
  have hY := hT.y
  have hx : pNums (kd B n) (vl B n) fvQ i = pNums (kd B n) (vl B n) [(0, 7), (0, 7), (0, 3), (1, 99), (1, 999)] i := rfl
  refine LW_aloadn 0 dX11_readFive_0 rfl rfl ?_
  refine gX11_4 dX11_readFive_1 flX11_21 (hY.lt (k := 217) (by decide)) (ly217 hY) (lf217_4 hY) ?_
  refine LW_iloadn 1 dX11_readFive_4 rfl rfl ?_
  refine LW_iconst (v := 0) dX11_readFive_5 (by decide) ?_
  refine LW_iadd dX11_readFive_6 ?_
  rw [show ((nI a) + 0) = nI a from (nI_add a 0)]
  refine LW_iloadn 2 dX11_readFive_7 rfl rfl ?_
  refine LW_iast dX11_readFive_8 (hY.lt (k := 221) (by decide)) (ly221 hY) rfl (by omega) (Nat.le_of_ble_eq_true rfl) ?_
  generalize hI8 : hc_u I 221 a (nI m) = I8
  have hS : FvS (vl B n) a m i 1 I I8 L L := by rw [← hI8]; exact FvS.s0
  have hT : TK I0 L0 n B Λ I8 L i := by rw [← hI8]; exact hT.fv ha _
  refine LW_iconst (v := 1) dX11_readFive_9 (by decide) ?_
  refine LW_istoren (ls' := [(0, .ref 217), (1, .int (nI a)), (2, .int (nI m)), (3, .int 1)]) dX11_readFive_10 rfl (by decide) rfl ?_
  refine LW_iloadn 3 dX11_readFive_11 rfl rfl ?_
  refine LW_iconst (v := 5) dX11_readFive_12 (by decide) ?_
  refine LW_icmp_gt (tgt := 85) dX11_readFive_13 (by decide) (fun c13 => absurd c13 (by decide)) (fun c13 => ?_)
  refine LW_aloadn 0 dX11_readFive_16 rfl rfl ?_
  refine LW_iloadn 3 dX11_readFive_17 rfl rfl ?_
  refine LW_iconst (v := 4) dX11_readFive_18 (by decide) ?_
  refine LW_icmp_ge (tgt := 26) dX11_readFive_19 (by decide) (fun c19 => absurd c19 (by decide)) (fun c19 => ?_)
  refine LW_iconst (v := 0) dX11_readFive_22 (by decide) ?_
  refine LW_goto (tgt := 27) dX11_readFive_23 (by decide) ?_
  refine LW_iloadn 3 dX11_readFive_27 rfl rfl ?_
  refine LW_iconst (v := 3) dX11_readFive_28 (by decide) ?_
  refine LW_icmp_ge (tgt := 37) dX11_readFive_29 (by decide) (fun c29 => absurd c29 (by decide)) (fun c29 => ?_)
  refine LW_bipush (v := 7) dX11_readFive_32 (by decide) ?_
  refine LW_goto (tgt := 59) dX11_readFive_34 (by decide) ?_
  refine LW_callV (As := [.int 0, .int 7]) (b := 217) (st := []) (ci := 11) (r := (RX11, TX11, 44)) (r_num hT (lo := 0) (hi := 7) (by decide) (by decide)) YX11_readNumber rfl dX11_readFive_59 mlX11_250 (hY.lt (k := 217) (by decide)) (ly217 hY) ⟨rfl, rfl⟩ (by decide) ⟨Nat.le_of_ble_eq_true rfl, Nat.le_of_ble_eq_true rfl⟩ (Nat.le_of_ble_eq_true rfl) rfl (fun r59 Λc59 Ic59 Lc59 Rc59 hq59 => ?_)
  obtain ⟨rfl, rfl, rfl, hl59, hTt59, hFf59⟩ := hq59
  refine LW_bif_ne (tgt := 67) dX11_readFive_62 (by decide) (fun c62 => ?_) (fun c62 => ?_)
  · have p := of_decide_eq_true c62
    have hx := hx.trans (pNums_s p)
    obtain ⟨hT, h31⟩ := hTt59 c62
    replace h31 : Ic59 217 31 = _ := h31
    refine LW_aloadn 0 dX11_readFive_67 rfl rfl ?_
    refine gX11_4 dX11_readFive_68 flX11_21 (hY.lt (k := 217) (by decide)) (ly217 hY) (lf217_4 hY) ?_
    refine LW_iloadn 1 dX11_readFive_71 rfl rfl ?_
    refine LW_iloadn 3 dX11_readFive_72 rfl rfl ?_
    refine LW_iadd dX11_readFive_73 ?_
    rw [show ((nI a) + 1) = nI (a + 1) from (nI_add a 1)]
    refine LW_aloadn 0 dX11_readFive_74 rfl rfl ?_
    refine gX11_31 dX11_readFive_75 flX11_237 (hY.lt (k := 217) (by decide)) (ly217 hY) ?_
    rw [show Ic59 217 31 = nI (vl B n i) from h31]
    refine LW_iast dX11_readFive_78 (hY.lt (k := 221) (by decide)) (ly221 hY) rfl (by omega) (Nat.le_of_ble_eq_true rfl) ?_
    generalize hI78 : hc_u Ic59 221 (a + 1) (nI (vl B n i)) = I78
    refine LW_iinc (n := 3) (v := 2) (ls' := [(0, .ref 217), (1, .int (nI a)), (2, .int (nI m)), (3, .int 2)]) dX11_readFive_79 rfl (by decide) (by decide) rfl ?_
    refine LW_goto (tgt := 11) dX11_readFive_82 (by decide) ?_
    have hS : FvS (vl B n) a m i 2 I I78 L Lc59 := by rw [← hI78]; exact hS.st hl59 (by decide) rfl
    have hT : TK I0 L0 n B Λ I78 Lc59 (i + 1) := by rw [← hI78]; exact hT.fv (by omega) _
    refine LW_iloadn 3 dX11_readFive_11 rfl rfl ?_
    refine LW_iconst (v := 5) dX11_readFive_12 (by decide) ?_
    refine LW_icmp_gt (tgt := 85) dX11_readFive_13 (by decide) (fun c13 => absurd c13 (by decide)) (fun c13 => ?_)
    refine LW_aloadn 0 dX11_readFive_16 rfl rfl ?_
    refine LW_iloadn 3 dX11_readFive_17 rfl rfl ?_
    refine LW_iconst (v := 4) dX11_readFive_18 (by decide) ?_
    refine LW_icmp_ge (tgt := 26) dX11_readFive_19 (by decide) (fun c19 => absurd c19 (by decide)) (fun c19 => ?_)
    refine LW_iconst (v := 0) dX11_readFive_22 (by decide) ?_
    refine LW_goto (tgt := 27) dX11_readFive_23 (by decide) ?_
    refine LW_iloadn 3 dX11_readFive_27 rfl rfl ?_
    refine LW_iconst (v := 3) dX11_readFive_28 (by decide) ?_
    refine LW_icmp_ge (tgt := 37) dX11_readFive_29 (by decide) (fun c29 => absurd c29 (by decide)) (fun c29 => ?_)
    refine LW_bipush (v := 7) dX11_readFive_32 (by decide) ?_
    refine LW_goto (tgt := 59) dX11_readFive_34 (by decide) ?_
    refine LW_callV (As := [.int 0, .int 7]) (b := 217) (st := []) (ci := 11) (r := (RX11, TX11, 44)) (r_num hT (lo := 0) (hi := 7) (by decide) (by decide)) YX11_readNumber rfl dX11_readFive_59 mlX11_250 (hY.lt (k := 217) (by decide)) (ly217 hY) ⟨rfl, rfl⟩ (by decide) ⟨Nat.le_of_ble_eq_true rfl, Nat.le_of_ble_eq_true rfl⟩ (Nat.le_of_ble_eq_true rfl) rfl (fun r59 Λc59 Ic59 Lc59 Rc59 hq59 => ?_)
    obtain ⟨rfl, rfl, rfl, hl59, hTt59, hFf59⟩ := hq59
    refine LW_bif_ne (tgt := 67) dX11_readFive_62 (by decide) (fun c62 => ?_) (fun c62 => ?_)
    · have p := of_decide_eq_true c62
      have hx := hx.trans (pNums_s p)
      obtain ⟨hT, h31⟩ := hTt59 c62
      replace h31 : Ic59 217 31 = _ := h31
      refine LW_aloadn 0 dX11_readFive_67 rfl rfl ?_
      refine gX11_4 dX11_readFive_68 flX11_21 (hY.lt (k := 217) (by decide)) (ly217 hY) (lf217_4 hY) ?_
      refine LW_iloadn 1 dX11_readFive_71 rfl rfl ?_
      refine LW_iloadn 3 dX11_readFive_72 rfl rfl ?_
      refine LW_iadd dX11_readFive_73 ?_
      rw [show ((nI a) + 2) = nI (a + 2) from (nI_add a 2)]
      refine LW_aloadn 0 dX11_readFive_74 rfl rfl ?_
      refine gX11_31 dX11_readFive_75 flX11_237 (hY.lt (k := 217) (by decide)) (ly217 hY) ?_
      rw [show Ic59 217 31 = nI (vl B n (i + 1)) from h31]
      refine LW_iast dX11_readFive_78 (hY.lt (k := 221) (by decide)) (ly221 hY) rfl (by omega) (Nat.le_of_ble_eq_true rfl) ?_
      generalize hI78 : hc_u Ic59 221 (a + 2) (nI (vl B n (i + 1))) = I78
      refine LW_iinc (n := 3) (v := 3) (ls' := [(0, .ref 217), (1, .int (nI a)), (2, .int (nI m)), (3, .int 3)]) dX11_readFive_79 rfl (by decide) (by decide) rfl ?_
      refine LW_goto (tgt := 11) dX11_readFive_82 (by decide) ?_
      have hS : FvS (vl B n) a m i 3 I I78 L Lc59 := by rw [← hI78]; exact hS.st hl59 (by decide) rfl
      have hT : TK I0 L0 n B Λ I78 Lc59 (i + 1 + 1) := by rw [← hI78]; exact hT.fv (by omega) _
      refine LW_iloadn 3 dX11_readFive_11 rfl rfl ?_
      refine LW_iconst (v := 5) dX11_readFive_12 (by decide) ?_
      refine LW_icmp_gt (tgt := 85) dX11_readFive_13 (by decide) (fun c13 => absurd c13 (by decide)) (fun c13 => ?_)
      refine LW_aloadn 0 dX11_readFive_16 rfl rfl ?_
      refine LW_iloadn 3 dX11_readFive_17 rfl rfl ?_
      refine LW_iconst (v := 4) dX11_readFive_18 (by decide) ?_
      refine LW_icmp_ge (tgt := 26) dX11_readFive_19 (by decide) (fun c19 => absurd c19 (by decide)) (fun c19 => ?_)
      refine LW_iconst (v := 0) dX11_readFive_22 (by decide) ?_
      refine LW_goto (tgt := 27) dX11_readFive_23 (by decide) ?_
      refine LW_iloadn 3 dX11_readFive_27 rfl rfl ?_
      refine LW_iconst (v := 3) dX11_readFive_28 (by decide) ?_
      refine LW_icmp_ge (tgt := 37) dX11_readFive_29 (by decide) (fun c29 => ?_) (fun c29 => absurd (by decide) c29)
      refine LW_iloadn 3 dX11_readFive_37 rfl rfl ?_
      refine LW_iconst (v := 3) dX11_readFive_38 (by decide) ?_
      refine LW_icmp_ne (tgt := 46) dX11_readFive_39 (by decide) (fun c39 => absurd c39 (by decide)) (fun c39 => ?_)
      refine LW_iconst (v := 3) dX11_readFive_42 (by decide) ?_
      refine LW_goto (tgt := 59) dX11_readFive_43 (by decide) ?_
      refine LW_callV (As := [.int 0, .int 3]) (b := 217) (st := []) (ci := 11) (r := (RX11, TX11, 44)) (r_num hT (lo := 0) (hi := 3) (by decide) (by decide)) YX11_readNumber rfl dX11_readFive_59 mlX11_250 (hY.lt (k := 217) (by decide)) (ly217 hY) ⟨rfl, rfl⟩ (by decide) ⟨Nat.le_of_ble_eq_true rfl, Nat.le_of_ble_eq_true rfl⟩ (Nat.le_of_ble_eq_true rfl) rfl (fun r59 Λc59 Ic59 Lc59 Rc59 hq59 => ?_)
      obtain ⟨rfl, rfl, rfl, hl59, hTt59, hFf59⟩ := hq59
      refine LW_bif_ne (tgt := 67) dX11_readFive_62 (by decide) (fun c62 => ?_) (fun c62 => ?_)
      · have p := of_decide_eq_true c62
        have hx := hx.trans (pNums_s p)
        obtain ⟨hT, h31⟩ := hTt59 c62
        replace h31 : Ic59 217 31 = _ := h31
        refine LW_aloadn 0 dX11_readFive_67 rfl rfl ?_
        refine gX11_4 dX11_readFive_68 flX11_21 (hY.lt (k := 217) (by decide)) (ly217 hY) (lf217_4 hY) ?_
        refine LW_iloadn 1 dX11_readFive_71 rfl rfl ?_
        refine LW_iloadn 3 dX11_readFive_72 rfl rfl ?_
        refine LW_iadd dX11_readFive_73 ?_
        rw [show ((nI a) + 3) = nI (a + 3) from (nI_add a 3)]
        refine LW_aloadn 0 dX11_readFive_74 rfl rfl ?_
        refine gX11_31 dX11_readFive_75 flX11_237 (hY.lt (k := 217) (by decide)) (ly217 hY) ?_
        rw [show Ic59 217 31 = nI (vl B n (i + 1 + 1)) from h31]
        refine LW_iast dX11_readFive_78 (hY.lt (k := 221) (by decide)) (ly221 hY) rfl (by omega) (Nat.le_of_ble_eq_true rfl) ?_
        generalize hI78 : hc_u Ic59 221 (a + 3) (nI (vl B n (i + 1 + 1))) = I78
        refine LW_iinc (n := 3) (v := 4) (ls' := [(0, .ref 217), (1, .int (nI a)), (2, .int (nI m)), (3, .int 4)]) dX11_readFive_79 rfl (by decide) (by decide) rfl ?_
        refine LW_goto (tgt := 11) dX11_readFive_82 (by decide) ?_
        have hS : FvS (vl B n) a m i 4 I I78 L Lc59 := by rw [← hI78]; exact hS.st hl59 (by decide) rfl
        have hT : TK I0 L0 n B Λ I78 Lc59 (i + 1 + 1 + 1) := by rw [← hI78]; exact hT.fv (by omega) _
        refine LW_iloadn 3 dX11_readFive_11 rfl rfl ?_
        refine LW_iconst (v := 5) dX11_readFive_12 (by decide) ?_
        refine LW_icmp_gt (tgt := 85) dX11_readFive_13 (by decide) (fun c13 => absurd c13 (by decide)) (fun c13 => ?_)
        refine LW_aloadn 0 dX11_readFive_16 rfl rfl ?_
        refine LW_iloadn 3 dX11_readFive_17 rfl rfl ?_
        refine LW_iconst (v := 4) dX11_readFive_18 (by decide) ?_
        refine LW_icmp_ge (tgt := 26) dX11_readFive_19 (by decide) (fun c19 => ?_) (fun c19 => absurd (by decide) c19)
        refine LW_iconst (v := 1) dX11_readFive_26 (by decide) ?_
        refine LW_iloadn 3 dX11_readFive_27 rfl rfl ?_
        refine LW_iconst (v := 3) dX11_readFive_28 (by decide) ?_
        refine LW_icmp_ge (tgt := 37) dX11_readFive_29 (by decide) (fun c29 => ?_) (fun c29 => absurd (by decide) c29)
        refine LW_iloadn 3 dX11_readFive_37 rfl rfl ?_
        refine LW_iconst (v := 3) dX11_readFive_38 (by decide) ?_
        refine LW_icmp_ne (tgt := 46) dX11_readFive_39 (by decide) (fun c39 => ?_) (fun c39 => absurd (by decide) c39)
        refine LW_iloadn 3 dX11_readFive_46 rfl rfl ?_
        refine LW_iconst (v := 4) dX11_readFive_47 (by decide) ?_
        refine LW_icmp_ne (tgt := 56) dX11_readFive_48 (by decide) (fun c48 => absurd c48 (by decide)) (fun c48 => ?_)
        refine LW_bipush (v := 99) dX11_readFive_51 (by decide) ?_
        refine LW_goto (tgt := 59) dX11_readFive_53 (by decide) ?_
        refine LW_callV (As := [.int 1, .int 99]) (b := 217) (st := []) (ci := 11) (r := (RX11, TX11, 44)) (r_num hT (lo := 1) (hi := 99) (by decide) (by decide)) YX11_readNumber rfl dX11_readFive_59 mlX11_250 (hY.lt (k := 217) (by decide)) (ly217 hY) ⟨rfl, rfl⟩ (by decide) ⟨Nat.le_of_ble_eq_true rfl, Nat.le_of_ble_eq_true rfl⟩ (Nat.le_of_ble_eq_true rfl) rfl (fun r59 Λc59 Ic59 Lc59 Rc59 hq59 => ?_)
        obtain ⟨rfl, rfl, rfl, hl59, hTt59, hFf59⟩ := hq59
        refine LW_bif_ne (tgt := 67) dX11_readFive_62 (by decide) (fun c62 => ?_) (fun c62 => ?_)
        · have p := of_decide_eq_true c62
          have hx := hx.trans (pNums_s p)
          obtain ⟨hT, h31⟩ := hTt59 c62
          replace h31 : Ic59 217 31 = _ := h31
          refine LW_aloadn 0 dX11_readFive_67 rfl rfl ?_
          refine gX11_4 dX11_readFive_68 flX11_21 (hY.lt (k := 217) (by decide)) (ly217 hY) (lf217_4 hY) ?_
          refine LW_iloadn 1 dX11_readFive_71 rfl rfl ?_
          refine LW_iloadn 3 dX11_readFive_72 rfl rfl ?_
          refine LW_iadd dX11_readFive_73 ?_
          rw [show ((nI a) + 4) = nI (a + 4) from (nI_add a 4)]
          refine LW_aloadn 0 dX11_readFive_74 rfl rfl ?_
          refine gX11_31 dX11_readFive_75 flX11_237 (hY.lt (k := 217) (by decide)) (ly217 hY) ?_
          rw [show Ic59 217 31 = nI (vl B n (i + 1 + 1 + 1)) from h31]
          refine LW_iast dX11_readFive_78 (hY.lt (k := 221) (by decide)) (ly221 hY) rfl (by omega) (Nat.le_of_ble_eq_true rfl) ?_
          generalize hI78 : hc_u Ic59 221 (a + 4) (nI (vl B n (i + 1 + 1 + 1))) = I78
          refine LW_iinc (n := 3) (v := 5) (ls' := [(0, .ref 217), (1, .int (nI a)), (2, .int (nI m)), (3, .int 5)]) dX11_readFive_79 rfl (by decide) (by decide) rfl ?_
          refine LW_goto (tgt := 11) dX11_readFive_82 (by decide) ?_
          have hS : FvS (vl B n) a m i 5 I I78 L Lc59 := by rw [← hI78]; exact hS.st hl59 (by decide) rfl
          have hT : TK I0 L0 n B Λ I78 Lc59 (i + 1 + 1 + 1 + 1) := by rw [← hI78]; exact hT.fv (by omega) _
          refine LW_iloadn 3 dX11_readFive_11 rfl rfl ?_
          refine LW_iconst (v := 5) dX11_readFive_12 (by decide) ?_
          refine LW_icmp_gt (tgt := 85) dX11_readFive_13 (by decide) (fun c13 => absurd c13 (by decide)) (fun c13 => ?_)
          refine LW_aloadn 0 dX11_readFive_16 rfl rfl ?_
          refine LW_iloadn 3 dX11_readFive_17 rfl rfl ?_
          refine LW_iconst (v := 4) dX11_readFive_18 (by decide) ?_
          refine LW_icmp_ge (tgt := 26) dX11_readFive_19 (by decide) (fun c19 => ?_) (fun c19 => absurd (by decide) c19)
          refine LW_iconst (v := 1) dX11_readFive_26 (by decide) ?_
          refine LW_iloadn 3 dX11_readFive_27 rfl rfl ?_
          refine LW_iconst (v := 3) dX11_readFive_28 (by decide) ?_
          refine LW_icmp_ge (tgt := 37) dX11_readFive_29 (by decide) (fun c29 => ?_) (fun c29 => absurd (by decide) c29)
          refine LW_iloadn 3 dX11_readFive_37 rfl rfl ?_
          refine LW_iconst (v := 3) dX11_readFive_38 (by decide) ?_
          refine LW_icmp_ne (tgt := 46) dX11_readFive_39 (by decide) (fun c39 => ?_) (fun c39 => absurd (by decide) c39)
          refine LW_iloadn 3 dX11_readFive_46 rfl rfl ?_
          refine LW_iconst (v := 4) dX11_readFive_47 (by decide) ?_
          refine LW_icmp_ne (tgt := 56) dX11_readFive_48 (by decide) (fun c48 => ?_) (fun c48 => absurd (by decide) c48)
          refine LW_sipush (v := 999) dX11_readFive_56 (by decide) ?_
          refine LW_callV (As := [.int 1, .int 999]) (b := 217) (st := []) (ci := 11) (r := (RX11, TX11, 44)) (r_num hT (lo := 1) (hi := 999) (by decide) (by decide)) YX11_readNumber rfl dX11_readFive_59 mlX11_250 (hY.lt (k := 217) (by decide)) (ly217 hY) ⟨rfl, rfl⟩ (by decide) ⟨Nat.le_of_ble_eq_true rfl, Nat.le_of_ble_eq_true rfl⟩ (Nat.le_of_ble_eq_true rfl) rfl (fun r59 Λc59 Ic59 Lc59 Rc59 hq59 => ?_)
          obtain ⟨rfl, rfl, rfl, hl59, hTt59, hFf59⟩ := hq59
          refine LW_bif_ne (tgt := 67) dX11_readFive_62 (by decide) (fun c62 => ?_) (fun c62 => ?_)
          · have p := of_decide_eq_true c62
            have hx := hx.trans (pNums_s p)
            obtain ⟨hT, h31⟩ := hTt59 c62
            replace h31 : Ic59 217 31 = _ := h31
            refine LW_aloadn 0 dX11_readFive_67 rfl rfl ?_
            refine gX11_4 dX11_readFive_68 flX11_21 (hY.lt (k := 217) (by decide)) (ly217 hY) (lf217_4 hY) ?_
            refine LW_iloadn 1 dX11_readFive_71 rfl rfl ?_
            refine LW_iloadn 3 dX11_readFive_72 rfl rfl ?_
            refine LW_iadd dX11_readFive_73 ?_
            rw [show ((nI a) + 5) = nI (a + 5) from (nI_add a 5)]
            refine LW_aloadn 0 dX11_readFive_74 rfl rfl ?_
            refine gX11_31 dX11_readFive_75 flX11_237 (hY.lt (k := 217) (by decide)) (ly217 hY) ?_
            rw [show Ic59 217 31 = nI (vl B n (i + 1 + 1 + 1 + 1)) from h31]
            refine LW_iast dX11_readFive_78 (hY.lt (k := 221) (by decide)) (ly221 hY) rfl (by omega) (Nat.le_of_ble_eq_true rfl) ?_
            generalize hI78 : hc_u Ic59 221 (a + 5) (nI (vl B n (i + 1 + 1 + 1 + 1))) = I78
            refine LW_iinc (n := 3) (v := 6) (ls' := [(0, .ref 217), (1, .int (nI a)), (2, .int (nI m)), (3, .int 6)]) dX11_readFive_79 rfl (by decide) (by decide) rfl ?_
            refine LW_goto (tgt := 11) dX11_readFive_82 (by decide) ?_
            have hS : FvS (vl B n) a m i 6 I I78 L Lc59 := by rw [← hI78]; exact hS.st hl59 (by decide) rfl
            have hT : TK I0 L0 n B Λ I78 Lc59 (i + 1 + 1 + 1 + 1 + 1) := by rw [← hI78]; exact hT.fv (by omega) _
            refine LW_iloadn 3 dX11_readFive_11 rfl rfl ?_
            refine LW_iconst (v := 5) dX11_readFive_12 (by decide) ?_
            refine LW_icmp_gt (tgt := 85) dX11_readFive_13 (by decide) (fun c13 => ?_) (fun c13 => absurd (by decide) c13)
            refine LW_iconst (v := 1) dX11_readFive_85 (by decide) ?_
            refine LW_zret dX11_readFive_86 rfl (Nat.le_of_ble_eq_true rfl) (Nat.le_of_ble_eq_true rfl) (Or.inr rfl) ?_
            exact ⟨true, rfl, rfl, rfl, hS.1, fun _ => ⟨hx, hT, hS.2⟩, fun z => (by cases z)⟩
          · have p := of_decide_eq_false c62
            have hx := hx.trans (pNums_e p)
            have hF := hFf59 c62
            refine LW_iconst (v := 0) dX11_readFive_65 (by decide) ?_
            refine LW_zret dX11_readFive_66 rfl (Nat.le_of_ble_eq_true rfl) (Nat.le_of_ble_eq_true rfl) (Or.inl rfl) ?_
            exact ⟨false, rfl, rfl, rfl, hS.1.lx hl59, fun z => (by cases z), fun _ => ⟨_, hx, hF⟩⟩
        · have p := of_decide_eq_false c62
          have hx := hx.trans (pNums_e p)
          have hF := hFf59 c62
          refine LW_iconst (v := 0) dX11_readFive_65 (by decide) ?_
          refine LW_zret dX11_readFive_66 rfl (Nat.le_of_ble_eq_true rfl) (Nat.le_of_ble_eq_true rfl) (Or.inl rfl) ?_
          exact ⟨false, rfl, rfl, rfl, hS.1.lx hl59, fun z => (by cases z), fun _ => ⟨_, hx, hF⟩⟩
      · have p := of_decide_eq_false c62
        have hx := hx.trans (pNums_e p)
        have hF := hFf59 c62
        refine LW_iconst (v := 0) dX11_readFive_65 (by decide) ?_
        refine LW_zret dX11_readFive_66 rfl (Nat.le_of_ble_eq_true rfl) (Nat.le_of_ble_eq_true rfl) (Or.inl rfl) ?_
        exact ⟨false, rfl, rfl, rfl, hS.1.lx hl59, fun z => (by cases z), fun _ => ⟨_, hx, hF⟩⟩
    · have p := of_decide_eq_false c62
      have hx := hx.trans (pNums_e p)
      have hF := hFf59 c62
      refine LW_iconst (v := 0) dX11_readFive_65 (by decide) ?_
      refine LW_zret dX11_readFive_66 rfl (Nat.le_of_ble_eq_true rfl) (Nat.le_of_ble_eq_true rfl) (Or.inl rfl) ?_
      exact ⟨false, rfl, rfl, rfl, hS.1.lx hl59, fun z => (by cases z), fun _ => ⟨_, hx, hF⟩⟩
  · have p := of_decide_eq_false c62
    have hx := hx.trans (pNums_e p)
    have hF := hFf59 c62
    refine LW_iconst (v := 0) dX11_readFive_65 (by decide) ?_
    refine LW_zret dX11_readFive_66 rfl (Nat.le_of_ble_eq_true rfl) (Nat.le_of_ble_eq_true rfl) (Or.inl rfl) ?_
    exact ⟨false, rfl, rfl, rfl, hS.1.lx hl59, fun z => (by cases z), fun _ => ⟨_, hx, hF⟩⟩
