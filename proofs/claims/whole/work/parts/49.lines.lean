/-! the Reader: members, fields, hazards, crops, rules -/
theorem Fr.new {J : Nat → Prop} {Λ : hc_L} {I : hc_I} {L : hc_J} {R : hc_R} (t n : Nat) (a : Nat → Int32) (b : Nat → Int64) (c : Nat → Option Nat) : Fr J Λ I L R (hc_nw Λ t n) (hc_r I Λ.1 a) (hc_r L Λ.1 b) (hc_r R Λ.1 c) :=
  ⟨⟨Nat.le_succ _, fun z hz => ⟨if_neg (Nat.ne_of_lt hz), hc_r_ne _ _ _ (Nat.ne_of_lt hz)⟩⟩, fun z hz _ => hc_r_ne _ _ _ (Nat.ne_of_lt hz), fun z hz _ => hc_r_ne _ _ _ (Nat.ne_of_lt hz), fun z hz _ => hc_r_ne _ _ _ (Nat.ne_of_lt hz)⟩
section RWD
variable {B : Nat → Nat} {n cn i op : Nat} {A A' : AS} {P : LwP} {Λ Λ' : hc_L} {I I' : hc_I} {L L' : hc_J} {R R' : hc_R}
/-- the draft alone has changed -/
theorem RW.dr (h : RW B n cn Λ I L R i op A P) (hI : ∀ z, ¬ (21 ≤ z ∧ z < 39) → I' z = I z) (hL : ∀ z, ¬ (21 ≤ z ∧ z < 39) → L' z = L z) (hs : St Λ I' L' R' 21 A') : RW B n cn Λ I' L' R' i op A' P := by
  have e45 : I' 45 = I 45 := hI 45 (by decide)
  exact ⟨h.y, h.t.kp (hI _ (by decide)) (hI _ (by decide)) (hI _ (by decide)) (hL _ (by decide)), h.c, by rw [e45]; exact h.2.2.2.1, by rw [e45]; exact h.a, by rw [e45]; exact h.k, by rw [e45]; exact h.p, by rw [hL 45 (by decide)]; exact h.v, by rw [e45]; exact h.o, hs, ⟨h.l.1, by rw [hI 42 (by decide)]; exact h.l.2.1, fun i hi => by rw [hI 43 (by decide)]; exact h.l.2.2 i hi⟩⟩
theorem Fr.dr (hI : ∀ z, ¬ (21 ≤ z ∧ z < 39) → I' z = I z) (hL : ∀ z, ¬ (21 ≤ z ∧ z < 39) → L' z = L z) (hR : ∀ z, ¬ (21 ≤ z ∧ z < 39) → R' z = R z) : Fr RJ Λ I L R Λ I' L' R' := Fr.of hI hL hR (fun _ h => Or.inl h) (fun _ h => Or.inl h) (fun _ h => Or.inl h)
/-- cells came, nothing that was there has changed -/
theorem RW.fr0 (h : RW B n cn Λ I L R i op A P) (f : Fr (fun _ => False) Λ I L R Λ' I' L' R') : RW B n cn Λ' I' L' R' i op A P := by
  have hy := h.y.fr f
  have e : ∀ z, z < 238 → I' z = I z := fun z hz => f.2.1 z (h.y.lt hz) (fun q => q)
  have eL : ∀ z, z < 238 → L' z = L z := fun z hz => f.2.2.1 z (h.y.lt hz) (fun q => q)
  have e45 : I' 45 = I 45 := e 45 (by decide)
  exact ⟨hy, h.t.kp (e _ (by decide)) (e _ (by decide)) (e _ (by decide)) (eL _ (by decide)), h.c, by rw [e45]; exact h.2.2.2.1, by rw [e45]; exact h.a, by rw [e45]; exact h.k, by rw [e45]; exact h.p, by rw [eL 45 (by decide)]; exact h.v, by rw [e45]; exact h.o, h.s.fr h.y hy.st21 f (fun z q => absurd q (fun q => q)), h.l.fr hy.lw42 f ⟨fun q => q, fun q => q⟩⟩
theorem RW.fc (h : RW B n cn Λ I L R i op A P) : I 21 12 = nI (aF A) := h.s.fc
theorem RW.mc (h : RW B n cn Λ I L R i op A P) : I 21 11 = nI (aM A) := h.s.m
end RWD
theorem dvX2 (E : hc_E) (k : Nat) (hk : k < 6) : defaultValue (hc_ty 2 k) = hc_fv E (hc_ty 2 k) 0 0 none := by
  rcases (show k = 0 ∨ k = 1 ∨ k = 2 ∨ k = 3 ∨ k = 4 ∨ k = 5 by omega) with rfl | rfl | rfl | rfl | rfl | rfl <;> rfl
theorem pNum_t {K V : Nat → Nat} {i lo hi : Nat} (h1 : K i = 2001) (h2 : lo ≤ V i) (h3 : V i ≤ hi) : pNum K V i lo hi = 0 := by
  unfold pNum
  rw [if_pos h1, if_pos ⟨h2, h3⟩]
theorem abNamed_r (A : AS) (h12 : aM A ≤ 12) (w : Int64) : abNamed A w = -1 ∨ ∃ k, k < aM A ∧ abNamed A w = nI k := by
  have go : ∀ d i, i + d = aM A → abFind (fun m => decide (aNm A m = w)) d i = -1 ∨ ∃ k, k < aM A ∧ abFind (fun m => decide (aNm A m = w)) d i = nI k := by
    intro d
    induction d with
    | zero => intro i _; exact Or.inl rfl
    | succ d ih =>
      intro i hi
      by_cases c : decide (aNm A i = w) = true
      · exact Or.inr ⟨i, by omega, if_pos c⟩
      · have e : abFind (fun m => decide (aNm A m = w)) (d + 1) i = abFind (fun m => decide (aNm A m = w)) d (i + 1) := if_neg c
        rw [e]
        exact ih (i + 1) (by omega)
  exact go (aM A) 0 (Nat.zero_add _)
set_option maxRecDepth 100000 in
theorem r_FieldInit {Λ : hc_L} {I : hc_I} {L : hc_J} {R : hc_R} {w : Nat} (h1 : w < Λ.1) (h2 : Λ.2.1 w = (102, 0)) (a b c d e f : Int32) : Run xX2_init [.ref w, .int a, .int b, .int c, .int d, .int e, .int f] Λ I L R (Qf (fun z => z = w) (fun _ => False) (fun _ => False) none (fun I' _ _ => ∀ j, I' w j = if j = 5 then f else if j = 4 then e else if j = 3 then d else if j = 2 then c else if j = 1 then b else if j = 0 then a else I w j) Λ I L R) := by
  refine Run.of (by decide +kernel) (Nat.le_of_ble_eq_true rfl) ?_
  show LW _ _ _ [(0, .ref w), (1, .int a), (2, .int b), (3, .int c), (4, .int d), (5, .int e), (6, .int f)] _ _ _ _ _ _
  refine LW_aloadn 0 dX2_init_0 rfl rfl ?_
  refine LW_objInit dX2_init_1 mlX2_1 hc_oi hc_oc (by decide) (Nat.le_of_ble_eq_true rfl) ?_
  refine LW_aloadn 0 dX2_init_4 rfl rfl ?_
  refine LW_iloadn 1 dX2_init_5 rfl rfl ?_
  refine pX2_0 dX2_init_6 flX2_7 h1 h2 rfl rfl ?_
  generalize hI6 : hc_u I w 0 a = I6
  refine LW_aloadn 0 dX2_init_9 rfl rfl ?_
  refine LW_iloadn 2 dX2_init_10 rfl rfl ?_
  refine pX2_1 dX2_init_11 flX2_13 h1 h2 rfl rfl ?_
  generalize hI11 : hc_u I6 w 1 b = I11
  refine LW_aloadn 0 dX2_init_14 rfl rfl ?_
  refine LW_iloadn 3 dX2_init_15 rfl rfl ?_
  refine pX2_2 dX2_init_16 flX2_16 h1 h2 rfl rfl ?_
  generalize hI16 : hc_u I11 w 2 c = I16
  refine LW_aloadn 0 dX2_init_19 rfl rfl ?_
  refine LW_iload 4 dX2_init_20 rfl ?_
  refine pX2_3 dX2_init_22 flX2_19 h1 h2 rfl rfl ?_
  generalize hI22 : hc_u I16 w 3 d = I22
  refine LW_aloadn 0 dX2_init_25 rfl rfl ?_
  refine LW_iload 5 dX2_init_26 rfl ?_
  refine pX2_4 dX2_init_28 flX2_22 h1 h2 rfl rfl ?_
  generalize hI28 : hc_u I22 w 4 e = I28
  refine LW_aloadn 0 dX2_init_31 rfl rfl ?_
  refine LW_iload 6 dX2_init_32 rfl ?_
  refine pX2_5 dX2_init_34 flX2_25 h1 h2 rfl rfl ?_
  generalize hI34 : hc_u I28 w 5 f = I34
  refine LW_vret dX2_init_37 rfl (Nat.le_of_ble_eq_true rfl) (Nat.le_of_ble_eq_true rfl) ?_
  refine ⟨rfl, rfl, fun z hz => ?_, fun _ _ => rfl, fun _ _ => rfl, fun j => ?_⟩
  · rw [← hI34, hc_u_row _ _ _ _ hz, ← hI28, hc_u_row _ _ _ _ hz, ← hI22, hc_u_row _ _ _ _ hz, ← hI16, hc_u_row _ _ _ _ hz, ← hI11, hc_u_row _ _ _ _ hz, ← hI6, hc_u_row _ _ _ _ hz]
  · rw [← hI34, hc_u_at, ← hI28, hc_u_at, ← hI22, hc_u_at, ← hI16, hc_u_at, ← hI11, hc_u_at, ← hI6, hc_u_at]
set_option maxRecDepth 100000 in
theorem r_readLand {Λ : hc_L} {I : hc_I} {L : hc_J} {R : hc_R} {B : Nat → Nat} {n cn i op : Nat} {A : AS} {P : LwP} (hB : ∀ j, j < n → B j < 256) (hW : RW B n cn Λ I L R i op A P) (hΛ : Λ.1 < 1000000) (hF24 : aF A < 24) {ow : Nat} (how : ow < aM A) : Run xX5_readLand [.ref 45, .int (nI ow)] Λ I L R (RPost B n cn op (pLand (kd B n) (vl B n) ow i A P) Λ I L R) := by
  refine Run.of (by decide +kernel) (Nat.le_of_ble_eq_true rfl) ?_
  show LW _ _ _ [(0, .ref 45), (1, .int (nI ow))] _ _ _ _ _ _
  have hY := hW.y
  have hf : Fr RJ Λ I L R Λ I L R := Fr.rf
  refine LW_aloadn 0 dX5_readLand_0 rfl rfl ?_
  refine LW_iconst (v := 0) dX5_readLand_1 (by decide) ?_
  refine LW_iconst (v := 0) dX5_readLand_2 (by decide) ?_
  refine LW_bipush (v := 7) dX5_readLand_3 (by decide) ?_
  refine LW_callV (As := [.int 0, .int 0, .int 7]) (b := 45) (st := []) (ci := 5) (r := (RX5, TX5, 11)) (r_readNumber hB hW (q := 0) (lo := 0) (hi := 7) (by decide) (by decide) (by decide)) YX5_readNumber rfl dX5_readLand_5 mlX5_139 (hY.lt (k := 45) (by decide)) (ly45 hY) ⟨rfl, rfl⟩ (by decide) ⟨Nat.le_of_ble_eq_true rfl, Nat.le_of_ble_eq_true rfl⟩ (Nat.le_of_ble_eq_true rfl) rfl (fun r5 Λc5 Ic5 Lc5 Rc5 hq5 => ?_)
  obtain ⟨rfl, rfl, rfl, hI5, hL5, hT5, hF5⟩ := hq5
  have hf := hf.trans (Fr.rd hI5 hL5)
  refine LW_bif_eq (tgt := 59) dX5_readLand_8 (by decide) (fun c8 => ?_) (fun c8 => ?_)
  · have p5 := of_decide_eq_false c8
    refine LW_iconst (v := 0) dX5_readLand_59 (by decide) ?_
    refine LW_istoren (ls' := [(0, .ref 45), (1, .int (nI ow)), (2, .int 0)]) dX5_readLand_60 rfl (by decide) rfl ?_
    refine LW_iloadn 2 dX5_readLand_61 rfl rfl ?_
    refine LW_if_eq (tgt := 110) dX5_readLand_62 (by decide) (fun c62 => ?_) (fun c62 => absurd rfl c62)
    refine LW_iloadn 2 dX5_readLand_110 rfl rfl ?_
    refine LW_zret dX5_readLand_111 rfl (Nat.le_of_ble_eq_true rfl) (Nat.le_of_ble_eq_true rfl) (Or.inl rfl) ?_
    have hx : pLand (kd B n) (vl B n) ow i A P = .inl (pNum (kd B n) (vl B n) (i) 0 7, i) := by
      show pDo _ _ _ _ _ _ = _
      unfold pDo
      rw [pNums, if_neg p5]
    exact RPost.no hx hf (Nat.le_succ _) (hF5 p5)
  · have p5 := of_decide_eq_true c8
    obtain ⟨hW, hk5, h5⟩ := hT5 p5
    refine LW_aloadn 0 dX5_readLand_11 rfl rfl ?_
    refine LW_iconst (v := 1) dX5_readLand_12 (by decide) ?_
    refine LW_iconst (v := 0) dX5_readLand_13 (by decide) ?_
    refine LW_bipush (v := 7) dX5_readLand_14 (by decide) ?_
    refine LW_callV (As := [.int 1, .int 0, .int 7]) (b := 45) (st := []) (ci := 5) (r := (RX5, TX5, 11)) (r_readNumber hB hW (q := 1) (lo := 0) (hi := 7) (by decide) (by decide) (by decide)) YX5_readNumber rfl dX5_readLand_16 mlX5_139 (hY.lt (k := 45) (by decide)) (ly45 hY) ⟨rfl, rfl⟩ (by decide) ⟨Nat.le_of_ble_eq_true rfl, Nat.le_of_ble_eq_true rfl⟩ (Nat.le_of_ble_eq_true rfl) rfl (fun r16 Λc16 Ic16 Lc16 Rc16 hq16 => ?_)
    obtain ⟨rfl, rfl, rfl, hI16, hL16, hT16, hF16⟩ := hq16
    have hf := hf.trans (Fr.rd hI16 hL16)
    refine LW_bif_eq (tgt := 59) dX5_readLand_19 (by decide) (fun c19 => ?_) (fun c19 => ?_)
    · have p16 := of_decide_eq_false c19
      refine LW_iconst (v := 0) dX5_readLand_59 (by decide) ?_
      refine LW_istoren (ls' := [(0, .ref 45), (1, .int (nI ow)), (2, .int 0)]) dX5_readLand_60 rfl (by decide) rfl ?_
      refine LW_iloadn 2 dX5_readLand_61 rfl rfl ?_
      refine LW_if_eq (tgt := 110) dX5_readLand_62 (by decide) (fun c62 => ?_) (fun c62 => absurd rfl c62)
      refine LW_iloadn 2 dX5_readLand_110 rfl rfl ?_
      refine LW_zret dX5_readLand_111 rfl (Nat.le_of_ble_eq_true rfl) (Nat.le_of_ble_eq_true rfl) (Or.inl rfl) ?_
      have hx : pLand (kd B n) (vl B n) ow i A P = .inl (pNum (kd B n) (vl B n) (i + 1) 0 7, i + 1) := by
        show pDo _ _ _ _ _ _ = _
        unfold pDo
        rw [pNums, if_pos p5, pNums, if_neg p16]
      exact RPost.no hx hf (Nat.le_succ _) (hF16 p16)
    · have p16 := of_decide_eq_true c19
      obtain ⟨hW, hk16, h16⟩ := hT16 p16
      refine LW_aloadn 0 dX5_readLand_22 rfl rfl ?_
      refine LW_iconst (v := 2) dX5_readLand_23 (by decide) ?_
      refine LW_iconst (v := 0) dX5_readLand_24 (by decide) ?_
      refine LW_iconst (v := 3) dX5_readLand_25 (by decide) ?_
      refine LW_callV (As := [.int 2, .int 0, .int 3]) (b := 45) (st := []) (ci := 5) (r := (RX5, TX5, 11)) (r_readNumber hB hW (q := 2) (lo := 0) (hi := 3) (by decide) (by decide) (by decide)) YX5_readNumber rfl dX5_readLand_26 mlX5_139 (hY.lt (k := 45) (by decide)) (ly45 hY) ⟨rfl, rfl⟩ (by decide) ⟨Nat.le_of_ble_eq_true rfl, Nat.le_of_ble_eq_true rfl⟩ (Nat.le_of_ble_eq_true rfl) rfl (fun r26 Λc26 Ic26 Lc26 Rc26 hq26 => ?_)
      obtain ⟨rfl, rfl, rfl, hI26, hL26, hT26, hF26⟩ := hq26
      have hf := hf.trans (Fr.rd hI26 hL26)
      refine LW_bif_eq (tgt := 59) dX5_readLand_29 (by decide) (fun c29 => ?_) (fun c29 => ?_)
      · have p26 := of_decide_eq_false c29
        refine LW_iconst (v := 0) dX5_readLand_59 (by decide) ?_
        refine LW_istoren (ls' := [(0, .ref 45), (1, .int (nI ow)), (2, .int 0)]) dX5_readLand_60 rfl (by decide) rfl ?_
        refine LW_iloadn 2 dX5_readLand_61 rfl rfl ?_
        refine LW_if_eq (tgt := 110) dX5_readLand_62 (by decide) (fun c62 => ?_) (fun c62 => absurd rfl c62)
        refine LW_iloadn 2 dX5_readLand_110 rfl rfl ?_
        refine LW_zret dX5_readLand_111 rfl (Nat.le_of_ble_eq_true rfl) (Nat.le_of_ble_eq_true rfl) (Or.inl rfl) ?_
        have hx : pLand (kd B n) (vl B n) ow i A P = .inl (pNum (kd B n) (vl B n) (i + 1 + 1) 0 3, i + 1 + 1) := by
          show pDo _ _ _ _ _ _ = _
          unfold pDo
          rw [pNums, if_pos p5, pNums, if_pos p16, pNums, if_neg p26]
        exact RPost.no hx hf (Nat.le_succ _) (hF26 p26)
      · have p26 := of_decide_eq_true c29
        obtain ⟨hW, hk26, h26⟩ := hT26 p26
        refine LW_aloadn 0 dX5_readLand_32 rfl rfl ?_
        refine LW_iconst (v := 3) dX5_readLand_33 (by decide) ?_
        refine LW_iconst (v := 1) dX5_readLand_34 (by decide) ?_
        refine LW_bipush (v := 99) dX5_readLand_35 (by decide) ?_
        refine LW_callV (As := [.int 3, .int 1, .int 99]) (b := 45) (st := []) (ci := 5) (r := (RX5, TX5, 11)) (r_readNumber hB hW (q := 3) (lo := 1) (hi := 99) (by decide) (by decide) (by decide)) YX5_readNumber rfl dX5_readLand_37 mlX5_139 (hY.lt (k := 45) (by decide)) (ly45 hY) ⟨rfl, rfl⟩ (by decide) ⟨Nat.le_of_ble_eq_true rfl, Nat.le_of_ble_eq_true rfl⟩ (Nat.le_of_ble_eq_true rfl) rfl (fun r37 Λc37 Ic37 Lc37 Rc37 hq37 => ?_)
        obtain ⟨rfl, rfl, rfl, hI37, hL37, hT37, hF37⟩ := hq37
        have hf := hf.trans (Fr.rd hI37 hL37)
        refine LW_bif_eq (tgt := 59) dX5_readLand_40 (by decide) (fun c40 => ?_) (fun c40 => ?_)
        · have p37 := of_decide_eq_false c40
          refine LW_iconst (v := 0) dX5_readLand_59 (by decide) ?_
          refine LW_istoren (ls' := [(0, .ref 45), (1, .int (nI ow)), (2, .int 0)]) dX5_readLand_60 rfl (by decide) rfl ?_
          refine LW_iloadn 2 dX5_readLand_61 rfl rfl ?_
          refine LW_if_eq (tgt := 110) dX5_readLand_62 (by decide) (fun c62 => ?_) (fun c62 => absurd rfl c62)
          refine LW_iloadn 2 dX5_readLand_110 rfl rfl ?_
          refine LW_zret dX5_readLand_111 rfl (Nat.le_of_ble_eq_true rfl) (Nat.le_of_ble_eq_true rfl) (Or.inl rfl) ?_
          have hx : pLand (kd B n) (vl B n) ow i A P = .inl (pNum (kd B n) (vl B n) (i + 1 + 1 + 1) 1 99, i + 1 + 1 + 1) := by
            show pDo _ _ _ _ _ _ = _
            unfold pDo
            rw [pNums, if_pos p5, pNums, if_pos p16, pNums, if_pos p26, pNums, if_neg p37]
          exact RPost.no hx hf (Nat.le_succ _) (hF37 p37)
        · have p37 := of_decide_eq_true c40
          obtain ⟨hW, hk37, h37⟩ := hT37 p37
          refine LW_aloadn 0 dX5_readLand_43 rfl rfl ?_
          refine LW_iconst (v := 4) dX5_readLand_44 (by decide) ?_
          refine LW_iconst (v := 1) dX5_readLand_45 (by decide) ?_
          refine LW_sipush (v := 999) dX5_readLand_46 (by decide) ?_
          refine LW_callV (As := [.int 4, .int 1, .int 999]) (b := 45) (st := []) (ci := 5) (r := (RX5, TX5, 11)) (r_readNumber hB hW (q := 4) (lo := 1) (hi := 999) (by decide) (by decide) (by decide)) YX5_readNumber rfl dX5_readLand_49 mlX5_139 (hY.lt (k := 45) (by decide)) (ly45 hY) ⟨rfl, rfl⟩ (by decide) ⟨Nat.le_of_ble_eq_true rfl, Nat.le_of_ble_eq_true rfl⟩ (Nat.le_of_ble_eq_true rfl) rfl (fun r49 Λc49 Ic49 Lc49 Rc49 hq49 => ?_)
          obtain ⟨rfl, rfl, rfl, hI49, hL49, hT49, hF49⟩ := hq49
          have hf := hf.trans (Fr.rd hI49 hL49)
          refine LW_bif_eq (tgt := 59) dX5_readLand_52 (by decide) (fun c52 => ?_) (fun c52 => ?_)
          · have p49 := of_decide_eq_false c52
            refine LW_iconst (v := 0) dX5_readLand_59 (by decide) ?_
            refine LW_istoren (ls' := [(0, .ref 45), (1, .int (nI ow)), (2, .int 0)]) dX5_readLand_60 rfl (by decide) rfl ?_
            refine LW_iloadn 2 dX5_readLand_61 rfl rfl ?_
            refine LW_if_eq (tgt := 110) dX5_readLand_62 (by decide) (fun c62 => ?_) (fun c62 => absurd rfl c62)
            refine LW_iloadn 2 dX5_readLand_110 rfl rfl ?_
            refine LW_zret dX5_readLand_111 rfl (Nat.le_of_ble_eq_true rfl) (Nat.le_of_ble_eq_true rfl) (Or.inl rfl) ?_
            have hx : pLand (kd B n) (vl B n) ow i A P = .inl (pNum (kd B n) (vl B n) (i + 1 + 1 + 1 + 1) 1 999, i + 1 + 1 + 1 + 1) := by
              show pDo _ _ _ _ _ _ = _
              unfold pDo
              rw [pNums, if_pos p5, pNums, if_pos p16, pNums, if_pos p26, pNums, if_pos p37, pNums, if_neg p49]
            exact RPost.no hx hf (Nat.le_succ _) (hF49 p49)
          · have p49 := of_decide_eq_true c52
            obtain ⟨hW, hk49, h49⟩ := hT49 p49
            refine LW_iconst (v := 1) dX5_readLand_55 (by decide) ?_
            refine LW_goto (tgt := 60) dX5_readLand_56 (by decide) ?_
            refine LW_istoren (ls' := [(0, .ref 45), (1, .int (nI ow)), (2, .int 1)]) dX5_readLand_60 rfl (by decide) rfl ?_
            refine LW_iloadn 2 dX5_readLand_61 rfl rfl ?_
            refine LW_if_eq (tgt := 110) dX5_readLand_62 (by decide) (fun c62 => absurd c62 (by decide)) (fun c62 => ?_)
            refine LW_aloadn 0 dX5_readLand_65 rfl rfl ?_
            refine gX5_1 dX5_readLand_66 flX5_28 (hY.lt (k := 45) (by decide)) (ly45 hY) (lf45_1 hY) ?_
            refine LW_new (ci := 2) (C := RX2) (T := TX2) (N := 6) rfl inX2 tyX2_ok dvX2 dX5_readLand_69 clX5_143 insX2 iniX2 hΛ ⟨Nat.le_of_ble_eq_true rfl, Nat.le_of_ble_eq_true rfl⟩ ?_
            generalize hw69 : Λ.1 = w69
            have hw238 : 238 ≤ w69 := by rw [← hw69]; exact hY.1
            obtain ⟨Λ69, hΛ69⟩ : ∃ x, x = hc_nw Λ (100 + 2) 0 := ⟨_, rfl⟩
            rw [← hΛ69]
            have hwl : w69 < Λ69.1 := by rw [hΛ69, ← hw69]; exact Nat.lt_succ_self _
            have hwy : Λ69.2.1 w69 = (102, 0) := by rw [hΛ69, ← hw69]; exact hc_nwl Λ 102 0
            have hn0 : Fr (fun _ => False) Λ Ic49 Lc49 R Λ69 (hc_r Ic49 w69 (fun _ => 0)) (hc_r Lc49 w69 (fun _ => 0)) (hc_r R w69 (fun _ => none)) := by rw [hΛ69, ← hw69]; exact Fr.new _ _ _ _ _
            generalize hI69 : hc_r Ic49 w69 (fun _ => 0) = I69 at hn0 ⊢
            generalize hL69 : hc_r Lc49 w69 (fun _ => 0) = L69 at hn0 ⊢
            generalize hR69 : hc_r R w69 (fun _ => none) = R69 at hn0 ⊢
            have hY0 := hY
            have hY := hY.fr hn0
            have e46 : I69 46 = Ic49 46 := hn0.2.1 46 (hY0.lt (by decide)) (fun q => q)
            refine LW_dup dX5_readLand_72 rfl ?_
            refine LW_iloadn 1 dX5_readLand_73 rfl rfl ?_
            refine LW_aloadn 0 dX5_readLand_74 rfl rfl ?_
            refine gX5_3 dX5_readLand_75 flX5_9 (hY.lt (k := 45) (by decide)) (ly45 hY) (lf45_3 hY) ?_
            refine LW_iconst (v := 0) dX5_readLand_78 (by decide) ?_
            refine LW_iald dX5_readLand_79 (hY.lt (k := 46) (by decide)) (ly46 hY) rfl (by decide) (Nat.le_of_ble_eq_true rfl) ?_
            rw [show I69 46 0 = nI (vl B n (i)) from (by rw [e46, h49, if_neg (by decide), h37, if_neg (by decide), h26, if_neg (by decide), h16, if_neg (by decide), h5, if_pos rfl])]
            refine LW_aloadn 0 dX5_readLand_80 rfl rfl ?_
            refine gX5_3 dX5_readLand_81 flX5_9 (hY.lt (k := 45) (by decide)) (ly45 hY) (lf45_3 hY) ?_
            refine LW_iconst (v := 1) dX5_readLand_84 (by decide) ?_
            refine LW_iald dX5_readLand_85 (hY.lt (k := 46) (by decide)) (ly46 hY) rfl (by decide) (Nat.le_of_ble_eq_true rfl) ?_
            rw [show I69 46 1 = nI (vl B n (i + 1)) from (by rw [e46, h49, if_neg (by decide), h37, if_neg (by decide), h26, if_neg (by decide), h16, if_pos rfl])]
            refine LW_aloadn 0 dX5_readLand_86 rfl rfl ?_
            refine gX5_3 dX5_readLand_87 flX5_9 (hY.lt (k := 45) (by decide)) (ly45 hY) (lf45_3 hY) ?_
            refine LW_iconst (v := 2) dX5_readLand_90 (by decide) ?_
            refine LW_iald dX5_readLand_91 (hY.lt (k := 46) (by decide)) (ly46 hY) rfl (by decide) (Nat.le_of_ble_eq_true rfl) ?_
            rw [show I69 46 2 = nI (vl B n (i + 1 + 1)) from (by rw [e46, h49, if_neg (by decide), h37, if_neg (by decide), h26, if_pos rfl])]
            refine LW_aloadn 0 dX5_readLand_92 rfl rfl ?_
            refine gX5_3 dX5_readLand_93 flX5_9 (hY.lt (k := 45) (by decide)) (ly45 hY) (lf45_3 hY) ?_
            refine LW_iconst (v := 3) dX5_readLand_96 (by decide) ?_
            refine LW_iald dX5_readLand_97 (hY.lt (k := 46) (by decide)) (ly46 hY) rfl (by decide) (Nat.le_of_ble_eq_true rfl) ?_
            rw [show I69 46 3 = nI (vl B n (i + 1 + 1 + 1)) from (by rw [e46, h49, if_neg (by decide), h37, if_pos rfl])]
            refine LW_aloadn 0 dX5_readLand_98 rfl rfl ?_
            refine gX5_3 dX5_readLand_99 flX5_9 (hY.lt (k := 45) (by decide)) (ly45 hY) (lf45_3 hY) ?_
            refine LW_iconst (v := 4) dX5_readLand_102 (by decide) ?_
            refine LW_iald dX5_readLand_103 (hY.lt (k := 46) (by decide)) (ly46 hY) rfl (by decide) (Nat.le_of_ble_eq_true rfl) ?_
            rw [show I69 46 4 = nI (vl B n (i + 1 + 1 + 1 + 1)) from (by rw [e46, h49, if_pos rfl])]
            refine LW_callI (As := [.int (nI ow), .int (nI (vl B n (i))), .int (nI (vl B n (i + 1))), .int (nI (vl B n (i + 1 + 1))), .int (nI (vl B n (i + 1 + 1 + 1))), .int (nI (vl B n (i + 1 + 1 + 1 + 1)))]) (b := w69) (st := [.ref w69, .ref 21]) (r_FieldInit hwl hwy (nI ow) _ _ _ _ _) YX2_init rfl dX5_readLand_104 mlX5_145 hwl (by decide) ⟨Nat.le_of_ble_eq_true rfl, Nat.le_of_ble_eq_true rfl⟩ (Nat.le_of_ble_eq_true rfl) rfl (fun r104 Λc104 Ic104 Lc104 Rc104 hq104 => ?_)
            obtain ⟨rfl, rfl, hI104, hL104, hR104, h104⟩ := hq104
            obtain rfl : L69 = Lc104 := funext fun z => (hL104 z (fun q => q)).symm
            obtain rfl : R69 = Rc104 := funext fun z => (hR104 z (fun q => q)).symm
            have hn1 : Fr (fun _ => False) Λ Ic49 Lc49 R Λ69 Ic104 L69 R69 := ⟨hn0.1, fun z hz q => by rw [hI104 z (by omega)]; exact hn0.2.1 z hz q, hn0.2.2⟩
            have hW := hW.fr0 hn1
            have hfd : FdAt Λ69 Ic104 w69 (fdRow (vl B n) ow i) := ⟨hwl, hwy, fun a ha => by
              rw [h104]
              rcases (show a = 0 ∨ a = 1 ∨ a = 2 ∨ a = 3 ∨ a = 4 ∨ a = 5 by omega) with rfl | rfl | rfl | rfl | rfl | rfl <;> rfl⟩
            refine LW_callV (As := [.ref w69]) (b := 21) (st := []) (ci := 6) (r := (RX6, TX6, 15)) (r_addField hY.st21 hwl hwy hW.fc hF24) YX6_addField rfl dX5_readLand_107 mlX5_148 (hY.lt (k := 21) (by decide)) (ly21 hY) ⟨rfl, rfl⟩ (by decide) ⟨Nat.le_of_ble_eq_true rfl, Nat.le_of_ble_eq_true rfl⟩ (Nat.le_of_ble_eq_true rfl) rfl (fun r107 Λc107 Ic107 Lc107 Rc107 hq107 => ?_)
            obtain ⟨rfl, rfl, hI107, hL107, hR107, h107, h107r⟩ := hq107
            obtain rfl : L69 = Lc107 := funext fun z => (hL107 z (fun q => q)).symm
            have hs2 : St Λ69 Ic107 L69 Rc107 21 (aAddF A (fdRow (vl B n) ow i)) := hW.s.addF hfd ⟨how, hk5.2.2 |> Nat.lt_succ_of_le, hk16.2.2 |> Nat.lt_succ_of_le, hk26.2.2 |> Nat.lt_succ_of_le, ⟨hk37.2.1, hk37.2.2⟩, ⟨hk49.2.1, hk49.2.2⟩⟩ hF24 hI107 h107 hR107 h107r
            have hW2 := hW.dr (I' := Ic107) (L' := L69) (R' := Rc107) (fun z hz => hI107 z (by omega)) (fun _ _ => rfl) hs2
            refine LW_iloadn 2 dX5_readLand_110 rfl rfl ?_
            refine LW_zret dX5_readLand_111 rfl (Nat.le_of_ble_eq_true rfl) (Nat.le_of_ble_eq_true rfl) (Or.inr rfl) ?_
            have hx : pLand (kd B n) (vl B n) ow i A P = .inr (i + 5, aAddF A (fdRow (vl B n) ow i), P) := by
              show pDo _ _ _ _ _ _ = _
              unfold pDo
              rw [pNums, if_pos p5, pNums, if_pos p16, pNums, if_pos p26, pNums, if_pos p37, pNums, if_pos p49, pNums]
              rfl
            refine RPost.yes hx (hf.trans ((hn1.mono (fun _ _ q => absurd q (fun q => q))).trans (Fr.dr (fun z hz => hI107 z (by omega)) (fun _ _ => rfl) (fun z hz => hR107 z (by omega))))) ?_ hW2
            rw [hΛ69]
            exact Nat.le_refl _
theorem RPost.tr {B : Nat → Nat} {n cn op : Nat} {x : Rs} {Λ Λ1 Λ' : hc_L} {I I1 I' : hc_I} {L L1 L' : hc_J} {R R1 R' : hc_R} {r : Option Value} (hf : Fr RJ Λ I L R Λ1 I1 L1 R1) (hl : Λ1.1 ≤ Λ.1) (h : RPost B n cn op x Λ1 I1 L1 R1 r Λ' I' L' R') : RPost B n cn op x Λ I L R r Λ' I' L' R' := ⟨h.1, hf.trans h.2.1, Nat.le_trans h.2.2.1 (Nat.succ_le_succ hl), h.2.2.2⟩
theorem rm7_eq : ∀ j, hc_rm7 j = nI (rmN j)
  | 0 => rfl
  | 1 => rfl
  | 2 => rfl
  | 3 => rfl
  | 4 => rfl
  | 5 => rfl
  | _ + 6 => rfl
theorem rmN_lt : ∀ j, rmN j < 2 ^ 31
  | 0 => by decide
  | 1 => by decide
  | 2 => by decide
  | 3 => by decide
  | 4 => by decide
  | 5 => by decide
  | _ + 6 => by show 100 < 2 ^ 31; decide
theorem pDo1 {K V : Nat → Nat} {lo hi i : Nat} {A : AS} {P : LwP} : pDo K V [(lo, hi)] i A P = if pNum K V i lo hi = 0 then .inr (i + 1, A, P) else .inl (pNum K V i lo hi, i) := by
  unfold pDo
  by_cases c : pNum K V i lo hi = 0
  · rw [pNums, if_pos c, pNums, if_pos c]; rfl
  · rw [pNums, if_neg c, if_neg c]
set_option maxRecDepth 100000 in
theorem r_readNewName {Λ : hc_L} {I : hc_I} {L : hc_J} {R : hc_R} {B : Nat → Nat} {n cn i op : Nat} {A : AS} {P : LwP} (hB : ∀ j, j < n → B j < 256) (hW : RW B n cn Λ I L R i op A P) : Run xX5_readNewName [.ref 45] Λ I L R (RPost B n cn op (pName (kd B n) (vl B n) i A P) Λ I L R) := by
  refine Run.of (by decide +kernel) (Nat.le_of_ble_eq_true rfl) ?_
  show LW _ _ _ [(0, .ref 45)] _ _ _ _ _ _
  have hY := hW.y
  have hf : Fr RJ Λ I L R Λ I L R := Fr.rf
  refine LW_aloadn 0 dX5_readNewName_0 rfl rfl ?_
  refine gX5_7 dX5_readNewName_1 flX5_49 (hY.lt (k := 45) (by decide)) (ly45 hY) ?_
  rw [show I 45 7 = kEnc (kd B n i) from hW.k]
  refine LW_sipush (v := 2000) dX5_readNewName_4 (by decide) ?_
  refine LW_icmp_eq (tgt := 16) dX5_readNewName_7 (by decide) (fun c7 => ?_) (fun c7 => ?_)
  · have hk : kd B n i = 2000 := (kd_ne hB (by decide)).mp c7
    have hK : kd B n i ≠ 2003 := by rw [hk]; decide
    have hm := hW.s.w.m
    refine LW_aloadn 0 dX5_readNewName_16 rfl rfl ?_
    refine gX5_1 dX5_readNewName_17 flX5_28 (hY.lt (k := 45) (by decide)) (ly45 hY) (lf45_1 hY) ?_
    refine LW_aloadn 0 dX5_readNewName_20 rfl rfl ?_
    refine gX5_9 dX5_readNewName_21 flX5_106 (hY.lt (k := 45) (by decide)) (ly45 hY) ?_
    rw [show L 45 9 = lN (vl B n i) from hW.v]
    refine LW_callV (As := [.long (lN (vl B n i))]) (b := 21) (st := []) (ci := 6) (r := (RX6, TX6, 15)) (r_memberNamed hW.s (lN (vl B n i))) YX6_memberNamed rfl dX5_readNewName_24 mlX5_131 (hY.lt (k := 21) (by decide)) (ly21 hY) ⟨rfl, rfl⟩ (by decide) ⟨Nat.le_of_ble_eq_true rfl, Nat.le_of_ble_eq_true rfl⟩ (Nat.le_of_ble_eq_true rfl) rfl (fun r24 Λc24 Ic24 Lc24 Rc24 hq24 => ?_)
    obtain ⟨rfl, rfl, rfl, rfl, rfl⟩ := hq24
    refine LW_iconst (v := -1) dX5_readNewName_27 (by decide) ?_
    refine LW_icmp_eq (tgt := 37) dX5_readNewName_28 (by decide) (fun c28 => ?_) (fun c28 => ?_)
    · have hnm : abNamed A (lN (vl B n i)) = -1 := c28
      refine LW_aloadn 0 dX5_readNewName_37 rfl rfl ?_
      refine gX5_1 dX5_readNewName_38 flX5_28 (hY.lt (k := 45) (by decide)) (ly45 hY) (lf45_1 hY) ?_
      refine gX6_11 dX5_readNewName_41 flX5_72 (hY.lt (k := 21) (by decide)) (ly21 hY) ?_
      rw [show I 21 11 = nI (aM A) from hW.mc]
      refine LW_bipush (v := 12) dX5_readNewName_44 (by decide) ?_
      refine LW_icmp_lt (tgt := 55) dX5_readNewName_46 (by decide) (fun c46 => ?_) (fun c46 => ?_)
      · have hM12 : aM A < 12 := (hc_lt (b := 12) (by omega) (by omega)).mp c46
        refine LW_aloadn 0 dX5_readNewName_55 rfl rfl ?_
        refine gX5_1 dX5_readNewName_56 flX5_28 (hY.lt (k := 45) (by decide)) (ly45 hY) (lf45_1 hY) ?_
        refine LW_aloadn 0 dX5_readNewName_59 rfl rfl ?_
        refine gX5_9 dX5_readNewName_60 flX5_106 (hY.lt (k := 45) (by decide)) (ly45 hY) ?_
        rw [show L 45 9 = lN (vl B n i) from hW.v]
        refine LW_callV (As := [.long (lN (vl B n i))]) (b := 21) (st := []) (ci := 6) (r := (RX6, TX6, 15)) (r_addMember hY.st21 hW.mc hM12) YX6_addMember rfl dX5_readNewName_63 mlX5_135 (hY.lt (k := 21) (by decide)) (ly21 hY) ⟨rfl, rfl⟩ (by decide) ⟨Nat.le_of_ble_eq_true rfl, Nat.le_of_ble_eq_true rfl⟩ (Nat.le_of_ble_eq_true rfl) rfl (fun r63 Λc63 Ic63 Lc63 Rc63 hq63 => ?_)
        obtain ⟨rfl, rfl, hI63, hL63, hR63, h63a, h63b, h63c⟩ := hq63
        obtain rfl : R = Rc63 := funext fun z => (hR63 z (fun q => q)).symm
        have hs2 := hW.s.addM hM12 (fun z a b => hI63 z (by omega)) hL63 h63a h63b h63c
        have hf := hf.trans (Fr.dr (fun z hz => hI63 z (by omega)) (fun z hz => hL63 z (by omega)) (fun _ _ => rfl))
        have hW := hW.dr (fun z hz => hI63 z (by omega)) (fun z hz => hL63 z (by omega)) hs2
        refine LW_aloadn 0 dX5_readNewName_66 rfl rfl ?_
        refine LW_callV (As := []) (b := 45) (st := []) (ci := 5) (r := (RX5, TX5, 11)) (r_step hB hW hK) YX5_step rfl dX5_readNewName_67 mlX5_60 (hY.lt (k := 45) (by decide)) (ly45 hY) ⟨rfl, rfl⟩ (by decide) ⟨Nat.le_of_ble_eq_true rfl, Nat.le_of_ble_eq_true rfl⟩ (Nat.le_of_ble_eq_true rfl) rfl (fun r67 Λc67 Ic67 Lc67 Rc67 hq67 => ?_)
        obtain ⟨rfl, rfl, hI67, hL67, hR67, hW67⟩ := hq67
        obtain rfl : R = Rc67 := funext fun z => (hR67 z (fun q => q)).symm
        have hW := hW67
        have hf := hf.trans (Fr.rd (fun z z1 _ => hI67 z z1) hL67)
        refine LW_iconst (v := 1) dX5_readNewName_70 (by decide) ?_
        refine LW_zret dX5_readNewName_71 rfl (Nat.le_of_ble_eq_true rfl) (Nat.le_of_ble_eq_true rfl) (Or.inr rfl) ?_
        have hx : pName (kd B n) (vl B n) i A P = .inr (i + 1, aAddM A (lN (vl B n i)), P) := by unfold pName; rw [if_pos hk, if_pos hnm, if_pos hM12]
        exact RPost.yes hx hf (Nat.le_succ _) hW67
      · have hM : ¬ aM A < 12 := fun z => c46 ((hc_lt (b := 12) (by omega) (by omega)).mpr z)
        refine LW_aloadn 0 dX5_readNewName_49 rfl rfl ?_
        refine LW_iconst (v := 5) dX5_readNewName_50 (by decide) ?_
        refine LW_callV (As := [.int 5]) (b := 45) (st := []) (ci := 5) (r := (RX5, TX5, 11)) (r_refuse hW 5 rfl) YX5_refuse rfl dX5_readNewName_51 mlX5_56 (hY.lt (k := 45) (by decide)) (ly45 hY) ⟨rfl, rfl⟩ (by decide) ⟨Nat.le_of_ble_eq_true rfl, Nat.le_of_ble_eq_true rfl⟩ (Nat.le_of_ble_eq_true rfl) rfl (fun r51 Λc51 Ic51 Lc51 Rc51 hq51 => ?_)
        obtain ⟨rfl, rfl, hI51, hL51, hR51, hF51⟩ := hq51
        obtain rfl : L = Lc51 := funext fun z => (hL51 z (fun q => q)).symm
        obtain rfl : R = Rc51 := funext fun z => (hR51 z (fun q => q)).symm
        have hf := hf.trans (Fr.rd (fun z z1 _ => hI51 z z1) (fun _ _ => rfl))
        refine LW_zret dX5_readNewName_54 rfl (Nat.le_of_ble_eq_true rfl) (Nat.le_of_ble_eq_true rfl) (hc_b01 _) ?_
        have hx : pName (kd B n) (vl B n) i A P = .inl (5, i) := by unfold pName; rw [if_pos hk, if_pos hnm, if_neg hM]
        exact RPost.no hx hf (Nat.le_succ _) hF51
    · refine LW_aloadn 0 dX5_readNewName_31 rfl rfl ?_
      refine LW_iconst (v := 2) dX5_readNewName_32 (by decide) ?_
      refine LW_callV (As := [.int 2]) (b := 45) (st := []) (ci := 5) (r := (RX5, TX5, 11)) (r_refuse hW 2 rfl) YX5_refuse rfl dX5_readNewName_33 mlX5_56 (hY.lt (k := 45) (by decide)) (ly45 hY) ⟨rfl, rfl⟩ (by decide) ⟨Nat.le_of_ble_eq_true rfl, Nat.le_of_ble_eq_true rfl⟩ (Nat.le_of_ble_eq_true rfl) rfl (fun r33 Λc33 Ic33 Lc33 Rc33 hq33 => ?_)
      obtain ⟨rfl, rfl, hI33, hL33, hR33, hF33⟩ := hq33
      obtain rfl : L = Lc33 := funext fun z => (hL33 z (fun q => q)).symm
      obtain rfl : R = Rc33 := funext fun z => (hR33 z (fun q => q)).symm
      have hf := hf.trans (Fr.rd (fun z z1 _ => hI33 z z1) (fun _ _ => rfl))
      refine LW_zret dX5_readNewName_36 rfl (Nat.le_of_ble_eq_true rfl) (Nat.le_of_ble_eq_true rfl) (hc_b01 _) ?_
      have hx : pName (kd B n) (vl B n) i A P = .inl (2, i) := by unfold pName; rw [if_pos hk, if_neg c28]
      exact RPost.no hx hf (Nat.le_succ _) hF33
  · have hk : ¬ kd B n i = 2000 := fun z => c7 ((kd_ne hB (by decide)).mpr z)
    refine LW_aloadn 0 dX5_readNewName_10 rfl rfl ?_
    refine LW_iconst (v := 1) dX5_readNewName_11 (by decide) ?_
    refine LW_callV (As := [.int 1]) (b := 45) (st := []) (ci := 5) (r := (RX5, TX5, 11)) (r_refuse hW 1 rfl) YX5_refuse rfl dX5_readNewName_12 mlX5_56 (hY.lt (k := 45) (by decide)) (ly45 hY) ⟨rfl, rfl⟩ (by decide) ⟨Nat.le_of_ble_eq_true rfl, Nat.le_of_ble_eq_true rfl⟩ (Nat.le_of_ble_eq_true rfl) rfl (fun r12 Λc12 Ic12 Lc12 Rc12 hq12 => ?_)
    obtain ⟨rfl, rfl, hI12, hL12, hR12, hF12⟩ := hq12
    obtain rfl : L = Lc12 := funext fun z => (hL12 z (fun q => q)).symm
    obtain rfl : R = Rc12 := funext fun z => (hR12 z (fun q => q)).symm
    have hf := hf.trans (Fr.rd (fun z z1 _ => hI12 z z1) (fun _ _ => rfl))
    refine LW_zret dX5_readNewName_15 rfl (Nat.le_of_ble_eq_true rfl) (Nat.le_of_ble_eq_true rfl) (hc_b01 _) ?_
    have hx : pName (kd B n) (vl B n) i A P = .inl (1, i) := if_neg hk
    exact RPost.no hx hf (Nat.le_succ _) hF12
set_option maxRecDepth 100000 in
theorem r_readMember {Λ : hc_L} {I : hc_I} {L : hc_J} {R : hc_R} {B : Nat → Nat} {n cn i op : Nat} {A : AS} {P : LwP} (hB : ∀ j, j < n → B j < 256) (hW : RW B n cn Λ I L R i op A P) (hK : kd B n i ≠ 2003) : Run xX5_readMember [.ref 45] Λ I L R (RPost B n cn op (pMember (kd B n) (vl B n) i A P) Λ I L R) := by
  refine Run.of (by decide +kernel) (Nat.le_of_ble_eq_true rfl) ?_
  show LW _ _ _ [(0, .ref 45)] _ _ _ _ _ _
  have hY := hW.y
  have hf : Fr RJ Λ I L R Λ I L R := Fr.rf
  have hm := hW.s.w.m
  refine LW_aloadn 0 dX5_readMember_0 rfl rfl ?_
  refine gX5_1 dX5_readMember_1 flX5_28 (hY.lt (k := 45) (by decide)) (ly45 hY) (lf45_1 hY) ?_
  refine gX6_11 dX5_readMember_4 flX5_72 (hY.lt (k := 21) (by decide)) (ly21 hY) ?_
  rw [show I 21 11 = nI (aM A) from hW.mc]
  refine LW_bipush (v := 12) dX5_readMember_7 (by decide) ?_
  refine LW_icmp_lt (tgt := 18) dX5_readMember_9 (by decide) (fun c9 => ?_) (fun c9 => ?_)
  · have hM12 : aM A < 12 := (hc_lt (b := 12) (by omega) (by omega)).mp c9
    refine LW_aloadn 0 dX5_readMember_18 rfl rfl ?_
    refine LW_callV (As := []) (b := 45) (st := []) (ci := 5) (r := (RX5, TX5, 11)) (r_step hB hW hK) YX5_step rfl dX5_readMember_19 mlX5_60 (hY.lt (k := 45) (by decide)) (ly45 hY) ⟨rfl, rfl⟩ (by decide) ⟨Nat.le_of_ble_eq_true rfl, Nat.le_of_ble_eq_true rfl⟩ (Nat.le_of_ble_eq_true rfl) rfl (fun r19 Λc19 Ic19 Lc19 Rc19 hq19 => ?_)
    obtain ⟨rfl, rfl, hI19, hL19, hR19, hW19⟩ := hq19
    obtain rfl : R = Rc19 := funext fun z => (hR19 z (fun q => q)).symm
    have hW := hW19
    have hf := hf.trans (Fr.rd (fun z z1 _ => hI19 z z1) hL19)
    refine LW_aloadn 0 dX5_readMember_22 rfl rfl ?_
    refine LW_callV (As := []) (b := 45) (st := []) (ci := 5) (r := (RX5, TX5, 11)) (r_readNewName hB hW) YX5_readNewName rfl dX5_readMember_23 mlX5_63 (hY.lt (k := 45) (by decide)) (ly45 hY) ⟨rfl, rfl⟩ (by decide) ⟨Nat.le_of_ble_eq_true rfl, Nat.le_of_ble_eq_true rfl⟩ (Nat.le_of_ble_eq_true rfl) rfl (fun r23 Λc23 Ic23 Lc23 Rc23 hq23 => ?_)
    obtain ⟨rfl, hq223⟩ := hq23
    refine LW_zret dX5_readMember_26 rfl (Nat.le_of_ble_eq_true rfl) (Nat.le_of_ble_eq_true rfl) (hc_b01 _) ?_
    have hx : pMember (kd B n) (vl B n) i A P = pName (kd B n) (vl B n) (i + 1) A P := if_pos hM12
    rw [hx]
    exact RPost.tr hf (Nat.le_refl _) ⟨rfl, hq223⟩
  · have hM : ¬ aM A < 12 := fun z => c9 ((hc_lt (b := 12) (by omega) (by omega)).mpr z)
    refine LW_aloadn 0 dX5_readMember_12 rfl rfl ?_
    refine LW_iconst (v := 5) dX5_readMember_13 (by decide) ?_
    refine LW_callV (As := [.int 5]) (b := 45) (st := []) (ci := 5) (r := (RX5, TX5, 11)) (r_refuse hW 5 rfl) YX5_refuse rfl dX5_readMember_14 mlX5_56 (hY.lt (k := 45) (by decide)) (ly45 hY) ⟨rfl, rfl⟩ (by decide) ⟨Nat.le_of_ble_eq_true rfl, Nat.le_of_ble_eq_true rfl⟩ (Nat.le_of_ble_eq_true rfl) rfl (fun r14 Λc14 Ic14 Lc14 Rc14 hq14 => ?_)
    obtain ⟨rfl, rfl, hI14, hL14, hR14, hF14⟩ := hq14
    obtain rfl : L = Lc14 := funext fun z => (hL14 z (fun q => q)).symm
    obtain rfl : R = Rc14 := funext fun z => (hR14 z (fun q => q)).symm
    have hf := hf.trans (Fr.rd (fun z z1 _ => hI14 z z1) (fun _ _ => rfl))
    refine LW_zret dX5_readMember_17 rfl (Nat.le_of_ble_eq_true rfl) (Nat.le_of_ble_eq_true rfl) (hc_b01 _) ?_
    have hx : pMember (kd B n) (vl B n) i A P = .inl (5, i) := if_neg hM
    exact RPost.no hx hf (Nat.le_succ _) hF14
set_option maxRecDepth 100000 in
theorem r_readField {Λ : hc_L} {I : hc_I} {L : hc_J} {R : hc_R} {B : Nat → Nat} {n cn i op : Nat} {A : AS} {P : LwP} (hB : ∀ j, j < n → B j < 256) (hW : RW B n cn Λ I L R i op A P) (hK : kd B n i ≠ 2003) (hΛ : Λ.1 < 1000000) : Run xX5_readField [.ref 45] Λ I L R (RPost B n cn op (pField (kd B n) (vl B n) i A P) Λ I L R) := by
  refine Run.of (by decide +kernel) (Nat.le_of_ble_eq_true rfl) ?_
  show LW _ _ _ [(0, .ref 45)] _ _ _ _ _ _
  have hY := hW.y
  have hf : Fr RJ Λ I L R Λ I L R := Fr.rf
  have hm := hW.s.w.m
  have hf24 := hW.s.w.f
  refine LW_aloadn 0 dX5_readField_0 rfl rfl ?_
  refine gX5_1 dX5_readField_1 flX5_28 (hY.lt (k := 45) (by decide)) (ly45 hY) (lf45_1 hY) ?_
  refine gX6_12 dX5_readField_4 flX5_66 (hY.lt (k := 21) (by decide)) (ly21 hY) ?_
  rw [show I 21 12 = nI (aF A) from hW.fc]
  refine LW_bipush (v := 24) dX5_readField_7 (by decide) ?_
  refine LW_icmp_lt (tgt := 18) dX5_readField_9 (by decide) (fun c9 => ?_) (fun c9 => ?_)
  · have hF24 : aF A < 24 := (hc_lt (b := 24) (by omega) (by omega)).mp c9
    refine LW_aloadn 0 dX5_readField_18 rfl rfl ?_
    refine LW_callV (As := []) (b := 45) (st := []) (ci := 5) (r := (RX5, TX5, 11)) (r_step hB hW hK) YX5_step rfl dX5_readField_19 mlX5_60 (hY.lt (k := 45) (by decide)) (ly45 hY) ⟨rfl, rfl⟩ (by decide) ⟨Nat.le_of_ble_eq_true rfl, Nat.le_of_ble_eq_true rfl⟩ (Nat.le_of_ble_eq_true rfl) rfl (fun r19 Λc19 Ic19 Lc19 Rc19 hq19 => ?_)
    obtain ⟨rfl, rfl, hI19, hL19, hR19, hW19⟩ := hq19
    obtain rfl : R = Rc19 := funext fun z => (hR19 z (fun q => q)).symm
    have hW := hW19
    have hf := hf.trans (Fr.rd (fun z z1 _ => hI19 z z1) hL19)
    refine LW_aloadn 0 dX5_readField_22 rfl rfl ?_
    refine gX5_7 dX5_readField_23 flX5_49 (hY.lt (k := 45) (by decide)) (ly45 hY) ?_
    rw [show Ic19 45 7 = kEnc (kd B n (i + 1)) from hW.k]
    refine LW_sipush (v := 2000) dX5_readField_26 (by decide) ?_
    refine LW_icmp_eq (tgt := 38) dX5_readField_29 (by decide) (fun c29 => ?_) (fun c29 => ?_)
    · have hk : kd B n (i + 1) = 2000 := (kd_ne hB (by decide)).mp c29
      have hK : kd B n (i + 1) ≠ 2003 := by rw [hk]; decide
      refine LW_aloadn 0 dX5_readField_38 rfl rfl ?_
      refine gX5_1 dX5_readField_39 flX5_28 (hY.lt (k := 45) (by decide)) (ly45 hY) (lf45_1 hY) ?_
      refine LW_aloadn 0 dX5_readField_42 rfl rfl ?_
      refine gX5_9 dX5_readField_43 flX5_106 (hY.lt (k := 45) (by decide)) (ly45 hY) ?_
      rw [show Lc19 45 9 = lN (vl B n (i + 1)) from hW.v]
      refine LW_callV (As := [.long (lN (vl B n (i + 1)))]) (b := 21) (st := []) (ci := 6) (r := (RX6, TX6, 15)) (r_memberNamed hW.s (lN (vl B n (i + 1)))) YX6_memberNamed rfl dX5_readField_46 mlX5_131 (hY.lt (k := 21) (by decide)) (ly21 hY) ⟨rfl, rfl⟩ (by decide) ⟨Nat.le_of_ble_eq_true rfl, Nat.le_of_ble_eq_true rfl⟩ (Nat.le_of_ble_eq_true rfl) rfl (fun r46 Λc46 Ic46 Lc46 Rc46 hq46 => ?_)
      obtain ⟨rfl, rfl, rfl, rfl, rfl⟩ := hq46
      refine LW_istoren (ls' := [(0, .ref 45), (1, .int (abNamed A (lN (vl B n (i + 1)))))]) dX5_readField_49 rfl (by decide) rfl ?_
      refine LW_iloadn 1 dX5_readField_50 rfl rfl ?_
      refine LW_iconst (v := -1) dX5_readField_51 (by decide) ?_
      refine LW_icmp_ne (tgt := 61) dX5_readField_52 (by decide) (fun c52 => ?_) (fun c52 => ?_)
      · have hno : ¬ abNamed A (lN (vl B n (i + 1))) = -1 := c52
        have hmn2 := (abNamed_r A hm (lN (vl B n (i + 1)))).resolve_left hno
        obtain ⟨mo, hmo, hmn⟩ := hmn2
        rw [hmn]
        refine LW_aloadn 0 dX5_readField_61 rfl rfl ?_
        refine LW_callV (As := []) (b := 45) (st := []) (ci := 5) (r := (RX5, TX5, 11)) (r_step hB hW hK) YX5_step rfl dX5_readField_62 mlX5_60 (hY.lt (k := 45) (by decide)) (ly45 hY) ⟨rfl, rfl⟩ (by decide) ⟨Nat.le_of_ble_eq_true rfl, Nat.le_of_ble_eq_true rfl⟩ (Nat.le_of_ble_eq_true rfl) rfl (fun r62 Λc62 Ic62 Lc62 Rc62 hq62 => ?_)
        obtain ⟨rfl, rfl, hI62, hL62, hR62, hW62⟩ := hq62
        obtain rfl : R = Rc62 := funext fun z => (hR62 z (fun q => q)).symm
        have hW := hW62
        have hf := hf.trans (Fr.rd (fun z z1 _ => hI62 z z1) hL62)
        refine LW_aloadn 0 dX5_readField_65 rfl rfl ?_
        refine LW_iloadn 1 dX5_readField_66 rfl rfl ?_
        refine LW_callV (As := [.int (nI mo)]) (b := 45) (st := []) (ci := 5) (r := (RX5, TX5, 11)) (r_readLand hB hW hΛ hF24 hmo) YX5_readLand rfl dX5_readField_67 mlX5_75 (hY.lt (k := 45) (by decide)) (ly45 hY) ⟨rfl, rfl⟩ (by decide) ⟨Nat.le_of_ble_eq_true rfl, Nat.le_of_ble_eq_true rfl⟩ (Nat.le_of_ble_eq_true rfl) rfl (fun r67 Λc67 Ic67 Lc67 Rc67 hq67 => ?_)
        obtain ⟨rfl, hq267⟩ := hq67
        refine LW_zret dX5_readField_70 rfl (Nat.le_of_ble_eq_true rfl) (Nat.le_of_ble_eq_true rfl) (hc_b01 _) ?_
        have hx : pField (kd B n) (vl B n) i A P = pLand (kd B n) (vl B n) mo (i + 1 + 1) A P := by unfold pField; rw [if_pos hF24, if_pos hk, if_neg hno, hmn, hc_cl (by omega)]
        rw [hx]
        exact RPost.tr hf (Nat.le_refl _) ⟨rfl, hq267⟩
      · have hno : abNamed A (lN (vl B n (i + 1))) = -1 := Classical.not_not.mp c52
        refine LW_aloadn 0 dX5_readField_55 rfl rfl ?_
        refine LW_iconst (v := 3) dX5_readField_56 (by decide) ?_
        refine LW_callV (As := [.int 3]) (b := 45) (st := []) (ci := 5) (r := (RX5, TX5, 11)) (r_refuse hW 3 rfl) YX5_refuse rfl dX5_readField_57 mlX5_56 (hY.lt (k := 45) (by decide)) (ly45 hY) ⟨rfl, rfl⟩ (by decide) ⟨Nat.le_of_ble_eq_true rfl, Nat.le_of_ble_eq_true rfl⟩ (Nat.le_of_ble_eq_true rfl) rfl (fun r57 Λc57 Ic57 Lc57 Rc57 hq57 => ?_)
        obtain ⟨rfl, rfl, hI57, hL57, hR57, hF57⟩ := hq57
        obtain rfl : Lc19 = Lc57 := funext fun z => (hL57 z (fun q => q)).symm
        obtain rfl : R = Rc57 := funext fun z => (hR57 z (fun q => q)).symm
        have hf := hf.trans (Fr.rd (fun z z1 _ => hI57 z z1) (fun _ _ => rfl))
        refine LW_zret dX5_readField_60 rfl (Nat.le_of_ble_eq_true rfl) (Nat.le_of_ble_eq_true rfl) (hc_b01 _) ?_
        have hx : pField (kd B n) (vl B n) i A P = .inl (3, i + 1) := by unfold pField; rw [if_pos hF24, if_pos hk, if_pos hno]
        exact RPost.no hx hf (Nat.le_succ _) hF57
    · have hk : ¬ kd B n (i + 1) = 2000 := fun z => c29 ((kd_ne hB (by decide)).mpr z)
      refine LW_aloadn 0 dX5_readField_32 rfl rfl ?_
      refine LW_iconst (v := 1) dX5_readField_33 (by decide) ?_
      refine LW_callV (As := [.int 1]) (b := 45) (st := []) (ci := 5) (r := (RX5, TX5, 11)) (r_refuse hW 1 rfl) YX5_refuse rfl dX5_readField_34 mlX5_56 (hY.lt (k := 45) (by decide)) (ly45 hY) ⟨rfl, rfl⟩ (by decide) ⟨Nat.le_of_ble_eq_true rfl, Nat.le_of_ble_eq_true rfl⟩ (Nat.le_of_ble_eq_true rfl) rfl (fun r34 Λc34 Ic34 Lc34 Rc34 hq34 => ?_)
      obtain ⟨rfl, rfl, hI34, hL34, hR34, hF34⟩ := hq34
      obtain rfl : Lc19 = Lc34 := funext fun z => (hL34 z (fun q => q)).symm
      obtain rfl : R = Rc34 := funext fun z => (hR34 z (fun q => q)).symm
      have hf := hf.trans (Fr.rd (fun z z1 _ => hI34 z z1) (fun _ _ => rfl))
      refine LW_zret dX5_readField_37 rfl (Nat.le_of_ble_eq_true rfl) (Nat.le_of_ble_eq_true rfl) (hc_b01 _) ?_
      have hx : pField (kd B n) (vl B n) i A P = .inl (1, i + 1) := by unfold pField; rw [if_pos hF24, if_neg hk]
      exact RPost.no hx hf (Nat.le_succ _) hF34
  · have hF : ¬ aF A < 24 := fun z => c9 ((hc_lt (b := 24) (by omega) (by omega)).mpr z)
    refine LW_aloadn 0 dX5_readField_12 rfl rfl ?_
    refine LW_iconst (v := 5) dX5_readField_13 (by decide) ?_
    refine LW_callV (As := [.int 5]) (b := 45) (st := []) (ci := 5) (r := (RX5, TX5, 11)) (r_refuse hW 5 rfl) YX5_refuse rfl dX5_readField_14 mlX5_56 (hY.lt (k := 45) (by decide)) (ly45 hY) ⟨rfl, rfl⟩ (by decide) ⟨Nat.le_of_ble_eq_true rfl, Nat.le_of_ble_eq_true rfl⟩ (Nat.le_of_ble_eq_true rfl) rfl (fun r14 Λc14 Ic14 Lc14 Rc14 hq14 => ?_)
    obtain ⟨rfl, rfl, hI14, hL14, hR14, hF14⟩ := hq14
    obtain rfl : L = Lc14 := funext fun z => (hL14 z (fun q => q)).symm
    obtain rfl : R = Rc14 := funext fun z => (hR14 z (fun q => q)).symm
    have hf := hf.trans (Fr.rd (fun z z1 _ => hI14 z z1) (fun _ _ => rfl))
    refine LW_zret dX5_readField_17 rfl (Nat.le_of_ble_eq_true rfl) (Nat.le_of_ble_eq_true rfl) (hc_b01 _) ?_
    have hx : pField (kd B n) (vl B n) i A P = .inl (5, i) := if_neg hF
    exact RPost.no hx hf (Nat.le_succ _) hF14
set_option maxRecDepth 100000 in
theorem r_refuseLand {Λ : hc_L} {I : hc_I} {L : hc_J} {R : hc_R} {B : Nat → Nat} {n cn i op : Nat} {A : AS} {P : LwP} (hB : ∀ j, j < n → B j < 256) (hW : RW B n cn Λ I L R i op A P) : Run xX5_refuseLand [.ref 45] Λ I L R (Qf (fun z => z = 45) (fun _ => False) (fun _ => False) (some (.int (hc_b false))) (fun I' _ _ => RF B n Λ I' L R (pFull (kd B n) (vl B n) i, i)) Λ I L R) := by
  refine Run.of (by decide +kernel) (Nat.le_of_ble_eq_true rfl) ?_
  show LW _ _ _ [(0, .ref 45)] _ _ _ _ _ _
  have hY := hW.y
  refine LW_aloadn 0 dX5_refuseLand_0 rfl rfl ?_
  refine gX5_7 dX5_refuseLand_1 flX5_49 (hY.lt (k := 45) (by decide)) (ly45 hY) ?_
  rw [show I 45 7 = kEnc (kd B n i) from hW.k]
  refine LW_sipush (v := 2001) dX5_refuseLand_4 (by decide) ?_
  refine LW_icmp_eq (tgt := 16) dX5_refuseLand_7 (by decide) (fun c7 => ?_) (fun c7 => ?_)
  · have hk : kd B n i = 2001 := (kd_ne hB (by decide)).mp c7
    have hv := vl_n hB hk
    refine LW_aloadn 0 dX5_refuseLand_16 rfl rfl ?_
    refine LW_aloadn 0 dX5_refuseLand_17 rfl rfl ?_
    refine gX5_9 dX5_refuseLand_18 flX5_106 (hY.lt (k := 45) (by decide)) (ly45 hY) ?_
    rw [show L 45 9 = lN (vl B n i) from hW.v]
    refine LW_ldc2 dX5_refuseLand_21 klX5_152 ?_
    refine LW_lcmp dX5_refuseLand_24 ?_
    refine LW_lif_lt (tgt := 32) dX5_refuseLand_25 (by decide) (fun c25 => ?_) (fun c25 => ?_)
    · have h8 : lN (vl B n i) < lN 8 := c25
      refine LW_iconst (v := 5) dX5_refuseLand_32 (by decide) ?_
      refine LW_callV (As := [.int 5]) (b := 45) (st := []) (ci := 5) (r := (RX5, TX5, 11)) (r_refuse hW 5 rfl) YX5_refuse rfl dX5_refuseLand_33 mlX5_56 (hY.lt (k := 45) (by decide)) (ly45 hY) ⟨rfl, rfl⟩ (by decide) ⟨Nat.le_of_ble_eq_true rfl, Nat.le_of_ble_eq_true rfl⟩ (Nat.le_of_ble_eq_true rfl) rfl (fun r33 Λc33 Ic33 Lc33 Rc33 hq33 => ?_)
      obtain ⟨rfl, rfl, hI33, hL33, hR33, hF33⟩ := hq33
      obtain rfl : L = Lc33 := funext fun z => (hL33 z (fun q => q)).symm
      obtain rfl : R = Rc33 := funext fun z => (hR33 z (fun q => q)).symm
      refine LW_zret dX5_refuseLand_36 rfl (Nat.le_of_ble_eq_true rfl) (Nat.le_of_ble_eq_true rfl) (hc_b01 _) ?_
      have h9 := lN_lt (a := vl B n i) (b := 8) (by omega) (by omega)
      have e : pFull (kd B n) (vl B n) i = 5 := by unfold pFull; rw [if_pos hk, if_neg (by rw [h9] at h8; omega)]
      rw [e]
      exact ⟨rfl, rfl, hI33, fun _ _ => rfl, fun _ _ => rfl, hF33⟩
    · have h8 : ¬ lN (vl B n i) < lN 8 := c25
      refine LW_iconst (v := 4) dX5_refuseLand_28 (by decide) ?_
      refine LW_goto (tgt := 33) dX5_refuseLand_29 (by decide) ?_
      refine LW_callV (As := [.int 4]) (b := 45) (st := []) (ci := 5) (r := (RX5, TX5, 11)) (r_refuse hW 4 rfl) YX5_refuse rfl dX5_refuseLand_33 mlX5_56 (hY.lt (k := 45) (by decide)) (ly45 hY) ⟨rfl, rfl⟩ (by decide) ⟨Nat.le_of_ble_eq_true rfl, Nat.le_of_ble_eq_true rfl⟩ (Nat.le_of_ble_eq_true rfl) rfl (fun r33 Λc33 Ic33 Lc33 Rc33 hq33 => ?_)
      obtain ⟨rfl, rfl, hI33, hL33, hR33, hF33⟩ := hq33
      obtain rfl : L = Lc33 := funext fun z => (hL33 z (fun q => q)).symm
      obtain rfl : R = Rc33 := funext fun z => (hR33 z (fun q => q)).symm
      refine LW_zret dX5_refuseLand_36 rfl (Nat.le_of_ble_eq_true rfl) (Nat.le_of_ble_eq_true rfl) (hc_b01 _) ?_
      have h9 := lN_lt (a := vl B n i) (b := 8) (by omega) (by omega)
      have e : pFull (kd B n) (vl B n) i = 4 := by unfold pFull; rw [if_pos hk, if_pos (by rw [h9] at h8; omega)]
      rw [e]
      exact ⟨rfl, rfl, hI33, fun _ _ => rfl, fun _ _ => rfl, hF33⟩
  · have hk : ¬ kd B n i = 2001 := fun z => c7 ((kd_ne hB (by decide)).mpr z)
    refine LW_aloadn 0 dX5_refuseLand_10 rfl rfl ?_
    refine LW_iconst (v := 1) dX5_refuseLand_11 (by decide) ?_
    refine LW_callV (As := [.int 1]) (b := 45) (st := []) (ci := 5) (r := (RX5, TX5, 11)) (r_refuse hW 1 rfl) YX5_refuse rfl dX5_refuseLand_12 mlX5_56 (hY.lt (k := 45) (by decide)) (ly45 hY) ⟨rfl, rfl⟩ (by decide) ⟨Nat.le_of_ble_eq_true rfl, Nat.le_of_ble_eq_true rfl⟩ (Nat.le_of_ble_eq_true rfl) rfl (fun r12 Λc12 Ic12 Lc12 Rc12 hq12 => ?_)
    obtain ⟨rfl, rfl, hI12, hL12, hR12, hF12⟩ := hq12
    obtain rfl : L = Lc12 := funext fun z => (hL12 z (fun q => q)).symm
    obtain rfl : R = Rc12 := funext fun z => (hR12 z (fun q => q)).symm
    refine LW_zret dX5_refuseLand_15 rfl (Nat.le_of_ble_eq_true rfl) (Nat.le_of_ble_eq_true rfl) (hc_b01 _) ?_
    have e : pFull (kd B n) (vl B n) i = 1 := if_neg hk
    rw [e]
    exact ⟨rfl, rfl, hI12, fun _ _ => rfl, fun _ _ => rfl, hF12⟩
set_option maxRecDepth 100000 in
theorem r_readHazard {Λ : hc_L} {I : hc_I} {L : hc_J} {R : hc_R} {B : Nat → Nat} {n cn i op : Nat} {A : AS} {P : LwP} (hB : ∀ j, j < n → B j < 256) (hW : RW B n cn Λ I L R i op A P) (hK : kd B n i ≠ 2003) : Run xX5_readHazard [.ref 45] Λ I L R (RPost B n cn op (pHazard (kd B n) (vl B n) i A P) Λ I L R) := by
  refine Run.of (by decide +kernel) (Nat.le_of_ble_eq_true rfl) ?_
  show LW _ _ _ [(0, .ref 45)] _ _ _ _ _ _
  have hY := hW.y
  have hf : Fr RJ Λ I L R Λ I L R := Fr.rf
  refine LW_aloadn 0 dX5_readHazard_0 rfl rfl ?_
  refine LW_callV (As := []) (b := 45) (st := []) (ci := 5) (r := (RX5, TX5, 11)) (r_step hB hW hK) YX5_step rfl dX5_readHazard_1 mlX5_60 (hY.lt (k := 45) (by decide)) (ly45 hY) ⟨rfl, rfl⟩ (by decide) ⟨Nat.le_of_ble_eq_true rfl, Nat.le_of_ble_eq_true rfl⟩ (Nat.le_of_ble_eq_true rfl) rfl (fun r1 Λc1 Ic1 Lc1 Rc1 hq1 => ?_)
  obtain ⟨rfl, rfl, hI1, hL1, hR1, hW1⟩ := hq1
  obtain rfl : R = Rc1 := funext fun z => (hR1 z (fun q => q)).symm
  have hW := hW1
  have hf := hf.trans (Fr.rd (fun z z1 _ => hI1 z z1) hL1)
  refine LW_aloadn 0 dX5_readHazard_4 rfl rfl ?_
  refine LW_iconst (v := 0) dX5_readHazard_5 (by decide) ?_
  refine LW_iconst (v := 0) dX5_readHazard_6 (by decide) ?_
  refine LW_bipush (v := 7) dX5_readHazard_7 (by decide) ?_
  refine LW_callV (As := [.int 0, .int 0, .int 7]) (b := 45) (st := []) (ci := 5) (r := (RX5, TX5, 11)) (r_readNumber hB hW (q := 0) (lo := 0) (hi := 7) (by decide) (by decide) (by decide)) YX5_readNumber rfl dX5_readHazard_9 mlX5_139 (hY.lt (k := 45) (by decide)) (ly45 hY) ⟨rfl, rfl⟩ (by decide) ⟨Nat.le_of_ble_eq_true rfl, Nat.le_of_ble_eq_true rfl⟩ (Nat.le_of_ble_eq_true rfl) rfl (fun r9 Λc9 Ic9 Lc9 Rc9 hq9 => ?_)
  obtain ⟨rfl, rfl, rfl, hI9, hL9, hT9, hF9⟩ := hq9
  have hf := hf.trans (Fr.rd hI9 hL9)
  refine LW_bif_eq (tgt := 73) dX5_readHazard_12 (by decide) (fun c12 => ?_) (fun c12 => ?_)
  · have p9 := of_decide_eq_false c12
    refine LW_iconst (v := 0) dX5_readHazard_73 (by decide) ?_
    refine LW_istoren (ls' := [(0, .ref 45), (1, .int 0)]) dX5_readHazard_74 rfl (by decide) rfl ?_
    refine LW_iloadn 1 dX5_readHazard_75 rfl rfl ?_
    refine LW_if_eq (tgt := 116) dX5_readHazard_76 (by decide) (fun c76 => ?_) (fun c76 => absurd rfl c76)
    refine LW_iloadn 1 dX5_readHazard_116 rfl rfl ?_
    refine LW_zret dX5_readHazard_117 rfl (Nat.le_of_ble_eq_true rfl) (Nat.le_of_ble_eq_true rfl) (Or.inl rfl) ?_
    have hx : pHazard (kd B n) (vl B n) i A P = .inl (pNum (kd B n) (vl B n) (i + 1) 0 7, i + 1) := by
      show pDo _ _ _ _ _ _ = _
      unfold pDo
      rw [pNums, if_neg p9]
    exact RPost.no hx hf (Nat.le_succ _) (hF9 p9)
  · have p9 := of_decide_eq_true c12
    obtain ⟨hW, hk9, h9⟩ := hT9 p9
    refine LW_aloadn 0 dX5_readHazard_15 rfl rfl ?_
    refine LW_iconst (v := 1) dX5_readHazard_16 (by decide) ?_
    refine LW_iconst (v := 0) dX5_readHazard_17 (by decide) ?_
    refine LW_bipush (v := 7) dX5_readHazard_18 (by decide) ?_
    refine LW_callV (As := [.int 1, .int 0, .int 7]) (b := 45) (st := []) (ci := 5) (r := (RX5, TX5, 11)) (r_readNumber hB hW (q := 1) (lo := 0) (hi := 7) (by decide) (by decide) (by decide)) YX5_readNumber rfl dX5_readHazard_20 mlX5_139 (hY.lt (k := 45) (by decide)) (ly45 hY) ⟨rfl, rfl⟩ (by decide) ⟨Nat.le_of_ble_eq_true rfl, Nat.le_of_ble_eq_true rfl⟩ (Nat.le_of_ble_eq_true rfl) rfl (fun r20 Λc20 Ic20 Lc20 Rc20 hq20 => ?_)
    obtain ⟨rfl, rfl, rfl, hI20, hL20, hT20, hF20⟩ := hq20
    have hf := hf.trans (Fr.rd hI20 hL20)
    refine LW_bif_eq (tgt := 73) dX5_readHazard_23 (by decide) (fun c23 => ?_) (fun c23 => ?_)
    · have p20 := of_decide_eq_false c23
      refine LW_iconst (v := 0) dX5_readHazard_73 (by decide) ?_
      refine LW_istoren (ls' := [(0, .ref 45), (1, .int 0)]) dX5_readHazard_74 rfl (by decide) rfl ?_
      refine LW_iloadn 1 dX5_readHazard_75 rfl rfl ?_
      refine LW_if_eq (tgt := 116) dX5_readHazard_76 (by decide) (fun c76 => ?_) (fun c76 => absurd rfl c76)
      refine LW_iloadn 1 dX5_readHazard_116 rfl rfl ?_
      refine LW_zret dX5_readHazard_117 rfl (Nat.le_of_ble_eq_true rfl) (Nat.le_of_ble_eq_true rfl) (Or.inl rfl) ?_
      have hx : pHazard (kd B n) (vl B n) i A P = .inl (pNum (kd B n) (vl B n) (i + 1 + 1) 0 7, i + 1 + 1) := by
        show pDo _ _ _ _ _ _ = _
        unfold pDo
        rw [pNums, if_pos p9, pNums, if_neg p20]
      exact RPost.no hx hf (Nat.le_succ _) (hF20 p20)
    · have p20 := of_decide_eq_true c23
      obtain ⟨hW, hk20, h20⟩ := hT20 p20
      refine LW_aloadn 0 dX5_readHazard_26 rfl rfl ?_
      refine LW_iconst (v := 2) dX5_readHazard_27 (by decide) ?_
      refine LW_aloadn 0 dX5_readHazard_28 rfl rfl ?_
      refine gX5_3 dX5_readHazard_29 flX5_9 (hY.lt (k := 45) (by decide)) (ly45 hY) (lf45_3 hY) ?_
      refine LW_iconst (v := 0) dX5_readHazard_32 (by decide) ?_
      refine LW_iald dX5_readHazard_33 (hY.lt (k := 46) (by decide)) (ly46 hY) rfl (by decide) (Nat.le_of_ble_eq_true rfl) ?_
      rw [show Ic20 46 0 = nI (vl B n (i + 1)) from (by rw [h20, if_neg (by decide), h9, if_pos rfl])]
      refine LW_bipush (v := 7) dX5_readHazard_34 (by decide) ?_
      refine LW_callV (As := [.int 2, .int (nI (vl B n (i + 1))), .int 7]) (b := 45) (st := []) (ci := 5) (r := (RX5, TX5, 11)) (r_readNumber hB hW (q := 2) (lo := vl B n (i + 1)) (hi := 7) (by decide) (by have := vl_n hB hk9.1; omega) (by decide)) YX5_readNumber rfl dX5_readHazard_36 mlX5_139 (hY.lt (k := 45) (by decide)) (ly45 hY) ⟨rfl, rfl⟩ (by decide) ⟨Nat.le_of_ble_eq_true rfl, Nat.le_of_ble_eq_true rfl⟩ (Nat.le_of_ble_eq_true rfl) rfl (fun r36 Λc36 Ic36 Lc36 Rc36 hq36 => ?_)
      obtain ⟨rfl, rfl, rfl, hI36, hL36, hT36, hF36⟩ := hq36
      have hf := hf.trans (Fr.rd hI36 hL36)
      refine LW_bif_eq (tgt := 73) dX5_readHazard_39 (by decide) (fun c39 => ?_) (fun c39 => ?_)
      · have p36 := of_decide_eq_false c39
        refine LW_iconst (v := 0) dX5_readHazard_73 (by decide) ?_
        refine LW_istoren (ls' := [(0, .ref 45), (1, .int 0)]) dX5_readHazard_74 rfl (by decide) rfl ?_
        refine LW_iloadn 1 dX5_readHazard_75 rfl rfl ?_
        refine LW_if_eq (tgt := 116) dX5_readHazard_76 (by decide) (fun c76 => ?_) (fun c76 => absurd rfl c76)
        refine LW_iloadn 1 dX5_readHazard_116 rfl rfl ?_
        refine LW_zret dX5_readHazard_117 rfl (Nat.le_of_ble_eq_true rfl) (Nat.le_of_ble_eq_true rfl) (Or.inl rfl) ?_
        have hx : pHazard (kd B n) (vl B n) i A P = .inl (pNum (kd B n) (vl B n) (i + 1 + 1 + 1) (vl B n (i + 1)) 7, i + 1 + 1 + 1) := by
          show pDo _ _ _ _ _ _ = _
          unfold pDo
          rw [pNums, if_pos p9, pNums, if_pos p20, pNums, if_neg p36]
        exact RPost.no hx hf (Nat.le_succ _) (hF36 p36)
      · have p36 := of_decide_eq_true c39
        obtain ⟨hW, hk36, h36⟩ := hT36 p36
        refine LW_aloadn 0 dX5_readHazard_42 rfl rfl ?_
        refine LW_iconst (v := 3) dX5_readHazard_43 (by decide) ?_
        refine LW_aloadn 0 dX5_readHazard_44 rfl rfl ?_
        refine gX5_3 dX5_readHazard_45 flX5_9 (hY.lt (k := 45) (by decide)) (ly45 hY) (lf45_3 hY) ?_
        refine LW_iconst (v := 1) dX5_readHazard_48 (by decide) ?_
        refine LW_iald dX5_readHazard_49 (hY.lt (k := 46) (by decide)) (ly46 hY) rfl (by decide) (Nat.le_of_ble_eq_true rfl) ?_
        rw [show Ic36 46 1 = nI (vl B n (i + 1 + 1)) from (by rw [h36, if_neg (by decide), h20, if_pos rfl])]
        refine LW_bipush (v := 7) dX5_readHazard_50 (by decide) ?_
        refine LW_callV (As := [.int 3, .int (nI (vl B n (i + 1 + 1))), .int 7]) (b := 45) (st := []) (ci := 5) (r := (RX5, TX5, 11)) (r_readNumber hB hW (q := 3) (lo := vl B n (i + 1 + 1)) (hi := 7) (by decide) (by have := vl_n hB hk20.1; omega) (by decide)) YX5_readNumber rfl dX5_readHazard_52 mlX5_139 (hY.lt (k := 45) (by decide)) (ly45 hY) ⟨rfl, rfl⟩ (by decide) ⟨Nat.le_of_ble_eq_true rfl, Nat.le_of_ble_eq_true rfl⟩ (Nat.le_of_ble_eq_true rfl) rfl (fun r52 Λc52 Ic52 Lc52 Rc52 hq52 => ?_)
        obtain ⟨rfl, rfl, rfl, hI52, hL52, hT52, hF52⟩ := hq52
        have hf := hf.trans (Fr.rd hI52 hL52)
        refine LW_bif_eq (tgt := 73) dX5_readHazard_55 (by decide) (fun c55 => ?_) (fun c55 => ?_)
        · have p52 := of_decide_eq_false c55
          refine LW_iconst (v := 0) dX5_readHazard_73 (by decide) ?_
          refine LW_istoren (ls' := [(0, .ref 45), (1, .int 0)]) dX5_readHazard_74 rfl (by decide) rfl ?_
          refine LW_iloadn 1 dX5_readHazard_75 rfl rfl ?_
          refine LW_if_eq (tgt := 116) dX5_readHazard_76 (by decide) (fun c76 => ?_) (fun c76 => absurd rfl c76)
          refine LW_iloadn 1 dX5_readHazard_116 rfl rfl ?_
          refine LW_zret dX5_readHazard_117 rfl (Nat.le_of_ble_eq_true rfl) (Nat.le_of_ble_eq_true rfl) (Or.inl rfl) ?_
          have hx : pHazard (kd B n) (vl B n) i A P = .inl (pNum (kd B n) (vl B n) (i + 1 + 1 + 1 + 1) (vl B n (i + 1 + 1)) 7, i + 1 + 1 + 1 + 1) := by
            show pDo _ _ _ _ _ _ = _
            unfold pDo
            rw [pNums, if_pos p9, pNums, if_pos p20, pNums, if_pos p36, pNums, if_neg p52]
          exact RPost.no hx hf (Nat.le_succ _) (hF52 p52)
        · have p52 := of_decide_eq_true c55
          obtain ⟨hW, hk52, h52⟩ := hT52 p52
          refine LW_aloadn 0 dX5_readHazard_58 rfl rfl ?_
          refine LW_iconst (v := 4) dX5_readHazard_59 (by decide) ?_
          refine LW_iconst (v := 1) dX5_readHazard_60 (by decide) ?_
          refine LW_bipush (v := 9) dX5_readHazard_61 (by decide) ?_
          refine LW_callV (As := [.int 4, .int 1, .int 9]) (b := 45) (st := []) (ci := 5) (r := (RX5, TX5, 11)) (r_readNumber hB hW (q := 4) (lo := 1) (hi := 9) (by decide) (by decide) (by decide)) YX5_readNumber rfl dX5_readHazard_63 mlX5_139 (hY.lt (k := 45) (by decide)) (ly45 hY) ⟨rfl, rfl⟩ (by decide) ⟨Nat.le_of_ble_eq_true rfl, Nat.le_of_ble_eq_true rfl⟩ (Nat.le_of_ble_eq_true rfl) rfl (fun r63 Λc63 Ic63 Lc63 Rc63 hq63 => ?_)
          obtain ⟨rfl, rfl, rfl, hI63, hL63, hT63, hF63⟩ := hq63
          have hf := hf.trans (Fr.rd hI63 hL63)
          refine LW_bif_eq (tgt := 73) dX5_readHazard_66 (by decide) (fun c66 => ?_) (fun c66 => ?_)
          · have p63 := of_decide_eq_false c66
            refine LW_iconst (v := 0) dX5_readHazard_73 (by decide) ?_
            refine LW_istoren (ls' := [(0, .ref 45), (1, .int 0)]) dX5_readHazard_74 rfl (by decide) rfl ?_
            refine LW_iloadn 1 dX5_readHazard_75 rfl rfl ?_
            refine LW_if_eq (tgt := 116) dX5_readHazard_76 (by decide) (fun c76 => ?_) (fun c76 => absurd rfl c76)
            refine LW_iloadn 1 dX5_readHazard_116 rfl rfl ?_
            refine LW_zret dX5_readHazard_117 rfl (Nat.le_of_ble_eq_true rfl) (Nat.le_of_ble_eq_true rfl) (Or.inl rfl) ?_
            have hx : pHazard (kd B n) (vl B n) i A P = .inl (pNum (kd B n) (vl B n) (i + 1 + 1 + 1 + 1 + 1) 1 9, i + 1 + 1 + 1 + 1 + 1) := by
              show pDo _ _ _ _ _ _ = _
              unfold pDo
              rw [pNums, if_pos p9, pNums, if_pos p20, pNums, if_pos p36, pNums, if_pos p52, pNums, if_neg p63]
            exact RPost.no hx hf (Nat.le_succ _) (hF63 p63)
          · have p63 := of_decide_eq_true c66
            obtain ⟨hW, hk63, h63⟩ := hT63 p63
            refine LW_iconst (v := 1) dX5_readHazard_69 (by decide) ?_
            refine LW_goto (tgt := 74) dX5_readHazard_70 (by decide) ?_
            refine LW_istoren (ls' := [(0, .ref 45), (1, .int 1)]) dX5_readHazard_74 rfl (by decide) rfl ?_
            refine LW_iloadn 1 dX5_readHazard_75 rfl rfl ?_
            refine LW_if_eq (tgt := 116) dX5_readHazard_76 (by decide) (fun c76 => absurd c76 (by decide)) (fun c76 => ?_)
            refine LW_aloadn 0 dX5_readHazard_79 rfl rfl ?_
            refine gX5_1 dX5_readHazard_80 flX5_28 (hY.lt (k := 45) (by decide)) (ly45 hY) (lf45_1 hY) ?_
            refine LW_aloadn 0 dX5_readHazard_83 rfl rfl ?_
            refine gX5_3 dX5_readHazard_84 flX5_9 (hY.lt (k := 45) (by decide)) (ly45 hY) (lf45_3 hY) ?_
            refine LW_iconst (v := 0) dX5_readHazard_87 (by decide) ?_
            refine LW_iald dX5_readHazard_88 (hY.lt (k := 46) (by decide)) (ly46 hY) rfl (by decide) (Nat.le_of_ble_eq_true rfl) ?_
            rw [show Ic63 46 0 = nI (vl B n (i + 1)) from (by rw [h63, if_neg (by decide), h52, if_neg (by decide), h36, if_neg (by decide), h20, if_neg (by decide), h9, if_pos rfl])]
            refine LW_aloadn 0 dX5_readHazard_89 rfl rfl ?_
            refine gX5_3 dX5_readHazard_90 flX5_9 (hY.lt (k := 45) (by decide)) (ly45 hY) (lf45_3 hY) ?_
            refine LW_iconst (v := 1) dX5_readHazard_93 (by decide) ?_
            refine LW_iald dX5_readHazard_94 (hY.lt (k := 46) (by decide)) (ly46 hY) rfl (by decide) (Nat.le_of_ble_eq_true rfl) ?_
            rw [show Ic63 46 1 = nI (vl B n (i + 1 + 1)) from (by rw [h63, if_neg (by decide), h52, if_neg (by decide), h36, if_neg (by decide), h20, if_pos rfl])]
            refine LW_aloadn 0 dX5_readHazard_95 rfl rfl ?_
            refine gX5_3 dX5_readHazard_96 flX5_9 (hY.lt (k := 45) (by decide)) (ly45 hY) (lf45_3 hY) ?_
            refine LW_iconst (v := 2) dX5_readHazard_99 (by decide) ?_
            refine LW_iald dX5_readHazard_100 (hY.lt (k := 46) (by decide)) (ly46 hY) rfl (by decide) (Nat.le_of_ble_eq_true rfl) ?_
            rw [show Ic63 46 2 = nI (vl B n (i + 1 + 1 + 1)) from (by rw [h63, if_neg (by decide), h52, if_neg (by decide), h36, if_pos rfl])]
            refine LW_aloadn 0 dX5_readHazard_101 rfl rfl ?_
            refine gX5_3 dX5_readHazard_102 flX5_9 (hY.lt (k := 45) (by decide)) (ly45 hY) (lf45_3 hY) ?_
            refine LW_iconst (v := 3) dX5_readHazard_105 (by decide) ?_
            refine LW_iald dX5_readHazard_106 (hY.lt (k := 46) (by decide)) (ly46 hY) rfl (by decide) (Nat.le_of_ble_eq_true rfl) ?_
            rw [show Ic63 46 3 = nI (vl B n (i + 1 + 1 + 1 + 1)) from (by rw [h63, if_neg (by decide), h52, if_pos rfl])]
            refine LW_aloadn 0 dX5_readHazard_107 rfl rfl ?_
            refine gX5_3 dX5_readHazard_108 flX5_9 (hY.lt (k := 45) (by decide)) (ly45 hY) (lf45_3 hY) ?_
            refine LW_iconst (v := 4) dX5_readHazard_111 (by decide) ?_
            refine LW_iald dX5_readHazard_112 (hY.lt (k := 46) (by decide)) (ly46 hY) rfl (by decide) (Nat.le_of_ble_eq_true rfl) ?_
            rw [show Ic63 46 4 = nI (vl B n (i + 1 + 1 + 1 + 1 + 1)) from (by rw [h63, if_pos rfl])]
            refine LW_callV (As := [.int (nI (vl B n (i + 1))), .int (nI (vl B n (i + 1 + 1))), .int (nI (vl B n (i + 1 + 1 + 1))), .int (nI (vl B n (i + 1 + 1 + 1 + 1))), .int (nI (vl B n (i + 1 + 1 + 1 + 1 + 1)))]) (b := 21) (st := []) (ci := 6) (r := (RX6, TX6, 15)) (r_setHazards hY.st21 (x := (vl B n (i + 1))) (y := (vl B n (i + 1 + 1))) (tx := (vl B n (i + 1 + 1 + 1))) (ty := (vl B n (i + 1 + 1 + 1 + 1))) hk36.2.1 hk52.2.1 (Nat.lt_succ_of_le hk36.2.2) (Nat.lt_succ_of_le hk52.2.2) (nI (vl B n (i + 1 + 1 + 1 + 1 + 1)))) YX6_setHazards rfl dX5_readHazard_113 mlX5_154 (hY.lt (k := 21) (by decide)) (ly21 hY) ⟨rfl, rfl⟩ (by decide) ⟨Nat.le_of_ble_eq_true rfl, Nat.le_of_ble_eq_true rfl⟩ (Nat.le_of_ble_eq_true rfl) rfl (fun r113 Λc113 Ic113 Lc113 Rc113 hq113 => ?_)
            obtain ⟨rfl, rfl, hI113, hL113, hR113, h113⟩ := hq113
            obtain rfl : Lc63 = Lc113 := funext fun z => (hL113 z (fun q => q)).symm
            obtain rfl : R = Rc113 := funext fun z => (hR113 z (fun q => q)).symm
            have hs2 := hW.s.sHz (x := (vl B n (i + 1))) (y := (vl B n (i + 1 + 1))) (tx := (vl B n (i + 1 + 1 + 1))) (ty := (vl B n (i + 1 + 1 + 1 + 1))) (g := (vl B n (i + 1 + 1 + 1 + 1 + 1))) hk63.2 hI113 h113
            have hf := hf.trans (Fr.dr (fun z hz => hI113 z (by omega)) (fun _ _ => rfl) (fun _ _ => rfl))
            have hW2 := hW.dr (fun z hz => hI113 z (by omega)) (fun _ _ => rfl) hs2
            refine LW_iloadn 1 dX5_readHazard_116 rfl rfl ?_
            refine LW_zret dX5_readHazard_117 rfl (Nat.le_of_ble_eq_true rfl) (Nat.le_of_ble_eq_true rfl) (Or.inr rfl) ?_
            have hx : pHazard (kd B n) (vl B n) i A P = .inr (i + 1 + 1 + 1 + 1 + 1 + 1, aSHz A (vl B n (i + 1)) (vl B n (i + 1 + 1)) (vl B n (i + 1 + 1 + 1)) (vl B n (i + 1 + 1 + 1 + 1)) (vl B n (i + 1 + 1 + 1 + 1 + 1)), P) := by
              show pDo _ _ _ _ _ _ = _
              unfold pDo
              rw [pNums, if_pos p9, pNums, if_pos p20, pNums, if_pos p36, pNums, if_pos p52, pNums, if_pos p63, pNums]
              rfl
            exact RPost.yes hx hf (Nat.le_succ _) hW2
set_option maxRecDepth 100000 in
theorem r_readCrop {Λ : hc_L} {I : hc_I} {L : hc_J} {R : hc_R} {B : Nat → Nat} {n cn i op : Nat} {A : AS} {P : LwP} (hB : ∀ j, j < n → B j < 256) (hW : RW B n cn Λ I L R i op A P) (hK : kd B n i ≠ 2003) : Run xX5_readCrop [.ref 45] Λ I L R (RPost B n cn op (pCrop (kd B n) (vl B n) i A P) Λ I L R) := by
  refine Run.of (by decide +kernel) (Nat.le_of_ble_eq_true rfl) ?_
  show LW _ _ _ [(0, .ref 45)] _ _ _ _ _ _
  have hY := hW.y
  have hf : Fr RJ Λ I L R Λ I L R := Fr.rf
  refine LW_aloadn 0 dX5_readCrop_0 rfl rfl ?_
  refine LW_callV (As := []) (b := 45) (st := []) (ci := 5) (r := (RX5, TX5, 11)) (r_step hB hW hK) YX5_step rfl dX5_readCrop_1 mlX5_60 (hY.lt (k := 45) (by decide)) (ly45 hY) ⟨rfl, rfl⟩ (by decide) ⟨Nat.le_of_ble_eq_true rfl, Nat.le_of_ble_eq_true rfl⟩ (Nat.le_of_ble_eq_true rfl) rfl (fun r1 Λc1 Ic1 Lc1 Rc1 hq1 => ?_)
  obtain ⟨rfl, rfl, hI1, hL1, hR1, hW1⟩ := hq1
  obtain rfl : R = Rc1 := funext fun z => (hR1 z (fun q => q)).symm
  have hW := hW1
  have hf := hf.trans (Fr.rd (fun z z1 _ => hI1 z z1) hL1)
  refine LW_aloadn 0 dX5_readCrop_4 rfl rfl ?_
  refine LW_iconst (v := 0) dX5_readCrop_5 (by decide) ?_
  refine LW_iconst (v := 0) dX5_readCrop_6 (by decide) ?_
  refine LW_iconst (v := 3) dX5_readCrop_7 (by decide) ?_
  refine LW_callV (As := [.int 0, .int 0, .int 3]) (b := 45) (st := []) (ci := 5) (r := (RX5, TX5, 11)) (r_readNumber hB hW (q := 0) (lo := 0) (hi := 3) (by decide) (by decide) (by decide)) YX5_readNumber rfl dX5_readCrop_8 mlX5_139 (hY.lt (k := 45) (by decide)) (ly45 hY) ⟨rfl, rfl⟩ (by decide) ⟨Nat.le_of_ble_eq_true rfl, Nat.le_of_ble_eq_true rfl⟩ (Nat.le_of_ble_eq_true rfl) rfl (fun r8 Λc8 Ic8 Lc8 Rc8 hq8 => ?_)
  obtain ⟨rfl, rfl, rfl, hI8, hL8, hT8, hF8⟩ := hq8
  have hf := hf.trans (Fr.rd hI8 hL8)
  refine LW_bif_eq (tgt := 30) dX5_readCrop_11 (by decide) (fun c11 => ?_) (fun c11 => ?_)
  · have p8 := of_decide_eq_false c11
    refine LW_iconst (v := 0) dX5_readCrop_30 (by decide) ?_
    refine LW_istoren (ls' := [(0, .ref 45), (1, .int 0)]) dX5_readCrop_31 rfl (by decide) rfl ?_
    refine LW_iloadn 1 dX5_readCrop_32 rfl rfl ?_
    refine LW_if_eq (tgt := 55) dX5_readCrop_33 (by decide) (fun c33 => ?_) (fun c33 => absurd rfl c33)
    refine LW_iloadn 1 dX5_readCrop_55 rfl rfl ?_
    refine LW_zret dX5_readCrop_56 rfl (Nat.le_of_ble_eq_true rfl) (Nat.le_of_ble_eq_true rfl) (Or.inl rfl) ?_
    have hx : pCrop (kd B n) (vl B n) i A P = .inl (pNum (kd B n) (vl B n) (i + 1) 0 3, i + 1) := by
      show pDo _ _ _ _ _ _ = _
      unfold pDo
      rw [pNums, if_neg p8]
    exact RPost.no hx hf (Nat.le_succ _) (hF8 p8)
  · have p8 := of_decide_eq_true c11
    obtain ⟨hW, hk8, h8⟩ := hT8 p8
    refine LW_aloadn 0 dX5_readCrop_14 rfl rfl ?_
    refine LW_iconst (v := 1) dX5_readCrop_15 (by decide) ?_
    refine LW_iconst (v := 0) dX5_readCrop_16 (by decide) ?_
    refine LW_sipush (v := 200) dX5_readCrop_17 (by decide) ?_
    refine LW_callV (As := [.int 1, .int 0, .int 200]) (b := 45) (st := []) (ci := 5) (r := (RX5, TX5, 11)) (r_readNumber hB hW (q := 1) (lo := 0) (hi := 200) (by decide) (by decide) (by decide)) YX5_readNumber rfl dX5_readCrop_20 mlX5_139 (hY.lt (k := 45) (by decide)) (ly45 hY) ⟨rfl, rfl⟩ (by decide) ⟨Nat.le_of_ble_eq_true rfl, Nat.le_of_ble_eq_true rfl⟩ (Nat.le_of_ble_eq_true rfl) rfl (fun r20 Λc20 Ic20 Lc20 Rc20 hq20 => ?_)
    obtain ⟨rfl, rfl, rfl, hI20, hL20, hT20, hF20⟩ := hq20
    have hf := hf.trans (Fr.rd hI20 hL20)
    refine LW_bif_eq (tgt := 30) dX5_readCrop_23 (by decide) (fun c23 => ?_) (fun c23 => ?_)
    · have p20 := of_decide_eq_false c23
      refine LW_iconst (v := 0) dX5_readCrop_30 (by decide) ?_
      refine LW_istoren (ls' := [(0, .ref 45), (1, .int 0)]) dX5_readCrop_31 rfl (by decide) rfl ?_
      refine LW_iloadn 1 dX5_readCrop_32 rfl rfl ?_
      refine LW_if_eq (tgt := 55) dX5_readCrop_33 (by decide) (fun c33 => ?_) (fun c33 => absurd rfl c33)
      refine LW_iloadn 1 dX5_readCrop_55 rfl rfl ?_
      refine LW_zret dX5_readCrop_56 rfl (Nat.le_of_ble_eq_true rfl) (Nat.le_of_ble_eq_true rfl) (Or.inl rfl) ?_
      have hx : pCrop (kd B n) (vl B n) i A P = .inl (pNum (kd B n) (vl B n) (i + 1 + 1) 0 200, i + 1 + 1) := by
        show pDo _ _ _ _ _ _ = _
        unfold pDo
        rw [pNums, if_pos p8, pNums, if_neg p20]
      exact RPost.no hx hf (Nat.le_succ _) (hF20 p20)
    · have p20 := of_decide_eq_true c23
      obtain ⟨hW, hk20, h20⟩ := hT20 p20
      refine LW_iconst (v := 1) dX5_readCrop_26 (by decide) ?_
      refine LW_goto (tgt := 31) dX5_readCrop_27 (by decide) ?_
      refine LW_istoren (ls' := [(0, .ref 45), (1, .int 1)]) dX5_readCrop_31 rfl (by decide) rfl ?_
      refine LW_iloadn 1 dX5_readCrop_32 rfl rfl ?_
      refine LW_if_eq (tgt := 55) dX5_readCrop_33 (by decide) (fun c33 => absurd c33 (by decide)) (fun c33 => ?_)
      refine LW_aloadn 0 dX5_readCrop_36 rfl rfl ?_
      refine gX5_1 dX5_readCrop_37 flX5_28 (hY.lt (k := 45) (by decide)) (ly45 hY) (lf45_1 hY) ?_
      refine LW_aloadn 0 dX5_readCrop_40 rfl rfl ?_
      refine gX5_3 dX5_readCrop_41 flX5_9 (hY.lt (k := 45) (by decide)) (ly45 hY) (lf45_3 hY) ?_
      refine LW_iconst (v := 0) dX5_readCrop_44 (by decide) ?_
      refine LW_iald dX5_readCrop_45 (hY.lt (k := 46) (by decide)) (ly46 hY) rfl (by decide) (Nat.le_of_ble_eq_true rfl) ?_
      rw [show Ic20 46 0 = nI (vl B n (i + 1)) from (by rw [h20, if_neg (by decide), h8, if_pos rfl])]
      refine LW_aloadn 0 dX5_readCrop_46 rfl rfl ?_
      refine gX5_3 dX5_readCrop_47 flX5_9 (hY.lt (k := 45) (by decide)) (ly45 hY) (lf45_3 hY) ?_
      refine LW_iconst (v := 1) dX5_readCrop_50 (by decide) ?_
      refine LW_iald dX5_readCrop_51 (hY.lt (k := 46) (by decide)) (ly46 hY) rfl (by decide) (Nat.le_of_ble_eq_true rfl) ?_
      rw [show Ic20 46 1 = nI (vl B n (i + 1 + 1)) from (by rw [h20, if_pos rfl])]
      refine LW_callV (As := [.int (nI (vl B n (i + 1))), .int (nI (vl B n (i + 1 + 1)))]) (b := 21) (st := []) (ci := 6) (r := (RX6, TX6, 15)) (r_setSoft hY.st21 (c := (vl B n (i + 1))) (Nat.lt_succ_of_le hk8.2.2) (nI (vl B n (i + 1 + 1)))) YX6_setSoft rfl dX5_readCrop_52 mlX5_158 (hY.lt (k := 21) (by decide)) (ly21 hY) ⟨rfl, rfl⟩ (by decide) ⟨Nat.le_of_ble_eq_true rfl, Nat.le_of_ble_eq_true rfl⟩ (Nat.le_of_ble_eq_true rfl) rfl (fun r52 Λc52 Ic52 Lc52 Rc52 hq52 => ?_)
      obtain ⟨rfl, rfl, hI52, hL52, hR52, h52⟩ := hq52
      obtain rfl : Lc20 = Lc52 := funext fun z => (hL52 z (fun q => q)).symm
      obtain rfl : R = Rc52 := funext fun z => (hR52 z (fun q => q)).symm
      have hs2 := hW.s.sSo (c := (vl B n (i + 1))) (v := (vl B n (i + 1 + 1))) hk20.2.2 hI52 h52
      have hf := hf.trans (Fr.dr (fun z hz => hI52 z (by omega)) (fun _ _ => rfl) (fun _ _ => rfl))
      have hW2 := hW.dr (fun z hz => hI52 z (by omega)) (fun _ _ => rfl) hs2
      refine LW_iloadn 1 dX5_readCrop_55 rfl rfl ?_
      refine LW_zret dX5_readCrop_56 rfl (Nat.le_of_ble_eq_true rfl) (Nat.le_of_ble_eq_true rfl) (Or.inr rfl) ?_
      have hx : pCrop (kd B n) (vl B n) i A P = .inr (i + 1 + 1 + 1, aSSo A (vl B n (i + 1)) (vl B n (i + 1 + 1)), P) := by
        show pDo _ _ _ _ _ _ = _
        unfold pDo
        rw [pNums, if_pos p8, pNums, if_pos p20, pNums]
        rfl
      exact RPost.yes hx hf (Nat.le_succ _) hW2
set_option maxRecDepth 100000 in
theorem r_readRule {Λ : hc_L} {I : hc_I} {L : hc_J} {R : hc_R} {B : Nat → Nat} {n cn i op : Nat} {A : AS} {P : LwP} (hB : ∀ j, j < n → B j < 256) (hW : RW B n cn Λ I L R i op A P) (hK : kd B n i ≠ 2003) {j : Nat} (hj : j < 7) : Run xX5_readRule [.ref 45, .int (nI j)] Λ I L R (RPost B n cn op (pRule (kd B n) (vl B n) j i A P) Λ I L R) := by
  refine Run.of (by decide +kernel) (Nat.le_of_ble_eq_true rfl) ?_
  show LW _ _ _ [(0, .ref 45), (1, .int (nI j))] _ _ _ _ _ _
  have hY := hW.y
  have hf : Fr RJ Λ I L R Λ I L R := Fr.rf
  refine LW_aloadn 0 dX5_readRule_0 rfl rfl ?_
  refine LW_callV (As := []) (b := 45) (st := []) (ci := 5) (r := (RX5, TX5, 11)) (r_step hB hW hK) YX5_step rfl dX5_readRule_1 mlX5_60 (hY.lt (k := 45) (by decide)) (ly45 hY) ⟨rfl, rfl⟩ (by decide) ⟨Nat.le_of_ble_eq_true rfl, Nat.le_of_ble_eq_true rfl⟩ (Nat.le_of_ble_eq_true rfl) rfl (fun r1 Λc1 Ic1 Lc1 Rc1 hq1 => ?_)
  obtain ⟨rfl, rfl, hI1, hL1, hR1, hW1⟩ := hq1
  obtain rfl : R = Rc1 := funext fun z => (hR1 z (fun q => q)).symm
  have hW := hW1
  have hf := hf.trans (Fr.rd (fun z z1 _ => hI1 z z1) hL1)
  refine LW_aloadn 0 dX5_readRule_4 rfl rfl ?_
  refine LW_iconst (v := 0) dX5_readRule_5 (by decide) ?_
  refine LW_iconst (v := 0) dX5_readRule_6 (by decide) ?_
  refine LW_getsR dX5_readRule_7 (Or.inr nlX5_162) ?_
  refine LW_iloadn 1 dX5_readRule_10 rfl rfl ?_
  refine LW_ialdR dX5_readRule_11 rfl hj ?_
  rw [show hc_rm7 j = nI (rmN j) from rm7_eq j]
  refine LW_callV (As := [.int 0, .int 0, .int (nI (rmN j))]) (b := 45) (st := []) (ci := 5) (r := (RX5, TX5, 11)) (r_readNumber hB hW (q := 0) (lo := 0) (hi := rmN j) (by decide) (by decide) (rmN_lt j)) YX5_readNumber rfl dX5_readRule_12 mlX5_139 (hY.lt (k := 45) (by decide)) (ly45 hY) ⟨rfl, rfl⟩ (by decide) ⟨Nat.le_of_ble_eq_true rfl, Nat.le_of_ble_eq_true rfl⟩ (Nat.le_of_ble_eq_true rfl) rfl (fun r12 Λc12 Ic12 Lc12 Rc12 hq12 => ?_)
  obtain ⟨rfl, rfl, rfl, hI12, hL12, hT12, hF12⟩ := hq12
  have hf := hf.trans (Fr.rd hI12 hL12)
  refine LW_istoren (ls' := [(0, .ref 45), (1, .int (nI j)), (2, .int (hc_b (decide (pNum (kd B n) (vl B n) (i + 1) 0 (rmN j) = 0))))]) dX5_readRule_15 rfl (by decide) rfl ?_
  refine LW_iloadn 2 dX5_readRule_16 rfl rfl ?_
  refine LW_bif_eq (tgt := 36) dX5_readRule_17 (by decide) (fun c17 => ?_) (fun c17 => ?_)
  · have p12 := of_decide_eq_false c17
    refine LW_iloadn 2 dX5_readRule_36 rfl rfl ?_
    refine LW_zret dX5_readRule_37 rfl (Nat.le_of_ble_eq_true rfl) (Nat.le_of_ble_eq_true rfl) (hc_b01 _) ?_
    have hx : pRule (kd B n) (vl B n) j i A P = .inl (pNum (kd B n) (vl B n) (i + 1) 0 (rmN j), i + 1) := by unfold pRule; rw [pDo1, if_neg p12]
    rw [c17]
    exact RPost.no hx hf (Nat.le_succ _) (hF12 p12)
  · have p12 := of_decide_eq_true c17
    obtain ⟨hW, hk12, h12⟩ := hT12 p12
    refine LW_aloadn 0 dX5_readRule_20 rfl rfl ?_
    refine gX5_1 dX5_readRule_21 flX5_28 (hY.lt (k := 45) (by decide)) (ly45 hY) (lf45_1 hY) ?_
    refine gX6_0 dX5_readRule_24 flX5_165 (hY.lt (k := 21) (by decide)) (ly21 hY) (lf21_0 hY) ?_
    refine LW_iloadn 1 dX5_readRule_27 rfl rfl ?_
    refine LW_aloadn 0 dX5_readRule_28 rfl rfl ?_
    refine gX5_3 dX5_readRule_29 flX5_9 (hY.lt (k := 45) (by decide)) (ly45 hY) (lf45_3 hY) ?_
    refine LW_iconst (v := 0) dX5_readRule_32 (by decide) ?_
    refine LW_iald dX5_readRule_33 (hY.lt (k := 46) (by decide)) (ly46 hY) rfl (by decide) (Nat.le_of_ble_eq_true rfl) ?_
    rw [show Ic12 46 0 = nI (vl B n (i + 1)) from (by rw [h12, if_pos rfl])]
    refine LW_i2l dX5_readRule_34 ?_
    rw [show (nI (vl B n (i + 1))).toInt64 = lN (vl B n (i + 1)) from (nI_l (by have := vl_n hB hk12.1; omega))]
    refine LW_last dX5_readRule_35 (hY.lt (k := 22) (by decide)) (ly22 hY) rfl hj (Nat.le_of_ble_eq_true rfl) ?_
    generalize hL35 : hc_u Lc12 22 j (lN (vl B n (i + 1))) = L35
    have hs2 := hW.s.sRu (L' := L35) (j := j) (v := lN (vl B n (i + 1))) (fun z z1 => by rw [← hL35, hc_u_row _ _ _ _ z1]) (fun k => by rw [← hL35, hc_u_at])
    have hf := hf.trans (Fr.dr (I' := Ic12) (L' := L35) (R' := R) (fun _ _ => rfl) (fun z hz => by rw [← hL35, hc_u_row _ _ _ _ (by omega)]) (fun _ _ => rfl))
    have hW2 := hW.dr (I' := Ic12) (L' := L35) (R' := R) (fun _ _ => rfl) (fun z hz => by rw [← hL35, hc_u_row _ _ _ _ (by omega)]) hs2
    refine LW_iloadn 2 dX5_readRule_36 rfl rfl ?_
    refine LW_zret dX5_readRule_37 rfl (Nat.le_of_ble_eq_true rfl) (Nat.le_of_ble_eq_true rfl) (hc_b01 _) ?_
    have hx : pRule (kd B n) (vl B n) j i A P = .inr (i + 1 + 1, aSRu A j (lN (vl B n (i + 1))), P) := by unfold pRule; rw [pDo1, if_pos p12]
    rw [c17]
    exact RPost.yes hx hf (Nat.le_succ _) hW2
set_option maxRecDepth 100000 in
theorem r_readCover {Λ : hc_L} {I : hc_I} {L : hc_J} {R : hc_R} {B : Nat → Nat} {n cn i op : Nat} {A : AS} {P : LwP} (hB : ∀ j, j < n → B j < 256) (hW : RW B n cn Λ I L R i op A P) (hK : kd B n i ≠ 2003) : Run xX5_readCover [.ref 45] Λ I L R (RPost B n cn op (pCover (kd B n) (vl B n) i A P) Λ I L R) := by
  refine Run.of (by decide +kernel) (Nat.le_of_ble_eq_true rfl) ?_
  show LW _ _ _ [(0, .ref 45)] _ _ _ _ _ _
  have hY := hW.y
  have hf : Fr RJ Λ I L R Λ I L R := Fr.rf
  refine LW_aloadn 0 dX5_readCover_0 rfl rfl ?_
  refine LW_iconst (v := 3) dX5_readCover_1 (by decide) ?_
  refine LW_callV (As := [.int 3]) (b := 45) (st := []) (ci := 5) (r := (RX5, TX5, 11)) (r_readRule hB hW hK (j := 3) (by decide)) YX5_readRule rfl dX5_readCover_2 mlX5_122 (hY.lt (k := 45) (by decide)) (ly45 hY) ⟨rfl, rfl⟩ (by decide) ⟨Nat.le_of_ble_eq_true rfl, Nat.le_of_ble_eq_true rfl⟩ (Nat.le_of_ble_eq_true rfl) rfl (fun r2 Λc2 Ic2 Lc2 Rc2 hq2 => ?_)
  obtain ⟨rfl, hf, hle, hq22⟩ := hq2
  refine LW_bif_eq (tgt := 26) dX5_readCover_5 (by decide) (fun c5 => ?_) (fun c5 => ?_)
  · have p2 : ¬ pNum (kd B n) (vl B n) (i + 1) 0 9999999 = 0 := by
      intro c
      unfold pRule at c5
      rw [pDo1] at c5
      rw [if_pos (show pNum (kd B n) (vl B n) (i + 1) 0 (rmN 3) = 0 from c)] at c5
      cases c5
    have e1 : pRule (kd B n) (vl B n) 3 i A P = .inl (pNum (kd B n) (vl B n) (i + 1) 0 9999999, i + 1) := by unfold pRule; rw [pDo1, if_neg (show ¬ pNum (kd B n) (vl B n) (i + 1) 0 (rmN 3) = 0 from p2)]; rfl
    refine LW_iconst (v := 0) dX5_readCover_26 (by decide) ?_
    refine LW_istoren (ls' := [(0, .ref 45), (1, .int 0)]) dX5_readCover_27 rfl (by decide) rfl ?_
    refine LW_iloadn 1 dX5_readCover_28 rfl rfl ?_
    refine LW_if_eq (tgt := 48) dX5_readCover_29 (by decide) (fun c29 => ?_) (fun c29 => absurd rfl c29)
    refine LW_iloadn 1 dX5_readCover_48 rfl rfl ?_
    refine LW_zret dX5_readCover_49 rfl (Nat.le_of_ble_eq_true rfl) (Nat.le_of_ble_eq_true rfl) (Or.inl rfl) ?_
    have hx : pCover (kd B n) (vl B n) i A P = .inl (pNum (kd B n) (vl B n) (i + 1) 0 9999999, i + 1) := by
      show pDo _ _ _ _ _ _ = _
      unfold pDo
      rw [pNums, if_neg p2]
    rw [e1] at hq22
    exact RPost.no hx hf hle hq22
  · have p2 : pNum (kd B n) (vl B n) (i + 1) 0 9999999 = 0 := by
      by_cases c : pNum (kd B n) (vl B n) (i + 1) 0 9999999 = 0
      · exact c
      · exfalso
        unfold pRule at c5
        rw [pDo1] at c5
        rw [if_neg (show ¬ pNum (kd B n) (vl B n) (i + 1) 0 (rmN 3) = 0 from c)] at c5
        cases c5
    have e1 : pRule (kd B n) (vl B n) 3 i A P = .inr (i + 1 + 1, aSRu A 3 (lN (vl B n (i + 1))), P) := by unfold pRule; rw [pDo1, if_pos (show pNum (kd B n) (vl B n) (i + 1) 0 (rmN 3) = 0 from p2)]
    rw [e1] at hq22
    have hW : RW B n cn Λc2 Ic2 Lc2 Rc2 (i + 1 + 1) op (aSRu A 3 (lN (vl B n (i + 1)))) P := hq22
    have hY := hW.y
    refine LW_aloadn 0 dX5_readCover_8 rfl rfl ?_
    refine LW_iconst (v := 0) dX5_readCover_9 (by decide) ?_
    refine LW_iconst (v := 0) dX5_readCover_10 (by decide) ?_
    refine LW_getsR dX5_readCover_11 (Or.inr nlX5_162) ?_
    refine LW_iconst (v := 4) dX5_readCover_14 (by decide) ?_
    refine LW_ialdR dX5_readCover_15 rfl (by decide) ?_
    rw [show hc_rm7 4 = nI 100 from rfl]
    refine LW_callV (As := [.int 0, .int 0, .int (nI 100)]) (b := 45) (st := []) (ci := 5) (r := (RX5, TX5, 11)) (r_readNumber hB hW (q := 0) (lo := 0) (hi := 100) (by decide) (by decide) (by decide)) YX5_readNumber rfl dX5_readCover_16 mlX5_139 (hY.lt (k := 45) (by decide)) (ly45 hY) ⟨rfl, rfl⟩ (by decide) ⟨Nat.le_of_ble_eq_true rfl, Nat.le_of_ble_eq_true rfl⟩ (Nat.le_of_ble_eq_true rfl) rfl (fun r16 Λc16 Ic16 Lc16 Rc16 hq16 => ?_)
    obtain ⟨rfl, rfl, rfl, hI16, hL16, hT16, hF16⟩ := hq16
    have hf := hf.trans (Fr.rd hI16 hL16)
    refine LW_bif_eq (tgt := 26) dX5_readCover_19 (by decide) (fun c19 => ?_) (fun c19 => ?_)
    · have p16 := of_decide_eq_false c19
      refine LW_iconst (v := 0) dX5_readCover_26 (by decide) ?_
      refine LW_istoren (ls' := [(0, .ref 45), (1, .int 0)]) dX5_readCover_27 rfl (by decide) rfl ?_
      refine LW_iloadn 1 dX5_readCover_28 rfl rfl ?_
      refine LW_if_eq (tgt := 48) dX5_readCover_29 (by decide) (fun c29 => ?_) (fun c29 => absurd rfl c29)
      refine LW_iloadn 1 dX5_readCover_48 rfl rfl ?_
      refine LW_zret dX5_readCover_49 rfl (Nat.le_of_ble_eq_true rfl) (Nat.le_of_ble_eq_true rfl) (Or.inl rfl) ?_
      have hx : pCover (kd B n) (vl B n) i A P = .inl (pNum (kd B n) (vl B n) (i + 1 + 1) 0 100, i + 1 + 1) := by
        show pDo _ _ _ _ _ _ = _
        unfold pDo
        rw [pNums, if_pos p2, pNums, if_neg p16]
      exact RPost.no hx hf hle (hF16 p16)
    · have p16 := of_decide_eq_true c19
      obtain ⟨hW, hk16, h16⟩ := hT16 p16
      refine LW_iconst (v := 1) dX5_readCover_22 (by decide) ?_
      refine LW_goto (tgt := 27) dX5_readCover_23 (by decide) ?_
      refine LW_istoren (ls' := [(0, .ref 45), (1, .int 1)]) dX5_readCover_27 rfl (by decide) rfl ?_
      refine LW_iloadn 1 dX5_readCover_28 rfl rfl ?_
      refine LW_if_eq (tgt := 48) dX5_readCover_29 (by decide) (fun c29 => absurd c29 (by decide)) (fun c29 => ?_)
      refine LW_aloadn 0 dX5_readCover_32 rfl rfl ?_
      refine gX5_1 dX5_readCover_33 flX5_28 (hY.lt (k := 45) (by decide)) (ly45 hY) (lf45_1 hY) ?_
      refine gX6_0 dX5_readCover_36 flX5_165 (hY.lt (k := 21) (by decide)) (ly21 hY) (lf21_0 hY) ?_
      refine LW_iconst (v := 4) dX5_readCover_39 (by decide) ?_
      refine LW_aloadn 0 dX5_readCover_40 rfl rfl ?_
      refine gX5_3 dX5_readCover_41 flX5_9 (hY.lt (k := 45) (by decide)) (ly45 hY) (lf45_3 hY) ?_
      refine LW_iconst (v := 0) dX5_readCover_44 (by decide) ?_
      refine LW_iald dX5_readCover_45 (hY.lt (k := 46) (by decide)) (ly46 hY) rfl (by decide) (Nat.le_of_ble_eq_true rfl) ?_
      rw [show Ic16 46 0 = nI (vl B n (i + 1 + 1)) from (by rw [h16, if_pos rfl])]
      refine LW_i2l dX5_readCover_46 ?_
      rw [show (nI (vl B n (i + 1 + 1))).toInt64 = lN (vl B n (i + 1 + 1)) from (nI_l (by have := vl_n hB hk16.1; omega))]
      refine LW_last dX5_readCover_47 (hY.lt (k := 22) (by decide)) (ly22 hY) rfl (by decide) (Nat.le_of_ble_eq_true rfl) ?_
      generalize hL47 : hc_u Lc16 22 4 (lN (vl B n (i + 1 + 1))) = L47
      have hs2 := hW.s.sRu (L' := L47) (j := 4) (v := lN (vl B n (i + 1 + 1))) (fun z z1 => by rw [← hL47, hc_u_row _ _ _ _ z1]) (fun k => by rw [← hL47, hc_u_at])
      have hf := hf.trans (Fr.dr (I' := Ic16) (L' := L47) (R' := Rc2) (fun _ _ => rfl) (fun z hz => by rw [← hL47, hc_u_row _ _ _ _ (by omega)]) (fun _ _ => rfl))
      have hW2 := hW.dr (I' := Ic16) (L' := L47) (R' := Rc2) (fun _ _ => rfl) (fun z hz => by rw [← hL47, hc_u_row _ _ _ _ (by omega)]) hs2
      refine LW_iloadn 1 dX5_readCover_48 rfl rfl ?_
      refine LW_zret dX5_readCover_49 rfl (Nat.le_of_ble_eq_true rfl) (Nat.le_of_ble_eq_true rfl) (Or.inr rfl) ?_
      have hx : pCover (kd B n) (vl B n) i A P = .inr (i + 1 + 1 + 1, aSRu (aSRu A 3 (lN (vl B n (i + 1)))) 4 (lN (vl B n (i + 1 + 1))), P) := by
        show pDo _ _ _ _ _ _ = _
        unfold pDo
        rw [pNums, if_pos p2, pNums, if_pos p16, pNums]
        rfl
      exact RPost.yes hx hf hle hW2
