/-! the reference reads: the law, products and sums -/
theorem kd_lt_n {B : Nat → Nat} {n i : Nat} (hB : ∀ j, j < n → B j < 256) (h : kd B n i ≠ 2003) : i + 1 ≤ n := by
  have h1 := tp_le B n i
  have h2 : tp B n i ≠ n := fun e => h ((kd_end hB).mpr e)
  have h3 := tp_ge B n i (by omega)
  omega
/-- the law is read: o brackets are open -/
def SW (I0 : hc_I) (L0 : hc_J) (n : Nat) (B : Nat → Nat) (Λ : hc_L) (I : hc_I) (L : hc_J) (i : Nat) (A : AS) (P : LwP) (o : Nat) : Prop := TK I0 L0 n B Λ I L i ∧ (Da I L A ∧ Dp I L P) ∧ I 217 32 = nI o ∧ I 217 18 = 1 ∧ i ≤ n
def SPost (I0 : hc_I) (L0 : hc_J) (n : Nat) (B : Nat → Nat) (A : AS) (o s : Nat) (x : Ls) (Λ : hc_L) (R : hc_R) : hc_Q := fun r Λ' I' L' R' => r = some (.int (hc_b (okS x))) ∧ Λ = Λ' ∧ R = R' ∧ match x with
  | .inl e => TF I0 L0 n B Λ' I' L' e
  | .inr q => SW I0 L0 n B Λ' I' L' q.1 A q.2 o ∧ q.2.1 + s ≤ q.1
theorem SPost.no {I0 : hc_I} {L0 : hc_J} {n : Nat} {B : Nat → Nat} {A : AS} {o s : Nat} {x : Ls} {Λ : hc_L} {I : hc_I} {L : hc_J} {R : hc_R} {e : Nat × Nat} (hx : x = .inl e) (h : TF I0 L0 n B Λ I L e) : SPost I0 L0 n B A o s x Λ R (some (.int (hc_b false))) Λ I L R := by
  subst hx
  exact ⟨rfl, rfl, rfl, h⟩
theorem SPost.yes {I0 : hc_I} {L0 : hc_J} {n : Nat} {B : Nat → Nat} {A : AS} {o s : Nat} {x : Ls} {Λ : hc_L} {I : hc_I} {L : hc_J} {R : hc_R} {q : Nat × LwP} (hx : x = .inr q) (h : SW I0 L0 n B Λ I L q.1 A q.2 o) (h2 : q.2.1 + s ≤ q.1) : SPost I0 L0 n B A o s x Λ R (some (.int (hc_b true))) Λ I L R := by
  subst hx
  exact ⟨rfl, rfl, rfl, h, h2⟩
section SWA
variable {Λ : hc_L} {I : hc_I} {L : hc_J} {I0 : hc_I} {L0 : hc_J} {n i : Nat} {B : Nat → Nat} {A : AS} {P : LwP} {o : Nat}
theorem SW.y (h : SW I0 L0 n B Λ I L i A P o) : LY Λ := h.1.y
theorem SW.b (h : SW I0 L0 n B Λ I L i A P o) : ∀ j, j < n → B j < 256 := h.1.b
theorem SW.lx {I' : hc_I} {L' : hc_J} {j : Nat} (h : SW I0 L0 n B Λ I L i A P o) (f : LxFr I I' L L') (hT : TK I0 L0 n B Λ I' L' j) (hj : j ≤ n) : SW I0 L0 n B Λ I' L' j A P o :=
  ⟨hT, ⟨h.2.1.1.lx f, h.2.1.2.lx f⟩, (f.2.1 32 (by unfold LxJ; omega)).trans h.2.2.1, (f.2.1 18 (by unfold LxJ; omega)).trans h.2.2.2.1, hj⟩
theorem SW.op (h : SW I0 L0 n B Λ I L i A P o) (o' : Nat) : SW I0 L0 n B Λ (hc_u I 217 32 (nI o')) L i A P o' :=
  ⟨h.1.uI (by unfold rfZ; omega) (by unfold rfJ; omega) (by unfold LxJ; omega), ⟨h.2.1.1.kp (fun j h1 h2 => by rw [hc_u_at, if_neg (by omega)]) (fun z h1 h2 => hc_u_row _ _ _ _ (by omega)) rfl, h.2.1.2.kp (by rw [hc_u_at, if_neg (by decide)]) (hc_u_row _ _ _ _ (by decide)) rfl⟩, by rw [hc_u_at, if_pos rfl], by rw [hc_u_at, if_neg (by decide)]; exact h.2.2.2.1, h.2.2.2.2⟩
theorem SW.push (h : SW I0 L0 n B Λ I L i A P o) (hP : P.1 < 700) (k v : Nat) : SW I0 L0 n B Λ (hc_u (hc_u I 226 (700 + P.1) (nI k)) 217 11 (nI (P.1 + 1))) (hc_u L 225 (700 + P.1) (lN v)) i A (lpPush P k v) o := by
  have e1 : ∀ z, z ≠ 217 → z ≠ 226 → hc_u (hc_u I 226 (700 + P.1) (nI k)) 217 11 (nI (P.1 + 1)) z = I z := fun z a b => by rw [hc_u_row _ _ _ _ a, hc_u_row _ _ _ _ b]
  have e7 : ∀ j, j ≠ 11 → hc_u (hc_u I 226 (700 + P.1) (nI k)) 217 11 (nI (P.1 + 1)) 217 j = I 217 j := fun j hj => by rw [hc_u_at, if_neg hj, hc_u_row _ _ _ _ (by decide)]
  refine ⟨((h.1.uI (by unfold rfZ; omega) (by unfold rfJ; omega) (fun z => absurd z.1 (by decide))).uI (by unfold rfZ; omega) (by unfold rfJ; omega) (by unfold LxJ; omega)).uL (by unfold rfY; omega) (by unfold rfL; omega) (by decide), ⟨h.2.1.1.kp (fun j h1 h2 => e7 j (by omega)) (fun z h1 h2 => e1 z (by omega) (by omega)) (hc_u_row _ _ _ _ (by decide)), ⟨by rw [hc_u_at, if_pos rfl]; rfl, fun j hj => ?_⟩⟩, (e7 32 (by decide)).trans h.2.2.1, (e7 18 (by decide)).trans h.2.2.2.1, h.2.2.2.2⟩
  have hj2 : j < P.1 + 1 := hj
  rw [hc_u_row _ _ _ _ (by decide), hc_u_at, hc_u_at]
  show _ = nI (lpUp P.2.1 P.1 k j) ∧ _ = lN (lpUp P.2.2 P.1 v j)
  unfold lpUp
  by_cases c : j = P.1
  · have c2 : 700 + j = 700 + P.1 := by omega
    rw [if_pos c2, if_pos c2, if_pos c, if_pos c]; exact ⟨rfl, rfl⟩
  · have c2 : ¬ 700 + j = 700 + P.1 := by omega
    rw [if_neg c2, if_neg c2, if_neg c, if_neg c]; exact h.2.1.2.2 j (by omega)
end SWA
set_option maxRecDepth 100000 in
theorem r_puts {Λ : hc_L} {I : hc_I} {L : hc_J} {R : hc_R} {I0 : hc_I} {L0 : hc_J} {n i : Nat} {B : Nat → Nat} {A : AS} {P : LwP} {o : Nat} (hS : SW I0 L0 n B Λ I L i A P o) (hP : P.1 < 700) (k v : Nat) : Run xX11_puts [.ref 217, .int (nI k), .long (lN v)] Λ I L R (fun r Λ' I' L' R' => r = none ∧ Λ = Λ' ∧ R = R' ∧ SW I0 L0 n B Λ I' L' i A (lpPush P k v) o) := by
  refine Run.of (by decide +kernel) (Nat.le_of_ble_eq_true rfl) ?_
  show LW _ _ _ [(0, .ref 217), (1, .int (nI k)), (2, .long (lN v))] _ _ _ _ _ _
  have hY := hS.y
  have hc := hS.2.1.2.1
  refine LW_aloadn 0 dX11_puts_0 rfl rfl ?_
  refine gX11_9 dX11_puts_1 flX11_37 (hY.lt (k := 217) (by decide)) (ly217 hY) (lf217_9 hY) ?_
  refine LW_sipush (v := 700) dX11_puts_4 (by decide) ?_
  refine LW_aloadn 0 dX11_puts_7 rfl rfl ?_
  refine gX11_11 dX11_puts_8 flX11_91 (hY.lt (k := 217) (by decide)) (ly217 hY) ?_
  rw [show I 217 11 = nI P.1 from hc]
  refine LW_iadd dX11_puts_11 ?_
  rw [show (700 + (nI P.1)) = nI (700 + P.1) from (nI_add 700 _)]
  refine LW_iloadn 1 dX11_puts_12 rfl rfl ?_
  refine LW_iast dX11_puts_13 (hY.lt (k := 226) (by decide)) (ly226 hY) rfl (by omega) (Nat.le_of_ble_eq_true rfl) ?_
  generalize hI13 : hc_u I 226 (700 + P.1) (nI k) = I13
  refine LW_aloadn 0 dX11_puts_14 rfl rfl ?_
  refine gX11_8 dX11_puts_15 flX11_34 (hY.lt (k := 217) (by decide)) (ly217 hY) (lf217_8 hY) ?_
  refine LW_sipush (v := 700) dX11_puts_18 (by decide) ?_
  refine LW_aloadn 0 dX11_puts_21 rfl rfl ?_
  refine gX11_11 dX11_puts_22 flX11_91 (hY.lt (k := 217) (by decide)) (ly217 hY) ?_
  rw [show I13 217 11 = nI P.1 from (by rw [← hI13, hc_u_row _ _ _ _ (by decide)]; exact hc)]
  refine LW_iadd dX11_puts_25 ?_
  rw [show (700 + (nI P.1)) = nI (700 + P.1) from (nI_add 700 _)]
  refine LW_lloadn 2 dX11_puts_26 rfl rfl ?_
  refine LW_last dX11_puts_27 (hY.lt (k := 225) (by decide)) (ly225 hY) rfl (by omega) (Nat.le_of_ble_eq_true rfl) ?_
  generalize hL27 : hc_u L 225 (700 + P.1) (lN v) = L27
  refine LW_aloadn 0 dX11_puts_28 rfl rfl ?_
  refine LW_dup dX11_puts_29 rfl ?_
  refine gX11_11 dX11_puts_30 flX11_91 (hY.lt (k := 217) (by decide)) (ly217 hY) ?_
  rw [show I13 217 11 = nI P.1 from (by rw [← hI13, hc_u_row _ _ _ _ (by decide)]; exact hc)]
  refine LW_iconst (v := 1) dX11_puts_33 (by decide) ?_
  refine LW_iadd dX11_puts_34 ?_
  rw [show ((nI P.1) + 1) = nI (P.1 + 1) from (nI_add _ 1)]
  refine pX11_11 dX11_puts_35 flX11_91 (hY.lt (k := 217) (by decide)) (ly217 hY) ?_
  generalize hI35 : hc_u I13 217 11 (nI (P.1 + 1)) = I35
  refine LW_vret dX11_puts_38 rfl (Nat.le_of_ble_eq_true rfl) (Nat.le_of_ble_eq_true rfl) ?_
  refine ⟨rfl, rfl, rfl, ?_⟩
  rw [← hI35, ← hI13, ← hL27]
  exact hS.push hP k v
set_option maxRecDepth 100000 in
theorem r_opens {Λ : hc_L} {I : hc_I} {L : hc_J} {R : hc_R} {I0 : hc_I} {L0 : hc_J} {n i : Nat} {B : Nat → Nat} {A : AS} {P : LwP} {o : Nat} (hS : SW I0 L0 n B Λ I L i A P o) (ho : o ≤ 8) : Run xX11_opens [.ref 217] Λ I L R (fun r Λ' I' L' R' => ∃ b : Bool, r = some (.int (hc_b b)) ∧ Λ = Λ' ∧ R = R' ∧ (b = true → kd B n i = 40 ∧ o < 8 ∧ SW I0 L0 n B Λ I' L' (i + 1) A P (o + 1)) ∧ (b = false → ∃ e, TF I0 L0 n B Λ I' L' e ∧ ((¬ kd B n i = 40 ∧ e = (1, i)) ∨ (kd B n i = 40 ∧ o = 8 ∧ e = (5, i))))) := by
  refine Run.of (by decide +kernel) (Nat.le_of_ble_eq_true rfl) ?_
  show LW _ _ _ [(0, .ref 217)] _ _ _ _ _ _
  have hY := hS.y
  have hB := hS.b
  refine LW_aloadn 0 dX11_opens_0 rfl rfl ?_
  refine LW_bipush (v := 40) dX11_opens_1 (by decide) ?_
  refine LW_callV (As := [.int 40]) (b := 217) (st := []) (ci := 11) (r := (RX11, TX11, 44)) (r_isSg hS.1 (c := 40) (by decide)) YX11_isSign rfl dX11_opens_3 mlX11_227 (hY.lt (k := 217) (by decide)) (ly217 hY) ⟨rfl, rfl⟩ (by decide) ⟨Nat.le_of_ble_eq_true rfl, Nat.le_of_ble_eq_true rfl⟩ (Nat.le_of_ble_eq_true rfl) rfl (fun r3 Λc3 Ic3 Lc3 Rc3 hq3 => ?_)
  obtain ⟨rfl, rfl, rfl, rfl, rfl⟩ := hq3
  refine LW_bif_ne (tgt := 15) dX11_opens_6 (by decide) (fun c6 => ?_) (fun c6 => ?_)
  · have hk := of_decide_eq_true c6
    have hK : kd B n i ≠ 2003 := by rw [hk]; decide
    refine LW_aloadn 0 dX11_opens_15 rfl rfl ?_
    refine gX11_32 dX11_opens_16 flX11_282 (hY.lt (k := 217) (by decide)) (ly217 hY) ?_
    rw [show I 217 32 = nI o from hS.2.2.1]
    refine LW_bipush (v := 8) dX11_opens_19 (by decide) ?_
    refine LW_icmp_ne (tgt := 30) dX11_opens_21 (by decide) (fun c21 => ?_) (fun c21 => ?_)
    · have ho8 : o < 8 := Nat.lt_of_le_of_ne ho (fun e => c21 (by rw [e]; rfl))
      refine LW_aloadn 0 dX11_opens_30 rfl rfl ?_
      refine LW_dup dX11_opens_31 rfl ?_
      refine gX11_32 dX11_opens_32 flX11_282 (hY.lt (k := 217) (by decide)) (ly217 hY) ?_
      rw [show I 217 32 = nI o from hS.2.2.1]
      refine LW_iconst (v := 1) dX11_opens_35 (by decide) ?_
      refine LW_iadd dX11_opens_36 ?_
      rw [show ((nI o) + 1) = nI (o + 1) from (nI_add _ 1)]
      refine pX11_32 dX11_opens_37 flX11_282 (hY.lt (k := 217) (by decide)) (ly217 hY) ?_
      generalize hI37 : hc_u I 217 32 (nI (o + 1)) = I37
      have hS : SW I0 L0 n B Λ I37 L i A P (o + 1) := by rw [← hI37]; exact hS.op (o + 1)
      refine LW_aloadn 0 dX11_opens_40 rfl rfl ?_
      refine LW_callV (As := []) (b := 217) (st := []) (ci := 11) (r := (RX11, TX11, 44)) (r_nx hS.1) YX11_next rfl dX11_opens_41 mlX11_234 (hY.lt (k := 217) (by decide)) (ly217 hY) ⟨rfl, rfl⟩ (by decide) ⟨Nat.le_of_ble_eq_true rfl, Nat.le_of_ble_eq_true rfl⟩ (Nat.le_of_ble_eq_true rfl) rfl (fun r41 Λc41 Ic41 Lc41 Rc41 hq41 => ?_)
      obtain ⟨rfl, rfl, rfl, hl41, hT41, hr41⟩ := hq41
      have hS := hS.lx hl41 hT41 (kd_lt_n hB hK)
      refine LW_iconst (v := 1) dX11_opens_44 (by decide) ?_
      refine LW_zret dX11_opens_45 rfl (Nat.le_of_ble_eq_true rfl) (Nat.le_of_ble_eq_true rfl) (Or.inr rfl) ?_
      exact ⟨true, rfl, rfl, rfl, fun _ => ⟨hk, ho8, hS⟩, fun z => (by cases z)⟩
    · have ho8 : o = 8 := (hc_eq (a := o) (b := 8) (by omega) (by decide)).mp (Classical.not_not.mp c21)
      refine LW_aloadn 0 dX11_opens_24 rfl rfl ?_
      refine LW_iconst (v := 5) dX11_opens_25 (by decide) ?_
      refine LW_callV (As := [.int 5]) (b := 217) (st := []) (ci := 11) (r := (RX11, TX11, 44)) (r_fl hS.1 (c := 5) (by decide) (by decide)) YX11_fails rfl dX11_opens_26 mlX11_231 (hY.lt (k := 217) (by decide)) (ly217 hY) ⟨rfl, rfl⟩ (by decide) ⟨Nat.le_of_ble_eq_true rfl, Nat.le_of_ble_eq_true rfl⟩ (Nat.le_of_ble_eq_true rfl) rfl (fun r26 Λc26 Ic26 Lc26 Rc26 hq26 => ?_)
      obtain ⟨rfl, rfl, rfl, hl26, hF26⟩ := hq26
      refine LW_zret dX11_opens_29 rfl (Nat.le_of_ble_eq_true rfl) (Nat.le_of_ble_eq_true rfl) (hc_b01 _) ?_
      exact ⟨false, rfl, rfl, rfl, fun z => (by cases z), fun _ => ⟨_, hF26, Or.inr ⟨hk, ho8, rfl⟩⟩⟩
  · have hk := of_decide_eq_false c6
    refine LW_aloadn 0 dX11_opens_9 rfl rfl ?_
    refine LW_iconst (v := 1) dX11_opens_10 (by decide) ?_
    refine LW_callV (As := [.int 1]) (b := 217) (st := []) (ci := 11) (r := (RX11, TX11, 44)) (r_fl hS.1 (c := 1) (by decide) (by decide)) YX11_fails rfl dX11_opens_11 mlX11_231 (hY.lt (k := 217) (by decide)) (ly217 hY) ⟨rfl, rfl⟩ (by decide) ⟨Nat.le_of_ble_eq_true rfl, Nat.le_of_ble_eq_true rfl⟩ (Nat.le_of_ble_eq_true rfl) rfl (fun r11 Λc11 Ic11 Lc11 Rc11 hq11 => ?_)
    obtain ⟨rfl, rfl, rfl, hl11, hF11⟩ := hq11
    refine LW_zret dX11_opens_14 rfl (Nat.le_of_ble_eq_true rfl) (Nat.le_of_ble_eq_true rfl) (hc_b01 _) ?_
    exact ⟨false, rfl, rfl, rfl, fun z => (by cases z), fun _ => ⟨_, hF11, Or.inl ⟨hk, rfl⟩⟩⟩
set_option maxRecDepth 100000 in
theorem r_closes {Λ : hc_L} {I : hc_I} {L : hc_J} {R : hc_R} {I0 : hc_I} {L0 : hc_J} {n i : Nat} {B : Nat → Nat} {A : AS} {P : LwP} {o : Nat} (hS : SW I0 L0 n B Λ I L i A P (o + 1)) : Run xX11_closes [.ref 217] Λ I L R (fun r Λ' I' L' R' => ∃ b : Bool, r = some (.int (hc_b b)) ∧ Λ = Λ' ∧ R = R' ∧ (b = true → kd B n i = 41 ∧ SW I0 L0 n B Λ I' L' (i + 1) A P o) ∧ (b = false → ¬ kd B n i = 41 ∧ TF I0 L0 n B Λ I' L' (1, i))) := by
  refine Run.of (by decide +kernel) (Nat.le_of_ble_eq_true rfl) ?_
  show LW _ _ _ [(0, .ref 217)] _ _ _ _ _ _
  have hY := hS.y
  have hB := hS.b
  refine LW_aloadn 0 dX11_closes_0 rfl rfl ?_
  refine LW_bipush (v := 41) dX11_closes_1 (by decide) ?_
  refine LW_callV (As := [.int 41]) (b := 217) (st := []) (ci := 11) (r := (RX11, TX11, 44)) (r_tkS hS.1 (c := 41) (by decide)) YX11_takesSign rfl dX11_closes_3 mlX11_276 (hY.lt (k := 217) (by decide)) (ly217 hY) ⟨rfl, rfl⟩ (by decide) ⟨Nat.le_of_ble_eq_true rfl, Nat.le_of_ble_eq_true rfl⟩ (Nat.le_of_ble_eq_true rfl) rfl (fun r3 Λc3 Ic3 Lc3 Rc3 hq3 => ?_)
  obtain ⟨rfl, rfl, rfl, hl3, hTt3, hFf3⟩ := hq3
  refine LW_bif_ne (tgt := 11) dX11_closes_6 (by decide) (fun c6 => ?_) (fun c6 => ?_)
  · have hk := of_decide_eq_true c6
    have hK : kd B n i ≠ 2003 := by rw [hk]; decide
    have hS := hS.lx hl3 (hTt3 c6).1 (kd_lt_n hB hK)
    refine LW_aloadn 0 dX11_closes_11 rfl rfl ?_
    refine LW_dup dX11_closes_12 rfl ?_
    refine gX11_32 dX11_closes_13 flX11_282 (hY.lt (k := 217) (by decide)) (ly217 hY) ?_
    rw [show Ic3 217 32 = nI (o + 1) from hS.2.2.1]
    refine LW_iconst (v := 1) dX11_closes_16 (by decide) ?_
    refine LW_isub dX11_closes_17 ?_
    rw [show ((nI (o + 1)) - 1) = nI o from (nI_sb (q := 1) (Nat.le_add_left 1 o))]
    refine pX11_32 dX11_closes_18 flX11_282 (hY.lt (k := 217) (by decide)) (ly217 hY) ?_
    generalize hI18 : hc_u Ic3 217 32 (nI o) = I18
    refine LW_iconst (v := 1) dX11_closes_21 (by decide) ?_
    refine LW_zret dX11_closes_22 rfl (Nat.le_of_ble_eq_true rfl) (Nat.le_of_ble_eq_true rfl) (Or.inr rfl) ?_
    exact ⟨true, rfl, rfl, rfl, fun _ => ⟨hk, by rw [← hI18]; exact hS.op o⟩, fun z => (by cases z)⟩
  · have hk := of_decide_eq_false c6
    refine LW_iconst (v := 0) dX11_closes_9 (by decide) ?_
    refine LW_zret dX11_closes_10 rfl (Nat.le_of_ble_eq_true rfl) (Nat.le_of_ble_eq_true rfl) (Or.inl rfl) ?_
    exact ⟨false, rfl, rfl, rfl, fun z => (by cases z), fun _ => ⟨hk, hFf3 c6⟩⟩
def PtT (I0 : hc_I) (L0 : hc_J) (n : Nat) (B : Nat → Nat) (d D : Nat) : Prop := ∀ (Λ : hc_L) (I : hc_I) (L : hc_J) (R : hc_R) (i : Nat) (A : AS) (P : LwP) (s : Nat), SW I0 L0 n B Λ I L i A P (8 - d) → P.1 + s ≤ i → Run (xX11_readPart D) [.ref 217] Λ I L R (SPost I0 L0 n B A (8 - d) s (ptD (kd B n) (vl B n) d i P) Λ R)
def SmT (I0 : hc_I) (L0 : hc_J) (n : Nat) (B : Nat → Nat) (d D : Nat) : Prop := ∀ (Λ : hc_L) (I : hc_I) (L : hc_J) (R : hc_R) (i : Nat) (A : AS) (P : LwP) (s : Nat), SW I0 L0 n B Λ I L i A P (8 - d) → P.1 + s ≤ i → Run (xX11_readSum D) [.ref 217] Λ I L R (SPost I0 L0 n B A (8 - d) s (smW (kd B n) (ptD (kd B n) (vl B n) d) i P) Λ R)
/-- a product: refused, or what is left of the sum -/
def PdPost (I0 : hc_I) (L0 : hc_J) (n : Nat) (B : Nat → Nat) (A : AS) (d s f pl : Nat) (x : Ls) (Λ : hc_L) (R : hc_R) : hc_Q := fun r Λ' I' L' R' => ∃ b : Bool, r = some (.int (hc_b b)) ∧ Λ = Λ' ∧ R = R' ∧ (b = false → ∃ e, x = .inl e ∧ TF I0 L0 n B Λ I' L' e) ∧ (b = true → ∃ f2 i2 P2, f2 ≤ f ∧ SW I0 L0 n B Λ I' L' i2 A P2 (8 - d) ∧ P2.1 + s ≤ i2 ∧ ¬ (kd B n i2 = 42 ∨ kd B n i2 = 47) ∧ smK (kd B n) (ptD (kd B n) (vl B n) d) f2 i2 P2 pl = some x)
def PdT (I0 : hc_I) (L0 : hc_J) (n : Nat) (B : Nat → Nat) (d D : Nat) : Prop := ∀ (Λ : hc_L) (I : hc_I) (L : hc_J) (R : hc_R) (i : Nat) (A : AS) (P : LwP) (s f pl : Nat) (x : Ls), SW I0 L0 n B Λ I L i A P (8 - d) → P.1 + s ≤ i → smL (kd B n) (ptD (kd B n) (vl B n) d) f i P 0 pl = some x → Run (xX11_readProduct D) [.ref 217] Λ I L R (PdPost I0 L0 n B A d s f pl x Λ R)
set_option maxRecDepth 100000 in
theorem pdS {Λ : hc_L} {I : hc_I} {L : hc_J} {R : hc_R} {I0 : hc_I} {L0 : hc_J} {n i d D s : Nat} {B : Nat → Nat} {A : AS} {P : LwP} (hS : SW I0 L0 n B Λ I L i A P (8 - d)) (hs : P.1 + s ≤ i) {f0 pl : Nat} {x : Ls} (hD : 7 ≤ D) (hpt : PtT I0 L0 n B d D) (hx : smL (kd B n) (ptD (kd B n) (vl B n) d) f0 i P 0 pl = some x) : Run (xX11_readProduct (D + 1)) [.ref 217] Λ I L R (PdPost I0 L0 n B A d s f0 pl x Λ R) := by
  refine Run.of (show plainName "HailClubModel" = true by decide +kernel) (Nat.le_of_ble_eq_true rfl) ?_
  show LW _ _ _ [(0, .ref 217)] _ _ _ _ _ _
  have hY := hS.y
  have loop : ∀ g (I1 : hc_I) (L1 : hc_J) i1 P1, g ≤ f0 → SW I0 L0 n B Λ I1 L1 i1 A P1 (8 - d) → P1.1 + s ≤ i1 → smK (kd B n) (ptD (kd B n) (vl B n) d) g i1 P1 pl = some x → LW (xX11_readProduct (D + 1)) (0, 0) 9 [(0, .ref 217)] [] Λ I1 L1 R (PdPost I0 L0 n B A d s f0 pl x Λ R) := by
    intro g
    induction g with
    | zero =>
      intro I1 L1 i1 P1 hf hS hs1 hx
      cases hx
    | succ g ih =>
      intro I1 L1 i1 P1 hf hS hs1 hx
      have hB := hS.b
      refine LW_aloadn 0 dX11_readProduct_9 rfl rfl ?_
      refine LW_bipush (v := 42) dX11_readProduct_10 (by decide) ?_
      refine LW_callV (As := [.int 42]) (b := 217) (st := []) (ci := 11) (r := (RX11, TX11, 44)) (r_isSg hS.1 (c := 42) (by decide)) YX11_isSign rfl dX11_readProduct_12 mlX11_227 (hY.lt (k := 217) (by decide)) (ly217 hY) ⟨rfl, rfl⟩ (Nat.succ_le_succ (Nat.le_trans (show _ ≤ 7 by decide) hD)) ⟨Nat.le_of_ble_eq_true rfl, Nat.le_of_ble_eq_true rfl⟩ (Nat.le_of_ble_eq_true rfl) rfl (fun r12 Λc12 Ic12 Lc12 Rc12 hq12 => ?_)
      obtain ⟨rfl, rfl, rfl, rfl, rfl⟩ := hq12
      refine LW_bif_ne (tgt := 27) dX11_readProduct_15 (by decide) (fun c15 => ?_) (fun c15 => ?_)
      · have hkk : kd B n i1 = 42 := of_decide_eq_true c15
        have hK : kd B n i1 ≠ 2003 := by rw [hkk]; decide
        have hsg : ∀ c : Nat, c < 256 → kd B n i1 = c → (I1 217 30) = nI c := fun c hc hk => by
          obtain ⟨s3, b3⟩ := (kd_3 hB hc).mp hk
          rw [hS.1.x.2.2.2.2.2, if_pos s3, b3]
        refine LW_aloadn 0 dX11_readProduct_27 rfl rfl ?_
        refine gX11_30 dX11_readProduct_28 flX11_147 (hY.lt (k := 217) (by decide)) (ly217 hY) ?_
        rw [show I1 217 30 = nI 42 from (hsg 42 (by decide) hkk)]
        refine LW_istoren (ls' := [(0, .ref 217), (1, .int (nI 42))]) dX11_readProduct_31 rfl (Nat.le_of_ble_eq_true rfl) rfl ?_
        refine LW_aloadn 0 dX11_readProduct_32 rfl rfl ?_
        refine LW_callV (As := []) (b := 217) (st := []) (ci := 11) (r := (RX11, TX11, 44)) (r_nx hS.1) YX11_next rfl dX11_readProduct_33 mlX11_234 (hY.lt (k := 217) (by decide)) (ly217 hY) ⟨rfl, rfl⟩ (Nat.succ_le_succ (Nat.le_trans (show _ ≤ 7 by decide) hD)) ⟨Nat.le_of_ble_eq_true rfl, Nat.le_of_ble_eq_true rfl⟩ (Nat.le_of_ble_eq_true rfl) rfl (fun r33 Λc33 Ic33 Lc33 Rc33 hq33 => ?_)
        obtain ⟨rfl, rfl, rfl, hl33, hT33, hr33⟩ := hq33
        have hS := hS.lx hl33 hT33 (kd_lt_n hB hK)
        refine LW_aloadn 0 dX11_readProduct_36 rfl rfl ?_
        refine LW_callV (As := []) (b := 217) (st := []) (ci := 11) (r := (RX11, TX11, 44)) (hpt _ _ _ _ _ _ _ (s + 1) hS (by omega)) (YX11_readPart D) rfl dX11_readProduct_37 mlX11_295 (hY.lt (k := 217) (by decide)) (ly217 hY) ⟨rfl, rfl⟩ (Nat.le_refl _) ⟨Nat.le_of_ble_eq_true rfl, Nat.le_of_ble_eq_true rfl⟩ (Nat.le_of_ble_eq_true rfl) rfl (fun r37 Λc37 Ic37 Lc37 Rc37 hq37 => ?_)
        obtain ⟨rfl, rfl, rfl, hx37⟩ := hq37
        refine LW_bif_ne (tgt := 45) dX11_readProduct_40 (by decide) (fun c40 => ?_) (fun c40 => ?_)
        · obtain ⟨q, he⟩ := okS_t (show okS (ptD (kd B n) (vl B n) d (i1 + 1) P1) = true from c40)
          rw [he] at hx37
          obtain ⟨hS, hs1⟩ := hx37
          have hin := hS.2.2.2.2
          have hn7 := hS.1.n7
          refine LW_aloadn 0 dX11_readProduct_45 rfl rfl ?_
          refine LW_iloadn 1 dX11_readProduct_46 rfl rfl ?_
          refine LW_lconst (v := 0) dX11_readProduct_47 (by decide) ?_
          refine LW_callV (As := [.int (nI 42), .long 0]) (b := 217) (st := []) (ci := 11) (r := (RX11, TX11, 44)) (r_puts hS (by omega) 42 0) YX11_puts rfl dX11_readProduct_48 mlX11_291 (hY.lt (k := 217) (by decide)) (ly217 hY) ⟨rfl, rfl⟩ (Nat.succ_le_succ (Nat.le_trans (show _ ≤ 7 by decide) hD)) ⟨Nat.le_of_ble_eq_true rfl, Nat.le_of_ble_eq_true rfl⟩ (Nat.le_of_ble_eq_true rfl) rfl (fun r48 Λc48 Ic48 Lc48 Rc48 hq48 => ?_)
          obtain ⟨rfl, rfl, rfl, hS⟩ := hq48
          refine LW_goto (tgt := 9) dX11_readProduct_51 (by decide) ?_
          refine LW_ls [0] rfl (ih Ic48 Lc48 q.1 (lpPush q.2 42 0) (by omega) hS (by show q.2.1 + 1 + s ≤ q.1; omega) ?_)
          rw [smK_t (by omega)] at hx
          unfold smL at hx
          rw [he, hkk] at hx
          exact hx
        · obtain ⟨e, he⟩ := okS_f (show okS (ptD (kd B n) (vl B n) d (i1 + 1) P1) = false from c40)
          rw [he] at hx37
          refine LW_iconst (v := 0) dX11_readProduct_43 (by decide) ?_
          refine LW_zret dX11_readProduct_44 rfl (Nat.le_of_ble_eq_true rfl) (Nat.le_of_ble_eq_true rfl) (Or.inl rfl) ?_
          refine ⟨false, rfl, rfl, rfl, fun _ => ⟨e, ?_, hx37⟩, fun z => (by cases z)⟩
          rw [smK_t (by omega)] at hx
          unfold smL at hx
          rw [he] at hx
          exact (Option.some.inj hx).symm
      · refine LW_aloadn 0 dX11_readProduct_18 rfl rfl ?_
        refine LW_bipush (v := 47) dX11_readProduct_19 (by decide) ?_
        refine LW_callV (As := [.int 47]) (b := 217) (st := []) (ci := 11) (r := (RX11, TX11, 44)) (r_isSg hS.1 (c := 47) (by decide)) YX11_isSign rfl dX11_readProduct_21 mlX11_227 (hY.lt (k := 217) (by decide)) (ly217 hY) ⟨rfl, rfl⟩ (Nat.succ_le_succ (Nat.le_trans (show _ ≤ 7 by decide) hD)) ⟨Nat.le_of_ble_eq_true rfl, Nat.le_of_ble_eq_true rfl⟩ (Nat.le_of_ble_eq_true rfl) rfl (fun r21 Λc21 Ic21 Lc21 Rc21 hq21 => ?_)
        obtain ⟨rfl, rfl, rfl, rfl, rfl⟩ := hq21
        refine LW_bif_eq (tgt := 54) dX11_readProduct_24 (by decide) (fun c24 => ?_) (fun c24 => ?_)
        · have hno : ¬ (kd B n i1 = 42 ∨ kd B n i1 = 47) := fun z => z.elim (of_decide_eq_false c15) (of_decide_eq_false c24)
          refine LW_iconst (v := 1) dX11_readProduct_54 (by decide) ?_
          refine LW_zret dX11_readProduct_55 rfl (Nat.le_of_ble_eq_true rfl) (Nat.le_of_ble_eq_true rfl) (Or.inr rfl) ?_
          exact ⟨true, rfl, rfl, rfl, fun z => (by cases z), fun _ => ⟨g + 1, i1, P1, hf, hS, hs1, hno, hx⟩⟩
        · have hkk : kd B n i1 = 47 := of_decide_eq_true c24
          have hK : kd B n i1 ≠ 2003 := by rw [hkk]; decide
          have hsg : ∀ c : Nat, c < 256 → kd B n i1 = c → (I1 217 30) = nI c := fun c hc hk => by
            obtain ⟨s3, b3⟩ := (kd_3 hB hc).mp hk
            rw [hS.1.x.2.2.2.2.2, if_pos s3, b3]
          refine LW_aloadn 0 dX11_readProduct_27 rfl rfl ?_
          refine gX11_30 dX11_readProduct_28 flX11_147 (hY.lt (k := 217) (by decide)) (ly217 hY) ?_
          rw [show I1 217 30 = nI 47 from (hsg 47 (by decide) hkk)]
          refine LW_istoren (ls' := [(0, .ref 217), (1, .int (nI 47))]) dX11_readProduct_31 rfl (Nat.le_of_ble_eq_true rfl) rfl ?_
          refine LW_aloadn 0 dX11_readProduct_32 rfl rfl ?_
          refine LW_callV (As := []) (b := 217) (st := []) (ci := 11) (r := (RX11, TX11, 44)) (r_nx hS.1) YX11_next rfl dX11_readProduct_33 mlX11_234 (hY.lt (k := 217) (by decide)) (ly217 hY) ⟨rfl, rfl⟩ (Nat.succ_le_succ (Nat.le_trans (show _ ≤ 7 by decide) hD)) ⟨Nat.le_of_ble_eq_true rfl, Nat.le_of_ble_eq_true rfl⟩ (Nat.le_of_ble_eq_true rfl) rfl (fun r33 Λc33 Ic33 Lc33 Rc33 hq33 => ?_)
          obtain ⟨rfl, rfl, rfl, hl33, hT33, hr33⟩ := hq33
          have hS := hS.lx hl33 hT33 (kd_lt_n hB hK)
          refine LW_aloadn 0 dX11_readProduct_36 rfl rfl ?_
          refine LW_callV (As := []) (b := 217) (st := []) (ci := 11) (r := (RX11, TX11, 44)) (hpt _ _ _ _ _ _ _ (s + 1) hS (by omega)) (YX11_readPart D) rfl dX11_readProduct_37 mlX11_295 (hY.lt (k := 217) (by decide)) (ly217 hY) ⟨rfl, rfl⟩ (Nat.le_refl _) ⟨Nat.le_of_ble_eq_true rfl, Nat.le_of_ble_eq_true rfl⟩ (Nat.le_of_ble_eq_true rfl) rfl (fun r37 Λc37 Ic37 Lc37 Rc37 hq37 => ?_)
          obtain ⟨rfl, rfl, rfl, hx37⟩ := hq37
          refine LW_bif_ne (tgt := 45) dX11_readProduct_40 (by decide) (fun c40 => ?_) (fun c40 => ?_)
          · obtain ⟨q, he⟩ := okS_t (show okS (ptD (kd B n) (vl B n) d (i1 + 1) P1) = true from c40)
            rw [he] at hx37
            obtain ⟨hS, hs1⟩ := hx37
            have hin := hS.2.2.2.2
            have hn7 := hS.1.n7
            refine LW_aloadn 0 dX11_readProduct_45 rfl rfl ?_
            refine LW_iloadn 1 dX11_readProduct_46 rfl rfl ?_
            refine LW_lconst (v := 0) dX11_readProduct_47 (by decide) ?_
            refine LW_callV (As := [.int (nI 47), .long 0]) (b := 217) (st := []) (ci := 11) (r := (RX11, TX11, 44)) (r_puts hS (by omega) 47 0) YX11_puts rfl dX11_readProduct_48 mlX11_291 (hY.lt (k := 217) (by decide)) (ly217 hY) ⟨rfl, rfl⟩ (Nat.succ_le_succ (Nat.le_trans (show _ ≤ 7 by decide) hD)) ⟨Nat.le_of_ble_eq_true rfl, Nat.le_of_ble_eq_true rfl⟩ (Nat.le_of_ble_eq_true rfl) rfl (fun r48 Λc48 Ic48 Lc48 Rc48 hq48 => ?_)
            obtain ⟨rfl, rfl, rfl, hS⟩ := hq48
            refine LW_goto (tgt := 9) dX11_readProduct_51 (by decide) ?_
            refine LW_ls [0] rfl (ih Ic48 Lc48 q.1 (lpPush q.2 47 0) (by omega) hS (by show q.2.1 + 1 + s ≤ q.1; omega) ?_)
            rw [smK_t (by omega)] at hx
            unfold smL at hx
            rw [he, hkk] at hx
            exact hx
          · obtain ⟨e, he⟩ := okS_f (show okS (ptD (kd B n) (vl B n) d (i1 + 1) P1) = false from c40)
            rw [he] at hx37
            refine LW_iconst (v := 0) dX11_readProduct_43 (by decide) ?_
            refine LW_zret dX11_readProduct_44 rfl (Nat.le_of_ble_eq_true rfl) (Nat.le_of_ble_eq_true rfl) (Or.inl rfl) ?_
            refine ⟨false, rfl, rfl, rfl, fun _ => ⟨e, ?_, hx37⟩, fun z => (by cases z)⟩
            rw [smK_t (by omega)] at hx
            unfold smL at hx
            rw [he] at hx
            exact (Option.some.inj hx).symm
  refine LW_aloadn 0 dX11_readProduct_0 rfl rfl ?_
  refine LW_callV (As := []) (b := 217) (st := []) (ci := 11) (r := (RX11, TX11, 44)) (hpt _ _ _ _ _ _ _ (s) hS (by omega)) (YX11_readPart D) rfl dX11_readProduct_1 mlX11_295 (hY.lt (k := 217) (by decide)) (ly217 hY) ⟨rfl, rfl⟩ (Nat.le_refl _) ⟨Nat.le_of_ble_eq_true rfl, Nat.le_of_ble_eq_true rfl⟩ (Nat.le_of_ble_eq_true rfl) rfl (fun r1 Λc1 Ic1 Lc1 Rc1 hq1 => ?_)
  obtain ⟨rfl, rfl, rfl, hx1⟩ := hq1
  refine LW_bif_ne (tgt := 9) dX11_readProduct_4 (by decide) (fun c4 => ?_) (fun c4 => ?_)
  · obtain ⟨q, he⟩ := okS_t (show okS (ptD (kd B n) (vl B n) d i P) = true from c4)
    rw [he] at hx1
    obtain ⟨hS, hs1⟩ := hx1
    unfold smL at hx
    rw [he] at hx
    exact loop f0 Ic1 Lc1 q.1 q.2 (Nat.le_refl _) hS hs1 hx
  · obtain ⟨e, he⟩ := okS_f (show okS (ptD (kd B n) (vl B n) d i P) = false from c4)
    rw [he] at hx1
    refine LW_iconst (v := 0) dX11_readProduct_7 (by decide) ?_
    refine LW_zret dX11_readProduct_8 rfl (Nat.le_of_ble_eq_true rfl) (Nat.le_of_ble_eq_true rfl) (Or.inl rfl) ?_
    refine ⟨false, rfl, rfl, rfl, fun _ => ⟨e, ?_, hx1⟩, fun z => (by cases z)⟩
    unfold smL at hx
    rw [he] at hx
    exact (Option.some.inj hx).symm
