/-! the Reader at 45: a token ahead, refused, a number read -/
def RJ (z : Nat) : Prop := (21 ≤ z ∧ z < 39) ∨ (42 ≤ z ∧ z < 47)
/-- the reader looks at token i, op brackets are open, the draft is A, its law P -/
def RW (B : Nat → Nat) (n cn : Nat) (Λ : hc_L) (I : hc_I) (L : hc_J) (R : hc_R) (i op : Nat) (A : AS) (P : LwP) : Prop :=
  LY Λ ∧ tkDone I L 47 B n cn ∧ i < cn ∧ (I 45 4 = 0 ∧ I 45 5 = -1) ∧ I 45 6 = nI i ∧ I 45 7 = kEnc (kd B n i) ∧ I 45 8 = nI (tp B n i) ∧ L 45 9 = lN (vl B n i) ∧ I 45 10 = nI op ∧ St Λ I L R 21 A ∧ LwAt Λ I 42 P
/-- a fault is told: which, at which token; the draft holds something -/
def RF (B : Nat → Nat) (n : Nat) (Λ : hc_L) (I : hc_I) (L : hc_J) (R : hc_R) (e : Nat × Nat) : Prop := LY Λ ∧ I 45 4 = nI e.1 ∧ I 45 5 = nI (tp B n e.2) ∧ ∃ A, St Λ I L R 21 A
def RPost (B : Nat → Nat) (n cn op : Nat) (x : Rs) (Λ : hc_L) (I : hc_I) (L : hc_J) (R : hc_R) : hc_Q := fun r Λ' I' L' R' => r = some (.int (hc_b (okS x))) ∧ Fr RJ Λ I L R Λ' I' L' R' ∧ Λ'.1 ≤ Λ.1 + 1 ∧ match x with
  | .inl e => RF B n Λ' I' L' R' e
  | .inr q => RW B n cn Λ' I' L' R' q.1 op q.2.1 q.2.2
section RWA
variable {B : Nat → Nat} {n cn i op : Nat} {A : AS} {P : LwP} {Λ : hc_L} {I : hc_I} {L : hc_J} {R : hc_R}
theorem RW.y (h : RW B n cn Λ I L R i op A P) : LY Λ := h.1
theorem RW.t (h : RW B n cn Λ I L R i op A P) : tkDone I L 47 B n cn := h.2.1
theorem RW.c (h : RW B n cn Λ I L R i op A P) : i < cn := h.2.2.1
theorem RW.a (h : RW B n cn Λ I L R i op A P) : I 45 6 = nI i := h.2.2.2.2.1
theorem RW.k (h : RW B n cn Λ I L R i op A P) : I 45 7 = kEnc (kd B n i) := h.2.2.2.2.2.1
theorem RW.p (h : RW B n cn Λ I L R i op A P) : I 45 8 = nI (tp B n i) := h.2.2.2.2.2.2.1
theorem RW.v (h : RW B n cn Λ I L R i op A P) : L 45 9 = lN (vl B n i) := h.2.2.2.2.2.2.2.1
theorem RW.o (h : RW B n cn Λ I L R i op A P) : I 45 10 = nI op := h.2.2.2.2.2.2.2.2.1
theorem RW.s (h : RW B n cn Λ I L R i op A P) : St Λ I L R 21 A := h.2.2.2.2.2.2.2.2.2.1
theorem RW.l (h : RW B n cn Λ I L R i op A P) : LwAt Λ I 42 P := h.2.2.2.2.2.2.2.2.2.2
theorem RW.nx (hB : ∀ j, j < n → B j < 256) (h : RW B n cn Λ I L R i op A P) (hk : kd B n i ≠ 2003) : i + 1 < cn := by
  have h1 := h.c
  rcases Nat.lt_or_ge (i + 1) cn with z | z
  · exact z
  · exfalso
    have e : cn - 1 = i := by omega
    have := h.t.2.2.2.1
    rw [e] at this
    exact hk ((kd_end hB).mpr this)
theorem RW.cn7 (h : RW B n cn Λ I L R i op A P) : cn ≤ 701 := h.t.2.2.1
end RWA
theorem kd_lt {B : Nat → Nat} {n : Nat} (hB : ∀ j, j < n → B j < 256) (i : Nat) : kd B n i < 3000 := by
  have := kd_r hB i
  omega
/-- comparing kinds -/
theorem kd_ne {B : Nat → Nat} {n : Nat} (hB : ∀ j, j < n → B j < 256) {i c : Nat} (hc : c < 128 ∨ (256 ≤ c ∧ c < 3000)) : kEnc (kd B n i) = nI c ↔ kd B n i = c := kE_eq (kd_lt hB i) hc
theorem vl_n {B : Nat → Nat} {n i : Nat} (hB : ∀ j, j < n → B j < 256) (h : kd B n i = 2001) : vl B n i < 100000000 := by
  unfold kd tkK at h
  unfold vl tkV
  split
  · rename_i c
    rw [if_pos c] at h
    split at h
    · split at h
      · cases h
      · rcases wkd_r (wdV B (tp B n i) (tkE B n (tp B n i) - tp B n i)) with h3 | h3 <;> omega
    · rename_i cl
      rw [if_neg cl]
      split at h
      · rename_i cd
        rw [if_pos cd]
        split at h
        · cases h
        · rename_i c8
          have a := scan_spec (fun j => isD (B j)) (n - tp B n i) (tp B n i)
          rw [← tkE_D c cd] at a
          have := nmV_lt (B := B) (q := tp B n i) (tkE B n (tp B n i) - tp B n i) (fun j hj => a.2.2.1 (tp B n i + j) (by omega) (by omega))
          have h8 : 10 ^ (tkE B n (tp B n i) - tp B n i) ≤ 10 ^ 8 := Nat.pow_le_pow_right (by decide) (by omega)
          omega
      · have := hB _ c; omega
  · decide
theorem vl_w {B : Nat → Nat} {n i : Nat} (hB : ∀ j, j < n → B j < 256) (h : kd B n i = 2000) : vl B n i < 2 ^ 35 := by
  unfold kd tkK at h
  unfold vl tkV
  split
  · rename_i c
    rw [if_pos c] at h
    split at h
    · rename_i cl
      rw [if_pos cl]
      split at h
      · cases h
      · rename_i c7
        have a := scan_spec (fun j => isL (B j)) (n - tp B n i) (tp B n i)
        rw [← tkE_L c cl] at a
        have := wdV_lt (B := B) (q := tp B n i) (tkE B n (tp B n i) - tp B n i) (fun j hj => a.2.2.1 (tp B n i + j) (by omega) (by omega))
        have h8 : 32 ^ (tkE B n (tp B n i) - tp B n i) ≤ 32 ^ 7 := Nat.pow_le_pow_right (by decide) (by omega)
        have : (32 : Nat) ^ 7 = 2 ^ 35 := by decide
        omega
    · split at h
      · split at h <;> cases h
      · have := hB _ c; omega
  · decide
set_option maxRecDepth 100000 in
theorem r_step0 {Λ : hc_L} {I : hc_I} {L : hc_J} {R : hc_R} {B : Nat → Nat} {n cn i : Nat} (hY : LY Λ) (ht : tkDone I L 47 B n cn) (ha : I 45 6 + 1 = nI i) (hi : i < cn) : Run xX5_step [.ref 45] Λ I L R (Qf (fun z => z = 45) (fun z => z = 45) (fun _ => False) none (fun I' L' _ => (∀ j, I' 45 j = if j = 8 then nI (tp B n i) else if j = 7 then kEnc (kd B n i) else if j = 6 then nI i else I 45 j) ∧ ∀ j, L' 45 j = if j = 9 then lN (vl B n i) else L 45 j) Λ I L R) := by
  refine Run.of (by decide +kernel) (Nat.le_of_ble_eq_true rfl) ?_
  show LW _ _ _ [(0, .ref 45)] _ _ _ _ _ _
  have hc7 := ht.2.2.1
  refine LW_aloadn 0 dX5_step_0 rfl rfl ?_
  refine gX5_6 dX5_step_1 flX5_97 (hY.lt (k := 45) (by decide)) (ly45 hY) ?_
  refine LW_iconst (v := 1) dX5_step_4 (by decide) ?_
  refine LW_iadd dX5_step_5 ?_
  rw [show ((I 45 6) + 1) = nI i from ha]
  refine LW_aloadn 0 dX5_step_6 rfl rfl ?_
  refine gX5_0 dX5_step_7 flX5_24 (hY.lt (k := 45) (by decide)) (ly45 hY) (lf45_0 hY) ?_
  refine gX9_3 dX5_step_10 flX5_81 (hY.lt (k := 47) (by decide)) (ly47 hY) ?_
  rw [show I 47 3 = nI cn from ht.1]
  refine LW_icmp_ge (tgt := 74) dX5_step_13 (by decide) (fun c13 => absurd c13 (hc_nle (by omega) (by omega) hi)) (fun c13 => ?_)
  refine LW_aloadn 0 dX5_step_16 rfl rfl ?_
  refine LW_dup dX5_step_17 rfl ?_
  refine gX5_6 dX5_step_18 flX5_97 (hY.lt (k := 45) (by decide)) (ly45 hY) ?_
  refine LW_iconst (v := 1) dX5_step_21 (by decide) ?_
  refine LW_iadd dX5_step_22 ?_
  rw [show ((I 45 6) + 1) = nI i from ha]
  refine pX5_6 dX5_step_23 flX5_97 (hY.lt (k := 45) (by decide)) (ly45 hY) ?_
  generalize hI23 : hc_u I 45 6 (nI i) = I23
  refine LW_aloadn 0 dX5_step_26 rfl rfl ?_
  refine LW_aloadn 0 dX5_step_27 rfl rfl ?_
  refine gX5_0 dX5_step_28 flX5_24 (hY.lt (k := 45) (by decide)) (ly45 hY) (lf45_0 hY) ?_
  refine gX9_0 dX5_step_31 flX5_84 (hY.lt (k := 47) (by decide)) (ly47 hY) (lf47_0 hY) ?_
  refine LW_aloadn 0 dX5_step_34 rfl rfl ?_
  refine gX5_6 dX5_step_35 flX5_97 (hY.lt (k := 45) (by decide)) (ly45 hY) ?_
  rw [show I23 45 6 = nI i from (by rw [← hI23, hc_u_at, if_pos rfl])]
  refine LW_iald dX5_step_38 (hY.lt (k := 48) (by decide)) (ly48 hY) rfl (by omega) (Nat.le_of_ble_eq_true rfl) ?_
  rw [show I23 48 i = kEnc (kd B n i) from (by rw [← hI23, hc_u_row _ _ _ _ (by decide)]; exact (ht.2.2.2.2.2 i hi).1)]
  refine pX5_7 dX5_step_39 flX5_49 (hY.lt (k := 45) (by decide)) (ly45 hY) ?_
  generalize hI39 : hc_u I23 45 7 (kEnc (kd B n i)) = I39
  refine LW_aloadn 0 dX5_step_42 rfl rfl ?_
  refine LW_aloadn 0 dX5_step_43 rfl rfl ?_
  refine gX5_0 dX5_step_44 flX5_24 (hY.lt (k := 45) (by decide)) (ly45 hY) (lf45_0 hY) ?_
  refine gX9_1 dX5_step_47 flX5_100 (hY.lt (k := 47) (by decide)) (ly47 hY) (lf47_1 hY) ?_
  refine LW_aloadn 0 dX5_step_50 rfl rfl ?_
  refine gX5_6 dX5_step_51 flX5_97 (hY.lt (k := 45) (by decide)) (ly45 hY) ?_
  rw [show I39 45 6 = nI i from (by rw [← hI39, hc_u_at, if_neg (by decide), ← hI23, hc_u_at, if_pos rfl])]
  refine LW_iald dX5_step_54 (hY.lt (k := 49) (by decide)) (ly49 hY) rfl (by omega) (Nat.le_of_ble_eq_true rfl) ?_
  rw [show I39 49 i = nI (tp B n i) from (by rw [← hI39, hc_u_row _ _ _ _ (by decide), ← hI23, hc_u_row _ _ _ _ (by decide)]; exact (ht.2.2.2.2.2 i hi).2.1)]
  refine pX5_8 dX5_step_55 flX5_103 (hY.lt (k := 45) (by decide)) (ly45 hY) ?_
  generalize hI55 : hc_u I39 45 8 (nI (tp B n i)) = I55
  refine LW_aloadn 0 dX5_step_58 rfl rfl ?_
  refine LW_aloadn 0 dX5_step_59 rfl rfl ?_
  refine gX5_0 dX5_step_60 flX5_24 (hY.lt (k := 45) (by decide)) (ly45 hY) (lf45_0 hY) ?_
  refine gX9_2 dX5_step_63 flX5_87 (hY.lt (k := 47) (by decide)) (ly47 hY) (lf47_2 hY) ?_
  refine LW_aloadn 0 dX5_step_66 rfl rfl ?_
  refine gX5_6 dX5_step_67 flX5_97 (hY.lt (k := 45) (by decide)) (ly45 hY) ?_
  rw [show I55 45 6 = nI i from (by rw [← hI55, hc_u_at, if_neg (by decide), ← hI39, hc_u_at, if_neg (by decide), ← hI23, hc_u_at, if_pos rfl])]
  refine LW_lald dX5_step_70 (hY.lt (k := 50) (by decide)) (ly50 hY) rfl (by omega) (Nat.le_of_ble_eq_true rfl) ?_
  rw [show L 50 i = lN (vl B n i) from (ht.2.2.2.2.2 i hi).2.2]
  refine pX5_9 dX5_step_71 flX5_106 (hY.lt (k := 45) (by decide)) (ly45 hY) ?_
  generalize hL71 : hc_u L 45 9 (lN (vl B n i)) = L71
  refine LW_vret dX5_step_74 rfl (Nat.le_of_ble_eq_true rfl) (Nat.le_of_ble_eq_true rfl) ?_
  refine ⟨rfl, rfl, fun z hz => ?_, fun z hz => ?_, fun _ _ => rfl, fun j => ?_, fun j => ?_⟩
  · rw [← hI55, hc_u_row _ _ _ _ hz, ← hI39, hc_u_row _ _ _ _ hz, ← hI23, hc_u_row _ _ _ _ hz]
  · rw [← hL71, hc_u_row _ _ _ _ hz]
  · rw [← hI55, hc_u_at, ← hI39, hc_u_at, ← hI23, hc_u_at]
  · rw [← hL71, hc_u_at]
theorem tkDone.kp {I I' : hc_I} {L L' : hc_J} {B : Nat → Nat} {n cn : Nat} (h : tkDone I L 47 B n cn) (e1 : I' 47 = I 47) (e2 : I' 48 = I 48) (e3 : I' 49 = I 49) (e4 : L' 50 = L 50) : tkDone I' L' 47 B n cn := by
  refine ⟨by rw [e1]; exact h.1, h.2.1, h.2.2.1, h.2.2.2.1, h.2.2.2.2.1, fun j hj => ?_⟩
  show I' 48 j = _ ∧ I' 49 j = _ ∧ L' 50 j = _
  rw [e2, e3, e4]
  exact h.2.2.2.2.2 j hj
theorem St.rd {Λ : hc_L} {I I' : hc_I} {L L' : hc_J} {R : hc_R} {A : AS} (h : St Λ I L R 21 A) (hY : LY Λ) (hI : ∀ z, z ≠ 45 → z ≠ 46 → I' z = I z) (hL : ∀ z, z ≠ 45 → L' z = L z) : St Λ I' L' R 21 A :=
  h.kp3 (fun z _ _ => hI z (by omega) (by omega)) (fun z _ _ => hL z (by omega)) (fun _ _ _ => rfl) (fun r hr => by
    have := hY.nf hr
    exact hI r (by omega) (by omega))
theorem LwAt.rd {Λ : hc_L} {I I' : hc_I} {P : LwP} (h : LwAt Λ I 42 P) (hI : ∀ z, z ≠ 45 → z ≠ 46 → I' z = I z) : LwAt Λ I' 42 P := ⟨h.1, by rw [hI 42 (by decide) (by decide)]; exact h.2.1, fun i hi => by rw [hI 43 (by decide) (by decide)]; exact h.2.2 i hi⟩
theorem RW.step {B : Nat → Nat} {n cn i op : Nat} {A : AS} {P : LwP} {Λ : hc_L} {I I' : hc_I} {L L' : hc_J} {R : hc_R} (h : RW B n cn Λ I L R i op A P) (hn : i + 1 < cn) (hI : ∀ z, z ≠ 45 → z ≠ 46 → I' z = I z) (hL : ∀ z, z ≠ 45 → L' z = L z) (h1 : ∀ j, I' 45 j = if j = 8 then nI (tp B n (i + 1)) else if j = 7 then kEnc (kd B n (i + 1)) else if j = 6 then nI (i + 1) else I 45 j) (h2 : ∀ j, L' 45 j = if j = 9 then lN (vl B n (i + 1)) else L 45 j) : RW B n cn Λ I' L' R (i + 1) op A P :=
  ⟨h.y, h.t.kp (hI _ (by decide) (by decide)) (hI _ (by decide) (by decide)) (hI _ (by decide) (by decide)) (hL _ (by decide)), hn, ⟨(h1 4).trans h.2.2.2.1.1, (h1 5).trans h.2.2.2.1.2⟩, h1 6, h1 7, h1 8, h2 9, (h1 10).trans h.o, h.s.rd h.y hI hL, h.l.rd hI⟩
/-- a token ahead -/
theorem r_step {B : Nat → Nat} {n cn i op : Nat} {A : AS} {P : LwP} {Λ : hc_L} {I : hc_I} {L : hc_J} {R : hc_R} (hB : ∀ j, j < n → B j < 256) (h : RW B n cn Λ I L R i op A P) (hk : kd B n i ≠ 2003) : Run xX5_step [.ref 45] Λ I L R (Qf (fun z => z = 45) (fun z => z = 45) (fun _ => False) none (fun I' L' _ => RW B n cn Λ I' L' R (i + 1) op A P) Λ I L R) := by
  have hn := h.nx hB hk
  refine (r_step0 h.y h.t (i := i + 1) (by rw [h.a]; exact nI_1 _) hn).mono ?_
  rintro r Λ' I' L' R' ⟨rfl, rfl, q1, q2, q3, q4, q5⟩
  obtain rfl : R = R' := funext fun z => (q3 z (fun q => q)).symm
  exact ⟨rfl, rfl, q1, q2, q3, h.step hn (fun z z1 _ => q1 z z1) q2 q4 q5⟩
theorem Fr.rd {Λ : hc_L} {I I' : hc_I} {L L' : hc_J} {R : hc_R} (hI : ∀ z, z ≠ 45 → z ≠ 46 → I' z = I z) (hL : ∀ z, z ≠ 45 → L' z = L z) : Fr RJ Λ I L R Λ I' L' R := ⟨⟨Nat.le_refl _, fun _ _ => ⟨rfl, rfl⟩⟩, fun z _ q => hI z (fun e => q (Or.inr (by omega))) (fun e => q (Or.inr (by omega))), fun z _ q => hL z (fun e => q (Or.inr (by omega))), fun _ _ _ => rfl⟩
set_option maxRecDepth 100000 in
theorem r_refuse0 {Λ : hc_L} {I : hc_I} {L : hc_J} {R : hc_R} (hY : LY Λ) (c : Int32) : Run xX5_refuse [.ref 45, .int c] Λ I L R (Qf (fun z => z = 45) (fun _ => False) (fun _ => False) (some (.int (hc_b false))) (fun I' _ _ => ∀ j, I' 45 j = if j = 5 then I 45 8 else if j = 4 then c else I 45 j) Λ I L R) := by
  refine Run.of (by decide +kernel) (Nat.le_of_ble_eq_true rfl) ?_
  show LW _ _ _ [(0, .ref 45), (1, .int c)] _ _ _ _ _ _
  refine LW_aloadn 0 dX5_refuse_0 rfl rfl ?_
  refine LW_iloadn 1 dX5_refuse_1 rfl rfl ?_
  refine pX5_4 dX5_refuse_2 flX5_91 (hY.lt (k := 45) (by decide)) (ly45 hY) ?_
  generalize hI2 : hc_u I 45 4 c = I2
  refine LW_aloadn 0 dX5_refuse_5 rfl rfl ?_
  refine LW_aloadn 0 dX5_refuse_6 rfl rfl ?_
  refine gX5_8 dX5_refuse_7 flX5_103 (hY.lt (k := 45) (by decide)) (ly45 hY) ?_
  rw [show I2 45 8 = I 45 8 from (by rw [← hI2, hc_u_at, if_neg (by decide)])]
  refine pX5_5 dX5_refuse_10 flX5_15 (hY.lt (k := 45) (by decide)) (ly45 hY) ?_
  generalize hI10 : hc_u I2 45 5 (I 45 8) = I10
  refine LW_iconst (v := 0) dX5_refuse_13 (by decide) ?_
  refine LW_zret dX5_refuse_14 rfl (Nat.le_of_ble_eq_true rfl) (Nat.le_of_ble_eq_true rfl) (Or.inl rfl) ?_
  refine ⟨rfl, rfl, fun z hz => ?_, fun _ _ => rfl, fun _ _ => rfl, fun j => ?_⟩
  · rw [← hI10, hc_u_row _ _ _ _ hz, ← hI2, hc_u_row _ _ _ _ hz]
  · rw [← hI10, hc_u_at, ← hI2, hc_u_at]
/-- refused at the token that is looked at -/
theorem r_refuse {B : Nat → Nat} {n cn i op : Nat} {A : AS} {P : LwP} {Λ : hc_L} {I : hc_I} {L : hc_J} {R : hc_R} (h : RW B n cn Λ I L R i op A P) (c : Nat) {x : Int32} (hx : x = nI c) : Run xX5_refuse [.ref 45, .int x] Λ I L R (Qf (fun z => z = 45) (fun _ => False) (fun _ => False) (some (.int (hc_b false))) (fun I' _ _ => RF B n Λ I' L R (c, i)) Λ I L R) := by
  refine (r_refuse0 h.y x).mono ?_
  rintro r Λ' I' L' R' ⟨rfl, rfl, q1, q2, q3, q4⟩
  obtain rfl : L = L' := funext fun z => (q2 z (fun q => q)).symm
  obtain rfl : R = R' := funext fun z => (q3 z (fun q => q)).symm
  exact ⟨rfl, rfl, q1, q2, q3, h.y, (q4 4).trans hx, (q4 5).trans h.p, A, h.s.rd h.y (fun z z1 _ => q1 z z1) (fun _ _ => rfl)⟩
/-- refused: the whole post -/
theorem RPost.no {B : Nat → Nat} {n cn op : Nat} {x : Rs} {Λ Λ' : hc_L} {I I' : hc_I} {L L' : hc_J} {R R' : hc_R} {e : Nat × Nat} (hx : x = .inl e) (hf : Fr RJ Λ I L R Λ' I' L' R') (hl : Λ'.1 ≤ Λ.1 + 1) (h : RF B n Λ' I' L' R' e) : RPost B n cn op x Λ I L R (some (.int (hc_b false))) Λ' I' L' R' := by
  subst hx
  exact ⟨rfl, hf, hl, h⟩
theorem RPost.yes {B : Nat → Nat} {n cn op : Nat} {x : Rs} {Λ Λ' : hc_L} {I I' : hc_I} {L L' : hc_J} {R R' : hc_R} {q : Nat × AS × LwP} (hx : x = .inr q) (hf : Fr RJ Λ I L R Λ' I' L' R') (hl : Λ'.1 ≤ Λ.1 + 1) (h : RW B n cn Λ' I' L' R' q.1 op q.2.1 q.2.2) : RPost B n cn op x Λ I L R (some (.int (hc_b true))) Λ' I' L' R' := by
  subst hx
  exact ⟨rfl, hf, hl, h⟩
def RNum (B : Nat → Nat) (n cn i op : Nat) (A : AS) (P : LwP) (q lo hi : Nat) (Λ : hc_L) (I : hc_I) (L : hc_J) (R : hc_R) : hc_Q := fun r Λ' I' L' R' => r = some (.int (hc_b (decide (pNum (kd B n) (vl B n) i lo hi = 0)))) ∧ Λ = Λ' ∧ R = R' ∧ (∀ z, z ≠ 45 → z ≠ 46 → I' z = I z) ∧ (∀ z, z ≠ 45 → L' z = L z) ∧
  (pNum (kd B n) (vl B n) i lo hi = 0 → RW B n cn Λ I' L' R (i + 1) op A P ∧ (kd B n i = 2001 ∧ lo ≤ vl B n i ∧ vl B n i ≤ hi) ∧ ∀ j, I' 46 j = if j = q then nI (vl B n i) else I 46 j) ∧ (¬ pNum (kd B n) (vl B n) i lo hi = 0 → RF B n Λ I' L' R (pNum (kd B n) (vl B n) i lo hi, i))
set_option maxRecDepth 100000 in
theorem r_readNumber {Λ : hc_L} {I : hc_I} {L : hc_J} {R : hc_R} {B : Nat → Nat} {n cn i op : Nat} {A : AS} {P : LwP} (hB : ∀ j, j < n → B j < 256) (hW : RW B n cn Λ I L R i op A P) {q lo hi : Nat} (hq5 : q < 5) (hlo31 : lo < 2 ^ 31) (hhi31 : hi < 2 ^ 31) : Run xX5_readNumber [.ref 45, .int (nI q), .int (nI lo), .int (nI hi)] Λ I L R (RNum B n cn i op A P q lo hi Λ I L R) := by
  refine Run.of (by decide +kernel) (Nat.le_of_ble_eq_true rfl) ?_
  show LW _ _ _ [(0, .ref 45), (1, .int (nI q)), (2, .int (nI lo)), (3, .int (nI hi))] _ _ _ _ _ _
  have hY := hW.y
  refine LW_aloadn 0 dX5_readNumber_0 rfl rfl ?_
  refine gX5_7 dX5_readNumber_1 flX5_49 (hY.lt (k := 45) (by decide)) (ly45 hY) ?_
  rw [show I 45 7 = kEnc (kd B n i) from hW.k]
  refine LW_sipush (v := 2001) dX5_readNumber_4 (by decide) ?_
  refine LW_icmp_ne (tgt := 23) dX5_readNumber_7 (by decide) (fun c7 => ?_) (fun c7 => ?_)
  · have hk : ¬ kd B n i = 2001 := fun z => c7 ((kd_ne hB (by decide)).mpr z)
    refine LW_aloadn 0 dX5_readNumber_23 rfl rfl ?_
    refine LW_iconst (v := 1) dX5_readNumber_24 (by decide) ?_
    refine LW_callV (As := [.int 1]) (b := 45) (st := []) (ci := 5) (r := (RX5, TX5, 11)) (r_refuse hW 1 rfl) YX5_refuse rfl dX5_readNumber_25 mlX5_56 (hY.lt (k := 45) (by decide)) (ly45 hY) ⟨rfl, rfl⟩ (by decide) ⟨Nat.le_refl _, Nat.le_refl _⟩ (Nat.le_of_ble_eq_true rfl) rfl (fun r25 Λc25 Ic25 Lc25 Rc25 hq25 => ?_)
    obtain ⟨rfl, rfl, hI25, hL25, hR25, hF25⟩ := hq25
    obtain rfl : L = Lc25 := funext fun z => (hL25 z (fun q => q)).symm
    obtain rfl : R = Rc25 := funext fun z => (hR25 z (fun q => q)).symm
    refine LW_zret dX5_readNumber_28 rfl (Nat.le_of_ble_eq_true rfl) (Nat.le_of_ble_eq_true rfl) (hc_b01 _) ?_
    have e : pNum (kd B n) (vl B n) i lo hi = 1 := if_neg hk
    refine ⟨by rw [e]; rfl, rfl, rfl, fun z z1 _ => hI25 z z1, fun _ _ => rfl, fun q => absurd (e.symm.trans q) (by decide), fun _ => by rw [e]; exact hF25⟩
  · refine LW_iloadn 1 dX5_readNumber_10 rfl rfl ?_
    refine LW_if_lt (tgt := 23) dX5_readNumber_11 (by decide) (fun c11 => absurd c11 (Int32.not_lt.mpr (nI_nn (by omega)))) (fun c11 => ?_)
    refine LW_iloadn 1 dX5_readNumber_14 rfl rfl ?_
    refine LW_aloadn 0 dX5_readNumber_15 rfl rfl ?_
    refine gX5_3 dX5_readNumber_16 flX5_9 (hY.lt (k := 45) (by decide)) (ly45 hY) (lf45_3 hY) ?_
    refine LW_alen (idx := 0) dX5_readNumber_19 (hY.lt (k := 46) (by decide)) (ly46 hY) (by decide) ?_
    refine LW_icmp_lt (tgt := 29) dX5_readNumber_20 (by decide) (fun c20 => ?_) (fun c20 => absurd ((hc_lt (by omega) (by omega)).mpr hq5) c20)
    have hk : kd B n i = 2001 := (kd_ne hB (by decide)).mp (Classical.not_not.mp c7)
    have hv := vl_n hB hk
    have hK : kd B n i ≠ 2003 := by rw [hk]; decide
    refine LW_aloadn 0 dX5_readNumber_29 rfl rfl ?_
    refine gX5_9 dX5_readNumber_30 flX5_106 (hY.lt (k := 45) (by decide)) (ly45 hY) ?_
    rw [show L 45 9 = lN (vl B n i) from hW.v]
    refine LW_iloadn 2 dX5_readNumber_33 rfl rfl ?_
    refine LW_i2l dX5_readNumber_34 ?_
    rw [show (nI lo).toInt64 = lN lo from (nI_l hlo31)]
    refine LW_lcmp dX5_readNumber_35 ?_
    refine LW_lif_lt (tgt := 49) dX5_readNumber_36 (by decide) (fun c36 => ?_) (fun c36 => ?_)
    · have hr : ¬ (lo ≤ vl B n i ∧ vl B n i ≤ hi) := fun z => absurd ((lN_lt (by omega) hlo31).mp c36) (by omega)
      refine LW_aloadn 0 dX5_readNumber_49 rfl rfl ?_
      refine LW_iconst (v := 4) dX5_readNumber_50 (by decide) ?_
      refine LW_callV (As := [.int 4]) (b := 45) (st := []) (ci := 5) (r := (RX5, TX5, 11)) (r_refuse hW 4 rfl) YX5_refuse rfl dX5_readNumber_51 mlX5_56 (hY.lt (k := 45) (by decide)) (ly45 hY) ⟨rfl, rfl⟩ (by decide) ⟨Nat.le_refl _, Nat.le_refl _⟩ (Nat.le_of_ble_eq_true rfl) rfl (fun r51 Λc51 Ic51 Lc51 Rc51 hq51 => ?_)
      obtain ⟨rfl, rfl, hI51, hL51, hR51, hF51⟩ := hq51
      obtain rfl : L = Lc51 := funext fun z => (hL51 z (fun q => q)).symm
      obtain rfl : R = Rc51 := funext fun z => (hR51 z (fun q => q)).symm
      refine LW_zret dX5_readNumber_54 rfl (Nat.le_of_ble_eq_true rfl) (Nat.le_of_ble_eq_true rfl) (hc_b01 _) ?_
      have e : pNum (kd B n) (vl B n) i lo hi = 4 := by unfold pNum; rw [if_pos hk, if_neg hr]
      refine ⟨by rw [e]; rfl, rfl, rfl, fun z z1 _ => hI51 z z1, fun _ _ => rfl, fun q => absurd (e.symm.trans q) (by decide), fun _ => by rw [e]; exact hF51⟩
    · have hlo : lo ≤ vl B n i := Nat.le_of_not_lt (fun z => c36 ((lN_lt (by omega) (by omega)).mpr z))
      refine LW_aloadn 0 dX5_readNumber_39 rfl rfl ?_
      refine gX5_9 dX5_readNumber_40 flX5_106 (hY.lt (k := 45) (by decide)) (ly45 hY) ?_
      rw [show L 45 9 = lN (vl B n i) from hW.v]
      refine LW_iloadn 3 dX5_readNumber_43 rfl rfl ?_
      refine LW_i2l dX5_readNumber_44 ?_
      rw [show (nI hi).toInt64 = lN hi from (nI_l hhi31)]
      refine LW_lcmp dX5_readNumber_45 ?_
      refine LW_lif_le (tgt := 55) dX5_readNumber_46 (by decide) (fun c46 => ?_) (fun c46 => ?_)
      · have hhi : vl B n i ≤ hi := (lN_le (by omega) hhi31).mp c46
        refine LW_aloadn 0 dX5_readNumber_55 rfl rfl ?_
        refine gX5_3 dX5_readNumber_56 flX5_9 (hY.lt (k := 45) (by decide)) (ly45 hY) (lf45_3 hY) ?_
        refine LW_iloadn 1 dX5_readNumber_59 rfl rfl ?_
        refine LW_aloadn 0 dX5_readNumber_60 rfl rfl ?_
        refine gX5_9 dX5_readNumber_61 flX5_106 (hY.lt (k := 45) (by decide)) (ly45 hY) ?_
        rw [show L 45 9 = lN (vl B n i) from hW.v]
        refine LW_l2i dX5_readNumber_64 ?_
        rw [show (lN (vl B n i)).toInt32 = nI (vl B n i) from (lN_i _)]
        refine LW_iast dX5_readNumber_65 (hY.lt (k := 46) (by decide)) (ly46 hY) rfl hq5 (Nat.le_of_ble_eq_true rfl) ?_
        generalize hI65 : hc_u I 46 q (nI (vl B n i)) = I65
        have hW0 := hW
        have hW : RW B n cn Λ I65 L R i op A P := ⟨hW0.y, hW0.t.kp (by rw [← hI65, hc_u_row _ _ _ _ (by decide)]) (by rw [← hI65, hc_u_row _ _ _ _ (by decide)]) (by rw [← hI65, hc_u_row _ _ _ _ (by decide)]) rfl, hW0.c, by rw [← hI65, hc_u_row _ _ _ _ (by decide)]; exact hW0.2.2.2.1, by rw [← hI65, hc_u_row _ _ _ _ (by decide)]; exact hW0.a, by rw [← hI65, hc_u_row _ _ _ _ (by decide)]; exact hW0.k, by rw [← hI65, hc_u_row _ _ _ _ (by decide)]; exact hW0.p, hW0.v, by rw [← hI65, hc_u_row _ _ _ _ (by decide)]; exact hW0.o, hW0.s.rd hW0.y (fun z _ z2 => by rw [← hI65, hc_u_row _ _ _ _ z2]) (fun _ _ => rfl), hW0.l.rd (fun z _ z2 => by rw [← hI65, hc_u_row _ _ _ _ z2])⟩
        refine LW_aloadn 0 dX5_readNumber_66 rfl rfl ?_
        refine LW_callV (As := []) (b := 45) (st := []) (ci := 5) (r := (RX5, TX5, 11)) (r_step hB hW hK) YX5_step rfl dX5_readNumber_67 mlX5_60 (hY.lt (k := 45) (by decide)) (ly45 hY) ⟨rfl, rfl⟩ (by decide) ⟨Nat.le_refl _, Nat.le_refl _⟩ (Nat.le_of_ble_eq_true rfl) rfl (fun r67 Λc67 Ic67 Lc67 Rc67 hq67 => ?_)
        obtain ⟨rfl, rfl, hI67, hL67, hR67, hW67⟩ := hq67
        obtain rfl : R = Rc67 := funext fun z => (hR67 z (fun q => q)).symm
        have hW := hW67
        refine LW_iconst (v := 1) dX5_readNumber_70 (by decide) ?_
        refine LW_zret dX5_readNumber_71 rfl (Nat.le_of_ble_eq_true rfl) (Nat.le_of_ble_eq_true rfl) (Or.inr rfl) ?_
        have e : pNum (kd B n) (vl B n) i lo hi = 0 := by unfold pNum; rw [if_pos hk, if_pos ⟨hlo, hhi⟩]
        refine ⟨by rw [e]; rfl, rfl, rfl, fun z z1 z2 => by rw [hI67 z z1, ← hI65, hc_u_row _ _ _ _ z2], hL67, fun _ => ⟨hW67, ⟨hk, hlo, hhi⟩, fun j => ?_⟩, fun q => absurd e q⟩
        rw [hI67 46 (by decide), ← hI65, hc_u_at]
      · have hr : ¬ (lo ≤ vl B n i ∧ vl B n i ≤ hi) := fun z => c46 ((lN_le (by omega) hhi31).mpr z.2)
        refine LW_aloadn 0 dX5_readNumber_49 rfl rfl ?_
        refine LW_iconst (v := 4) dX5_readNumber_50 (by decide) ?_
        refine LW_callV (As := [.int 4]) (b := 45) (st := []) (ci := 5) (r := (RX5, TX5, 11)) (r_refuse hW 4 rfl) YX5_refuse rfl dX5_readNumber_51 mlX5_56 (hY.lt (k := 45) (by decide)) (ly45 hY) ⟨rfl, rfl⟩ (by decide) ⟨Nat.le_refl _, Nat.le_refl _⟩ (Nat.le_of_ble_eq_true rfl) rfl (fun r51 Λc51 Ic51 Lc51 Rc51 hq51 => ?_)
        obtain ⟨rfl, rfl, hI51, hL51, hR51, hF51⟩ := hq51
        obtain rfl : L = Lc51 := funext fun z => (hL51 z (fun q => q)).symm
        obtain rfl : R = Rc51 := funext fun z => (hR51 z (fun q => q)).symm
        refine LW_zret dX5_readNumber_54 rfl (Nat.le_of_ble_eq_true rfl) (Nat.le_of_ble_eq_true rfl) (hc_b01 _) ?_
        have e : pNum (kd B n) (vl B n) i lo hi = 4 := by unfold pNum; rw [if_pos hk, if_neg hr]
        refine ⟨by rw [e]; rfl, rfl, rfl, fun z z1 _ => hI51 z z1, fun _ _ => rfl, fun q => absurd (e.symm.trans q) (by decide), fun _ => by rw [e]; exact hF51⟩
