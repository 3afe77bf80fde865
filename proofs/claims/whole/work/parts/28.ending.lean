/-! the Ending at e: smaller parts -/
/-- the Ending at e, of the State s and the Assessor a -/
def EnL (Λ : hc_L) (e s a : Nat) : Prop := e + 16 ≤ Λ.1 ∧ Λ.2.1 e = (101, 0) ∧ Λ.2.1 (e + 1) = (3, 11) ∧ Λ.2.1 (e + 2) = (7, 6) ∧ (∀ w, w < 6 → Λ.2.1 (e + 3 + w) = (3, 12)) ∧ Λ.2.1 (e + 9) = (0, 12) ∧ Λ.2.1 (e + 10) = (0, 12) ∧ (∀ w, w < 5 → Λ.2.1 (e + 11 + w) = (3, 12)) ∧
  Λ.2.2 e 0 = some s ∧ Λ.2.2 e 1 = some a ∧ Λ.2.2 e 2 = some (e + 1) ∧ Λ.2.2 e 3 = some (e + 2) ∧ Λ.2.2 e 4 = some (e + 9) ∧ Λ.2.2 e 5 = some (e + 10) ∧ (∀ w, w < 5 → Λ.2.2 e (6 + w) = some (e + 11 + w)) ∧ (∀ w, w < 6 → Λ.2.2 (e + 2) w = some (e + 3 + w)) ∧
  (∀ k j, k < 18 → j < 16 → s + k ≠ e + j)
theorem EnL.lt {Λ : hc_L} {e s a : Nat} (h : EnL Λ e s a) (k : Nat) (hk : k < 16) : e + k < Λ.1 := Nat.lt_of_lt_of_le (by omega) h.1
theorem EnL.lt0 {Λ : hc_L} {e s a : Nat} (h : EnL Λ e s a) : e < Λ.1 := h.lt 0 (by omega)
theorem EnL.yr {Λ : hc_L} {e s a : Nat} (h : EnL Λ e s a) (w : Nat) (hw : w < 6) : Λ.2.1 (e + 3 + w) = (3, 12) := h.2.2.2.2.1 w hw
theorem EnL.ym {Λ : hc_L} {e s a : Nat} (h : EnL Λ e s a) (w : Nat) (hw : w < 5) : Λ.2.1 (e + 11 + w) = (3, 12) := h.2.2.2.2.2.2.2.1 w hw
theorem EnL.f0 {Λ : hc_L} {e s a : Nat} (h : EnL Λ e s a) : Λ.2.2 e 0 = some s := h.2.2.2.2.2.2.2.2.1
theorem EnL.f1 {Λ : hc_L} {e s a : Nat} (h : EnL Λ e s a) : Λ.2.2 e 1 = some a := h.2.2.2.2.2.2.2.2.2.1
theorem EnL.f2 {Λ : hc_L} {e s a : Nat} (h : EnL Λ e s a) : Λ.2.2 e 2 = some (e + 1) := h.2.2.2.2.2.2.2.2.2.2.1
theorem EnL.f3 {Λ : hc_L} {e s a : Nat} (h : EnL Λ e s a) : Λ.2.2 e 3 = some (e + 2) := h.2.2.2.2.2.2.2.2.2.2.2.1
theorem EnL.f4 {Λ : hc_L} {e s a : Nat} (h : EnL Λ e s a) : Λ.2.2 e 4 = some (e + 9) := h.2.2.2.2.2.2.2.2.2.2.2.2.1
theorem EnL.f5 {Λ : hc_L} {e s a : Nat} (h : EnL Λ e s a) : Λ.2.2 e 5 = some (e + 10) := h.2.2.2.2.2.2.2.2.2.2.2.2.2.1
theorem EnL.fm {Λ : hc_L} {e s a : Nat} (h : EnL Λ e s a) (w : Nat) (hw : w < 5) : Λ.2.2 e (6 + w) = some (e + 11 + w) := h.2.2.2.2.2.2.2.2.2.2.2.2.2.2.1 w hw
theorem EnL.fr {Λ : hc_L} {e s a : Nat} (h : EnL Λ e s a) (w : Nat) (hw : w < 6) : Λ.2.2 (e + 2) w = some (e + 3 + w) := h.2.2.2.2.2.2.2.2.2.2.2.2.2.2.2.1 w hw
theorem EnL.ap {Λ : hc_L} {e s a : Nat} (h : EnL Λ e s a) {k j : Nat} (hk : k < 18) (hj : j < 16) : s + k ≠ e + j := h.2.2.2.2.2.2.2.2.2.2.2.2.2.2.2.2 k j hk hj
set_option maxRecDepth 100000 in
theorem r_advance {Λ : hc_L} {I : hc_I} {L : hc_J} {R : hc_R} (x y : Int64) : Run xX10_advance [.long x, .long y] Λ I L R (Qr (some (.long (x * y / 1000))) Λ I L R) := by
  refine Run.of (by decide +kernel) (Nat.le_of_ble_eq_true rfl) ?_
  show LW _ _ _ [(0, .long x), (2, .long y)] _ _ _ _ _ _
  refine LW_lloadn 0 dX10_advance_0 rfl rfl ?_
  refine LW_lloadn 1 dX10_advance_1 rfl rfl ?_
  refine LW_lmul dX10_advance_2 ?_
  refine LW_ldc2 dX10_advance_3 klX10_337 ?_
  refine LW_ldiv dX10_advance_6 (by decide) ?_
  refine LW_lret dX10_advance_7 rfl (Nat.le_of_ble_eq_true rfl) (Nat.le_of_ble_eq_true rfl) ?_
  exact Qr.mk rfl
set_option maxRecDepth 100000 in
theorem r_goalCoins {Λ : hc_L} {I : hc_I} {L : hc_J} {R : hc_R} (x y : Int64) : Run xX10_goalCoins [.long x, .long y] Λ I L R (Qr (some (.long (x * y / 100))) Λ I L R) := by
  refine Run.of (by decide +kernel) (Nat.le_of_ble_eq_true rfl) ?_
  show LW _ _ _ [(0, .long x), (2, .long y)] _ _ _ _ _ _
  refine LW_lloadn 0 dX10_goalCoins_0 rfl rfl ?_
  refine LW_lloadn 1 dX10_goalCoins_1 rfl rfl ?_
  refine LW_lmul dX10_goalCoins_2 ?_
  refine LW_ldc2 dX10_goalCoins_3 klX10_339 ?_
  refine LW_ldiv dX10_goalCoins_6 (by decide) ?_
  refine LW_lret dX10_goalCoins_7 rfl (Nat.le_of_ble_eq_true rfl) (Nat.le_of_ble_eq_true rfl) ?_
  exact Qr.mk rfl
/-- the rows of J alone may have changed; those of V are these -/
def Qv (J : Nat → Prop) (F : hc_J → Prop) (Λ : hc_L) (I : hc_I) (L : hc_J) (R : hc_R) : hc_Q := fun r Λ' I' L' R' => r = none ∧ Λ = Λ' ∧ I = I' ∧ (∀ z, ¬ J z → L' z = L z) ∧ R = R' ∧ F L'
def cAbove (A : AS) (lo : Int64) : Int64 := if lo - aRu A 2 < 0 then 0 else lo - aRu A 2
def cAgain (A : AS) (lo : Int64) : Int64 := (if aRu A 3 < cAbove A lo then aRu A 3 else cAbove A lo) * aRu A 4 / 100
set_option maxRecDepth 100000 in
theorem r_coverAgain {Λ : hc_L} {I : hc_I} {L : hc_J} {R : hc_R} {e s a : Nat} {A : AS} (he : EnL Λ e s a) (h : St Λ I L R s A) : Run xX1_coverAgain [.ref e] Λ I L R (Qv (fun z => z = e + 1) (fun L' => L' (e + 1) 1 = cAgain A (L (e + 1) 0) ∧ L' (e + 1) 2 = L (e + 1) 0 - cAgain A (L (e + 1) 0) ∧ ∀ j, j ≠ 1 → j ≠ 2 → L' (e + 1) j = L (e + 1) j) Λ I L R) := by
  refine Run.of (by decide +kernel) (Nat.le_of_ble_eq_true rfl) ?_
  show LW _ _ _ [(0, .ref e)] _ _ _ _ _ _
  refine LW_lconst (v := 0) dX1_coverAgain_0 (by decide) ?_
  refine LW_aloadn 0 dX1_coverAgain_1 rfl rfl ?_
  refine gX1_2 dX1_coverAgain_2 flX1_9 he.lt0 he.2.1 he.f2 ?_
  refine LW_iconst (v := 0) dX1_coverAgain_5 (by decide) ?_
  refine LW_lald dX1_coverAgain_6 (he.lt 1 (by decide)) he.2.2.1 rfl (by decide) (Nat.le_of_ble_eq_true rfl) ?_
  refine LW_aloadn 0 dX1_coverAgain_7 rfl rfl ?_
  refine gX1_0 dX1_coverAgain_8 flX1_42 he.lt0 he.2.1 he.f0 ?_
  refine gX6_0 dX1_coverAgain_11 flX1_73 h.l.lt0 h.l.2.1 (h.l.f 0 (by decide)) ?_
  refine LW_iconst (v := 2) dX1_coverAgain_14 (by decide) ?_
  refine LW_lald dX1_coverAgain_15 (h.l.lt 1 (by decide)) h.l.2.2.1 rfl (by decide) (Nat.le_of_ble_eq_true rfl) ?_
  rw [show L (s + 1) 2 = aRu A 2 from h.ru (by decide)]
  refine LW_lsub dX1_coverAgain_16 ?_
  refine LW_lmax dX1_coverAgain_17 mlX1_98 (by decide) ⟨Nat.le_refl _, Nat.le_refl _⟩ (Nat.le_of_ble_eq_true rfl) ?_
  rw [show (if ((L (e + 1) 0) - (aRu A 2)) < 0 then 0 else ((L (e + 1) 0) - (aRu A 2))) = cAbove A (L (e + 1) 0) from rfl]
  refine LW_lstoren (ls' := [(0, .ref e), (1, .long (cAbove A (L (e + 1) 0)))]) dX1_coverAgain_20 rfl (by decide) rfl ?_
  refine LW_aloadn 0 dX1_coverAgain_21 rfl rfl ?_
  refine gX1_2 dX1_coverAgain_22 flX1_9 he.lt0 he.2.1 he.f2 ?_
  refine LW_iconst (v := 1) dX1_coverAgain_25 (by decide) ?_
  refine LW_lloadn 1 dX1_coverAgain_26 rfl rfl ?_
  refine LW_aloadn 0 dX1_coverAgain_27 rfl rfl ?_
  refine gX1_0 dX1_coverAgain_28 flX1_42 he.lt0 he.2.1 he.f0 ?_
  refine gX6_0 dX1_coverAgain_31 flX1_73 h.l.lt0 h.l.2.1 (h.l.f 0 (by decide)) ?_
  refine LW_iconst (v := 3) dX1_coverAgain_34 (by decide) ?_
  refine LW_lald dX1_coverAgain_35 (h.l.lt 1 (by decide)) h.l.2.2.1 rfl (by decide) (Nat.le_of_ble_eq_true rfl) ?_
  rw [show L (s + 1) 3 = aRu A 3 from h.ru (by decide)]
  refine LW_lmin dX1_coverAgain_36 mlX1_103 (by decide) ⟨Nat.le_refl _, Nat.le_refl _⟩ (Nat.le_of_ble_eq_true rfl) ?_
  refine LW_aloadn 0 dX1_coverAgain_39 rfl rfl ?_
  refine gX1_0 dX1_coverAgain_40 flX1_42 he.lt0 he.2.1 he.f0 ?_
  refine gX6_0 dX1_coverAgain_43 flX1_73 h.l.lt0 h.l.2.1 (h.l.f 0 (by decide)) ?_
  refine LW_iconst (v := 4) dX1_coverAgain_46 (by decide) ?_
  refine LW_lald dX1_coverAgain_47 (h.l.lt 1 (by decide)) h.l.2.2.1 rfl (by decide) (Nat.le_of_ble_eq_true rfl) ?_
  rw [show L (s + 1) 4 = aRu A 4 from h.ru (by decide)]
  refine LW_lmul dX1_coverAgain_48 ?_
  refine LW_ldc2 dX1_coverAgain_49 klX1_106 ?_
  refine LW_ldiv dX1_coverAgain_52 (by decide) ?_
  rw [show (((if (aRu A 3) < (cAbove A (L (e + 1) 0)) then (aRu A 3) else (cAbove A (L (e + 1) 0))) * (aRu A 4)) / 100) = cAgain A (L (e + 1) 0) from rfl]
  refine LW_last dX1_coverAgain_53 (he.lt 1 (by decide)) he.2.2.1 rfl (by decide) (Nat.le_of_ble_eq_true rfl) ?_
  generalize hL53 : hc_u L (e + 1) 1 (cAgain A (L (e + 1) 0)) = L53
  refine LW_aloadn 0 dX1_coverAgain_54 rfl rfl ?_
  refine gX1_2 dX1_coverAgain_55 flX1_9 he.lt0 he.2.1 he.f2 ?_
  refine LW_iconst (v := 2) dX1_coverAgain_58 (by decide) ?_
  refine LW_aloadn 0 dX1_coverAgain_59 rfl rfl ?_
  refine gX1_2 dX1_coverAgain_60 flX1_9 he.lt0 he.2.1 he.f2 ?_
  refine LW_iconst (v := 0) dX1_coverAgain_63 (by decide) ?_
  have hs1 : L53 (e + 1) 1 = cAgain A (L (e + 1) 0) := by rw [← hL53, hc_u_at, if_pos rfl]
  have hs0 : L53 (e + 1) 0 = L (e + 1) 0 := by rw [← hL53, hc_u_at, if_neg (by decide)]
  refine LW_lald dX1_coverAgain_64 (he.lt 1 (by decide)) he.2.2.1 rfl (by decide) (Nat.le_of_ble_eq_true rfl) ?_
  rw [show L53 (e + 1) 0 = L (e + 1) 0 from hs0]
  refine LW_aloadn 0 dX1_coverAgain_65 rfl rfl ?_
  refine gX1_2 dX1_coverAgain_66 flX1_9 he.lt0 he.2.1 he.f2 ?_
  refine LW_iconst (v := 1) dX1_coverAgain_69 (by decide) ?_
  refine LW_lald dX1_coverAgain_70 (he.lt 1 (by decide)) he.2.2.1 rfl (by decide) (Nat.le_of_ble_eq_true rfl) ?_
  rw [show L53 (e + 1) 1 = cAgain A (L (e + 1) 0) from hs1]
  refine LW_lsub dX1_coverAgain_71 ?_
  refine LW_last dX1_coverAgain_72 (he.lt 1 (by decide)) he.2.2.1 rfl (by decide) (Nat.le_of_ble_eq_true rfl) ?_
  generalize hL72 : hc_u L53 (e + 1) 2 ((L (e + 1) 0) - (cAgain A (L (e + 1) 0))) = L72
  refine LW_vret dX1_coverAgain_73 rfl (Nat.le_of_ble_eq_true rfl) (Nat.le_of_ble_eq_true rfl) ?_
  refine ⟨rfl, rfl, rfl, fun z hz => ?_, rfl, ?_, ?_, fun j h1 h2 => ?_⟩
  · rw [← hL72, hc_u_row _ _ _ _ hz, ← hL53, hc_u_row _ _ _ _ hz]
  · rw [← hL72, hc_u_at, if_neg (by decide), hs1]
  · rw [← hL72, hc_u_at, if_pos rfl]
  · rw [← hL72, hc_u_at, if_neg h2, ← hL53, hc_u_at, if_neg h1]
