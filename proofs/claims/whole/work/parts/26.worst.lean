/-! the Assessor: weigh, lossesWith, findWorst -/
def wCalm (A : AS) (P : LwP) (i : Nat) : Int64 := if aSt A i = true then aClaim A P i (aLost A i) else 0
def wHit (A : AS) (P : LwP) (str i : Nat) : Int64 := if aSt A i = true then aClaim A P i (min 100 (aLost A i + aHarm A str i)) else 0
def wJ (a l z : Nat) : Prop := z = l + 2 ∨ z = a + 1 ∨ z = a + 2
def Qw (a l : Nat) (A : AS) (P : LwP) (str : Nat) (Λ : hc_L) (I : hc_I) (L : hc_J) (R : hc_R) : hc_Q := fun r Λ' I' L' R' => r = none ∧ Λ = Λ' ∧ I = I' ∧ (∀ z, ¬ wJ a l z → L' z = L z) ∧ R = R' ∧ (∀ j, j < 24 → L' (a + 1) j = wCalm A P j) ∧ (∀ j, j < 24 → L' (a + 2) j = wHit A P str j)
theorem AsL.nj {Λ : hc_L} {a s l : Nat} (ha : AsL Λ a s l) (k : Nat) (hk : k < 18) : ¬ wJ a l (s + k) := by
  rintro (q | q | q)
  · exact ha.2.2.2.2.2.2.2.2.1 k hk q
  · exact (ha.2.2.2.2.2.2.2.2.2.1 k hk).1 q
  · exact (ha.2.2.2.2.2.2.2.2.2.1 k hk).2 q
set_option maxRecDepth 100000 in
theorem r_weigh {Λ : hc_L} {I : hc_I} {L : hc_J} {R : hc_R} {a s l : Nat} {A : AS} (ha : AsL Λ a s l) (h : St Λ I L R s A) {P : LwP} (hl : LwAt Λ I l P) (hP : lpOk P) {str : Nat} (hs : str ≤ 100) : Run xX0_weigh [.ref a, .int (nI str)] Λ I L R (Qw a l A P str Λ I L R) := by
  refine Run.of (by decide +kernel) (Nat.le_of_ble_eq_true rfl) ?_
  show LW _ _ _ [(0, .ref a), (1, .int (nI str))] _ _ _ _ _ _
  have hn := h.w.f
  have hla := ha.2.2.2.2.2.2.2.2.2.2
  refine LW_iconst (v := 0) dX0_weigh_0 (by decide) ?_
  refine LW_istoren (ls' := [(0, .ref a), (1, .int (nI str)), (2, .int 0)]) dX0_weigh_1 rfl (by decide) rfl ?_
  have loop : ∀ i, i ≤ 24 → ∀ L1 : hc_J, (∀ z, ¬ wJ a l z → L1 z = L z) → (∀ j, j < i → L1 (a + 1) j = wCalm A P j) → (∀ j, j < i → L1 (a + 2) j = wHit A P str j) → LW xX0_weigh (0, 0) 2 [(0, .ref a), (1, .int (nI str)), (2, .int (nI i))] [] Λ I L1 R (Qw a l A P str Λ I L R) := by
    refine hc_down ?_ ?_
    · intro L1 hL1 hc1 hh1
      refine LW_iloadn 2 dX0_weigh_2 rfl rfl ?_
      refine LW_bipush (v := 24) dX0_weigh_3 (by decide) ?_
      refine LW_icmp_ge (tgt := 94) dX0_weigh_5 (by decide) (fun c5 => ?_) (fun c5 => absurd (Int32.le_refl _) c5)
      refine LW_vret dX0_weigh_94 rfl (Nat.le_of_ble_eq_true rfl) (Nat.le_of_ble_eq_true rfl) ?_
      exact ⟨rfl, rfl, rfl, hL1, rfl, hc1, hh1⟩
    · intro i hi0 ih L1 hL1 hc1 hh1
      refine LW_iloadn 2 dX0_weigh_2 rfl rfl ?_
      refine LW_bipush (v := 24) dX0_weigh_3 (by decide) ?_
      refine LW_icmp_ge (tgt := 94) dX0_weigh_5 (by decide) (fun c5 => absurd c5 (hc_nle (by decide) (by omega) hi0)) (fun c5 => ?_)
      refine LW_aloadn 0 dX0_weigh_8 rfl rfl ?_
      refine gX0_2 dX0_weigh_9 flX0_9 ha.lt0 ha.2.1 ha.2.2.2.2.2.2.1 ?_
      refine LW_iloadn 2 dX0_weigh_12 rfl rfl ?_
      refine LW_lconst (v := 0) dX0_weigh_13 (by decide) ?_
      refine LW_last dX0_weigh_14 (ha.lt 1 (by decide)) ha.2.2.1 rfl (by omega) (Nat.le_of_ble_eq_true rfl) ?_
      generalize hL14 : hc_u L1 (a + 1) i 0 = L14
      refine LW_aloadn 0 dX0_weigh_15 rfl rfl ?_
      refine gX0_3 dX0_weigh_16 flX0_15 ha.lt0 ha.2.1 ha.2.2.2.2.2.2.2.1 ?_
      refine LW_iloadn 2 dX0_weigh_19 rfl rfl ?_
      refine LW_lconst (v := 0) dX0_weigh_20 (by decide) ?_
      refine LW_last dX0_weigh_21 (ha.lt 2 (by decide)) ha.2.2.2.1 rfl (by omega) (Nat.le_of_ble_eq_true rfl) ?_
      generalize hL21 : hc_u L14 (a + 2) i 0 = L21
      have e21 : ∀ z, ¬ wJ a l z → L21 z = L z := fun z hz => by
        rw [← hL21, hc_u_row _ _ _ _ (fun e => hz (Or.inr (Or.inr e))), ← hL14, hc_u_row _ _ _ _ (fun e => hz (Or.inr (Or.inl e)))]
        exact hL1 z hz
      have h1 : St Λ I L21 R s A := h.jk (fun k hk => e21 _ (ha.nj k hk))
      refine LW_aloadn 0 dX0_weigh_22 rfl rfl ?_
      refine gX0_0 dX0_weigh_23 flX0_18 ha.lt0 ha.2.1 ha.2.2.2.2.1 ?_
      refine LW_iloadn 2 dX0_weigh_26 rfl rfl ?_
      refine LW_callV (As := [.int (nI i)]) (b := s) (st := []) (ci := 6) (r := (RX6, TX6, 15)) (r_standsN h1 (by omega)) YX6_stands rfl dX0_weigh_27 mlX0_127 h.l.lt0 h.l.2.1 ⟨rfl, rfl⟩ (by decide) ⟨Nat.le_refl _, Nat.le_refl _⟩ (Nat.le_of_ble_eq_true rfl) rfl (fun r27 Λc27 Ic27 Lc27 Rc27 hq27 => ?_)
      obtain ⟨rfl, rfl, rfl, rfl, rfl⟩ := hq27
      refine LW_bif_eq (tgt := 88) dX0_weigh_30 (by decide) (fun c30 => ?_) (fun c30 => ?_)
      · refine LW_iinc (n := 2) (v := nI (i + 1)) (ls' := [(0, .ref a), (1, .int (nI str)), (2, .int (nI (i + 1)))]) dX0_weigh_88 rfl (hc_inc _) (by decide) rfl ?_
        refine LW_goto (tgt := 2) dX0_weigh_91 (by decide) ?_
        refine LW_ls [0, 1, 2] rfl ?_
        exact ih _ e21 (fun j hj => by
          subst hL21; subst hL14
          by_cases e : j = i
          · subst e
            simp [hc_u, wCalm, c30]
          · simp [hc_u, e]
            exact hc1 j (by omega)) (fun j hj => by
          subst hL21; subst hL14
          by_cases e : j = i
          · subst e
            simp [hc_u, wHit, c30]
          · simp [hc_u, e]
            exact hh1 j (by omega))
      · have hi := aSt_f c30
        obtain ⟨r, hr, hfd⟩ := h1.fd hi
        have hb := h.w.2.2.2.2.2.2.2.1 i hi
        have hlo : aLost A i ≤ 100 := Nat.min_le_left _ _
        have hhm := aHarm_le h.w (i := i) hs hb.2.2.2.1
        refine LW_aloadn 0 dX0_weigh_33 rfl rfl ?_
        refine gX0_0 dX0_weigh_34 flX0_18 ha.lt0 ha.2.1 ha.2.2.2.2.1 ?_
        refine gX6_7 dX0_weigh_37 flX0_116 h.l.lt0 h.l.2.1 (h.l.f 7 (by decide)) ?_
        refine LW_iloadn 2 dX0_weigh_40 rfl rfl ?_
        refine LW_aald4s (r := r) dX0_weigh_41 (h.l.lt 8 (by decide)) h.l.2.2.2.2.2.2.2.2.2.1 rfl (by omega) (Nat.le_of_ble_eq_true rfl) hr ?_
        refine LW_astoren (ls' := [(0, .ref a), (1, .int (nI str)), (2, .int (nI i)), (3, .ref r)]) dX0_weigh_42 rfl (by decide) rfl ?_
        refine LW_aloadn 0 dX0_weigh_43 rfl rfl ?_
        refine LW_aloadn 3 dX0_weigh_44 rfl rfl ?_
        refine LW_callV (As := [.ref r]) (b := a) (st := []) (ci := 0) (r := (RX0, TX0, 7)) (r_lost ha h1 hi hfd) YX0_lost rfl dX0_weigh_45 mlX0_120 ha.lt0 ha.2.1 ⟨rfl, rfl⟩ (by decide) ⟨Nat.le_refl _, Nat.le_refl _⟩ (Nat.le_of_ble_eq_true rfl) rfl (fun r45 Λc45 Ic45 Lc45 Rc45 hq45 => ?_)
        obtain ⟨rfl, rfl, rfl, rfl, rfl⟩ := hq45
        refine LW_istore (ls' := [(0, .ref a), (1, .int (nI str)), (2, .int (nI i)), (3, .ref r), (4, .int (nI (aLost A i)))]) dX0_weigh_48 (by decide) rfl ?_
        refine LW_aloadn 0 dX0_weigh_50 rfl rfl ?_
        refine gX0_2 dX0_weigh_51 flX0_9 ha.lt0 ha.2.1 ha.2.2.2.2.2.2.1 ?_
        refine LW_iloadn 2 dX0_weigh_54 rfl rfl ?_
        refine LW_aloadn 0 dX0_weigh_55 rfl rfl ?_
        refine LW_aloadn 3 dX0_weigh_56 rfl rfl ?_
        refine LW_iload 4 dX0_weigh_57 rfl ?_
        refine LW_callV (As := [.ref r, .int (nI (aLost A i))]) (b := a) (st := [.int (nI i), .ref (a + 1)]) (ci := 0) (r := (RX0, TX0, 7)) (r_claim ha h1 hl hP hi hfd (by omega)) YX0_claim rfl dX0_weigh_59 mlX0_124 ha.lt0 ha.2.1 ⟨rfl, rfl⟩ (by decide) ⟨Nat.le_refl _, Nat.le_refl _⟩ (Nat.le_of_ble_eq_true rfl) rfl (fun r59 Λc59 Ic59 Lc59 Rc59 hq59 => ?_)
        obtain ⟨rfl, rfl, rfl, hL59, rfl⟩ := hq59
        refine LW_last dX0_weigh_62 (ha.lt 1 (by decide)) ha.2.2.1 rfl (by omega) (Nat.le_of_ble_eq_true rfl) ?_
        generalize hL62 : hc_u Lc59 (a + 1) i (aClaim A P i (aLost A i)) = L62
        have e62 : ∀ z, ¬ wJ a l z → L62 z = L z := fun z hz => by
          rw [← hL62, hc_u_row _ _ _ _ (fun e => hz (Or.inr (Or.inl e))), hL59 _ (fun e => hz (Or.inl e))]
          exact e21 z hz
        have h1 : St Λ I L62 R s A := h.jk (fun k hk => e62 _ (ha.nj k hk))
        refine LW_aloadn 0 dX0_weigh_63 rfl rfl ?_
        refine gX0_3 dX0_weigh_64 flX0_15 ha.lt0 ha.2.1 ha.2.2.2.2.2.2.2.1 ?_
        refine LW_iloadn 2 dX0_weigh_67 rfl rfl ?_
        refine LW_aloadn 0 dX0_weigh_68 rfl rfl ?_
        refine LW_aloadn 3 dX0_weigh_69 rfl rfl ?_
        refine LW_bipush (v := 100) dX0_weigh_70 (by decide) ?_
        refine LW_iload 4 dX0_weigh_72 rfl ?_
        refine LW_aloadn 0 dX0_weigh_74 rfl rfl ?_
        refine LW_aloadn 3 dX0_weigh_75 rfl rfl ?_
        refine LW_iloadn 1 dX0_weigh_76 rfl rfl ?_
        refine LW_callV (As := [.ref r, .int (nI str)]) (b := a) (st := [.int (nI (aLost A i)), .int 100, .ref r, .ref a, .int (nI i), .ref (a + 2)]) (ci := 0) (r := (RX0, TX0, 7)) (r_harm ha h1 hi hfd hs) YX0_harm rfl dX0_weigh_77 mlX0_45 ha.lt0 ha.2.1 ⟨rfl, rfl⟩ (by decide) ⟨Nat.le_refl _, Nat.le_refl _⟩ (Nat.le_of_ble_eq_true rfl) rfl (fun r77 Λc77 Ic77 Lc77 Rc77 hq77 => ?_)
        obtain ⟨rfl, rfl, rfl, rfl, rfl⟩ := hq77
        refine LW_iadd dX0_weigh_80 ?_
        rw [show ((nI (aLost A i)) + (nI (aHarm A str i))) = nI (aLost A i + aHarm A str i) from nI_add _ _]
        refine LW_imin dX0_weigh_81 mlX0_49 (by decide) ⟨Nat.le_refl _, Nat.le_refl _⟩ (Nat.le_of_ble_eq_true rfl) ?_
        rw [show (if (nI (aLost A i + aHarm A str i)) < 100 then (nI (aLost A i + aHarm A str i)) else 100) = nI (min 100 (aLost A i + aHarm A str i)) from hc_min100 (by omega)]
        refine LW_callV (As := [.ref r, .int (nI (min 100 (aLost A i + aHarm A str i)))]) (b := a) (st := [.int (nI i), .ref (a + 2)]) (ci := 0) (r := (RX0, TX0, 7)) (r_claim ha h1 hl hP hi hfd (by omega)) YX0_claim rfl dX0_weigh_84 mlX0_124 ha.lt0 ha.2.1 ⟨rfl, rfl⟩ (by decide) ⟨Nat.le_refl _, Nat.le_refl _⟩ (Nat.le_of_ble_eq_true rfl) rfl (fun r84 Λc84 Ic84 Lc84 Rc84 hq84 => ?_)
        obtain ⟨rfl, rfl, rfl, hL84, rfl⟩ := hq84
        refine LW_last dX0_weigh_87 (ha.lt 2 (by decide)) ha.2.2.2.1 rfl (by omega) (Nat.le_of_ble_eq_true rfl) ?_
        generalize hL87 : hc_u Lc84 (a + 2) i (aClaim A P i (min 100 (aLost A i + aHarm A str i))) = L87
        have e87 : ∀ z, ¬ wJ a l z → L87 z = L z := fun z hz => by
          rw [← hL87, hc_u_row _ _ _ _ (fun e => hz (Or.inr (Or.inr e))), hL84 _ (fun e => hz (Or.inl e))]
          exact e62 z hz
        have h1 : St Λ I L87 R s A := h.jk (fun k hk => e87 _ (ha.nj k hk))
        refine LW_iinc (n := 2) (v := nI (i + 1)) (ls' := [(0, .ref a), (1, .int (nI str)), (2, .int (nI (i + 1))), (3, .ref r), (4, .int (nI (aLost A i)))]) dX0_weigh_88 rfl (hc_inc _) (by decide) rfl ?_
        refine LW_goto (tgt := 2) dX0_weigh_91 (by decide) ?_
        refine LW_ls [0, 1, 2] rfl ?_
        exact ih _ e87 (fun j hj => by
          subst hL87
          rw [hc_u_row _ _ _ _ (by omega), hL84 _ (by omega)]
          subst hL62
          by_cases e : j = i
          · subst e
            simp [hc_u, wCalm, c30]
          · simp [hc_u, e]
            rw [hL59 _ (by omega)]
            subst hL21; subst hL14
            simp [hc_u, e]
            exact hc1 j (by omega)) (fun j hj => by
          subst hL87
          by_cases e : j = i
          · subst e
            simp [hc_u, wHit, c30]
          · simp [hc_u, e]
            rw [hL84 _ (by omega)]
            subst hL62
            rw [hc_u_row _ _ _ _ (by omega), hL59 _ (by omega)]
            subst hL21; subst hL14
            simp [hc_u, e]
            exact hh1 j (by omega))
  exact loop 0 (Nat.zero_le _) L (fun _ _ => rfl) (fun j hj => absurd hj (Nat.not_lt_zero _)) (fun j hj => absurd hj (Nat.not_lt_zero _))
def abWith (A : AS) (cm ht : Nat → Int64) (g : Nat → Nat) : Nat → Int64 := sumJ (fun i => if aOv g (aFd A i) = true then ht i else cm i)
set_option maxRecDepth 100000 in
theorem r_lossesWith {Λ : hc_L} {I : hc_I} {L : hc_J} {R : hc_R} {a s l : Nat} {A : AS} (ha : AsL Λ a s l) (h : St Λ I L R s A) {g : Nat → Nat} (hg : g 0 < 8 ∧ g 1 < 8 ∧ g 2 < 8 ∧ g 3 < 8) : Run xX0_lossesWith [.ref a, .int (nI (g 0)), .int (nI (g 1)), .int (nI (g 2)), .int (nI (g 3))] Λ I L R (Qr (some (.long (abWith A (L (a + 1)) (L (a + 2)) g (aF A)))) Λ I L R) := by
  refine Run.of (by decide +kernel) (Nat.le_of_ble_eq_true rfl) ?_
  show LW _ _ _ [(0, .ref a), (1, .int (nI (g 0))), (2, .int (nI (g 1))), (3, .int (nI (g 2))), (4, .int (nI (g 3)))] _ _ _ _ _ _
  have hn := h.w.f
  refine LW_lconst (v := 0) dX0_lossesWith_0 (by decide) ?_
  refine LW_lstore (ls' := [(0, .ref a), (1, .int (nI (g 0))), (2, .int (nI (g 1))), (3, .int (nI (g 2))), (4, .int (nI (g 3))), (5, .long 0)]) dX0_lossesWith_1 (by decide) rfl ?_
  refine LW_iconst (v := 0) dX0_lossesWith_3 (by decide) ?_
  refine LW_istore (ls' := [(0, .ref a), (1, .int (nI (g 0))), (2, .int (nI (g 1))), (3, .int (nI (g 2))), (4, .int (nI (g 3))), (5, .long 0), (7, .int 0)]) dX0_lossesWith_4 (by decide) rfl ?_
  have loop : ∀ i, i ≤ aF A → LW xX0_lossesWith (0, 0) 6 [(0, .ref a), (1, .int (nI (g 0))), (2, .int (nI (g 1))), (3, .int (nI (g 2))), (4, .int (nI (g 3))), (5, .long (abWith A (L (a + 1)) (L (a + 2)) g i)), (7, .int (nI i))] [] Λ I L R (Qr (some (.long (abWith A (L (a + 1)) (L (a + 2)) g (aF A)))) Λ I L R) := by
    refine hc_down ?_ ?_
    · refine LW_iload 6 dX0_lossesWith_6 rfl ?_
      refine LW_aloadn 0 dX0_lossesWith_8 rfl rfl ?_
      refine gX0_0 dX0_lossesWith_9 flX0_18 ha.lt0 ha.2.1 ha.2.2.2.2.1 ?_
      refine gX6_12 dX0_lossesWith_12 flX0_109 h.l.lt0 h.l.2.1 ?_
      rw [show I s 12 = nI (aF A) from h.fc]
      refine LW_icmp_ge (tgt := 119) dX0_lossesWith_15 (by decide) (fun c15 => ?_) (fun c15 => absurd (Int32.le_refl _) c15)
      refine LW_lload 5 dX0_lossesWith_119 rfl ?_
      refine LW_lret dX0_lossesWith_121 rfl (Nat.le_of_ble_eq_true rfl) (Nat.le_of_ble_eq_true rfl) ?_
      exact Qr.mk rfl
    · intro i hi ih
      refine LW_iload 6 dX0_lossesWith_6 rfl ?_
      refine LW_aloadn 0 dX0_lossesWith_8 rfl rfl ?_
      refine gX0_0 dX0_lossesWith_9 flX0_18 ha.lt0 ha.2.1 ha.2.2.2.2.1 ?_
      refine gX6_12 dX0_lossesWith_12 flX0_109 h.l.lt0 h.l.2.1 ?_
      rw [show I s 12 = nI (aF A) from h.fc]
      refine LW_icmp_ge (tgt := 119) dX0_lossesWith_15 (by decide) (fun c15 => absurd c15 (hc_nle (by omega) (by omega) hi)) (fun c15 => ?_)
      refine LW_iload 6 dX0_lossesWith_18 rfl ?_
      refine LW_bipush (v := 24) dX0_lossesWith_20 (by decide) ?_
      refine LW_icmp_ge (tgt := 119) dX0_lossesWith_22 (by decide) (fun c22 => absurd c22 (hc_nle (a := 24) (by omega) (by omega) (by omega))) (fun c22 => ?_)
      obtain ⟨r, hr, hfd⟩ := h.fd hi
      have hb := h.w.2.2.2.2.2.2.2.1 i hi
      refine LW_aloadn 0 dX0_lossesWith_25 rfl rfl ?_
      refine gX0_0 dX0_lossesWith_26 flX0_18 ha.lt0 ha.2.1 ha.2.2.2.2.1 ?_
      refine gX6_7 dX0_lossesWith_29 flX0_116 h.l.lt0 h.l.2.1 (h.l.f 7 (by decide)) ?_
      refine LW_iload 6 dX0_lossesWith_32 rfl ?_
      refine LW_aald4s (r := r) dX0_lossesWith_34 (h.l.lt 8 (by decide)) h.l.2.2.2.2.2.2.2.2.2.1 rfl (by omega) (Nat.le_of_ble_eq_true rfl) hr ?_
      refine LW_astore (ls' := [(0, .ref a), (1, .int (nI (g 0))), (2, .int (nI (g 1))), (3, .int (nI (g 2))), (4, .int (nI (g 3))), (5, .long (abWith A (L (a + 1)) (L (a + 2)) g i)), (7, .int (nI i)), (8, .ref r)]) dX0_lossesWith_35 (by decide) rfl ?_
      refine LW_aload 7 dX0_lossesWith_37 rfl ?_
      refine LW_ifnull dX0_lossesWith_39 ?_
      refine LW_aload 7 dX0_lossesWith_42 rfl ?_
      refine gX2_1 dX0_lossesWith_44 flX0_80 hfd.1 hfd.2.1 ?_
      rw [show I r 1 = nI (aFd A i 1) from hfd.2.2 1 (by decide)]
      refine LW_iloadn 1 dX0_lossesWith_47 rfl rfl ?_
      refine LW_icmp_lt (tgt := 83) dX0_lossesWith_48 (by decide) (fun c48 => ?_) (fun c48 => ?_)
      · refine LW_iconst (v := 0) dX0_lossesWith_83 (by decide) ?_
        have hov : aOv g (aFd A i) = false := by
          simp only [hc_lt (show aFd A i 1 < 2 ^ 31 by omega) (show g 0 < 2 ^ 31 by omega), hc_lt (show aFd A i 2 < 2 ^ 31 by omega) (show g 1 < 2 ^ 31 by omega), hc_lt (show g 2 < 2 ^ 31 by omega) (show aFd A i 1 < 2 ^ 31 by omega), hc_lt (show g 3 < 2 ^ 31 by omega) (show aFd A i 2 < 2 ^ 31 by omega)] at *
          rw [← Bool.not_eq_true]
          simp only [aOv, Bool.and_eq_true, decide_eq_true_eq]
          omega
        refine LW_istore (ls' := [(0, .ref a), (1, .int (nI (g 0))), (2, .int (nI (g 1))), (3, .int (nI (g 2))), (4, .int (nI (g 3))), (5, .long (abWith A (L (a + 1)) (L (a + 2)) g i)), (7, .int (nI i)), (8, .ref r), (9, .int 0)]) dX0_lossesWith_84 (by decide) rfl ?_
        refine LW_lload 5 dX0_lossesWith_86 rfl ?_
        refine LW_iload 8 dX0_lossesWith_88 rfl ?_
        refine LW_if_eq (tgt := 103) dX0_lossesWith_90 (by decide) (fun c90 => ?_) (fun c90 => absurd rfl c90)
        refine LW_aloadn 0 dX0_lossesWith_103 rfl rfl ?_
        refine gX0_2 dX0_lossesWith_104 flX0_9 ha.lt0 ha.2.1 ha.2.2.2.2.2.2.1 ?_
        refine LW_iload 6 dX0_lossesWith_107 rfl ?_
        refine LW_lald dX0_lossesWith_109 (ha.lt 1 (by decide)) ha.2.2.1 rfl (by omega) (Nat.le_of_ble_eq_true rfl) ?_
        refine LW_ladd dX0_lossesWith_110 ?_
        refine LW_lstore (ls' := [(0, .ref a), (1, .int (nI (g 0))), (2, .int (nI (g 1))), (3, .int (nI (g 2))), (4, .int (nI (g 3))), (5, .long ((abWith A (L (a + 1)) (L (a + 2)) g i) + (L (a + 1) i))), (7, .int (nI i)), (8, .ref r), (9, .int 0)]) dX0_lossesWith_111 (by decide) rfl ?_
        refine LW_iinc (n := 6) (v := nI (i + 1)) (ls' := [(0, .ref a), (1, .int (nI (g 0))), (2, .int (nI (g 1))), (3, .int (nI (g 2))), (4, .int (nI (g 3))), (5, .long ((abWith A (L (a + 1)) (L (a + 2)) g i) + (L (a + 1) i))), (7, .int (nI (i + 1))), (8, .ref r), (9, .int 0)]) dX0_lossesWith_113 rfl (hc_inc _) (by decide) rfl ?_
        refine LW_goto (tgt := 6) dX0_lossesWith_116 (by decide) ?_
        refine LW_ls [0, 1, 2, 3, 4, 5, 6] rfl ?_
        exact hc_lsc (by simp [lv_pick, abWith, sumJ, hov]) ih
      · refine LW_aload 7 dX0_lossesWith_51 rfl ?_
        refine gX2_1 dX0_lossesWith_53 flX0_80 hfd.1 hfd.2.1 ?_
        rw [show I r 1 = nI (aFd A i 1) from hfd.2.2 1 (by decide)]
        refine LW_iloadn 3 dX0_lossesWith_56 rfl rfl ?_
        refine LW_icmp_gt (tgt := 83) dX0_lossesWith_57 (by decide) (fun c57 => ?_) (fun c57 => ?_)
        · refine LW_iconst (v := 0) dX0_lossesWith_83 (by decide) ?_
          have hov : aOv g (aFd A i) = false := by
            simp only [hc_lt (show aFd A i 1 < 2 ^ 31 by omega) (show g 0 < 2 ^ 31 by omega), hc_lt (show aFd A i 2 < 2 ^ 31 by omega) (show g 1 < 2 ^ 31 by omega), hc_lt (show g 2 < 2 ^ 31 by omega) (show aFd A i 1 < 2 ^ 31 by omega), hc_lt (show g 3 < 2 ^ 31 by omega) (show aFd A i 2 < 2 ^ 31 by omega)] at *
            rw [← Bool.not_eq_true]
            simp only [aOv, Bool.and_eq_true, decide_eq_true_eq]
            omega
          refine LW_istore (ls' := [(0, .ref a), (1, .int (nI (g 0))), (2, .int (nI (g 1))), (3, .int (nI (g 2))), (4, .int (nI (g 3))), (5, .long (abWith A (L (a + 1)) (L (a + 2)) g i)), (7, .int (nI i)), (8, .ref r), (9, .int 0)]) dX0_lossesWith_84 (by decide) rfl ?_
          refine LW_lload 5 dX0_lossesWith_86 rfl ?_
          refine LW_iload 8 dX0_lossesWith_88 rfl ?_
          refine LW_if_eq (tgt := 103) dX0_lossesWith_90 (by decide) (fun c90 => ?_) (fun c90 => absurd rfl c90)
          refine LW_aloadn 0 dX0_lossesWith_103 rfl rfl ?_
          refine gX0_2 dX0_lossesWith_104 flX0_9 ha.lt0 ha.2.1 ha.2.2.2.2.2.2.1 ?_
          refine LW_iload 6 dX0_lossesWith_107 rfl ?_
          refine LW_lald dX0_lossesWith_109 (ha.lt 1 (by decide)) ha.2.2.1 rfl (by omega) (Nat.le_of_ble_eq_true rfl) ?_
          refine LW_ladd dX0_lossesWith_110 ?_
          refine LW_lstore (ls' := [(0, .ref a), (1, .int (nI (g 0))), (2, .int (nI (g 1))), (3, .int (nI (g 2))), (4, .int (nI (g 3))), (5, .long ((abWith A (L (a + 1)) (L (a + 2)) g i) + (L (a + 1) i))), (7, .int (nI i)), (8, .ref r), (9, .int 0)]) dX0_lossesWith_111 (by decide) rfl ?_
          refine LW_iinc (n := 6) (v := nI (i + 1)) (ls' := [(0, .ref a), (1, .int (nI (g 0))), (2, .int (nI (g 1))), (3, .int (nI (g 2))), (4, .int (nI (g 3))), (5, .long ((abWith A (L (a + 1)) (L (a + 2)) g i) + (L (a + 1) i))), (7, .int (nI (i + 1))), (8, .ref r), (9, .int 0)]) dX0_lossesWith_113 rfl (hc_inc _) (by decide) rfl ?_
          refine LW_goto (tgt := 6) dX0_lossesWith_116 (by decide) ?_
          refine LW_ls [0, 1, 2, 3, 4, 5, 6] rfl ?_
          exact hc_lsc (by simp [lv_pick, abWith, sumJ, hov]) ih
        · refine LW_aload 7 dX0_lossesWith_60 rfl ?_
          refine gX2_2 dX0_lossesWith_62 flX0_83 hfd.1 hfd.2.1 ?_
          rw [show I r 2 = nI (aFd A i 2) from hfd.2.2 2 (by decide)]
          refine LW_iloadn 2 dX0_lossesWith_65 rfl rfl ?_
          refine LW_icmp_lt (tgt := 83) dX0_lossesWith_66 (by decide) (fun c66 => ?_) (fun c66 => ?_)
          · refine LW_iconst (v := 0) dX0_lossesWith_83 (by decide) ?_
            have hov : aOv g (aFd A i) = false := by
              simp only [hc_lt (show aFd A i 1 < 2 ^ 31 by omega) (show g 0 < 2 ^ 31 by omega), hc_lt (show aFd A i 2 < 2 ^ 31 by omega) (show g 1 < 2 ^ 31 by omega), hc_lt (show g 2 < 2 ^ 31 by omega) (show aFd A i 1 < 2 ^ 31 by omega), hc_lt (show g 3 < 2 ^ 31 by omega) (show aFd A i 2 < 2 ^ 31 by omega)] at *
              rw [← Bool.not_eq_true]
              simp only [aOv, Bool.and_eq_true, decide_eq_true_eq]
              omega
            refine LW_istore (ls' := [(0, .ref a), (1, .int (nI (g 0))), (2, .int (nI (g 1))), (3, .int (nI (g 2))), (4, .int (nI (g 3))), (5, .long (abWith A (L (a + 1)) (L (a + 2)) g i)), (7, .int (nI i)), (8, .ref r), (9, .int 0)]) dX0_lossesWith_84 (by decide) rfl ?_
            refine LW_lload 5 dX0_lossesWith_86 rfl ?_
            refine LW_iload 8 dX0_lossesWith_88 rfl ?_
            refine LW_if_eq (tgt := 103) dX0_lossesWith_90 (by decide) (fun c90 => ?_) (fun c90 => absurd rfl c90)
            refine LW_aloadn 0 dX0_lossesWith_103 rfl rfl ?_
            refine gX0_2 dX0_lossesWith_104 flX0_9 ha.lt0 ha.2.1 ha.2.2.2.2.2.2.1 ?_
            refine LW_iload 6 dX0_lossesWith_107 rfl ?_
            refine LW_lald dX0_lossesWith_109 (ha.lt 1 (by decide)) ha.2.2.1 rfl (by omega) (Nat.le_of_ble_eq_true rfl) ?_
            refine LW_ladd dX0_lossesWith_110 ?_
            refine LW_lstore (ls' := [(0, .ref a), (1, .int (nI (g 0))), (2, .int (nI (g 1))), (3, .int (nI (g 2))), (4, .int (nI (g 3))), (5, .long ((abWith A (L (a + 1)) (L (a + 2)) g i) + (L (a + 1) i))), (7, .int (nI i)), (8, .ref r), (9, .int 0)]) dX0_lossesWith_111 (by decide) rfl ?_
            refine LW_iinc (n := 6) (v := nI (i + 1)) (ls' := [(0, .ref a), (1, .int (nI (g 0))), (2, .int (nI (g 1))), (3, .int (nI (g 2))), (4, .int (nI (g 3))), (5, .long ((abWith A (L (a + 1)) (L (a + 2)) g i) + (L (a + 1) i))), (7, .int (nI (i + 1))), (8, .ref r), (9, .int 0)]) dX0_lossesWith_113 rfl (hc_inc _) (by decide) rfl ?_
            refine LW_goto (tgt := 6) dX0_lossesWith_116 (by decide) ?_
            refine LW_ls [0, 1, 2, 3, 4, 5, 6] rfl ?_
            exact hc_lsc (by simp [lv_pick, abWith, sumJ, hov]) ih
          · refine LW_aload 7 dX0_lossesWith_69 rfl ?_
            refine gX2_2 dX0_lossesWith_71 flX0_83 hfd.1 hfd.2.1 ?_
            rw [show I r 2 = nI (aFd A i 2) from hfd.2.2 2 (by decide)]
            refine LW_iload 4 dX0_lossesWith_74 rfl ?_
            refine LW_icmp_gt (tgt := 83) dX0_lossesWith_76 (by decide) (fun c76 => ?_) (fun c76 => ?_)
            · refine LW_iconst (v := 0) dX0_lossesWith_83 (by decide) ?_
              have hov : aOv g (aFd A i) = false := by
                simp only [hc_lt (show aFd A i 1 < 2 ^ 31 by omega) (show g 0 < 2 ^ 31 by omega), hc_lt (show aFd A i 2 < 2 ^ 31 by omega) (show g 1 < 2 ^ 31 by omega), hc_lt (show g 2 < 2 ^ 31 by omega) (show aFd A i 1 < 2 ^ 31 by omega), hc_lt (show g 3 < 2 ^ 31 by omega) (show aFd A i 2 < 2 ^ 31 by omega)] at *
                rw [← Bool.not_eq_true]
                simp only [aOv, Bool.and_eq_true, decide_eq_true_eq]
                omega
              refine LW_istore (ls' := [(0, .ref a), (1, .int (nI (g 0))), (2, .int (nI (g 1))), (3, .int (nI (g 2))), (4, .int (nI (g 3))), (5, .long (abWith A (L (a + 1)) (L (a + 2)) g i)), (7, .int (nI i)), (8, .ref r), (9, .int 0)]) dX0_lossesWith_84 (by decide) rfl ?_
              refine LW_lload 5 dX0_lossesWith_86 rfl ?_
              refine LW_iload 8 dX0_lossesWith_88 rfl ?_
              refine LW_if_eq (tgt := 103) dX0_lossesWith_90 (by decide) (fun c90 => ?_) (fun c90 => absurd rfl c90)
              refine LW_aloadn 0 dX0_lossesWith_103 rfl rfl ?_
              refine gX0_2 dX0_lossesWith_104 flX0_9 ha.lt0 ha.2.1 ha.2.2.2.2.2.2.1 ?_
              refine LW_iload 6 dX0_lossesWith_107 rfl ?_
              refine LW_lald dX0_lossesWith_109 (ha.lt 1 (by decide)) ha.2.2.1 rfl (by omega) (Nat.le_of_ble_eq_true rfl) ?_
              refine LW_ladd dX0_lossesWith_110 ?_
              refine LW_lstore (ls' := [(0, .ref a), (1, .int (nI (g 0))), (2, .int (nI (g 1))), (3, .int (nI (g 2))), (4, .int (nI (g 3))), (5, .long ((abWith A (L (a + 1)) (L (a + 2)) g i) + (L (a + 1) i))), (7, .int (nI i)), (8, .ref r), (9, .int 0)]) dX0_lossesWith_111 (by decide) rfl ?_
              refine LW_iinc (n := 6) (v := nI (i + 1)) (ls' := [(0, .ref a), (1, .int (nI (g 0))), (2, .int (nI (g 1))), (3, .int (nI (g 2))), (4, .int (nI (g 3))), (5, .long ((abWith A (L (a + 1)) (L (a + 2)) g i) + (L (a + 1) i))), (7, .int (nI (i + 1))), (8, .ref r), (9, .int 0)]) dX0_lossesWith_113 rfl (hc_inc _) (by decide) rfl ?_
              refine LW_goto (tgt := 6) dX0_lossesWith_116 (by decide) ?_
              refine LW_ls [0, 1, 2, 3, 4, 5, 6] rfl ?_
              exact hc_lsc (by simp [lv_pick, abWith, sumJ, hov]) ih
            · refine LW_iconst (v := 1) dX0_lossesWith_79 (by decide) ?_
              refine LW_goto (tgt := 84) dX0_lossesWith_80 (by decide) ?_
              have hov : aOv g (aFd A i) = true := by
                have q1 := hc_le (show g 0 < 2 ^ 31 by omega) (show aFd A i 1 < 2 ^ 31 by omega)
                simp only [hc_lt (show aFd A i 1 < 2 ^ 31 by omega) (show g 0 < 2 ^ 31 by omega), hc_lt (show aFd A i 2 < 2 ^ 31 by omega) (show g 1 < 2 ^ 31 by omega), hc_lt (show g 2 < 2 ^ 31 by omega) (show aFd A i 1 < 2 ^ 31 by omega), hc_lt (show g 3 < 2 ^ 31 by omega) (show aFd A i 2 < 2 ^ 31 by omega)] at *
                simp only [aOv, Bool.and_eq_true, decide_eq_true_eq]
                omega
              refine LW_istore (ls' := [(0, .ref a), (1, .int (nI (g 0))), (2, .int (nI (g 1))), (3, .int (nI (g 2))), (4, .int (nI (g 3))), (5, .long (abWith A (L (a + 1)) (L (a + 2)) g i)), (7, .int (nI i)), (8, .ref r), (9, .int 1)]) dX0_lossesWith_84 (by decide) rfl ?_
              refine LW_lload 5 dX0_lossesWith_86 rfl ?_
              refine LW_iload 8 dX0_lossesWith_88 rfl ?_
              refine LW_if_eq (tgt := 103) dX0_lossesWith_90 (by decide) (fun c90 => absurd c90 (by decide)) (fun c90 => ?_)
              refine LW_aloadn 0 dX0_lossesWith_93 rfl rfl ?_
              refine gX0_3 dX0_lossesWith_94 flX0_15 ha.lt0 ha.2.1 ha.2.2.2.2.2.2.2.1 ?_
              refine LW_iload 6 dX0_lossesWith_97 rfl ?_
              refine LW_lald dX0_lossesWith_99 (ha.lt 2 (by decide)) ha.2.2.2.1 rfl (by omega) (Nat.le_of_ble_eq_true rfl) ?_
              refine LW_goto (tgt := 110) dX0_lossesWith_100 (by decide) ?_
              refine LW_ladd dX0_lossesWith_110 ?_
              refine LW_lstore (ls' := [(0, .ref a), (1, .int (nI (g 0))), (2, .int (nI (g 1))), (3, .int (nI (g 2))), (4, .int (nI (g 3))), (5, .long ((abWith A (L (a + 1)) (L (a + 2)) g i) + (L (a + 2) i))), (7, .int (nI i)), (8, .ref r), (9, .int 1)]) dX0_lossesWith_111 (by decide) rfl ?_
              refine LW_iinc (n := 6) (v := nI (i + 1)) (ls' := [(0, .ref a), (1, .int (nI (g 0))), (2, .int (nI (g 1))), (3, .int (nI (g 2))), (4, .int (nI (g 3))), (5, .long ((abWith A (L (a + 1)) (L (a + 2)) g i) + (L (a + 2) i))), (7, .int (nI (i + 1))), (8, .ref r), (9, .int 1)]) dX0_lossesWith_113 rfl (hc_inc _) (by decide) rfl ?_
              refine LW_goto (tgt := 6) dX0_lossesWith_116 (by decide) ?_
              refine LW_ls [0, 1, 2, 3, 4, 5, 6] rfl ?_
              exact hc_lsc (by simp [lv_pick, abWith, sumJ, hov]) ih
  exact loop 0 (Nat.zero_le _)
