/-! the Assessor: sums of claims, the worst storm's parts -/
set_option maxRecDepth 100000 in
theorem r_claimsOf {Λ : hc_L} {I : hc_I} {L : hc_J} {R : hc_R} {a s l : Nat} {A : AS} (ha : AsL Λ a s l) (h : St Λ I L R s A) {P : LwP} (hl : LwAt Λ I l P) (hP : lpOk P) {k : Nat} (hk : k < 2 ^ 31) : Run xX0_claimsOf [.ref a, .int (nI k)] Λ I L R (Qj (fun z => z = l + 2) (some (.long (abClaims A P k (aF A)))) Λ I L R) := by
  refine Run.of (by decide +kernel) (Nat.le_of_ble_eq_true rfl) ?_
  show LW _ _ _ [(0, .ref a), (1, .int (nI k))] _ _ _ _ _ _
  have hn := h.w.f
  refine LW_lconst (v := 0) dX0_claimsOf_0 (by decide) ?_
  refine LW_lstoren (ls' := [(0, .ref a), (1, .int (nI k)), (2, .long 0)]) dX0_claimsOf_1 rfl (by decide) rfl ?_
  refine LW_iconst (v := 0) dX0_claimsOf_2 (by decide) ?_
  refine LW_istore (ls' := [(0, .ref a), (1, .int (nI k)), (2, .long 0), (4, .int 0)]) dX0_claimsOf_3 (by decide) rfl ?_
  have loop : ∀ i, i ≤ aF A → ∀ L1 : hc_J, (∀ z, ¬ z = l + 2 → L1 z = L z) → LW xX0_claimsOf (0, 0) 5 [(0, .ref a), (1, .int (nI k)), (2, .long (abClaims A P k i)), (4, .int (nI i))] [] Λ I L1 R (Qj (fun z => z = l + 2) (some (.long (abClaims A P k (aF A)))) Λ I L R) := by
    refine hc_down ?_ ?_
    · intro L1 hL1
      have h1 : St Λ I L1 R s A := h.jk (fun k hk => hL1 _ (ha.2.2.2.2.2.2.2.2.1 k hk))
      refine LW_iload 3 dX0_claimsOf_5 rfl ?_
      refine LW_aloadn 0 dX0_claimsOf_7 rfl rfl ?_
      refine gX0_0 dX0_claimsOf_8 flX0_18 ha.lt0 ha.2.1 ha.2.2.2.2.1 ?_
      refine gX6_12 dX0_claimsOf_11 flX0_109 h.l.lt0 h.l.2.1 ?_
      rw [show I s 12 = nI (aF A) from h.fc]
      refine LW_icmp_ge (tgt := 67) dX0_claimsOf_14 (by decide) (fun c14 => ?_) (fun c14 => absurd (Int32.le_refl _) c14)
      refine LW_lloadn 2 dX0_claimsOf_67 rfl rfl ?_
      refine LW_lret dX0_claimsOf_68 rfl (Nat.le_of_ble_eq_true rfl) (Nat.le_of_ble_eq_true rfl) ?_
      exact Qj.mk rfl hL1
    · intro i hi0 ih L1 hL1
      have h1 : St Λ I L1 R s A := h.jk (fun k hk => hL1 _ (ha.2.2.2.2.2.2.2.2.1 k hk))
      refine LW_iload 3 dX0_claimsOf_5 rfl ?_
      refine LW_aloadn 0 dX0_claimsOf_7 rfl rfl ?_
      refine gX0_0 dX0_claimsOf_8 flX0_18 ha.lt0 ha.2.1 ha.2.2.2.2.1 ?_
      refine gX6_12 dX0_claimsOf_11 flX0_109 h.l.lt0 h.l.2.1 ?_
      rw [show I s 12 = nI (aF A) from h.fc]
      refine LW_icmp_ge (tgt := 67) dX0_claimsOf_14 (by decide) (fun c14 => absurd c14 (hc_nle (by omega) (by omega) hi0)) (fun c14 => ?_)
      refine LW_aloadn 0 dX0_claimsOf_17 rfl rfl ?_
      refine gX0_0 dX0_claimsOf_18 flX0_18 ha.lt0 ha.2.1 ha.2.2.2.2.1 ?_
      refine LW_iload 3 dX0_claimsOf_21 rfl ?_
      refine LW_iloadn 1 dX0_claimsOf_23 rfl rfl ?_
      refine LW_callV (As := [.int (nI i), .int (nI k)]) (b := s) (st := []) (ci := 6) (r := (RX6, TX6, 15)) (r_standsForN h1 (by omega) hk) YX6_standsFor rfl dX0_claimsOf_24 mlX0_112 h.l.lt0 h.l.2.1 ⟨rfl, rfl⟩ (by decide) ⟨Nat.le_refl _, Nat.le_refl _⟩ (Nat.le_of_ble_eq_true rfl) rfl (fun r24 Λc24 Ic24 Lc24 Rc24 hq24 => ?_)
      obtain ⟨rfl, rfl, rfl, rfl, rfl⟩ := hq24
      refine LW_bif_eq (tgt := 61) dX0_claimsOf_27 (by decide) (fun c27 => ?_) (fun c27 => ?_)
      · refine LW_iinc (n := 3) (v := nI (i + 1)) (ls' := [(0, .ref a), (1, .int (nI k)), (2, .long (abClaims A P k i)), (4, .int (nI (i + 1)))]) dX0_claimsOf_61 rfl (hc_inc _) (by decide) rfl ?_
        refine LW_goto (tgt := 5) dX0_claimsOf_64 (by decide) ?_
        exact hc_lsc (by simp [abClaims, sumJ, c27]) (ih _ hL1)
      · have hi := aSt_f (aSf_s c27)
        obtain ⟨r, hr, hfd⟩ := h1.fd hi
        have hlo : aLost A i ≤ 100 := Nat.min_le_left _ _
        refine LW_lloadn 2 dX0_claimsOf_30 rfl rfl ?_
        refine LW_aloadn 0 dX0_claimsOf_31 rfl rfl ?_
        refine LW_aloadn 0 dX0_claimsOf_32 rfl rfl ?_
        refine gX0_0 dX0_claimsOf_33 flX0_18 ha.lt0 ha.2.1 ha.2.2.2.2.1 ?_
        refine gX6_7 dX0_claimsOf_36 flX0_116 h.l.lt0 h.l.2.1 (h.l.f 7 (by decide)) ?_
        refine LW_iload 3 dX0_claimsOf_39 rfl ?_
        refine LW_aald4s (r := r) dX0_claimsOf_41 (h.l.lt 8 (by decide)) h.l.2.2.2.2.2.2.2.2.2.1 rfl (by omega) (Nat.le_of_ble_eq_true rfl) hr ?_
        refine LW_aloadn 0 dX0_claimsOf_42 rfl rfl ?_
        refine LW_aloadn 0 dX0_claimsOf_43 rfl rfl ?_
        refine gX0_0 dX0_claimsOf_44 flX0_18 ha.lt0 ha.2.1 ha.2.2.2.2.1 ?_
        refine gX6_7 dX0_claimsOf_47 flX0_116 h.l.lt0 h.l.2.1 (h.l.f 7 (by decide)) ?_
        refine LW_iload 3 dX0_claimsOf_50 rfl ?_
        refine LW_aald4s (r := r) dX0_claimsOf_52 (h.l.lt 8 (by decide)) h.l.2.2.2.2.2.2.2.2.2.1 rfl (by omega) (Nat.le_of_ble_eq_true rfl) hr ?_
        refine LW_callV (As := [.ref r]) (b := a) (st := [.ref r, .ref a, .long (abClaims A P k i)]) (ci := 0) (r := (RX0, TX0, 7)) (r_lost ha h1 hi hfd) YX0_lost rfl dX0_claimsOf_53 mlX0_120 ha.lt0 ha.2.1 ⟨rfl, rfl⟩ (by decide) ⟨Nat.le_refl _, Nat.le_refl _⟩ (Nat.le_of_ble_eq_true rfl) rfl (fun r53 Λc53 Ic53 Lc53 Rc53 hq53 => ?_)
        obtain ⟨rfl, rfl, rfl, rfl, rfl⟩ := hq53
        refine LW_callV (As := [.ref r, .int (nI (aLost A i))]) (b := a) (st := [.long (abClaims A P k i)]) (ci := 0) (r := (RX0, TX0, 7)) (r_claim ha h1 hl hP hi hfd (by omega)) YX0_claim rfl dX0_claimsOf_56 mlX0_124 ha.lt0 ha.2.1 ⟨rfl, rfl⟩ (by decide) ⟨Nat.le_refl _, Nat.le_refl _⟩ (Nat.le_of_ble_eq_true rfl) rfl (fun r56 Λc56 Ic56 Lc56 Rc56 hq56 => ?_)
        obtain ⟨rfl, rfl, rfl, hL56, rfl⟩ := hq56
        refine LW_ladd dX0_claimsOf_59 ?_
        refine LW_lstoren (ls' := [(0, .ref a), (1, .int (nI k)), (2, .long ((abClaims A P k i) + (aClaim A P i (aLost A i)))), (4, .int (nI i))]) dX0_claimsOf_60 rfl (by decide) rfl ?_
        refine LW_iinc (n := 3) (v := nI (i + 1)) (ls' := [(0, .ref a), (1, .int (nI k)), (2, .long ((abClaims A P k i) + (aClaim A P i (aLost A i)))), (4, .int (nI (i + 1)))]) dX0_claimsOf_61 rfl (hc_inc _) (by decide) rfl ?_
        refine LW_goto (tgt := 5) dX0_claimsOf_64 (by decide) ?_
        exact hc_lsc (by simp [abClaims, sumJ, c27]) (ih _ (fun z hz => (hL56 z hz).trans (hL1 z hz)))
  exact loop 0 (Nat.zero_le _) L (fun _ _ => rfl)
def aOneB (A : AS) (g : Nat → Nat) (c i : Nat) : Bool := aSt A i && (decide (aFd A i 3 = c) && aOv g (aFd A i))
def abOne (A : AS) (P : LwP) (g : Nat → Nat) (c : Nat) : Nat → Int64 := sumJ (fun i => if aOneB A g c i = true then aClaim A P i (min 100 (aHarm A (g 4) i)) else 0)
theorem hc_min100 {n : Nat} (h : n < 2 ^ 31) : (if nI n < 100 then nI n else 100) = nI (min 100 n) := by
  rw [show (100 : Int32) = nI 100 from rfl]
  simp only [hc_lt h (show 100 < 2 ^ 31 by omega)]
  split
  · rw [Nat.min_eq_right (by omega)]
  · rw [Nat.min_eq_left (by omega)]
set_option maxRecDepth 100000 in
theorem r_claimsOfOne {Λ : hc_L} {I : hc_I} {L : hc_J} {R : hc_R} {a s l : Nat} {A : AS} (ha : AsL Λ a s l) (h : St Λ I L R s A) {P : LwP} (hl : LwAt Λ I l P) (hP : lpOk P) {q c : Nat} {g : Nat → Nat} (hs : SdAt Λ I q g) (hg : g 0 < 8 ∧ g 1 < 8 ∧ g 2 < 8 ∧ g 3 < 8) (hg4 : g 4 ≤ 100) (hc : c < 4) : Run xX0_claimsOfOne [.ref a, .ref q, .int (nI c)] Λ I L R (Qj (fun z => z = l + 2) (some (.long (abOne A P g c (aF A)))) Λ I L R) := by
  refine Run.of (by decide +kernel) (Nat.le_of_ble_eq_true rfl) ?_
  show LW _ _ _ [(0, .ref a), (1, .ref q), (2, .int (nI c))] _ _ _ _ _ _
  have hn := h.w.f
  refine LW_lconst (v := 0) dX0_claimsOfOne_0 (by decide) ?_
  refine LW_lstoren (ls' := [(0, .ref a), (1, .ref q), (2, .int (nI c)), (3, .long 0)]) dX0_claimsOfOne_1 rfl (by decide) rfl ?_
  refine LW_iconst (v := 0) dX0_claimsOfOne_2 (by decide) ?_
  refine LW_istore (ls' := [(0, .ref a), (1, .ref q), (2, .int (nI c)), (3, .long 0), (5, .int 0)]) dX0_claimsOfOne_3 (by decide) rfl ?_
  have loop : ∀ i, i ≤ aF A → ∀ L1 : hc_J, (∀ z, ¬ z = l + 2 → L1 z = L z) → LW xX0_claimsOfOne (0, 0) 5 [(0, .ref a), (1, .ref q), (2, .int (nI c)), (3, .long (abOne A P g c i)), (5, .int (nI i))] [] Λ I L1 R (Qj (fun z => z = l + 2) (some (.long (abOne A P g c (aF A)))) Λ I L R) := by
    refine hc_down ?_ ?_
    · intro L1 hL1
      have h1 : St Λ I L1 R s A := h.jk (fun k hk => hL1 _ (ha.2.2.2.2.2.2.2.2.1 k hk))
      refine LW_iload 4 dX0_claimsOfOne_5 rfl ?_
      refine LW_aloadn 0 dX0_claimsOfOne_7 rfl rfl ?_
      refine gX0_0 dX0_claimsOfOne_8 flX0_18 ha.lt0 ha.2.1 ha.2.2.2.2.1 ?_
      refine gX6_12 dX0_claimsOfOne_11 flX0_109 h.l.lt0 h.l.2.1 ?_
      rw [show I s 12 = nI (aF A) from h.fc]
      refine LW_icmp_ge (tgt := 113) dX0_claimsOfOne_14 (by decide) (fun c14 => ?_) (fun c14 => absurd (Int32.le_refl _) c14)
      refine LW_lloadn 3 dX0_claimsOfOne_113 rfl rfl ?_
      refine LW_lret dX0_claimsOfOne_114 rfl (Nat.le_of_ble_eq_true rfl) (Nat.le_of_ble_eq_true rfl) ?_
      exact Qj.mk rfl hL1
    · intro i hi0 ih L1 hL1
      have h1 : St Λ I L1 R s A := h.jk (fun k hk => hL1 _ (ha.2.2.2.2.2.2.2.2.1 k hk))
      refine LW_iload 4 dX0_claimsOfOne_5 rfl ?_
      refine LW_aloadn 0 dX0_claimsOfOne_7 rfl rfl ?_
      refine gX0_0 dX0_claimsOfOne_8 flX0_18 ha.lt0 ha.2.1 ha.2.2.2.2.1 ?_
      refine gX6_12 dX0_claimsOfOne_11 flX0_109 h.l.lt0 h.l.2.1 ?_
      rw [show I s 12 = nI (aF A) from h.fc]
      refine LW_icmp_ge (tgt := 113) dX0_claimsOfOne_14 (by decide) (fun c14 => absurd c14 (hc_nle (by omega) (by omega) hi0)) (fun c14 => ?_)
      refine LW_aloadn 1 dX0_claimsOfOne_17 rfl rfl ?_
      refine LW_ifnull dX0_claimsOfOne_18 ?_
      refine LW_aloadn 0 dX0_claimsOfOne_21 rfl rfl ?_
      refine gX0_0 dX0_claimsOfOne_22 flX0_18 ha.lt0 ha.2.1 ha.2.2.2.2.1 ?_
      refine LW_iload 4 dX0_claimsOfOne_25 rfl ?_
      refine LW_callV (As := [.int (nI i)]) (b := s) (st := []) (ci := 6) (r := (RX6, TX6, 15)) (r_standsN h1 (by omega)) YX6_stands rfl dX0_claimsOfOne_27 mlX0_127 h.l.lt0 h.l.2.1 ⟨rfl, rfl⟩ (by decide) ⟨Nat.le_refl _, Nat.le_refl _⟩ (Nat.le_of_ble_eq_true rfl) rfl (fun r27 Λc27 Ic27 Lc27 Rc27 hq27 => ?_)
      obtain ⟨rfl, rfl, rfl, rfl, rfl⟩ := hq27
      refine LW_bif_eq (tgt := 107) dX0_claimsOfOne_30 (by decide) (fun c30 => ?_) (fun c30 => ?_)
      · refine LW_iinc (n := 4) (v := nI (i + 1)) (ls' := [(0, .ref a), (1, .ref q), (2, .int (nI c)), (3, .long (abOne A P g c i)), (5, .int (nI (i + 1)))]) dX0_claimsOfOne_107 rfl (hc_inc _) (by decide) rfl ?_
        refine LW_goto (tgt := 5) dX0_claimsOfOne_110 (by decide) ?_
        exact hc_lsc (by first | (simp [abOne, aOneB, sumJ, c30, c64]; done) | (simp [abOne, aOneB, sumJ, c30, show ¬ aFd A i 3 = c from fun e => c47 ((hc_eq (by omega) (by omega)).mpr e)]; done) | (simp [abOne, aOneB, sumJ, c30]; done)) (ih _ hL1)
      · have hi := aSt_f c30
        obtain ⟨r, hr, hfd⟩ := h1.fd hi
        have hb := h.w.2.2.2.2.2.2.2.1 i hi
        have hhm := aHarm_le h.w (i := i) hg4 hb.2.2.2.1
        refine LW_aloadn 0 dX0_claimsOfOne_33 rfl rfl ?_
        refine gX0_0 dX0_claimsOfOne_34 flX0_18 ha.lt0 ha.2.1 ha.2.2.2.2.1 ?_
        refine gX6_7 dX0_claimsOfOne_37 flX0_116 h.l.lt0 h.l.2.1 (h.l.f 7 (by decide)) ?_
        refine LW_iload 4 dX0_claimsOfOne_40 rfl ?_
        refine LW_aald4s (r := r) dX0_claimsOfOne_42 (h.l.lt 8 (by decide)) h.l.2.2.2.2.2.2.2.2.2.1 rfl (by omega) (Nat.le_of_ble_eq_true rfl) hr ?_
        refine gX2_3 dX0_claimsOfOne_43 flX0_55 hfd.1 hfd.2.1 ?_
        rw [show I r 3 = nI (aFd A i 3) from hfd.2.2 3 (by decide)]
        refine LW_iloadn 2 dX0_claimsOfOne_46 rfl rfl ?_
        refine LW_icmp_ne (tgt := 107) dX0_claimsOfOne_47 (by decide) (fun c47 => ?_) (fun c47 => ?_)
        · refine LW_iinc (n := 4) (v := nI (i + 1)) (ls' := [(0, .ref a), (1, .ref q), (2, .int (nI c)), (3, .long (abOne A P g c i)), (5, .int (nI (i + 1)))]) dX0_claimsOfOne_107 rfl (hc_inc _) (by decide) rfl ?_
          refine LW_goto (tgt := 5) dX0_claimsOfOne_110 (by decide) ?_
          exact hc_lsc (by first | (simp [abOne, aOneB, sumJ, c30, c64]; done) | (simp [abOne, aOneB, sumJ, c30, show ¬ aFd A i 3 = c from fun e => c47 ((hc_eq (by omega) (by omega)).mpr e)]; done) | (simp [abOne, aOneB, sumJ, c30]; done)) (ih _ hL1)
        · refine LW_aloadn 1 dX0_claimsOfOne_50 rfl rfl ?_
          refine LW_aloadn 0 dX0_claimsOfOne_51 rfl rfl ?_
          refine gX0_0 dX0_claimsOfOne_52 flX0_18 ha.lt0 ha.2.1 ha.2.2.2.2.1 ?_
          refine gX6_7 dX0_claimsOfOne_55 flX0_116 h.l.lt0 h.l.2.1 (h.l.f 7 (by decide)) ?_
          refine LW_iload 4 dX0_claimsOfOne_58 rfl ?_
          refine LW_aald4s (r := r) dX0_claimsOfOne_60 (h.l.lt 8 (by decide)) h.l.2.2.2.2.2.2.2.2.2.1 rfl (by omega) (Nat.le_of_ble_eq_true rfl) hr ?_
          refine LW_callV (As := [.ref r]) (b := q) (st := []) (ci := 7) (r := (RX7, TX7, 5)) (r_isOver hs hfd hg ⟨hb.2.1, hb.2.2.1⟩) YX7_isOver rfl dX0_claimsOfOne_61 mlX0_36 hs.1 hs.2.1 ⟨rfl, rfl⟩ (by decide) ⟨Nat.le_refl _, Nat.le_refl _⟩ (Nat.le_of_ble_eq_true rfl) rfl (fun r61 Λc61 Ic61 Lc61 Rc61 hq61 => ?_)
          obtain ⟨rfl, rfl, rfl, rfl, rfl⟩ := hq61
          refine LW_bif_eq (tgt := 107) dX0_claimsOfOne_64 (by decide) (fun c64 => ?_) (fun c64 => ?_)
          · refine LW_iinc (n := 4) (v := nI (i + 1)) (ls' := [(0, .ref a), (1, .ref q), (2, .int (nI c)), (3, .long (abOne A P g c i)), (5, .int (nI (i + 1)))]) dX0_claimsOfOne_107 rfl (hc_inc _) (by decide) rfl ?_
            refine LW_goto (tgt := 5) dX0_claimsOfOne_110 (by decide) ?_
            exact hc_lsc (by first | (simp [abOne, aOneB, sumJ, c30, c64]; done) | (simp [abOne, aOneB, sumJ, c30, show ¬ aFd A i 3 = c from fun e => c47 ((hc_eq (by omega) (by omega)).mpr e)]; done) | (simp [abOne, aOneB, sumJ, c30]; done)) (ih _ hL1)
          · refine LW_lloadn 3 dX0_claimsOfOne_67 rfl rfl ?_
            refine LW_aloadn 0 dX0_claimsOfOne_68 rfl rfl ?_
            refine LW_aloadn 0 dX0_claimsOfOne_69 rfl rfl ?_
            refine gX0_0 dX0_claimsOfOne_70 flX0_18 ha.lt0 ha.2.1 ha.2.2.2.2.1 ?_
            refine gX6_7 dX0_claimsOfOne_73 flX0_116 h.l.lt0 h.l.2.1 (h.l.f 7 (by decide)) ?_
            refine LW_iload 4 dX0_claimsOfOne_76 rfl ?_
            refine LW_aald4s (r := r) dX0_claimsOfOne_78 (h.l.lt 8 (by decide)) h.l.2.2.2.2.2.2.2.2.2.1 rfl (by omega) (Nat.le_of_ble_eq_true rfl) hr ?_
            refine LW_bipush (v := 100) dX0_claimsOfOne_79 (by decide) ?_
            refine LW_aloadn 0 dX0_claimsOfOne_81 rfl rfl ?_
            refine LW_aloadn 0 dX0_claimsOfOne_82 rfl rfl ?_
            refine gX0_0 dX0_claimsOfOne_83 flX0_18 ha.lt0 ha.2.1 ha.2.2.2.2.1 ?_
            refine gX6_7 dX0_claimsOfOne_86 flX0_116 h.l.lt0 h.l.2.1 (h.l.f 7 (by decide)) ?_
            refine LW_iload 4 dX0_claimsOfOne_89 rfl ?_
            refine LW_aald4s (r := r) dX0_claimsOfOne_91 (h.l.lt 8 (by decide)) h.l.2.2.2.2.2.2.2.2.2.1 rfl (by omega) (Nat.le_of_ble_eq_true rfl) hr ?_
            refine LW_aloadn 1 dX0_claimsOfOne_92 rfl rfl ?_
            refine gX7_4 dX0_claimsOfOne_93 flX0_42 hs.1 hs.2.1 ?_
            rw [show I q 4 = nI (g 4) from hs.2.2 4 (by decide)]
            refine LW_callV (As := [.ref r, .int (nI (g 4))]) (b := a) (st := [.int 100, .ref r, .ref a, .long (abOne A P g c i)]) (ci := 0) (r := (RX0, TX0, 7)) (r_harm ha h1 hi hfd hg4) YX0_harm rfl dX0_claimsOfOne_96 mlX0_45 ha.lt0 ha.2.1 ⟨rfl, rfl⟩ (by decide) ⟨Nat.le_refl _, Nat.le_refl _⟩ (Nat.le_of_ble_eq_true rfl) rfl (fun r96 Λc96 Ic96 Lc96 Rc96 hq96 => ?_)
            obtain ⟨rfl, rfl, rfl, rfl, rfl⟩ := hq96
            refine LW_imin dX0_claimsOfOne_99 mlX0_49 (by decide) ⟨Nat.le_refl _, Nat.le_refl _⟩ (Nat.le_of_ble_eq_true rfl) ?_
            rw [show (if (nI (aHarm A (g 4) i)) < 100 then (nI (aHarm A (g 4) i)) else 100) = nI (min 100 (aHarm A (g 4) i)) from hc_min100 (by omega)]
            refine LW_callV (As := [.ref r, .int (nI (min 100 (aHarm A (g 4) i)))]) (b := a) (st := [.long (abOne A P g c i)]) (ci := 0) (r := (RX0, TX0, 7)) (r_claim ha h1 hl hP hi hfd (by omega)) YX0_claim rfl dX0_claimsOfOne_102 mlX0_124 ha.lt0 ha.2.1 ⟨rfl, rfl⟩ (by decide) ⟨Nat.le_refl _, Nat.le_refl _⟩ (Nat.le_of_ble_eq_true rfl) rfl (fun r102 Λc102 Ic102 Lc102 Rc102 hq102 => ?_)
            obtain ⟨rfl, rfl, rfl, hL102, rfl⟩ := hq102
            refine LW_ladd dX0_claimsOfOne_105 ?_
            refine LW_lstoren (ls' := [(0, .ref a), (1, .ref q), (2, .int (nI c)), (3, .long ((abOne A P g c i) + (aClaim A P i (min 100 (aHarm A (g 4) i))))), (5, .int (nI i))]) dX0_claimsOfOne_106 rfl (by decide) rfl ?_
            refine LW_iinc (n := 4) (v := nI (i + 1)) (ls' := [(0, .ref a), (1, .ref q), (2, .int (nI c)), (3, .long ((abOne A P g c i) + (aClaim A P i (min 100 (aHarm A (g 4) i))))), (5, .int (nI (i + 1)))]) dX0_claimsOfOne_107 rfl (hc_inc _) (by decide) rfl ?_
            refine LW_goto (tgt := 5) dX0_claimsOfOne_110 (by decide) ?_
            have hcc := (hc_eq (by omega) (by omega)).mp (Classical.not_not.mp c47)
            exact hc_lsc (by simp [abOne, aOneB, sumJ, c30, hcc, c64]) (ih _ (fun z hz => (hL102 z hz).trans (hL1 z hz)))
  exact loop 0 (Nat.zero_le _) L (fun _ _ => rfl)
