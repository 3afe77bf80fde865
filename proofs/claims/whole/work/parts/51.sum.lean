/-! the Reader: sums, pay, a line -/
theorem LW_ac {cx : hc_X} {ac ac' : Nat × Nat} {pc : Nat} {ls : List (Nat × Value)} {st : List Value} {Λ : hc_L} {I : hc_I} {L : hc_J} {R : hc_R} {Q : hc_Q} (h1 : ac.1 ≤ ac'.1) (h2 : ac.2 ≤ ac'.2) (k : LW cx ac' pc ls st Λ I L R Q) : LW cx ac pc ls st Λ I L R Q := by
  intro l E p e s m args below meth c H locs la B hW hS hl
  exact W.widen h1 h2 (k l E p e s m args below meth c H locs la B hW hS hl)
def hz (t : Nat) : Nat := if t = 0 then 0 else 1
theorem hz_le (t : Nat) : hz t ≤ 1 := by unfold hz; split <;> decide
theorem hz_p {t : Nat} (h : ¬ t = 0) : hz t = 1 := if_neg h
def smL (K : Nat → Nat) (part : Nat → LwP → Ls) (f i : Nat) (P : LwP) (t p : Nat) : Option Ls := match part i P with
  | .inl e => some (.inl e)
  | .inr q => smK K part f q.1 (pl0 q.2 t) p
theorem smK_t {K : Nat → Nat} {part : Nat → LwP → Ls} {f i : Nat} {P : LwP} {p : Nat} (h : K i = 42 ∨ K i = 47) : smK K part (f + 1) i P p = smL K part f (i + 1) P (K i) p := by
  unfold smL
  rw [smK, if_pos h]
  cases part (i + 1) P with
  | inl e => rfl
  | inr q =>
    show smK K part f q.1 (lpPush q.2 (K i) 0) p = smK K part f q.1 (pl0 q.2 (K i)) p
    unfold pl0
    rw [if_neg (by omega)]
theorem smK_p {K : Nat → Nat} {part : Nat → LwP → Ls} {f i : Nat} {P : LwP} {p : Nat} (h0 : ¬ (K i = 42 ∨ K i = 47)) (h : K i = 43 ∨ K i = 45) : smK K part (f + 1) i P p = smL K part f (i + 1) (pl0 P p) 0 (K i) := by
  unfold smL
  rw [smK, if_neg h0, if_pos h]
  cases part (i + 1) (pl0 P p) with
  | inl e => rfl
  | inr q => rfl
theorem smK_e {K : Nat → Nat} {part : Nat → LwP → Ls} {f i : Nat} {P : LwP} {p : Nat} (h0 : ¬ (K i = 42 ∨ K i = 47)) (h : ¬ (K i = 43 ∨ K i = 45)) : smK K part (f + 1) i P p = some (.inr (i, pl0 P p)) := by
  rw [smK, if_neg h0, if_neg h]
theorem smW_L {K : Nat → Nat} {part : Nat → LwP → Ls} (hp : Adv part) {n : Nat} (hn : ∀ j, n ≤ j → K j = 2003) (h7 : n ≤ 700) (i : Nat) (P : LwP) : smL K part 701 i P 0 0 = some (smW K part i P) := by
  unfold smL smW
  cases part i P with
  | inl e => rfl
  | inr q =>
    obtain ⟨r, hr⟩ := smK_some hp hn 700 q.1 q.2 0 (by omega)
    show smK K part 701 q.1 (pl0 q.2 0) 0 = some ((smK K part 701 q.1 q.2 0).getD _)
    rw [show pl0 q.2 0 = q.2 from if_pos rfl, hr]
    rfl
def upL (A : AS) (x : Ls) : Rs := match x with
  | .inl e => .inl e
  | .inr q => .inr (q.1, A, q.2)
theorem LPost.toR {B : Nat → Nat} {n cn op : Nat} {A : AS} {x : Ls} {Λ Λ' : hc_L} {I I' : hc_I} {L L' : hc_J} {R R' : hc_R} {r : Option Value} (h : LPost B n cn op A x Λ I L R r Λ' I' L' R') : RPost B n cn op (upL A x) Λ I L R r Λ' I' L' R' := by
  obtain ⟨rfl, rfl, rfl, hf, hx⟩ := h
  cases x with
  | inl e => exact ⟨rfl, hf, Nat.le_succ _, hx⟩
  | inr q => exact ⟨rfl, hf, Nat.le_succ _, hx⟩
set_option maxRecDepth 100000 in
theorem smS1 {Λ : hc_L} {I : hc_I} {L : hc_J} {R : hc_R} {B : Nat → Nat} {n cn i d D : Nat} {A : AS} {P : LwP} (hB : ∀ j, j < n → B j < 256) (hn7 : n ≤ 700) (hd : d ≤ 8) (hW : RW B n cn Λ I L R i (8 - d) A P) {h : Nat} (hP : okP P h) (hh : h + 2 + 4 * d ≤ 36) (hPi : P.1 ≤ i) (hpt : PtC B n cn d D) : Run (xX5_readSum (D + 1)) [.ref 45] Λ I L R (LPost B n cn (8 - d) A (smW (kd B n) (ptD (kd B n) (vl B n) d) i P) Λ I L R) := by
  refine Run.of (show plainName "HailClub$Reader" = true by decide +kernel) (Nat.le_of_ble_eq_true rfl) ?_
  show LW _ _ _ [(0, .ref 45)] _ _ _ _ _ _
  have hY := hW.y
  have hf : Fr RJ Λ I L R Λ I L R := Fr.rf
  have hc7 := hW.cn7
  have loop : ∀ (x : Ls) f j t p (I1 : hc_I) (L1 : hc_J) i1 P1, f + j = 701 → j ≤ i1 → RW B n cn Λ I1 L1 R i1 (8 - d) A P1 → okP P1 (h + hz p + hz t) → (t = 0 ∨ t = 42 ∨ t = 47) → (p = 0 ∨ p = 43 ∨ p = 45) → P1.1 + hz p + hz t ≤ i1 → Fr RJ Λ I L R Λ I1 L1 R → smL (kd B n) (ptD (kd B n) (vl B n) d) f i1 P1 t p = some x → LW (xX5_readSum (D + 1)) (0, 0) 6 [(0, .ref 45), (1, .int (nI t)), (2, .int (nI p)), (3, .int (nI j))] [] Λ I1 L1 R (LPost B n cn (8 - d) A (x) Λ I L R) := by
    intro x f
    induction f with
    | zero =>
      intro j t p I1 L1 i1 P1 hfj hji hW
      have := hW.c
      have := hW.cn7
      omega
    | succ f ih =>
      intro j t p I1 L1 i1 P1 hfj hji hW hP1 ht hp hPi1 hf hx
      have hzt := hz_le t
      have hzp := hz_le p
      have hc1 := hW.c
      have hc7 := hW.cn7
      have mid : ∀ (I2 : hc_I) (L2 : hc_J) i2 P2 (vt : Int32), RW B n cn Λ I2 L2 R i2 (8 - d) A P2 → okP P2 (h + 1 + hz p) → P2.1 + hz p ≤ i2 → j + 1 ≤ i2 → Fr RJ Λ I L R Λ I2 L2 R → smK (kd B n) (ptD (kd B n) (vl B n) d) (f + 1) i2 P2 p = some x → LW (xX5_readSum (D + 1)) (0, 0) 35 [(0, .ref 45), (1, .int vt), (2, .int (nI p)), (3, .int (nI j))] [] Λ I2 L2 R (LPost B n cn (8 - d) A (x) Λ I L R) := by
        intro I2 L2 i2 P2 vt hW hP2 hPi2 hji2 hf hx
        have hc2 := hW.c
        have hk42 : (kEnc (kd B n i2) = 42) ↔ kd B n i2 = 42 := kd_ne hB (c := 42) (by decide)
        have hk47 : (kEnc (kd B n i2) = 47) ↔ kd B n i2 = 47 := kd_ne hB (c := 47) (by decide)
        have hk43 : (kEnc (kd B n i2) = 43) ↔ kd B n i2 = 43 := kd_ne hB (c := 43) (by decide)
        have hk45 : (kEnc (kd B n i2) = 45) ↔ kd B n i2 = 45 := kd_ne hB (c := 45) (by decide)
        have hp3 : okP (pl0 P2 p) (h + 1) ∧ (pl0 P2 p).1 ≤ i2 := by
          by_cases c : p = 0
          · have e : pl0 P2 p = P2 := if_pos c
            rw [e]
            rw [show hz p = 0 from if_pos c] at hP2 hPi2
            exact ⟨hP2, by omega⟩
          · have e : pl0 P2 p = lpPush P2 p 0 := if_neg c
            rw [e]
            rw [hz_p c] at hP2 hPi2
            have ea : lpAr p = 2 := by rcases hp with rfl | rfl | rfl <;> first | contradiction | rfl
            have := hP2.push (k := p) (v := 0) (by rcases hp with rfl | rfl | rfl <;> first | contradiction | rfl) (by omega) (by omega) (by decide) (by omega)
            rw [ea, show h + 1 + 1 - 2 + 1 = h + 1 by omega] at this
            exact ⟨this, by show P2.1 + 1 ≤ i2; omega⟩
        refine LW_aloadn 0 dX5_readSum_35 rfl rfl ?_
        refine gX5_7 dX5_readSum_36 flX5_49 (hY.lt (k := 45) (by decide)) (ly45 hY) ?_
        rw [show I2 45 7 = kEnc (kd B n i2) from hW.k]
        refine LW_bipush (v := 42) dX5_readSum_39 (by decide) ?_
        refine LW_icmp_eq (tgt := 53) dX5_readSum_41 (by decide) (fun c41 => ?_) (fun c41 => ?_)
        · have hkk : kd B n i2 = 42 := hk42.mp c41
          refine LW_aloadn 0 dX5_readSum_53 rfl rfl ?_
          refine gX5_7 dX5_readSum_54 flX5_49 (hY.lt (k := 45) (by decide)) (ly45 hY) ?_
          rw [show I2 45 7 = nI 42 from (by rw [hW.k, hkk]; rfl)]
          refine LW_goto (tgt := 61) dX5_readSum_57 (by decide) ?_
          refine LW_istoren (ls' := [(0, .ref 45), (1, .int (nI 42)), (2, .int (nI p)), (3, .int (nI j))]) dX5_readSum_61 rfl (Nat.le_of_ble_eq_true rfl) rfl ?_
          refine LW_iloadn 1 dX5_readSum_62 rfl rfl ?_
          refine LW_if_ne (tgt := 112) dX5_readSum_63 (by decide) (fun c63 => ?_) (fun c63 => absurd (by decide) c63)
          have hK : kd B n i2 ≠ 2003 := by rw [hkk]; decide
          refine LW_aloadn 0 dX5_readSum_112 rfl rfl ?_
          refine LW_callV (As := []) (b := 45) (st := []) (ci := 5) (r := (RX5, TX5, 11)) (r_step hB hW hK) YX5_step rfl dX5_readSum_113 mlX5_60 (hY.lt (k := 45) (by decide)) (ly45 hY) ⟨rfl, rfl⟩ (Nat.succ_le_succ (Nat.zero_le _)) ⟨Nat.le_of_ble_eq_true rfl, Nat.le_of_ble_eq_true rfl⟩ (Nat.le_of_ble_eq_true rfl) rfl (fun r113 Λc113 Ic113 Lc113 Rc113 hq113 => ?_)
          obtain ⟨rfl, rfl, hI113, hL113, hR113, hW113⟩ := hq113
          obtain rfl : R = Rc113 := funext fun z => (hR113 z (fun q => q)).symm
          have hW := hW113
          have hf := hf.trans (Fr.rd (fun z z1 _ => hI113 z z1) hL113)
          refine LW_iinc (n := 3) (v := nI (j + 1)) (ls' := [(0, .ref 45), (1, .int (nI 42)), (2, .int (nI p)), (3, .int (nI (j + 1)))]) dX5_readSum_116 rfl (hc_inc _) (Nat.le_of_ble_eq_true rfl) rfl ?_
          refine LW_goto (tgt := 6) dX5_readSum_119 (by decide) ?_
          exact ih (j + 1) 42 p Ic113 Lc113 (i2 + 1) P2 (by omega) (by omega) hW (by rw [show h + hz p + hz 42 = h + 1 + hz p by show h + hz p + 1 = _; omega]; exact hP2) (by decide) hp (by show P2.1 + hz p + 1 ≤ i2 + 1; omega) hf (by rw [← hx, smK_t (by omega), hkk])
        · refine LW_aloadn 0 dX5_readSum_44 rfl rfl ?_
          refine gX5_7 dX5_readSum_45 flX5_49 (hY.lt (k := 45) (by decide)) (ly45 hY) ?_
          rw [show I2 45 7 = kEnc (kd B n i2) from hW.k]
          refine LW_bipush (v := 47) dX5_readSum_48 (by decide) ?_
          refine LW_icmp_ne (tgt := 60) dX5_readSum_50 (by decide) (fun c50 => ?_) (fun c50 => ?_)
          · have hn2 : ¬ (kd B n i2 = 42 ∨ kd B n i2 = 47) := fun z => z.elim (fun z => c41 (hk42.mpr z)) (fun z => c50 (hk47.mpr z))
            refine LW_iconst (v := 0) dX5_readSum_60 (by decide) ?_
            refine LW_istoren (ls' := [(0, .ref 45), (1, .int 0), (2, .int (nI p)), (3, .int (nI j))]) dX5_readSum_61 rfl (Nat.le_of_ble_eq_true rfl) rfl ?_
            refine LW_iloadn 1 dX5_readSum_62 rfl rfl ?_
            refine LW_if_ne (tgt := 112) dX5_readSum_63 (by decide) (fun c63 => absurd c63 (fun z => z rfl)) (fun c63 => ?_)
            refine LW_iloadn 2 dX5_readSum_66 rfl rfl ?_
            refine LW_if_eq (tgt := 79) dX5_readSum_67 (by decide) (fun c67 => ?_) (fun c67 => ?_)
            · have hp0 : p = 0 := (hc_eq (a := p) (b := 0) (by omega) (by omega)).mp c67
              have hpl : pl0 P2 p = P2 := if_pos hp0
              refine LW_aloadn 0 dX5_readSum_79 rfl rfl ?_
              refine gX5_7 dX5_readSum_80 flX5_49 (hY.lt (k := 45) (by decide)) (ly45 hY) ?_
              rw [show I2 45 7 = kEnc (kd B n i2) from hW.k]
              refine LW_bipush (v := 43) dX5_readSum_83 (by decide) ?_
              refine LW_icmp_eq (tgt := 97) dX5_readSum_85 (by decide) (fun c85 => ?_) (fun c85 => ?_)
              · have hkk : kd B n i2 = 43 := hk43.mp c85
                refine LW_aloadn 0 dX5_readSum_97 rfl rfl ?_
                refine gX5_7 dX5_readSum_98 flX5_49 (hY.lt (k := 45) (by decide)) (ly45 hY) ?_
                rw [show I2 45 7 = nI 43 from (by rw [hW.k, hkk]; rfl)]
                refine LW_goto (tgt := 105) dX5_readSum_101 (by decide) ?_
                refine LW_istoren (ls' := [(0, .ref 45), (1, .int 0), (2, .int (nI 43)), (3, .int (nI j))]) dX5_readSum_105 rfl (Nat.le_of_ble_eq_true rfl) rfl ?_
                refine LW_iloadn 2 dX5_readSum_106 rfl rfl ?_
                refine LW_if_ne (tgt := 112) dX5_readSum_107 (by decide) (fun c107 => ?_) (fun c107 => absurd (by decide) c107)
                have hK : kd B n i2 ≠ 2003 := by rw [hkk]; decide
                refine LW_aloadn 0 dX5_readSum_112 rfl rfl ?_
                refine LW_callV (As := []) (b := 45) (st := []) (ci := 5) (r := (RX5, TX5, 11)) (r_step hB hW hK) YX5_step rfl dX5_readSum_113 mlX5_60 (hY.lt (k := 45) (by decide)) (ly45 hY) ⟨rfl, rfl⟩ (Nat.succ_le_succ (Nat.zero_le _)) ⟨Nat.le_of_ble_eq_true rfl, Nat.le_of_ble_eq_true rfl⟩ (Nat.le_of_ble_eq_true rfl) rfl (fun r113 Λc113 Ic113 Lc113 Rc113 hq113 => ?_)
                obtain ⟨rfl, rfl, hI113, hL113, hR113, hW113⟩ := hq113
                obtain rfl : R = Rc113 := funext fun z => (hR113 z (fun q => q)).symm
                have hW := hW113
                have hf := hf.trans (Fr.rd (fun z z1 _ => hI113 z z1) hL113)
                refine LW_iinc (n := 3) (v := nI (j + 1)) (ls' := [(0, .ref 45), (1, .int 0), (2, .int (nI 43)), (3, .int (nI (j + 1)))]) dX5_readSum_116 rfl (hc_inc _) (Nat.le_of_ble_eq_true rfl) rfl ?_
                refine LW_goto (tgt := 6) dX5_readSum_119 (by decide) ?_
                exact ih (j + 1) 0 43 Ic113 Lc113 (i2 + 1) (pl0 P2 p) (by omega) (by omega) (by rw [hpl]; exact hW) (by show okP _ (h + 1 + 0); exact hp3.1) (Or.inl rfl) (by decide) (by show (pl0 P2 p).1 + 1 + 0 ≤ i2 + 1; omega) hf (by rw [← hx, smK_p hn2 (by omega), hkk])
              · refine LW_aloadn 0 dX5_readSum_88 rfl rfl ?_
                refine gX5_7 dX5_readSum_89 flX5_49 (hY.lt (k := 45) (by decide)) (ly45 hY) ?_
                rw [show I2 45 7 = kEnc (kd B n i2) from hW.k]
                refine LW_bipush (v := 45) dX5_readSum_92 (by decide) ?_
                refine LW_icmp_ne (tgt := 104) dX5_readSum_94 (by decide) (fun c94 => ?_) (fun c94 => ?_)
                · have hn4 : ¬ (kd B n i2 = 43 ∨ kd B n i2 = 45) := fun z => z.elim (fun z => c85 (hk43.mpr z)) (fun z => c94 (hk45.mpr z))
                  refine LW_iconst (v := 0) dX5_readSum_104 (by decide) ?_
                  refine LW_istoren (ls' := [(0, .ref 45), (1, .int 0), (2, .int 0), (3, .int (nI j))]) dX5_readSum_105 rfl (Nat.le_of_ble_eq_true rfl) rfl ?_
                  refine LW_iloadn 2 dX5_readSum_106 rfl rfl ?_
                  refine LW_if_ne (tgt := 112) dX5_readSum_107 (by decide) (fun c107 => absurd c107 (fun z => z rfl)) (fun c107 => ?_)
                  refine LW_iconst (v := 1) dX5_readSum_110 (by decide) ?_
                  refine LW_zret dX5_readSum_111 rfl (Nat.le_of_ble_eq_true rfl) (Nat.le_of_ble_eq_true rfl) (Or.inr rfl) ?_
                  refine LPost.yes (q := (i2, pl0 P2 p)) ?_ hf ?_
                  · exact (Option.some.inj (hx.symm.trans (smK_e hn2 hn4)))
                  · rw [hpl]; exact hW
                · have hkk : kd B n i2 = 45 := hk45.mp (Classical.not_not.mp c94)
                  refine LW_aloadn 0 dX5_readSum_97 rfl rfl ?_
                  refine gX5_7 dX5_readSum_98 flX5_49 (hY.lt (k := 45) (by decide)) (ly45 hY) ?_
                  rw [show I2 45 7 = nI 45 from (by rw [hW.k, hkk]; rfl)]
                  refine LW_goto (tgt := 105) dX5_readSum_101 (by decide) ?_
                  refine LW_istoren (ls' := [(0, .ref 45), (1, .int 0), (2, .int (nI 45)), (3, .int (nI j))]) dX5_readSum_105 rfl (Nat.le_of_ble_eq_true rfl) rfl ?_
                  refine LW_iloadn 2 dX5_readSum_106 rfl rfl ?_
                  refine LW_if_ne (tgt := 112) dX5_readSum_107 (by decide) (fun c107 => ?_) (fun c107 => absurd (by decide) c107)
                  have hK : kd B n i2 ≠ 2003 := by rw [hkk]; decide
                  refine LW_aloadn 0 dX5_readSum_112 rfl rfl ?_
                  refine LW_callV (As := []) (b := 45) (st := []) (ci := 5) (r := (RX5, TX5, 11)) (r_step hB hW hK) YX5_step rfl dX5_readSum_113 mlX5_60 (hY.lt (k := 45) (by decide)) (ly45 hY) ⟨rfl, rfl⟩ (Nat.succ_le_succ (Nat.zero_le _)) ⟨Nat.le_of_ble_eq_true rfl, Nat.le_of_ble_eq_true rfl⟩ (Nat.le_of_ble_eq_true rfl) rfl (fun r113 Λc113 Ic113 Lc113 Rc113 hq113 => ?_)
                  obtain ⟨rfl, rfl, hI113, hL113, hR113, hW113⟩ := hq113
                  obtain rfl : R = Rc113 := funext fun z => (hR113 z (fun q => q)).symm
                  have hW := hW113
                  have hf := hf.trans (Fr.rd (fun z z1 _ => hI113 z z1) hL113)
                  refine LW_iinc (n := 3) (v := nI (j + 1)) (ls' := [(0, .ref 45), (1, .int 0), (2, .int (nI 45)), (3, .int (nI (j + 1)))]) dX5_readSum_116 rfl (hc_inc _) (Nat.le_of_ble_eq_true rfl) rfl ?_
                  refine LW_goto (tgt := 6) dX5_readSum_119 (by decide) ?_
                  exact ih (j + 1) 0 45 Ic113 Lc113 (i2 + 1) (pl0 P2 p) (by omega) (by omega) (by rw [hpl]; exact hW) (by show okP _ (h + 1 + 0); exact hp3.1) (Or.inl rfl) (by decide) (by show (pl0 P2 p).1 + 1 + 0 ≤ i2 + 1; omega) hf (by rw [← hx, smK_p hn2 (by omega), hkk])
            · have hp0 : ¬ p = 0 := fun z => c67 (by rw [z]; rfl)
              have hzp1 := hz_p hp0
              have hpl : pl0 P2 p = lpPush P2 p 0 := if_neg hp0
              refine LW_aloadn 0 dX5_readSum_70 rfl rfl ?_
              refine gX5_2 dX5_readSum_71 flX5_32 (hY.lt (k := 45) (by decide)) (ly45 hY) (lf45_2 hY) ?_
              refine LW_iloadn 2 dX5_readSum_74 rfl rfl ?_
              refine LW_ineg dX5_readSum_75 ?_
              refine LW_callV (As := [.int (-(nI p))]) (b := 42) (st := []) (ci := 4) (r := (RX4, TX4, 3)) (r_lawAdd hW.l (by omega) (k := p) (v := 0) (by rcases hp with rfl | rfl | rfl <;> first | contradiction | decide)) YX4_add rfl dX5_readSum_76 mlX5_174 (hY.lt (k := 42) (by decide)) (ly42 hY) ⟨rfl, rfl⟩ (Nat.succ_le_succ (Nat.zero_le _)) ⟨Nat.le_of_ble_eq_true rfl, Nat.le_of_ble_eq_true rfl⟩ (Nat.le_of_ble_eq_true rfl) rfl (fun r76 Λc76 Ic76 Lc76 Rc76 hq76 => ?_)
              obtain ⟨rfl, rfl, hI76, hL76, hR76, hPl76⟩ := hq76
              obtain rfl : L2 = Lc76 := funext fun z => (hL76 z (fun q => q)).symm
              obtain rfl : R = Rc76 := funext fun z => (hR76 z (fun q => q)).symm
              have hf := hf.trans (Fr.lw hI76)
              have hW := hW.lw hI76 hPl76
              refine LW_aloadn 0 dX5_readSum_79 rfl rfl ?_
              refine gX5_7 dX5_readSum_80 flX5_49 (hY.lt (k := 45) (by decide)) (ly45 hY) ?_
              rw [show Ic76 45 7 = kEnc (kd B n i2) from hW.k]
              refine LW_bipush (v := 43) dX5_readSum_83 (by decide) ?_
              refine LW_icmp_eq (tgt := 97) dX5_readSum_85 (by decide) (fun c85 => ?_) (fun c85 => ?_)
              · have hkk : kd B n i2 = 43 := hk43.mp c85
                refine LW_aloadn 0 dX5_readSum_97 rfl rfl ?_
                refine gX5_7 dX5_readSum_98 flX5_49 (hY.lt (k := 45) (by decide)) (ly45 hY) ?_
                rw [show Ic76 45 7 = nI 43 from (by rw [hW.k, hkk]; rfl)]
                refine LW_goto (tgt := 105) dX5_readSum_101 (by decide) ?_
                refine LW_istoren (ls' := [(0, .ref 45), (1, .int 0), (2, .int (nI 43)), (3, .int (nI j))]) dX5_readSum_105 rfl (Nat.le_of_ble_eq_true rfl) rfl ?_
                refine LW_iloadn 2 dX5_readSum_106 rfl rfl ?_
                refine LW_if_ne (tgt := 112) dX5_readSum_107 (by decide) (fun c107 => ?_) (fun c107 => absurd (by decide) c107)
                have hK : kd B n i2 ≠ 2003 := by rw [hkk]; decide
                refine LW_aloadn 0 dX5_readSum_112 rfl rfl ?_
                refine LW_callV (As := []) (b := 45) (st := []) (ci := 5) (r := (RX5, TX5, 11)) (r_step hB hW hK) YX5_step rfl dX5_readSum_113 mlX5_60 (hY.lt (k := 45) (by decide)) (ly45 hY) ⟨rfl, rfl⟩ (Nat.succ_le_succ (Nat.zero_le _)) ⟨Nat.le_of_ble_eq_true rfl, Nat.le_of_ble_eq_true rfl⟩ (Nat.le_of_ble_eq_true rfl) rfl (fun r113 Λc113 Ic113 Lc113 Rc113 hq113 => ?_)
                obtain ⟨rfl, rfl, hI113, hL113, hR113, hW113⟩ := hq113
                obtain rfl : R = Rc113 := funext fun z => (hR113 z (fun q => q)).symm
                have hW := hW113
                have hf := hf.trans (Fr.rd (fun z z1 _ => hI113 z z1) hL113)
                refine LW_iinc (n := 3) (v := nI (j + 1)) (ls' := [(0, .ref 45), (1, .int 0), (2, .int (nI 43)), (3, .int (nI (j + 1)))]) dX5_readSum_116 rfl (hc_inc _) (Nat.le_of_ble_eq_true rfl) rfl ?_
                refine LW_goto (tgt := 6) dX5_readSum_119 (by decide) ?_
                exact ih (j + 1) 0 43 Ic113 Lc113 (i2 + 1) (pl0 P2 p) (by omega) (by omega) (by rw [hpl]; exact hW) (by show okP _ (h + 1 + 0); exact hp3.1) (Or.inl rfl) (by decide) (by show (pl0 P2 p).1 + 1 + 0 ≤ i2 + 1; omega) hf (by rw [← hx, smK_p hn2 (by omega), hkk])
              · refine LW_aloadn 0 dX5_readSum_88 rfl rfl ?_
                refine gX5_7 dX5_readSum_89 flX5_49 (hY.lt (k := 45) (by decide)) (ly45 hY) ?_
                rw [show Ic76 45 7 = kEnc (kd B n i2) from hW.k]
                refine LW_bipush (v := 45) dX5_readSum_92 (by decide) ?_
                refine LW_icmp_ne (tgt := 104) dX5_readSum_94 (by decide) (fun c94 => ?_) (fun c94 => ?_)
                · have hn4 : ¬ (kd B n i2 = 43 ∨ kd B n i2 = 45) := fun z => z.elim (fun z => c85 (hk43.mpr z)) (fun z => c94 (hk45.mpr z))
                  refine LW_iconst (v := 0) dX5_readSum_104 (by decide) ?_
                  refine LW_istoren (ls' := [(0, .ref 45), (1, .int 0), (2, .int 0), (3, .int (nI j))]) dX5_readSum_105 rfl (Nat.le_of_ble_eq_true rfl) rfl ?_
                  refine LW_iloadn 2 dX5_readSum_106 rfl rfl ?_
                  refine LW_if_ne (tgt := 112) dX5_readSum_107 (by decide) (fun c107 => absurd c107 (fun z => z rfl)) (fun c107 => ?_)
                  refine LW_iconst (v := 1) dX5_readSum_110 (by decide) ?_
                  refine LW_zret dX5_readSum_111 rfl (Nat.le_of_ble_eq_true rfl) (Nat.le_of_ble_eq_true rfl) (Or.inr rfl) ?_
                  refine LPost.yes (q := (i2, pl0 P2 p)) ?_ hf ?_
                  · exact (Option.some.inj (hx.symm.trans (smK_e hn2 hn4)))
                  · rw [hpl]; exact hW
                · have hkk : kd B n i2 = 45 := hk45.mp (Classical.not_not.mp c94)
                  refine LW_aloadn 0 dX5_readSum_97 rfl rfl ?_
                  refine gX5_7 dX5_readSum_98 flX5_49 (hY.lt (k := 45) (by decide)) (ly45 hY) ?_
                  rw [show Ic76 45 7 = nI 45 from (by rw [hW.k, hkk]; rfl)]
                  refine LW_goto (tgt := 105) dX5_readSum_101 (by decide) ?_
                  refine LW_istoren (ls' := [(0, .ref 45), (1, .int 0), (2, .int (nI 45)), (3, .int (nI j))]) dX5_readSum_105 rfl (Nat.le_of_ble_eq_true rfl) rfl ?_
                  refine LW_iloadn 2 dX5_readSum_106 rfl rfl ?_
                  refine LW_if_ne (tgt := 112) dX5_readSum_107 (by decide) (fun c107 => ?_) (fun c107 => absurd (by decide) c107)
                  have hK : kd B n i2 ≠ 2003 := by rw [hkk]; decide
                  refine LW_aloadn 0 dX5_readSum_112 rfl rfl ?_
                  refine LW_callV (As := []) (b := 45) (st := []) (ci := 5) (r := (RX5, TX5, 11)) (r_step hB hW hK) YX5_step rfl dX5_readSum_113 mlX5_60 (hY.lt (k := 45) (by decide)) (ly45 hY) ⟨rfl, rfl⟩ (Nat.succ_le_succ (Nat.zero_le _)) ⟨Nat.le_of_ble_eq_true rfl, Nat.le_of_ble_eq_true rfl⟩ (Nat.le_of_ble_eq_true rfl) rfl (fun r113 Λc113 Ic113 Lc113 Rc113 hq113 => ?_)
                  obtain ⟨rfl, rfl, hI113, hL113, hR113, hW113⟩ := hq113
                  obtain rfl : R = Rc113 := funext fun z => (hR113 z (fun q => q)).symm
                  have hW := hW113
                  have hf := hf.trans (Fr.rd (fun z z1 _ => hI113 z z1) hL113)
                  refine LW_iinc (n := 3) (v := nI (j + 1)) (ls' := [(0, .ref 45), (1, .int 0), (2, .int (nI 45)), (3, .int (nI (j + 1)))]) dX5_readSum_116 rfl (hc_inc _) (Nat.le_of_ble_eq_true rfl) rfl ?_
                  refine LW_goto (tgt := 6) dX5_readSum_119 (by decide) ?_
                  exact ih (j + 1) 0 45 Ic113 Lc113 (i2 + 1) (pl0 P2 p) (by omega) (by omega) (by rw [hpl]; exact hW) (by show okP _ (h + 1 + 0); exact hp3.1) (Or.inl rfl) (by decide) (by show (pl0 P2 p).1 + 1 + 0 ≤ i2 + 1; omega) hf (by rw [← hx, smK_p hn2 (by omega), hkk])
          · have hkk : kd B n i2 = 47 := hk47.mp (Classical.not_not.mp c50)
            refine LW_aloadn 0 dX5_readSum_53 rfl rfl ?_
            refine gX5_7 dX5_readSum_54 flX5_49 (hY.lt (k := 45) (by decide)) (ly45 hY) ?_
            rw [show I2 45 7 = nI 47 from (by rw [hW.k, hkk]; rfl)]
            refine LW_goto (tgt := 61) dX5_readSum_57 (by decide) ?_
            refine LW_istoren (ls' := [(0, .ref 45), (1, .int (nI 47)), (2, .int (nI p)), (3, .int (nI j))]) dX5_readSum_61 rfl (Nat.le_of_ble_eq_true rfl) rfl ?_
            refine LW_iloadn 1 dX5_readSum_62 rfl rfl ?_
            refine LW_if_ne (tgt := 112) dX5_readSum_63 (by decide) (fun c63 => ?_) (fun c63 => absurd (by decide) c63)
            have hK : kd B n i2 ≠ 2003 := by rw [hkk]; decide
            refine LW_aloadn 0 dX5_readSum_112 rfl rfl ?_
            refine LW_callV (As := []) (b := 45) (st := []) (ci := 5) (r := (RX5, TX5, 11)) (r_step hB hW hK) YX5_step rfl dX5_readSum_113 mlX5_60 (hY.lt (k := 45) (by decide)) (ly45 hY) ⟨rfl, rfl⟩ (Nat.succ_le_succ (Nat.zero_le _)) ⟨Nat.le_of_ble_eq_true rfl, Nat.le_of_ble_eq_true rfl⟩ (Nat.le_of_ble_eq_true rfl) rfl (fun r113 Λc113 Ic113 Lc113 Rc113 hq113 => ?_)
            obtain ⟨rfl, rfl, hI113, hL113, hR113, hW113⟩ := hq113
            obtain rfl : R = Rc113 := funext fun z => (hR113 z (fun q => q)).symm
            have hW := hW113
            have hf := hf.trans (Fr.rd (fun z z1 _ => hI113 z z1) hL113)
            refine LW_iinc (n := 3) (v := nI (j + 1)) (ls' := [(0, .ref 45), (1, .int (nI 47)), (2, .int (nI p)), (3, .int (nI (j + 1)))]) dX5_readSum_116 rfl (hc_inc _) (Nat.le_of_ble_eq_true rfl) rfl ?_
            refine LW_goto (tgt := 6) dX5_readSum_119 (by decide) ?_
            exact ih (j + 1) 47 p Ic113 Lc113 (i2 + 1) P2 (by omega) (by omega) hW (by rw [show h + hz p + hz 47 = h + 1 + hz p by show h + hz p + 1 = _; omega]; exact hP2) (by decide) hp (by show P2.1 + hz p + 1 ≤ i2 + 1; omega) hf (by rw [← hx, smK_t (by omega), hkk])
      refine LW_iloadn 3 dX5_readSum_6 rfl rfl ?_
      refine LW_sipush (v := 700) dX5_readSum_7 (by decide) ?_
      refine LW_icmp_gt (tgt := 122) dX5_readSum_10 (by decide) (fun c10 => absurd c10 (hc_nlt (a := 700) (b := j) (by omega) (by omega) (by omega))) (fun c10 => ?_)
      refine LW_aloadn 0 dX5_readSum_13 rfl rfl ?_
      refine LW_callV (As := []) (b := 45) (st := []) (ci := 5) (r := (RX5, TX5, 11)) (hpt _ _ _ _ _ _ _ (h + hz p + hz t) hW hP1 (by omega) (by omega)) (YX5_readPart D) rfl dX5_readSum_14 mlX5_171 (hY.lt (k := 45) (by decide)) (ly45 hY) ⟨rfl, rfl⟩ (Nat.le_refl _) ⟨Nat.le_of_ble_eq_true rfl, Nat.le_of_ble_eq_true rfl⟩ (Nat.le_of_ble_eq_true rfl) rfl (fun r14 Λc14 Ic14 Lc14 Rc14 hq14 => ?_)
      obtain ⟨rfl, rfl, rfl, hf214, hx14⟩ := hq14
      have hf := hf.trans hf214
      refine LW_bif_ne (tgt := 22) dX5_readSum_17 (by decide) (fun c17 => ?_) (fun c17 => ?_)
      · obtain ⟨q, he⟩ := okS_t (show okS (ptD (kd B n) (vl B n) d i1 P1) = true from c17)
        rw [he] at hx14
        have hW := hx14
        have hob := ptD_ok (fun j hj => vl_n hB hj) d hd (h + hz p + hz t) (by omega) i1 P1 q hP1 he
        have hcq := hW.c
        unfold smL at hx
        rw [he] at hx
        refine LW_iloadn 1 dX5_readSum_22 rfl rfl ?_
        refine LW_if_eq (tgt := 35) dX5_readSum_23 (by decide) (fun c23 => ?_) (fun c23 => ?_)
        · have ht0 : t = 0 := (hc_eq (a := t) (b := 0) (by omega) (by omega)).mp c23
          have e : pl0 q.2 t = q.2 := if_pos ht0
          have hzt0 : hz t = 0 := if_pos ht0
          exact mid Ic14 Lc14 q.1 q.2 (nI t) hW (by rw [show h + 1 + hz p = h + hz p + hz t + 1 by omega]; exact hob.1) (by omega) (by omega) hf (by rw [← e]; exact hx)
        · have ht0 : ¬ t = 0 := fun z => c23 (by rw [z]; rfl)
          have hzt1 := hz_p ht0
          refine LW_aloadn 0 dX5_readSum_26 rfl rfl ?_
          refine gX5_2 dX5_readSum_27 flX5_32 (hY.lt (k := 45) (by decide)) (ly45 hY) (lf45_2 hY) ?_
          refine LW_iloadn 1 dX5_readSum_30 rfl rfl ?_
          refine LW_ineg dX5_readSum_31 ?_
          refine LW_callV (As := [.int (-(nI t))]) (b := 42) (st := []) (ci := 4) (r := (RX4, TX4, 3)) (r_lawAdd hW.l (by omega) (k := t) (v := 0) (by rcases ht with rfl | rfl | rfl <;> first | contradiction | decide)) YX4_add rfl dX5_readSum_32 mlX5_174 (hY.lt (k := 42) (by decide)) (ly42 hY) ⟨rfl, rfl⟩ (Nat.succ_le_succ (Nat.zero_le _)) ⟨Nat.le_of_ble_eq_true rfl, Nat.le_of_ble_eq_true rfl⟩ (Nat.le_of_ble_eq_true rfl) rfl (fun r32 Λc32 Ic32 Lc32 Rc32 hq32 => ?_)
          obtain ⟨rfl, rfl, hI32, hL32, hR32, hPl32⟩ := hq32
          obtain rfl : Lc14 = Lc32 := funext fun z => (hL32 z (fun q => q)).symm
          obtain rfl : R = Rc32 := funext fun z => (hR32 z (fun q => q)).symm
          have hf := hf.trans (Fr.lw hI32)
          have hW := hW.lw hI32 hPl32
          have e : pl0 q.2 t = lpPush q.2 t 0 := if_neg ht0
          have ea : lpAr t = 2 := by rcases ht with rfl | rfl | rfl <;> first | contradiction | rfl
          have hob1 := hob.1.push (k := t) (v := 0) (by rcases ht with rfl | rfl | rfl <;> first | contradiction | rfl) (by omega) (by omega) (by decide) (by omega)
          rw [ea, show h + hz p + hz t + 1 - 2 + 1 = h + 1 + hz p by omega] at hob1
          exact mid Ic32 Lc14 q.1 (lpPush q.2 t 0) (nI t) hW hob1 (by show q.2.1 + 1 + hz p ≤ q.1; omega) (by omega) hf (by rw [← e]; exact hx)
      · obtain ⟨e, he⟩ := okS_f (show okS (ptD (kd B n) (vl B n) d i1 P1) = false from c17)
        rw [he] at hx14
        refine LW_iconst (v := 0) dX5_readSum_20 (by decide) ?_
        refine LW_zret dX5_readSum_21 rfl (Nat.le_of_ble_eq_true rfl) (Nat.le_of_ble_eq_true rfl) (Or.inl rfl) ?_
        refine LPost.no (e := e) ?_ hf hx14
        unfold smL at hx
        rw [he] at hx
        exact (Option.some.inj hx).symm
  refine LW_iconst (v := 0) dX5_readSum_0 (by decide) ?_
  refine LW_istoren (ls' := [(0, .ref 45), (1, .int 0)]) dX5_readSum_1 rfl (Nat.le_of_ble_eq_true rfl) rfl ?_
  refine LW_iconst (v := 0) dX5_readSum_2 (by decide) ?_
  refine LW_istoren (ls' := [(0, .ref 45), (1, .int 0), (2, .int 0)]) dX5_readSum_3 rfl (Nat.le_of_ble_eq_true rfl) rfl ?_
  refine LW_iconst (v := 0) dX5_readSum_4 (by decide) ?_
  refine LW_istoren (ls' := [(0, .ref 45), (1, .int 0), (2, .int 0), (3, .int 0)]) dX5_readSum_5 rfl (Nat.le_of_ble_eq_true rfl) rfl ?_
  exact loop _ 701 0 0 0 I L i P rfl (Nat.zero_le _) hW hP (Or.inl rfl) (Or.inl rfl) hPi hf (smW_L (ptD_adv (kd B n) (vl B n) d) (fun j hj => kd_far hB hj) hn7 i P)
theorem allC {B : Nat → Nat} {n cn : Nat} (hB : ∀ j, j < n → B j < 256) (hn7 : n ≤ 700) : ∀ d, d ≤ 8 → BrC B n cn d (3 * d + 1)
  | 0, _ => fun Λ I L R i A P h kk hW _ _ _ _ _ => br0 (d := 0) hB hW
  | d + 1, hd => fun Λ I L R i A P h kk hW hP hh hPi h1 h3 => brS1 hB hd hW hP hh hPi h1 h3 (D := 3 * d + 3) (fun Λ I L R i A P h hW hP hh hPi => smS1 hB hn7 (by omega) hW hP hh hPi (D := 3 * d + 2) (ptS hB (by omega) (allC hB hn7 d (by omega))))
theorem r_sum8 {B : Nat → Nat} {n cn i : Nat} {A : AS} {P : LwP} {Λ : hc_L} {I : hc_I} {L : hc_J} {R : hc_R} (hB : ∀ j, j < n → B j < 256) (hn7 : n ≤ 700) (hW : RW B n cn Λ I L R i 0 A P) (hP : P.1 = 0) : Run (xX5_readSum 27) [.ref 45] Λ I L R (LPost B n cn 0 A (smW (kd B n) (ptD (kd B n) (vl B n) 8) i P) Λ I L R) :=
  smS1 hB hn7 (d := 8) (D := 26) (Nat.le_refl _) hW (h := 0) ⟨fun j hj => by omega, by rw [hP]; rfl⟩ (by decide) (by omega) (ptS hB (Nat.le_refl _) (allC hB hn7 8 (Nat.le_refl _)))
set_option maxRecDepth 100000 in
theorem r_readPay {Λ : hc_L} {I : hc_I} {L : hc_J} {R : hc_R} {B : Nat → Nat} {n cn i : Nat} {A : AS} {P : LwP} (hB : ∀ j, j < n → B j < 256) (hn7 : n ≤ 700) (hW : RW B n cn Λ I L R i 0 A P) (hK : kd B n i ≠ 2003) (hPi : P.1 ≤ 700) : Run xX5_readPay [.ref 45] Λ I L R (RPost B n cn 0 (pPay (kd B n) (vl B n) i A P) Λ I L R) := by
  refine Run.of (by decide +kernel) (Nat.le_of_ble_eq_true rfl) ?_
  show LW _ _ _ [(0, .ref 45)] _ _ _ _ _ _
  have hY := hW.y
  have hf : Fr RJ Λ I L R Λ I L R := Fr.rf
  have hc7 := hW.cn7
  refine LW_aloadn 0 dX5_readPay_0 rfl rfl ?_
  refine gX5_2 dX5_readPay_1 flX5_32 (hY.lt (k := 45) (by decide)) (ly45 hY) (lf45_2 hY) ?_
  refine gX4_2 dX5_readPay_4 flX5_44 (hY.lt (k := 42) (by decide)) (ly42 hY) ?_
  rw [show I 42 2 = nI P.1 from hW.l.2.1]
  refine LW_if_le (tgt := 16) dX5_readPay_7 (by decide) (fun c7 => ?_) (fun c7 => ?_)
  · have hP0 : ¬ 0 < P.1 := by have := (hc_le (a := P.1) (b := 0) (by omega) (by omega)).mp c7; omega
    refine LW_aloadn 0 dX5_readPay_16 rfl rfl ?_
    refine LW_callV (As := []) (b := 45) (st := []) (ci := 5) (r := (RX5, TX5, 11)) (r_step hB hW hK) YX5_step rfl dX5_readPay_17 mlX5_60 (hY.lt (k := 45) (by decide)) (ly45 hY) ⟨rfl, rfl⟩ (by decide) ⟨Nat.le_of_ble_eq_true rfl, Nat.le_of_ble_eq_true rfl⟩ (Nat.le_of_ble_eq_true rfl) rfl (fun r17 Λc17 Ic17 Lc17 Rc17 hq17 => ?_)
    obtain ⟨rfl, rfl, hI17, hL17, hR17, hW17⟩ := hq17
    obtain rfl : R = Rc17 := funext fun z => (hR17 z (fun q => q)).symm
    have hW := hW17
    have hf := hf.trans (Fr.rd (fun z z1 _ => hI17 z z1) hL17)
    refine LW_aloadn 0 dX5_readPay_20 rfl rfl ?_
    refine LW_callV (As := []) (b := 45) (st := []) (ci := 5) (r := (RX5, TX5, 11)) (r_sum8 hB hn7 hW (by omega)) (YX5_readSum 27) rfl dX5_readPay_21 mlX5_168 (hY.lt (k := 45) (by decide)) (ly45 hY) ⟨rfl, rfl⟩ (by decide) ⟨Nat.le_of_ble_eq_true rfl, Nat.le_of_ble_eq_true rfl⟩ (Nat.le_of_ble_eq_true rfl) rfl (fun r21 Λc21 Ic21 Lc21 Rc21 hq21 => ?_)
    obtain ⟨rfl, hq221⟩ := hq21
    refine LW_zret dX5_readPay_24 rfl (Nat.le_of_ble_eq_true rfl) (Nat.le_of_ble_eq_true rfl) (hc_b01 _) ?_
    have hx : pPay (kd B n) (vl B n) i A P = upL A (smW (kd B n) (ptD (kd B n) (vl B n) 8) (i + 1) P) := if_neg hP0
    rw [hx]
    exact RPost.tr hf (Nat.le_refl _) (LPost.toR ⟨rfl, hq221⟩)
  · have hP0 : 0 < P.1 := Nat.lt_of_not_le (fun z => c7 ((hc_le (a := P.1) (b := 0) (by omega) (by omega)).mpr z))
    refine LW_aloadn 0 dX5_readPay_10 rfl rfl ?_
    refine LW_iconst (v := 5) dX5_readPay_11 (by decide) ?_
    refine LW_callV (As := [.int 5]) (b := 45) (st := []) (ci := 5) (r := (RX5, TX5, 11)) (r_refuse hW 5 rfl) YX5_refuse rfl dX5_readPay_12 mlX5_56 (hY.lt (k := 45) (by decide)) (ly45 hY) ⟨rfl, rfl⟩ (by decide) ⟨Nat.le_of_ble_eq_true rfl, Nat.le_of_ble_eq_true rfl⟩ (Nat.le_of_ble_eq_true rfl) rfl (fun r12 Λc12 Ic12 Lc12 Rc12 hq12 => ?_)
    obtain ⟨rfl, rfl, hI12, hL12, hR12, hF12⟩ := hq12
    obtain rfl : L = Lc12 := funext fun z => (hL12 z (fun q => q)).symm
    obtain rfl : R = Rc12 := funext fun z => (hR12 z (fun q => q)).symm
    have hf := hf.trans (Fr.rd (fun z z1 _ => hI12 z z1) (fun _ _ => rfl))
    refine LW_zret dX5_readPay_15 rfl (Nat.le_of_ble_eq_true rfl) (Nat.le_of_ble_eq_true rfl) (hc_b01 _) ?_
    have hx : pPay (kd B n) (vl B n) i A P = .inl (5, i) := if_pos hP0
    exact RPost.no hx hf (Nat.le_succ _) hF12
set_option maxRecDepth 100000 in
theorem r_ln_1000 {Λ : hc_L} {I : hc_I} {L : hc_J} {R : hc_R} {B : Nat → Nat} {n cn i : Nat} {A : AS} {P : LwP} (hB : ∀ j, j < n → B j < 256) (hn7 : n ≤ 700) (hW : RW B n cn Λ I L R i 0 A P) (hΛ : Λ.1 < 1000000) (hPi : P.1 ≤ 700) (hk : kd B n i = 1000) : Run xX5_readLine [.ref 45] Λ I L R (RPost B n cn 0 (pLine (kd B n) (vl B n) i A P) Λ I L R) := by
  refine Run.of (by decide +kernel) (Nat.le_of_ble_eq_true rfl) ?_
  show LW _ _ _ [(0, .ref 45)] _ _ _ _ _ _
  have hY := hW.y
  have hK : kd B n i ≠ 2003 := by rw [hk]; decide
  refine LW_aloadn 0 dX5_readLine_0 rfl rfl ?_
  refine gX5_7 dX5_readLine_1 flX5_49 (hY.lt (k := 45) (by decide)) (ly45 hY) ?_
  rw [show I 45 7 = 1000 from (by rw [hW.k, hk]; rfl)]
  refine LW_tableIn (off := 60) (tgt := 64) dX5_readLine_4 (by decide) (by decide) (by decide) (by decide) ?_
  refine LW_aloadn 0 dX5_readLine_64 rfl rfl ?_
  refine LW_callV (As := []) (b := 45) (st := []) (ci := 5) (r := (RX5, TX5, 11)) (r_readMember hB hW hK) YX5_readMember rfl dX5_readLine_65 mlX5_110 (hY.lt (k := 45) (by decide)) (ly45 hY) ⟨rfl, rfl⟩ (by decide) ⟨Nat.le_of_ble_eq_true rfl, Nat.le_of_ble_eq_true rfl⟩ (Nat.le_of_ble_eq_true rfl) rfl (fun r65 Λc65 Ic65 Lc65 Rc65 hq65 => ?_)
  obtain ⟨rfl, hq265⟩ := hq65
  refine LW_zret dX5_readLine_68 rfl (Nat.le_of_ble_eq_true rfl) (Nat.le_of_ble_eq_true rfl) (hc_b01 _) ?_
  have hx : pLine (kd B n) (vl B n) i A P = pMember (kd B n) (vl B n) i A P := by unfold pLine; rw [if_pos hk]
  rw [hx]
  exact ⟨rfl, hq265⟩
set_option maxRecDepth 100000 in
theorem r_ln_1001 {Λ : hc_L} {I : hc_I} {L : hc_J} {R : hc_R} {B : Nat → Nat} {n cn i : Nat} {A : AS} {P : LwP} (hB : ∀ j, j < n → B j < 256) (hn7 : n ≤ 700) (hW : RW B n cn Λ I L R i 0 A P) (hΛ : Λ.1 < 1000000) (hPi : P.1 ≤ 700) (hk : kd B n i = 1001) : Run xX5_readLine [.ref 45] Λ I L R (RPost B n cn 0 (pLine (kd B n) (vl B n) i A P) Λ I L R) := by
  refine Run.of (by decide +kernel) (Nat.le_of_ble_eq_true rfl) ?_
  show LW _ _ _ [(0, .ref 45)] _ _ _ _ _ _
  have hY := hW.y
  have hK : kd B n i ≠ 2003 := by rw [hk]; decide
  refine LW_aloadn 0 dX5_readLine_0 rfl rfl ?_
  refine gX5_7 dX5_readLine_1 flX5_49 (hY.lt (k := 45) (by decide)) (ly45 hY) ?_
  rw [show I 45 7 = 1001 from (by rw [hW.k, hk]; rfl)]
  refine LW_tableIn (off := 65) (tgt := 69) dX5_readLine_4 (by decide) (by decide) (by decide) (by decide) ?_
  refine LW_aloadn 0 dX5_readLine_69 rfl rfl ?_
  refine LW_callV (As := []) (b := 45) (st := []) (ci := 5) (r := (RX5, TX5, 11)) (r_readField hB hW hK hΛ) YX5_readField rfl dX5_readLine_70 mlX5_113 (hY.lt (k := 45) (by decide)) (ly45 hY) ⟨rfl, rfl⟩ (by decide) ⟨Nat.le_of_ble_eq_true rfl, Nat.le_of_ble_eq_true rfl⟩ (Nat.le_of_ble_eq_true rfl) rfl (fun r70 Λc70 Ic70 Lc70 Rc70 hq70 => ?_)
  obtain ⟨rfl, hq270⟩ := hq70
  refine LW_zret dX5_readLine_73 rfl (Nat.le_of_ble_eq_true rfl) (Nat.le_of_ble_eq_true rfl) (hc_b01 _) ?_
  have hx : pLine (kd B n) (vl B n) i A P = pField (kd B n) (vl B n) i A P := by unfold pLine; rw [if_neg (by rw [hk]; decide), if_pos hk]
  rw [hx]
  exact ⟨rfl, hq270⟩
set_option maxRecDepth 100000 in
theorem r_ln_1002 {Λ : hc_L} {I : hc_I} {L : hc_J} {R : hc_R} {B : Nat → Nat} {n cn i : Nat} {A : AS} {P : LwP} (hB : ∀ j, j < n → B j < 256) (hn7 : n ≤ 700) (hW : RW B n cn Λ I L R i 0 A P) (hΛ : Λ.1 < 1000000) (hPi : P.1 ≤ 700) (hk : kd B n i = 1002) : Run xX5_readLine [.ref 45] Λ I L R (RPost B n cn 0 (pLine (kd B n) (vl B n) i A P) Λ I L R) := by
  refine Run.of (by decide +kernel) (Nat.le_of_ble_eq_true rfl) ?_
  show LW _ _ _ [(0, .ref 45)] _ _ _ _ _ _
  have hY := hW.y
  have hK : kd B n i ≠ 2003 := by rw [hk]; decide
  refine LW_aloadn 0 dX5_readLine_0 rfl rfl ?_
  refine gX5_7 dX5_readLine_1 flX5_49 (hY.lt (k := 45) (by decide)) (ly45 hY) ?_
  rw [show I 45 7 = 1002 from (by rw [hW.k, hk]; rfl)]
  refine LW_tableIn (off := 70) (tgt := 74) dX5_readLine_4 (by decide) (by decide) (by decide) (by decide) ?_
  refine LW_aloadn 0 dX5_readLine_74 rfl rfl ?_
  refine LW_callV (As := []) (b := 45) (st := []) (ci := 5) (r := (RX5, TX5, 11)) (r_readHazard hB hW hK) YX5_readHazard rfl dX5_readLine_75 mlX5_116 (hY.lt (k := 45) (by decide)) (ly45 hY) ⟨rfl, rfl⟩ (by decide) ⟨Nat.le_of_ble_eq_true rfl, Nat.le_of_ble_eq_true rfl⟩ (Nat.le_of_ble_eq_true rfl) rfl (fun r75 Λc75 Ic75 Lc75 Rc75 hq75 => ?_)
  obtain ⟨rfl, hq275⟩ := hq75
  refine LW_zret dX5_readLine_78 rfl (Nat.le_of_ble_eq_true rfl) (Nat.le_of_ble_eq_true rfl) (hc_b01 _) ?_
  have hx : pLine (kd B n) (vl B n) i A P = pHazard (kd B n) (vl B n) i A P := by unfold pLine; rw [if_neg (by rw [hk]; decide), if_neg (by rw [hk]; decide), if_pos hk]
  rw [hx]
  exact ⟨rfl, hq275⟩
set_option maxRecDepth 100000 in
theorem r_ln_1003 {Λ : hc_L} {I : hc_I} {L : hc_J} {R : hc_R} {B : Nat → Nat} {n cn i : Nat} {A : AS} {P : LwP} (hB : ∀ j, j < n → B j < 256) (hn7 : n ≤ 700) (hW : RW B n cn Λ I L R i 0 A P) (hΛ : Λ.1 < 1000000) (hPi : P.1 ≤ 700) (hk : kd B n i = 1003) : Run xX5_readLine [.ref 45] Λ I L R (RPost B n cn 0 (pLine (kd B n) (vl B n) i A P) Λ I L R) := by
  refine Run.of (by decide +kernel) (Nat.le_of_ble_eq_true rfl) ?_
  show LW _ _ _ [(0, .ref 45)] _ _ _ _ _ _
  have hY := hW.y
  have hK : kd B n i ≠ 2003 := by rw [hk]; decide
  refine LW_aloadn 0 dX5_readLine_0 rfl rfl ?_
  refine gX5_7 dX5_readLine_1 flX5_49 (hY.lt (k := 45) (by decide)) (ly45 hY) ?_
  rw [show I 45 7 = 1003 from (by rw [hW.k, hk]; rfl)]
  refine LW_tableIn (off := 75) (tgt := 79) dX5_readLine_4 (by decide) (by decide) (by decide) (by decide) ?_
  refine LW_aloadn 0 dX5_readLine_79 rfl rfl ?_
  refine LW_callV (As := []) (b := 45) (st := []) (ci := 5) (r := (RX5, TX5, 11)) (r_readCrop hB hW hK) YX5_readCrop rfl dX5_readLine_80 mlX5_119 (hY.lt (k := 45) (by decide)) (ly45 hY) ⟨rfl, rfl⟩ (by decide) ⟨Nat.le_of_ble_eq_true rfl, Nat.le_of_ble_eq_true rfl⟩ (Nat.le_of_ble_eq_true rfl) rfl (fun r80 Λc80 Ic80 Lc80 Rc80 hq80 => ?_)
  obtain ⟨rfl, hq280⟩ := hq80
  refine LW_zret dX5_readLine_83 rfl (Nat.le_of_ble_eq_true rfl) (Nat.le_of_ble_eq_true rfl) (hc_b01 _) ?_
  have hx : pLine (kd B n) (vl B n) i A P = pCrop (kd B n) (vl B n) i A P := by unfold pLine; rw [if_neg (by rw [hk]; decide), if_neg (by rw [hk]; decide), if_neg (by rw [hk]; decide), if_pos hk]
  rw [hx]
  exact ⟨rfl, hq280⟩
set_option maxRecDepth 100000 in
theorem r_ln_1004 {Λ : hc_L} {I : hc_I} {L : hc_J} {R : hc_R} {B : Nat → Nat} {n cn i : Nat} {A : AS} {P : LwP} (hB : ∀ j, j < n → B j < 256) (hn7 : n ≤ 700) (hW : RW B n cn Λ I L R i 0 A P) (hΛ : Λ.1 < 1000000) (hPi : P.1 ≤ 700) (hk : kd B n i = 1004) : Run xX5_readLine [.ref 45] Λ I L R (RPost B n cn 0 (pLine (kd B n) (vl B n) i A P) Λ I L R) := by
  refine Run.of (by decide +kernel) (Nat.le_of_ble_eq_true rfl) ?_
  show LW _ _ _ [(0, .ref 45)] _ _ _ _ _ _
  have hY := hW.y
  have hK : kd B n i ≠ 2003 := by rw [hk]; decide
  refine LW_aloadn 0 dX5_readLine_0 rfl rfl ?_
  refine gX5_7 dX5_readLine_1 flX5_49 (hY.lt (k := 45) (by decide)) (ly45 hY) ?_
  rw [show I 45 7 = 1004 from (by rw [hW.k, hk]; rfl)]
  refine LW_tableIn (off := 80) (tgt := 84) dX5_readLine_4 (by decide) (by decide) (by decide) (by decide) ?_
  refine LW_aloadn 0 dX5_readLine_84 rfl rfl ?_
  refine LW_iconst (v := 0) dX5_readLine_85 (by decide) ?_
  refine LW_callV (As := [.int 0]) (b := 45) (st := []) (ci := 5) (r := (RX5, TX5, 11)) (r_readRule hB hW hK (j := 0) (by decide)) YX5_readRule rfl dX5_readLine_86 mlX5_122 (hY.lt (k := 45) (by decide)) (ly45 hY) ⟨rfl, rfl⟩ (by decide) ⟨Nat.le_of_ble_eq_true rfl, Nat.le_of_ble_eq_true rfl⟩ (Nat.le_of_ble_eq_true rfl) rfl (fun r86 Λc86 Ic86 Lc86 Rc86 hq86 => ?_)
  obtain ⟨rfl, hq286⟩ := hq86
  refine LW_zret dX5_readLine_89 rfl (Nat.le_of_ble_eq_true rfl) (Nat.le_of_ble_eq_true rfl) (hc_b01 _) ?_
  have hx : pLine (kd B n) (vl B n) i A P = pRule (kd B n) (vl B n) 0 i A P := by unfold pLine; rw [if_neg (by rw [hk]; decide), if_neg (by rw [hk]; decide), if_neg (by rw [hk]; decide), if_neg (by rw [hk]; decide), if_neg (by rw [hk]; decide), if_neg (by rw [hk]; decide), if_pos (by omega), hk]; rfl
  rw [hx]
  exact ⟨rfl, hq286⟩
set_option maxRecDepth 100000 in
theorem r_ln_1005 {Λ : hc_L} {I : hc_I} {L : hc_J} {R : hc_R} {B : Nat → Nat} {n cn i : Nat} {A : AS} {P : LwP} (hB : ∀ j, j < n → B j < 256) (hn7 : n ≤ 700) (hW : RW B n cn Λ I L R i 0 A P) (hΛ : Λ.1 < 1000000) (hPi : P.1 ≤ 700) (hk : kd B n i = 1005) : Run xX5_readLine [.ref 45] Λ I L R (RPost B n cn 0 (pLine (kd B n) (vl B n) i A P) Λ I L R) := by
  refine Run.of (by decide +kernel) (Nat.le_of_ble_eq_true rfl) ?_
  show LW _ _ _ [(0, .ref 45)] _ _ _ _ _ _
  have hY := hW.y
  have hK : kd B n i ≠ 2003 := by rw [hk]; decide
  refine LW_aloadn 0 dX5_readLine_0 rfl rfl ?_
  refine gX5_7 dX5_readLine_1 flX5_49 (hY.lt (k := 45) (by decide)) (ly45 hY) ?_
  rw [show I 45 7 = 1005 from (by rw [hW.k, hk]; rfl)]
  refine LW_tableIn (off := 86) (tgt := 90) dX5_readLine_4 (by decide) (by decide) (by decide) (by decide) ?_
  refine LW_aloadn 0 dX5_readLine_90 rfl rfl ?_
  refine LW_iconst (v := 1) dX5_readLine_91 (by decide) ?_
  refine LW_callV (As := [.int 1]) (b := 45) (st := []) (ci := 5) (r := (RX5, TX5, 11)) (r_readRule hB hW hK (j := 1) (by decide)) YX5_readRule rfl dX5_readLine_92 mlX5_122 (hY.lt (k := 45) (by decide)) (ly45 hY) ⟨rfl, rfl⟩ (by decide) ⟨Nat.le_of_ble_eq_true rfl, Nat.le_of_ble_eq_true rfl⟩ (Nat.le_of_ble_eq_true rfl) rfl (fun r92 Λc92 Ic92 Lc92 Rc92 hq92 => ?_)
  obtain ⟨rfl, hq292⟩ := hq92
  refine LW_zret dX5_readLine_95 rfl (Nat.le_of_ble_eq_true rfl) (Nat.le_of_ble_eq_true rfl) (hc_b01 _) ?_
  have hx : pLine (kd B n) (vl B n) i A P = pRule (kd B n) (vl B n) 1 i A P := by unfold pLine; rw [if_neg (by rw [hk]; decide), if_neg (by rw [hk]; decide), if_neg (by rw [hk]; decide), if_neg (by rw [hk]; decide), if_neg (by rw [hk]; decide), if_neg (by rw [hk]; decide), if_pos (by omega), hk]; rfl
  rw [hx]
  exact ⟨rfl, hq292⟩
set_option maxRecDepth 100000 in
theorem r_ln_1006 {Λ : hc_L} {I : hc_I} {L : hc_J} {R : hc_R} {B : Nat → Nat} {n cn i : Nat} {A : AS} {P : LwP} (hB : ∀ j, j < n → B j < 256) (hn7 : n ≤ 700) (hW : RW B n cn Λ I L R i 0 A P) (hΛ : Λ.1 < 1000000) (hPi : P.1 ≤ 700) (hk : kd B n i = 1006) : Run xX5_readLine [.ref 45] Λ I L R (RPost B n cn 0 (pLine (kd B n) (vl B n) i A P) Λ I L R) := by
  refine Run.of (by decide +kernel) (Nat.le_of_ble_eq_true rfl) ?_
  show LW _ _ _ [(0, .ref 45)] _ _ _ _ _ _
  have hY := hW.y
  have hK : kd B n i ≠ 2003 := by rw [hk]; decide
  refine LW_aloadn 0 dX5_readLine_0 rfl rfl ?_
  refine gX5_7 dX5_readLine_1 flX5_49 (hY.lt (k := 45) (by decide)) (ly45 hY) ?_
  rw [show I 45 7 = 1006 from (by rw [hW.k, hk]; rfl)]
  refine LW_tableIn (off := 92) (tgt := 96) dX5_readLine_4 (by decide) (by decide) (by decide) (by decide) ?_
  refine LW_aloadn 0 dX5_readLine_96 rfl rfl ?_
  refine LW_iconst (v := 2) dX5_readLine_97 (by decide) ?_
  refine LW_callV (As := [.int 2]) (b := 45) (st := []) (ci := 5) (r := (RX5, TX5, 11)) (r_readRule hB hW hK (j := 2) (by decide)) YX5_readRule rfl dX5_readLine_98 mlX5_122 (hY.lt (k := 45) (by decide)) (ly45 hY) ⟨rfl, rfl⟩ (by decide) ⟨Nat.le_of_ble_eq_true rfl, Nat.le_of_ble_eq_true rfl⟩ (Nat.le_of_ble_eq_true rfl) rfl (fun r98 Λc98 Ic98 Lc98 Rc98 hq98 => ?_)
  obtain ⟨rfl, hq298⟩ := hq98
  refine LW_zret dX5_readLine_101 rfl (Nat.le_of_ble_eq_true rfl) (Nat.le_of_ble_eq_true rfl) (hc_b01 _) ?_
  have hx : pLine (kd B n) (vl B n) i A P = pRule (kd B n) (vl B n) 2 i A P := by unfold pLine; rw [if_neg (by rw [hk]; decide), if_neg (by rw [hk]; decide), if_neg (by rw [hk]; decide), if_neg (by rw [hk]; decide), if_neg (by rw [hk]; decide), if_neg (by rw [hk]; decide), if_pos (by omega), hk]; rfl
  rw [hx]
  exact ⟨rfl, hq298⟩
set_option maxRecDepth 100000 in
theorem r_ln_1007 {Λ : hc_L} {I : hc_I} {L : hc_J} {R : hc_R} {B : Nat → Nat} {n cn i : Nat} {A : AS} {P : LwP} (hB : ∀ j, j < n → B j < 256) (hn7 : n ≤ 700) (hW : RW B n cn Λ I L R i 0 A P) (hΛ : Λ.1 < 1000000) (hPi : P.1 ≤ 700) (hk : kd B n i = 1007) : Run xX5_readLine [.ref 45] Λ I L R (RPost B n cn 0 (pLine (kd B n) (vl B n) i A P) Λ I L R) := by
  refine Run.of (by decide +kernel) (Nat.le_of_ble_eq_true rfl) ?_
  show LW _ _ _ [(0, .ref 45)] _ _ _ _ _ _
  have hY := hW.y
  have hK : kd B n i ≠ 2003 := by rw [hk]; decide
  refine LW_aloadn 0 dX5_readLine_0 rfl rfl ?_
  refine gX5_7 dX5_readLine_1 flX5_49 (hY.lt (k := 45) (by decide)) (ly45 hY) ?_
  rw [show I 45 7 = 1007 from (by rw [hW.k, hk]; rfl)]
  refine LW_tableIn (off := 98) (tgt := 102) dX5_readLine_4 (by decide) (by decide) (by decide) (by decide) ?_
  refine LW_aloadn 0 dX5_readLine_102 rfl rfl ?_
  refine LW_callV (As := []) (b := 45) (st := []) (ci := 5) (r := (RX5, TX5, 11)) (r_readCover hB hW hK) YX5_readCover rfl dX5_readLine_103 mlX5_125 (hY.lt (k := 45) (by decide)) (ly45 hY) ⟨rfl, rfl⟩ (by decide) ⟨Nat.le_of_ble_eq_true rfl, Nat.le_of_ble_eq_true rfl⟩ (Nat.le_of_ble_eq_true rfl) rfl (fun r103 Λc103 Ic103 Lc103 Rc103 hq103 => ?_)
  obtain ⟨rfl, hq2103⟩ := hq103
  refine LW_zret dX5_readLine_106 rfl (Nat.le_of_ble_eq_true rfl) (Nat.le_of_ble_eq_true rfl) (hc_b01 _) ?_
  have hx : pLine (kd B n) (vl B n) i A P = pCover (kd B n) (vl B n) i A P := by unfold pLine; rw [if_neg (by rw [hk]; decide), if_neg (by rw [hk]; decide), if_neg (by rw [hk]; decide), if_neg (by rw [hk]; decide), if_pos hk]
  rw [hx]
  exact ⟨rfl, hq2103⟩
set_option maxRecDepth 100000 in
theorem r_ln_1008 {Λ : hc_L} {I : hc_I} {L : hc_J} {R : hc_R} {B : Nat → Nat} {n cn i : Nat} {A : AS} {P : LwP} (hB : ∀ j, j < n → B j < 256) (hn7 : n ≤ 700) (hW : RW B n cn Λ I L R i 0 A P) (hΛ : Λ.1 < 1000000) (hPi : P.1 ≤ 700) (hk : kd B n i = 1008) : Run xX5_readLine [.ref 45] Λ I L R (RPost B n cn 0 (pLine (kd B n) (vl B n) i A P) Λ I L R) := by
  refine Run.of (by decide +kernel) (Nat.le_of_ble_eq_true rfl) ?_
  show LW _ _ _ [(0, .ref 45)] _ _ _ _ _ _
  have hY := hW.y
  have hK : kd B n i ≠ 2003 := by rw [hk]; decide
  refine LW_aloadn 0 dX5_readLine_0 rfl rfl ?_
  refine gX5_7 dX5_readLine_1 flX5_49 (hY.lt (k := 45) (by decide)) (ly45 hY) ?_
  rw [show I 45 7 = 1008 from (by rw [hW.k, hk]; rfl)]
  refine LW_tableIn (off := 103) (tgt := 107) dX5_readLine_4 (by decide) (by decide) (by decide) (by decide) ?_
  refine LW_aloadn 0 dX5_readLine_107 rfl rfl ?_
  refine LW_iconst (v := 5) dX5_readLine_108 (by decide) ?_
  refine LW_callV (As := [.int 5]) (b := 45) (st := []) (ci := 5) (r := (RX5, TX5, 11)) (r_readRule hB hW hK (j := 5) (by decide)) YX5_readRule rfl dX5_readLine_109 mlX5_122 (hY.lt (k := 45) (by decide)) (ly45 hY) ⟨rfl, rfl⟩ (by decide) ⟨Nat.le_of_ble_eq_true rfl, Nat.le_of_ble_eq_true rfl⟩ (Nat.le_of_ble_eq_true rfl) rfl (fun r109 Λc109 Ic109 Lc109 Rc109 hq109 => ?_)
  obtain ⟨rfl, hq2109⟩ := hq109
  refine LW_zret dX5_readLine_112 rfl (Nat.le_of_ble_eq_true rfl) (Nat.le_of_ble_eq_true rfl) (hc_b01 _) ?_
  have hx : pLine (kd B n) (vl B n) i A P = pRule (kd B n) (vl B n) 5 i A P := by unfold pLine; rw [if_neg (by rw [hk]; decide), if_neg (by rw [hk]; decide), if_neg (by rw [hk]; decide), if_neg (by rw [hk]; decide), if_neg (by rw [hk]; decide), if_neg (by rw [hk]; decide), if_pos (by omega), hk]; rfl
  rw [hx]
  exact ⟨rfl, hq2109⟩
set_option maxRecDepth 100000 in
theorem r_ln_1009 {Λ : hc_L} {I : hc_I} {L : hc_J} {R : hc_R} {B : Nat → Nat} {n cn i : Nat} {A : AS} {P : LwP} (hB : ∀ j, j < n → B j < 256) (hn7 : n ≤ 700) (hW : RW B n cn Λ I L R i 0 A P) (hΛ : Λ.1 < 1000000) (hPi : P.1 ≤ 700) (hk : kd B n i = 1009) : Run xX5_readLine [.ref 45] Λ I L R (RPost B n cn 0 (pLine (kd B n) (vl B n) i A P) Λ I L R) := by
  refine Run.of (by decide +kernel) (Nat.le_of_ble_eq_true rfl) ?_
  show LW _ _ _ [(0, .ref 45)] _ _ _ _ _ _
  have hY := hW.y
  have hK : kd B n i ≠ 2003 := by rw [hk]; decide
  refine LW_aloadn 0 dX5_readLine_0 rfl rfl ?_
  refine gX5_7 dX5_readLine_1 flX5_49 (hY.lt (k := 45) (by decide)) (ly45 hY) ?_
  rw [show I 45 7 = 1009 from (by rw [hW.k, hk]; rfl)]
  refine LW_tableIn (off := 109) (tgt := 113) dX5_readLine_4 (by decide) (by decide) (by decide) (by decide) ?_
  refine LW_aloadn 0 dX5_readLine_113 rfl rfl ?_
  refine LW_bipush (v := 6) dX5_readLine_114 (by decide) ?_
  refine LW_callV (As := [.int 6]) (b := 45) (st := []) (ci := 5) (r := (RX5, TX5, 11)) (r_readRule hB hW hK (j := 6) (by decide)) YX5_readRule rfl dX5_readLine_116 mlX5_122 (hY.lt (k := 45) (by decide)) (ly45 hY) ⟨rfl, rfl⟩ (by decide) ⟨Nat.le_of_ble_eq_true rfl, Nat.le_of_ble_eq_true rfl⟩ (Nat.le_of_ble_eq_true rfl) rfl (fun r116 Λc116 Ic116 Lc116 Rc116 hq116 => ?_)
  obtain ⟨rfl, hq2116⟩ := hq116
  refine LW_zret dX5_readLine_119 rfl (Nat.le_of_ble_eq_true rfl) (Nat.le_of_ble_eq_true rfl) (hc_b01 _) ?_
  have hx : pLine (kd B n) (vl B n) i A P = pRule (kd B n) (vl B n) 6 i A P := by unfold pLine; rw [if_neg (by rw [hk]; decide), if_neg (by rw [hk]; decide), if_neg (by rw [hk]; decide), if_neg (by rw [hk]; decide), if_neg (by rw [hk]; decide), if_neg (by rw [hk]; decide), if_pos (by omega), hk]; rfl
  rw [hx]
  exact ⟨rfl, hq2116⟩
set_option maxRecDepth 100000 in
theorem r_ln_1010 {Λ : hc_L} {I : hc_I} {L : hc_J} {R : hc_R} {B : Nat → Nat} {n cn i : Nat} {A : AS} {P : LwP} (hB : ∀ j, j < n → B j < 256) (hn7 : n ≤ 700) (hW : RW B n cn Λ I L R i 0 A P) (hΛ : Λ.1 < 1000000) (hPi : P.1 ≤ 700) (hk : kd B n i = 1010) : Run xX5_readLine [.ref 45] Λ I L R (RPost B n cn 0 (pLine (kd B n) (vl B n) i A P) Λ I L R) := by
  refine Run.of (by decide +kernel) (Nat.le_of_ble_eq_true rfl) ?_
  show LW _ _ _ [(0, .ref 45)] _ _ _ _ _ _
  have hY := hW.y
  have hK : kd B n i ≠ 2003 := by rw [hk]; decide
  refine LW_aloadn 0 dX5_readLine_0 rfl rfl ?_
  refine gX5_7 dX5_readLine_1 flX5_49 (hY.lt (k := 45) (by decide)) (ly45 hY) ?_
  rw [show I 45 7 = 1010 from (by rw [hW.k, hk]; rfl)]
  refine LW_tableIn (off := 116) (tgt := 120) dX5_readLine_4 (by decide) (by decide) (by decide) (by decide) ?_
  refine LW_aloadn 0 dX5_readLine_120 rfl rfl ?_
  refine LW_callV (As := []) (b := 45) (st := []) (ci := 5) (r := (RX5, TX5, 11)) (r_readPay hB hn7 hW hK hPi) YX5_readPay rfl dX5_readLine_121 mlX5_128 (hY.lt (k := 45) (by decide)) (ly45 hY) ⟨rfl, rfl⟩ (by decide) ⟨Nat.le_of_ble_eq_true rfl, Nat.le_of_ble_eq_true rfl⟩ (Nat.le_of_ble_eq_true rfl) rfl (fun r121 Λc121 Ic121 Lc121 Rc121 hq121 => ?_)
  obtain ⟨rfl, hq2121⟩ := hq121
  refine LW_zret dX5_readLine_124 rfl (Nat.le_of_ble_eq_true rfl) (Nat.le_of_ble_eq_true rfl) (hc_b01 _) ?_
  have hx : pLine (kd B n) (vl B n) i A P = pPay (kd B n) (vl B n) i A P := by unfold pLine; rw [if_neg (by rw [hk]; decide), if_neg (by rw [hk]; decide), if_neg (by rw [hk]; decide), if_neg (by rw [hk]; decide), if_neg (by rw [hk]; decide), if_pos hk]
  rw [hx]
  exact ⟨rfl, hq2121⟩
set_option maxRecDepth 100000 in
theorem r_ln_else {Λ : hc_L} {I : hc_I} {L : hc_J} {R : hc_R} {B : Nat → Nat} {n cn i : Nat} {A : AS} {P : LwP} (hB : ∀ j, j < n → B j < 256) (hn7 : n ≤ 700) (hW : RW B n cn Λ I L R i 0 A P) (hΛ : Λ.1 < 1000000) (hPi : P.1 ≤ 700) (hk : ¬ (1000 ≤ kd B n i ∧ kd B n i ≤ 1010)) : Run xX5_readLine [.ref 45] Λ I L R (RPost B n cn 0 (pLine (kd B n) (vl B n) i A P) Λ I L R) := by
  refine Run.of (by decide +kernel) (Nat.le_of_ble_eq_true rfl) ?_
  show LW _ _ _ [(0, .ref 45)] _ _ _ _ _ _
  have hY := hW.y
  have hf : Fr RJ Λ I L R Λ I L R := Fr.rf
  have hc7 := hW.cn7
  refine LW_aloadn 0 dX5_readLine_0 rfl rfl ?_
  refine gX5_7 dX5_readLine_1 flX5_49 (hY.lt (k := 45) (by decide)) (ly45 hY) ?_
  rw [show I 45 7 = kEnc (kd B n i) from hW.k]
  refine LW_tableOut (tgt := 125) dX5_readLine_4 (by
    rw [kE_int (kd_lt hB i)]
    split
    · omega
    · split <;> omega) (by decide) ?_
  refine LW_aloadn 0 dX5_readLine_125 rfl rfl ?_
  refine LW_iconst (v := 1) dX5_readLine_126 (by decide) ?_
  refine LW_callV (As := [.int 1]) (b := 45) (st := []) (ci := 5) (r := (RX5, TX5, 11)) (r_refuse hW 1 rfl) YX5_refuse rfl dX5_readLine_127 mlX5_56 (hY.lt (k := 45) (by decide)) (ly45 hY) ⟨rfl, rfl⟩ (by decide) ⟨Nat.le_of_ble_eq_true rfl, Nat.le_of_ble_eq_true rfl⟩ (Nat.le_of_ble_eq_true rfl) rfl (fun r127 Λc127 Ic127 Lc127 Rc127 hq127 => ?_)
  obtain ⟨rfl, rfl, hI127, hL127, hR127, hF127⟩ := hq127
  obtain rfl : L = Lc127 := funext fun z => (hL127 z (fun q => q)).symm
  obtain rfl : R = Rc127 := funext fun z => (hR127 z (fun q => q)).symm
  have hf := hf.trans (Fr.rd (fun z z1 _ => hI127 z z1) (fun _ _ => rfl))
  refine LW_zret dX5_readLine_130 rfl (Nat.le_of_ble_eq_true rfl) (Nat.le_of_ble_eq_true rfl) (hc_b01 _) ?_
  have hx : pLine (kd B n) (vl B n) i A P = .inl (1, i) := by unfold pLine; rw [if_neg (by omega), if_neg (by omega), if_neg (by omega), if_neg (by omega), if_neg (by omega), if_neg (by omega), if_neg (by omega)]
  exact RPost.no hx hf (Nat.le_succ _) hF127
theorem r_readLine {Λ : hc_L} {I : hc_I} {L : hc_J} {R : hc_R} {B : Nat → Nat} {n cn i : Nat} {A : AS} {P : LwP} (hB : ∀ j, j < n → B j < 256) (hn7 : n ≤ 700) (hW : RW B n cn Λ I L R i 0 A P) (hΛ : Λ.1 < 1000000) (hPi : P.1 ≤ 700) : Run xX5_readLine [.ref 45] Λ I L R (RPost B n cn 0 (pLine (kd B n) (vl B n) i A P) Λ I L R) := by
  by_cases k1000 : kd B n i = 1000
  · exact r_ln_1000 hB hn7 hW hΛ hPi k1000
  by_cases k1001 : kd B n i = 1001
  · exact r_ln_1001 hB hn7 hW hΛ hPi k1001
  by_cases k1002 : kd B n i = 1002
  · exact r_ln_1002 hB hn7 hW hΛ hPi k1002
  by_cases k1003 : kd B n i = 1003
  · exact r_ln_1003 hB hn7 hW hΛ hPi k1003
  by_cases k1004 : kd B n i = 1004
  · exact r_ln_1004 hB hn7 hW hΛ hPi k1004
  by_cases k1005 : kd B n i = 1005
  · exact r_ln_1005 hB hn7 hW hΛ hPi k1005
  by_cases k1006 : kd B n i = 1006
  · exact r_ln_1006 hB hn7 hW hΛ hPi k1006
  by_cases k1007 : kd B n i = 1007
  · exact r_ln_1007 hB hn7 hW hΛ hPi k1007
  by_cases k1008 : kd B n i = 1008
  · exact r_ln_1008 hB hn7 hW hΛ hPi k1008
  by_cases k1009 : kd B n i = 1009
  · exact r_ln_1009 hB hn7 hW hΛ hPi k1009
  by_cases k1010 : kd B n i = 1010
  · exact r_ln_1010 hB hn7 hW hΛ hPi k1010
  exact r_ln_else hB hn7 hW hΛ hPi (by omega)
