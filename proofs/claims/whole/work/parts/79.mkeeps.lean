/-! the reference: keeps, undo, leave, set -/
theorem NwAt.cg {N N' : Nat → Int64} {A : AS} (h : NwAt N A) (hA : wf A) (he : ∀ j, j < 210 → N' j = N j) : NwAt N' A := by
  obtain ⟨⟨a1, a2, a3, a4⟩, ⟨b1, b2, b3, b4⟩, c, d, e, f⟩ := h
  have hm := hA.m
  have hs := hA.s
  refine ⟨⟨(he 0 (by decide)).trans a1, (he 1 (by decide)).trans a2, (he 2 (by decide)).trans a3, (he 3 (by decide)).trans a4⟩, ⟨(he 4 (by decide)).trans b1, (he 5 (by decide)).trans b2, (he 6 (by decide)).trans b3, (he 7 (by decide)).trans b4⟩, fun m hm => ?_, fun s hs a ha => ?_, fun m hm => ?_, fun m hm q => ⟨?_, fun w hw => ?_⟩⟩
  · rw [he _ (by omega), he _ (by omega), he _ (by omega)]; exact c m hm
  · rw [he _ (by omega)]; exact d s hs a ha
  · rw [he _ (by omega)]; exact e m hm
  · rw [he _ (by omega)]; exact (f m hm q).1
  · rw [he _ (by omega)]; exact (f m hm q).2 w hw
def KQ (A : AS) (H : Nat → AS) (c : Nat) (Λ : hc_L) (I : hc_I) (L : hc_J) (R : hc_R) : hc_Q := fun r Λ' I' L' R' => r = none ∧ Λ = Λ' ∧ R = R' ∧ (∀ z, z ≠ 217 → I' z = I z) ∧ (∀ j, j ≠ 2 → I' 217 j = I 217 j) ∧ (∀ z, z ≠ 219 → L' z = L z) ∧ I' 217 2 = nI (min 8 (c + 1)) ∧ ∀ k, k < min 8 (c + 1) → NwAt (fun j => L' 219 (210 * (min 8 (c + 1) - 1 - k) + j)) (hCons A H k)
set_option maxRecDepth 100000 in
theorem kp_52 {Λ : hc_L} {I2 : hc_I} {L2 : hc_J} {R : hc_R} {p : Nat} {Q : hc_Q} (hY : LY Λ) (hp : p ≤ 7) (h2 : I2 217 2 = nI p) (hend : ∀ L3 : hc_J, (∀ z, z ≠ 219 → L3 z = L2 z) → (∀ j, L3 219 j = if 210 * p ≤ j ∧ j < 210 * p + 210 then L2 218 (j - 210 * p) else L2 219 j) → Q none Λ (hc_u I2 217 2 (nI (p + 1))) L3 R) : ∀ i, i ≤ 210 → ∀ L3 : hc_J, (∀ z, z ≠ 219 → L3 z = L2 z) → (∀ j, L3 219 j = if 210 * p ≤ j ∧ j < 210 * p + i then L2 218 (j - 210 * p) else L2 219 j) → LW xX11_keeps (0, 0) 52 [(0, .ref 217), (1, .int (nI i))] [] Λ I2 L3 R Q := by
  refine hc_down ?_ ?_
  · intro L3 q1 q2
    refine LW_iloadn 1 dX11_keeps_52 rfl rfl ?_
    refine LW_sipush (v := 210) dX11_keeps_53 (by decide) ?_
    refine LW_icmp_ge (tgt := 86) dX11_keeps_56 (by decide) (fun c56 => ?_) (fun c56 => absurd (by decide) c56)
    refine LW_aloadn 0 dX11_keeps_86 rfl rfl ?_
    refine LW_dup dX11_keeps_87 rfl ?_
    refine gX11_2 dX11_keeps_88 flX11_87 (hY.lt (k := 217) (by decide)) (ly217 hY) ?_
    rw [show I2 217 2 = nI p from h2]
    refine LW_iconst (v := 1) dX11_keeps_91 (by decide) ?_
    refine LW_iadd dX11_keeps_92 ?_
    rw [show ((nI p) + 1) = nI (p + 1) from (nI_add p 1)]
    refine pX11_2 dX11_keeps_93 flX11_87 (hY.lt (k := 217) (by decide)) (ly217 hY) ?_
    generalize hI93 : hc_u I2 217 2 (nI (p + 1)) = I93
    refine LW_vret dX11_keeps_96 rfl (Nat.le_of_ble_eq_true rfl) (Nat.le_of_ble_eq_true rfl) ?_
    rw [← hI93]
    exact hend L3 q1 q2
  · intro i hi ih L3 q1 q2
    refine LW_iloadn 1 dX11_keeps_52 rfl rfl ?_
    refine LW_sipush (v := 210) dX11_keeps_53 (by decide) ?_
    refine LW_icmp_ge (tgt := 86) dX11_keeps_56 (by decide) (fun c56 => absurd c56 (hc_nle (a := 210) (b := i) (by decide) (by omega) hi)) (fun c56 => ?_)
    refine LW_aloadn 0 dX11_keeps_59 rfl rfl ?_
    refine gX11_1 dX11_keeps_60 flX11_15 (hY.lt (k := 217) (by decide)) (ly217 hY) (lf217_1 hY) ?_
    refine LW_sipush (v := 210) dX11_keeps_63 (by decide) ?_
    refine LW_aloadn 0 dX11_keeps_66 rfl rfl ?_
    refine gX11_2 dX11_keeps_67 flX11_87 (hY.lt (k := 217) (by decide)) (ly217 hY) ?_
    rw [show I2 217 2 = nI p from h2]
    refine LW_imul dX11_keeps_70 ?_
    rw [show (210 * (nI p)) = nI (210 * p) from (nI_mul 210 p)]
    refine LW_iloadn 1 dX11_keeps_71 rfl rfl ?_
    refine LW_iadd dX11_keeps_72 ?_
    rw [show ((nI (210 * p)) + (nI i)) = nI (210 * p + i) from (nI_add _ _)]
    refine LW_aloadn 0 dX11_keeps_73 rfl rfl ?_
    refine gX11_0 dX11_keeps_74 flX11_9 (hY.lt (k := 217) (by decide)) (ly217 hY) (lf217_0 hY) ?_
    refine LW_iloadn 1 dX11_keeps_77 rfl rfl ?_
    refine LW_lald dX11_keeps_78 (hY.lt (k := 218) (by decide)) (ly218 hY) rfl (by omega) (Nat.le_of_ble_eq_true rfl) ?_
    rw [show L3 218 i = L2 218 i from (by rw [q1 218 (by decide)])]
    refine LW_last dX11_keeps_79 (hY.lt (k := 219) (by decide)) (ly219 hY) rfl (by omega) (Nat.le_of_ble_eq_true rfl) ?_
    generalize hL79 : hc_u L3 219 (210 * p + i) (L2 218 i) = L79
    refine LW_iinc (n := 1) (v := nI (i + 1)) (ls' := [(0, .ref 217), (1, .int (nI (i + 1)))]) dX11_keeps_80 rfl (hc_inc _) (by decide) rfl ?_
    refine LW_goto (tgt := 52) dX11_keeps_83 (by decide) ?_
    exact ih L79 (fun z z1 => by rw [← hL79, hc_u_row _ _ _ _ z1]; exact q1 z z1) (fun j => by
      rw [← hL79, hc_u_at, q2 j]
      by_cases c : j = 210 * p + i
      · rw [if_pos c, if_pos ⟨by omega, by omega⟩, show j - 210 * p = i by omega]
      · rw [if_neg c]
        by_cases d : 210 * p ≤ j ∧ j < 210 * p + i
        · rw [if_pos d, if_pos ⟨d.1, by omega⟩]
        · rw [if_neg d, if_neg (fun q => d ⟨q.1, by omega⟩)])
set_option maxRecDepth 100000 in
theorem r_keeps {Λ : hc_L} {I : hc_I} {L : hc_J} {R : hc_R} {A : AS} {H : Nat → AS} {c : Nat} (hY : LY Λ) (hc8 : c ≤ 8) (hc : I 217 2 = nI c) (hn : NwAt (L 218) A) (hA : wf A) (hk : ∀ k, k < c → NwAt (fun j => L 219 (210 * (c - 1 - k) + j)) (H k)) (hw : ∀ k, k < c → wf (H k)) : Run xX11_keeps [.ref 217] Λ I L R (KQ A H c Λ I L R) := by
  refine Run.of (by decide +kernel) (Nat.le_of_ble_eq_true rfl) ?_
  show LW _ _ _ [(0, .ref 217)] _ _ _ _ _ _
  have shift : c = 8 → ∀ i, i ≤ 1470 → ∀ L2 : hc_J, (∀ z, z ≠ 219 → L2 z = L z) → (∀ j, L2 219 j = if j < i then L 219 (j + 210) else L 219 j) → LW xX11_keeps (0, 0) 11 [(0, .ref 217), (1, .int (nI i))] [] Λ I L2 R (KQ A H c Λ I L R) := by
    intro e8
    refine hc_down ?_ ?_
    · intro L2 q1 q2
      refine LW_iloadn 1 dX11_keeps_11 rfl rfl ?_
      refine LW_sipush (v := 1470) dX11_keeps_12 (by decide) ?_
      refine LW_icmp_ge (tgt := 40) dX11_keeps_15 (by decide) (fun c15 => ?_) (fun c15 => absurd (by decide) c15)
      refine LW_aloadn 0 dX11_keeps_40 rfl rfl ?_
      refine LW_dup dX11_keeps_41 rfl ?_
      refine gX11_2 dX11_keeps_42 flX11_87 (hY.lt (k := 217) (by decide)) (ly217 hY) ?_
      rw [show I 217 2 = 8 from (by rw [hc, e8]; rfl)]
      refine LW_iconst (v := 1) dX11_keeps_45 (by decide) ?_
      refine LW_isub dX11_keeps_46 ?_
      rw [show (8 - 1) = nI 7 from rfl]
      refine pX11_2 dX11_keeps_47 flX11_87 (hY.lt (k := 217) (by decide)) (ly217 hY) ?_
      generalize hI47 : hc_u I 217 2 (nI 7) = I47
      refine LW_iconst (v := 0) dX11_keeps_50 (by decide) ?_
      refine LW_istoren (ls' := [(0, .ref 217), (1, .int 0)]) dX11_keeps_51 rfl (by decide) rfl ?_
      refine kp_52 hY (p := 7) (by decide) (by rw [← hI47, hc_u_at, if_pos rfl]) (fun L3 s1 s2 => ?_) 0 (Nat.zero_le _) L2 (fun _ _ => rfl) (fun j => (if_neg (by omega)).symm)
      have e9 : min 8 (c + 1) = 8 := by omega
      refine ⟨rfl, rfl, rfl, fun z hz => ?_, fun j hj => ?_, fun z hz => ?_, ?_, ?_⟩
      · rw [hc_u_row _ _ _ _ hz, ← hI47, hc_u_row _ _ _ _ hz]
      · rw [hc_u_at, if_neg hj, ← hI47, hc_u_at, if_neg hj]
      · rw [s1 z hz, q1 z hz]
      · rw [hc_u_at, if_pos rfl, e9]
      · rw [e9]
        intro k hk8
        cases k with
        | zero =>
          refine hn.cg hA (fun j hj => ?_)
          show L3 219 (210 * (8 - 1 - 0) + j) = _
          rw [s2, if_pos ⟨by omega, by omega⟩, show 210 * (8 - 1 - 0) + j - 210 * 7 = j by omega, q1 218 (by decide)]
        | succ k =>
          refine (hk k (by omega)).cg (hw k (by omega)) (fun j hj => ?_)
          show L3 219 (210 * (8 - 1 - (k + 1)) + j) = L 219 (210 * (c - 1 - k) + j)
          rw [s2, if_neg (by omega), q2, if_pos (by omega), show 210 * (8 - 1 - (k + 1)) + j + 210 = 210 * (c - 1 - k) + j by omega]
    · intro i hi ih L2 q1 q2
      refine LW_iloadn 1 dX11_keeps_11 rfl rfl ?_
      refine LW_sipush (v := 1470) dX11_keeps_12 (by decide) ?_
      refine LW_icmp_ge (tgt := 40) dX11_keeps_15 (by decide) (fun c15 => absurd c15 (hc_nle (a := 1470) (b := i) (by decide) (by omega) hi)) (fun c15 => ?_)
      refine LW_aloadn 0 dX11_keeps_18 rfl rfl ?_
      refine gX11_1 dX11_keeps_19 flX11_15 (hY.lt (k := 217) (by decide)) (ly217 hY) (lf217_1 hY) ?_
      refine LW_iloadn 1 dX11_keeps_22 rfl rfl ?_
      refine LW_aloadn 0 dX11_keeps_23 rfl rfl ?_
      refine gX11_1 dX11_keeps_24 flX11_15 (hY.lt (k := 217) (by decide)) (ly217 hY) (lf217_1 hY) ?_
      refine LW_iloadn 1 dX11_keeps_27 rfl rfl ?_
      refine LW_sipush (v := 210) dX11_keeps_28 (by decide) ?_
      refine LW_iadd dX11_keeps_31 ?_
      rw [show ((nI i) + 210) = nI (i + 210) from (nI_add i 210)]
      refine LW_lald dX11_keeps_32 (hY.lt (k := 219) (by decide)) (ly219 hY) rfl (by omega) (Nat.le_of_ble_eq_true rfl) ?_
      rw [show L2 219 (i + 210) = L 219 (i + 210) from (by rw [q2, if_neg (by omega)])]
      refine LW_last dX11_keeps_33 (hY.lt (k := 219) (by decide)) (ly219 hY) rfl (by omega) (Nat.le_of_ble_eq_true rfl) ?_
      generalize hL33 : hc_u L2 219 i (L 219 (i + 210)) = L33
      refine LW_iinc (n := 1) (v := nI (i + 1)) (ls' := [(0, .ref 217), (1, .int (nI (i + 1)))]) dX11_keeps_34 rfl (hc_inc _) (by decide) rfl ?_
      refine LW_goto (tgt := 11) dX11_keeps_37 (by decide) ?_
      exact ih L33 (fun z z1 => by rw [← hL33, hc_u_row _ _ _ _ z1]; exact q1 z z1) (fun j => by
        rw [← hL33, hc_u_at, q2 j]
        by_cases c : j = i
        · rw [if_pos c, if_pos (by omega), c]
        · rw [if_neg c]
          by_cases d : j < i
          · rw [if_pos d, if_pos (by omega)]
          · rw [if_neg d, if_neg (by omega)])
  refine LW_aloadn 0 dX11_keeps_0 rfl rfl ?_
  refine gX11_2 dX11_keeps_1 flX11_87 (hY.lt (k := 217) (by decide)) (ly217 hY) ?_
  rw [show I 217 2 = nI c from hc]
  refine LW_bipush (v := 8) dX11_keeps_4 (by decide) ?_
  refine LW_icmp_ne (tgt := 50) dX11_keeps_6 (by decide) (fun c6 => ?_) (fun c6 => ?_)
  · refine LW_iconst (v := 0) dX11_keeps_50 (by decide) ?_
    refine LW_istoren (ls' := [(0, .ref 217), (1, .int 0)]) dX11_keeps_51 rfl (by decide) rfl ?_
    have c8 : c < 8 := Nat.lt_of_le_of_ne hc8 (fun e => c6 (by rw [e]; rfl))
    refine kp_52 hY (p := c) (by omega) hc (fun L3 s1 s2 => ?_) 0 (Nat.zero_le _) L (fun _ _ => rfl) (fun j => (if_neg (by omega)).symm)
    have e9 : min 8 (c + 1) = c + 1 := by omega
    refine ⟨rfl, rfl, rfl, fun z hz => ?_, fun j hj => ?_, fun z hz => s1 z hz, ?_, ?_⟩
    · rw [hc_u_row _ _ _ _ hz]
    · rw [hc_u_at, if_neg hj]
    · rw [hc_u_at, if_pos rfl, e9]
    · rw [e9]
      intro k hk8
      cases k with
      | zero =>
        refine hn.cg hA (fun j hj => ?_)
        show L3 219 (210 * (c + 1 - 1 - 0) + j) = _
        rw [s2, if_pos ⟨by omega, by omega⟩, show 210 * (c + 1 - 1 - 0) + j - 210 * c = j by omega]
      | succ k =>
        refine (hk k (by omega)).cg (hw k (by omega)) (fun j hj => ?_)
        show L3 219 (210 * (c + 1 - 1 - (k + 1)) + j) = L 219 (210 * (c - 1 - k) + j)
        rw [s2, if_neg (by omega), show 210 * (c + 1 - 1 - (k + 1)) + j = 210 * (c - 1 - k) + j by omega]
  · refine LW_iconst (v := 0) dX11_keeps_9 (by decide) ?_
    refine LW_istoren (ls' := [(0, .ref 217), (1, .int 0)]) dX11_keeps_10 rfl (by decide) rfl ?_
    exact shift ((hc_eq (a := c) (b := 8) (by omega) (by decide)).mp (Classical.not_not.mp c6)) 0 (Nat.zero_le _) L (fun _ _ => rfl) (fun j => (if_neg (by omega)).symm)
