/-! the Ending: takeDues, gather, advancesBy, ahead -/
def tdM (A : AS) (m : Nat) : Int64 := (if (0 : Int32) < 5 - (nI (aYs A m) + 1) then 5 - (nI (aYs A m) + 1) else 0).toInt64
def tdL (A : AS) (S res : Int64) : Int64 := if aRu A 6 * S / 100 - res < 0 then 0 else aRu A 6 * S / 100 - res
def tdD (A : AS) (S Q pm res : Int64) (m : Nat) : Int64 := (if 0 < Q then tdL A S res * pm / Q else 0) * tdM A m / 5
/-- those that LEAVE, by numbers: all SUMS, all POINTS, DUES in all, the RESERVE, DUES of each -/
def td (A : AS) (pr : Nat → Bool) (sm pt du0 : Nat → Int64) (d0 r0 : Int64) : Nat → Int64 × Int64 × Int64 × Int64 × (Nat → Int64)
  | 0 => (sumJ sm 12, sumJ pt 12, d0, r0, du0)
  | m + 1 =>
    let q := td A pr sm pt du0 d0 r0 m
    if (pr m && aLv A m) = true then (q.1 - sm m, q.2.1 - pt m, q.2.2.1 + tdD A q.1 q.2.1 (pt m) q.2.2.2.1 m, q.2.2.2.1 + tdD A q.1 q.2.1 (pt m) q.2.2.2.1 m, lpUp q.2.2.2.2 m (tdD A q.1 q.2.1 (pt m) q.2.2.2.1 m)) else q
theorem td_y {A : AS} {pr : Nat → Bool} {sm pt du0 : Nat → Int64} {d0 r0 : Int64} {m : Nat} (h : (pr m && aLv A m) = true) : td A pr sm pt du0 d0 r0 (m + 1) = ((td A pr sm pt du0 d0 r0 m).1 - sm m, (td A pr sm pt du0 d0 r0 m).2.1 - pt m, (td A pr sm pt du0 d0 r0 m).2.2.1 + tdD A (td A pr sm pt du0 d0 r0 m).1 (td A pr sm pt du0 d0 r0 m).2.1 (pt m) (td A pr sm pt du0 d0 r0 m).2.2.2.1 m, (td A pr sm pt du0 d0 r0 m).2.2.2.1 + tdD A (td A pr sm pt du0 d0 r0 m).1 (td A pr sm pt du0 d0 r0 m).2.1 (pt m) (td A pr sm pt du0 d0 r0 m).2.2.2.1 m, lpUp (td A pr sm pt du0 d0 r0 m).2.2.2.2 m (tdD A (td A pr sm pt du0 d0 r0 m).1 (td A pr sm pt du0 d0 r0 m).2.1 (pt m) (td A pr sm pt du0 d0 r0 m).2.2.2.1 m)) := if_pos h
theorem td_n {A : AS} {pr : Nat → Bool} {sm pt du0 : Nat → Int64} {d0 r0 : Int64} {m : Nat} (h : (pr m && aLv A m) = false) : td A pr sm pt du0 d0 r0 (m + 1) = td A pr sm pt du0 d0 r0 m := if_neg (by rw [h]; decide)
set_option maxRecDepth 100000 in
theorem r_takeDues {Λ : hc_L} {I : hc_I} {L : hc_J} {R : hc_R} {e s a : Nat} {A : AS} (he : EnL Λ e s a) (h : St Λ I L R s A) {pr : Nat → Bool} (hpr : ∀ j, j < 12 → I (e + 9) j = hc_b (pr j)) (hprM : ∀ j, j < 12 → pr j = true → j < aM A) : Run xX1_takeDues [.ref e] Λ I L R (Qv (fun z => z = e + 1 ∨ z = e + 7) (fun L' => L' (e + 1) 9 = (td A pr (L (e + 11)) (L (e + 12)) (L (e + 7)) (L (e + 1) 9) (L (e + 1) 10) 12).2.2.1 ∧ L' (e + 1) 10 = (td A pr (L (e + 11)) (L (e + 12)) (L (e + 7)) (L (e + 1) 9) (L (e + 1) 10) 12).2.2.2.1 ∧ (∀ j, j ≠ 9 → j ≠ 10 → L' (e + 1) j = L (e + 1) j) ∧ ∀ j, j < 12 → L' (e + 7) j = (td A pr (L (e + 11)) (L (e + 12)) (L (e + 7)) (L (e + 1) 9) (L (e + 1) 10) 12).2.2.2.2 j) Λ I L R) := by
  refine Run.of (by decide +kernel) (Nat.le_of_ble_eq_true rfl) ?_
  show LW _ _ _ [(0, .ref e)] _ _ _ _ _ _
  refine LW_aloadn 0 dX1_takeDues_0 rfl rfl ?_
  refine gX1_6 dX1_takeDues_1 flX1_27 he.lt0 he.2.1 (he.fm 0 (by decide)) ?_
  refine LW_callS (As := [.ref (e + 11)]) (st := []) (r_total (he.lt 11 (by decide)) (he.ym 0 (by decide))) YX1_total rfl dX1_takeDues_4 mlX1_108 (by decide) ⟨Nat.le_refl _, Nat.le_refl _⟩ (Nat.le_of_ble_eq_true rfl) rfl (fun r4 Λc4 Ic4 Lc4 Rc4 hq4 => ?_)
  obtain ⟨rfl, rfl, rfl, rfl, rfl⟩ := hq4
  refine LW_lstoren (ls' := [(0, .ref e), (1, .long (sumJ (L (e + 11)) 12))]) dX1_takeDues_7 rfl (by decide) rfl ?_
  refine LW_aloadn 0 dX1_takeDues_8 rfl rfl ?_
  refine gX1_7 dX1_takeDues_9 flX1_30 he.lt0 he.2.1 (he.fm 1 (by decide)) ?_
  refine LW_callS (As := [.ref (e + 12)]) (st := []) (r_total (he.lt 12 (by decide)) (he.ym 1 (by decide))) YX1_total rfl dX1_takeDues_12 mlX1_108 (by decide) ⟨Nat.le_refl _, Nat.le_refl _⟩ (Nat.le_of_ble_eq_true rfl) rfl (fun r12 Λc12 Ic12 Lc12 Rc12 hq12 => ?_)
  obtain ⟨rfl, rfl, rfl, rfl, rfl⟩ := hq12
  refine LW_lstoren (ls' := [(0, .ref e), (1, .long (sumJ (L (e + 11)) 12)), (3, .long (sumJ (L (e + 12)) 12))]) dX1_takeDues_15 rfl (by decide) rfl ?_
  refine LW_iconst (v := 0) dX1_takeDues_16 (by decide) ?_
  refine LW_istore (ls' := [(0, .ref e), (1, .long (sumJ (L (e + 11)) 12)), (3, .long (sumJ (L (e + 12)) 12)), (5, .int 0)]) dX1_takeDues_17 (by decide) rfl ?_
  have loop : ∀ i, i ≤ 12 → ∀ L1 : hc_J, (∀ z, ¬ (z = e + 1 ∨ z = e + 7) → L1 z = L z) → (L1 (e + 1) 9 = (td A pr (L (e + 11)) (L (e + 12)) (L (e + 7)) (L (e + 1) 9) (L (e + 1) 10) i).2.2.1) → (L1 (e + 1) 10 = (td A pr (L (e + 11)) (L (e + 12)) (L (e + 7)) (L (e + 1) 9) (L (e + 1) 10) i).2.2.2.1) → (∀ j, j ≠ 9 → j ≠ 10 → L1 (e + 1) j = L (e + 1) j) → (∀ j, j < 12 → L1 (e + 7) j = (td A pr (L (e + 11)) (L (e + 12)) (L (e + 7)) (L (e + 1) 9) (L (e + 1) 10) i).2.2.2.2 j) → LW xX1_takeDues (0, 0) 19 [(0, .ref e), (1, .long ((td A pr (L (e + 11)) (L (e + 12)) (L (e + 7)) (L (e + 1) 9) (L (e + 1) 10) i).1)), (3, .long ((td A pr (L (e + 11)) (L (e + 12)) (L (e + 7)) (L (e + 1) 9) (L (e + 1) 10) i).2.1)), (5, .int (nI i))] [] Λ I L1 R (Qv (fun z => z = e + 1 ∨ z = e + 7) (fun L' => L' (e + 1) 9 = (td A pr (L (e + 11)) (L (e + 12)) (L (e + 7)) (L (e + 1) 9) (L (e + 1) 10) 12).2.2.1 ∧ L' (e + 1) 10 = (td A pr (L (e + 11)) (L (e + 12)) (L (e + 7)) (L (e + 1) 9) (L (e + 1) 10) 12).2.2.2.1 ∧ (∀ j, j ≠ 9 → j ≠ 10 → L' (e + 1) j = L (e + 1) j) ∧ ∀ j, j < 12 → L' (e + 7) j = (td A pr (L (e + 11)) (L (e + 12)) (L (e + 7)) (L (e + 1) 9) (L (e + 1) 10) 12).2.2.2.2 j) Λ I L R) := by
    refine hc_down ?_ ?_
    · intro L1 hL1 h9 h10 hT hd
      refine LW_iload 3 dX1_takeDues_19 rfl ?_
      refine LW_bipush (v := 12) dX1_takeDues_21 (by decide) ?_
      refine LW_icmp_ge (tgt := 201) dX1_takeDues_23 (by decide) (fun c23 => ?_) (fun c23 => absurd (Int32.le_refl _) c23)
      refine LW_vret dX1_takeDues_201 rfl (Nat.le_of_ble_eq_true rfl) (Nat.le_of_ble_eq_true rfl) ?_
      exact ⟨rfl, rfl, rfl, hL1, rfl, h9, h10, hT, hd⟩
    · intro i hi0 ih L1 hL1 h9 h10 hT hd
      refine LW_iload 3 dX1_takeDues_19 rfl ?_
      refine LW_bipush (v := 12) dX1_takeDues_21 (by decide) ?_
      refine LW_icmp_ge (tgt := 201) dX1_takeDues_23 (by decide) (fun c23 => absurd c23 (hc_nle (by decide) (by omega) hi0)) (fun c23 => ?_)
      refine LW_aloadn 0 dX1_takeDues_26 rfl rfl ?_
      refine gX1_4 dX1_takeDues_27 flX1_20 he.lt0 he.2.1 he.f4 ?_
      refine LW_iload 3 dX1_takeDues_30 rfl ?_
      refine LW_zald dX1_takeDues_32 (he.lt 9 (by decide)) he.2.2.2.2.2.1 rfl (by omega) (Nat.le_of_ble_eq_true rfl) ?_
      rw [show I (e + 9) i = hc_b (pr i) from hpr i hi0]
      refine LW_bif_eq (tgt := 195) dX1_takeDues_33 (by decide) (fun c33 => ?_) (fun c33 => ?_)
      · refine LW_iinc (n := 3) (v := nI (i + 1)) (ls' := [(0, .ref e), (1, .long ((td A pr (L (e + 11)) (L (e + 12)) (L (e + 7)) (L (e + 1) 9) (L (e + 1) 10) i).1)), (3, .long ((td A pr (L (e + 11)) (L (e + 12)) (L (e + 7)) (L (e + 1) 9) (L (e + 1) 10) i).2.1)), (5, .int (nI (i + 1)))]) dX1_takeDues_195 rfl (hc_inc _) (by decide) rfl ?_
        refine LW_goto (tgt := 19) dX1_takeDues_198 (by decide) ?_
        have hf : (pr i && aLv A i) = false := by
          first | (rw [c33]; rfl) | (rw [Classical.not_not.mp (fun q => c46 q) |> fun z => (show aLv A i = false from z), Bool.and_false]) | (rw [c46, Bool.and_false])
        rw [td_n hf] at ih
        exact ih L1 hL1 h9 h10 hT hd
      · have him := hprM i hi0 c33
        have hyr := h.w.2.2.2.2.2.2.1 i him
        refine LW_aloadn 0 dX1_takeDues_36 rfl rfl ?_
        refine gX1_0 dX1_takeDues_37 flX1_42 he.lt0 he.2.1 he.f0 ?_
        refine gX6_5 dX1_takeDues_40 flX1_130 h.l.lt0 h.l.2.1 (h.l.f 5 (by decide)) ?_
        refine LW_iload 3 dX1_takeDues_43 rfl ?_
        refine LW_zald dX1_takeDues_45 (h.l.lt 6 (by decide)) h.l.2.2.2.2.2.2.2.1 rfl (by omega) (Nat.le_of_ble_eq_true rfl) ?_
        rw [show I (s + 6) i = hc_b (aLv A i) from h.lv him]
        refine LW_bif_ne (tgt := 52) dX1_takeDues_46 (by decide) (fun c46 => ?_) (fun c46 => ?_)
        · refine LW_aloadn 0 dX1_takeDues_52 rfl rfl ?_
          refine gX1_0 dX1_takeDues_53 flX1_42 he.lt0 he.2.1 he.f0 ?_
          refine gX6_0 dX1_takeDues_56 flX1_73 h.l.lt0 h.l.2.1 (h.l.f 0 (by decide)) ?_
          refine LW_bipush (v := 6) dX1_takeDues_59 (by decide) ?_
          refine LW_lald dX1_takeDues_61 (h.l.lt 1 (by decide)) h.l.2.2.1 rfl (by decide) (Nat.le_of_ble_eq_true rfl) ?_
          rw [show L1 (s + 1) 6 = aRu A 6 from (by rw [hL1 (s + 1) (fun q => by rcases q with q | q <;> exact he.ap (by decide) (by decide) q)]; exact h.ru (by decide))]
          refine LW_lloadn 1 dX1_takeDues_62 rfl rfl ?_
          refine LW_callSN (As := [.long (aRu A 6), .long ((td A pr (L (e + 11)) (L (e + 12)) (L (e + 7)) (L (e + 1) 9) (L (e + 1) 10) i).1)]) (st := []) (r_goalCoins (aRu A 6) ((td A pr (L (e + 11)) (L (e + 12)) (L (e + 7)) (L (e + 1) 9) (L (e + 1) 10) i).1)) YX10_goalCoins rfl dX1_takeDues_63 nlX1_112 (by decide) ⟨Nat.le_refl _, Nat.le_refl _⟩ (Nat.le_of_ble_eq_true rfl) rfl (fun r63 Λc63 Ic63 Lc63 Rc63 hq63 => ?_)
          obtain ⟨rfl, rfl, rfl, rfl, rfl⟩ := hq63
          refine LW_lstore (ls' := [(0, .ref e), (1, .long ((td A pr (L (e + 11)) (L (e + 12)) (L (e + 7)) (L (e + 1) 9) (L (e + 1) 10) i).1)), (3, .long ((td A pr (L (e + 11)) (L (e + 12)) (L (e + 7)) (L (e + 1) 9) (L (e + 1) 10) i).2.1)), (5, .int (nI i)), (6, .long ((aRu A 6) * ((td A pr (L (e + 11)) (L (e + 12)) (L (e + 7)) (L (e + 1) 9) (L (e + 1) 10) i).1) / 100))]) dX1_takeDues_66 (by decide) rfl ?_
          refine LW_lconst (v := 0) dX1_takeDues_68 (by decide) ?_
          refine LW_lload 4 dX1_takeDues_69 rfl ?_
          refine LW_aloadn 0 dX1_takeDues_71 rfl rfl ?_
          refine gX1_2 dX1_takeDues_72 flX1_9 he.lt0 he.2.1 he.f2 ?_
          refine LW_bipush (v := 10) dX1_takeDues_75 (by decide) ?_
          refine LW_lald dX1_takeDues_77 (he.lt 1 (by decide)) he.2.2.1 rfl (by decide) (Nat.le_of_ble_eq_true rfl) ?_
          rw [show L1 (e + 1) 10 = (td A pr (L (e + 11)) (L (e + 12)) (L (e + 7)) (L (e + 1) 9) (L (e + 1) 10) i).2.2.2.1 from h10]
          refine LW_lsub dX1_takeDues_78 ?_
          refine LW_lmax dX1_takeDues_79 mlX1_98 (by decide) ⟨Nat.le_refl _, Nat.le_refl _⟩ (Nat.le_of_ble_eq_true rfl) ?_
          rw [show (if (((aRu A 6) * ((td A pr (L (e + 11)) (L (e + 12)) (L (e + 7)) (L (e + 1) 9) (L (e + 1) 10) i).1) / 100) - ((td A pr (L (e + 11)) (L (e + 12)) (L (e + 7)) (L (e + 1) 9) (L (e + 1) 10) i).2.2.2.1)) < 0 then 0 else (((aRu A 6) * ((td A pr (L (e + 11)) (L (e + 12)) (L (e + 7)) (L (e + 1) 9) (L (e + 1) 10) i).1) / 100) - ((td A pr (L (e + 11)) (L (e + 12)) (L (e + 7)) (L (e + 1) 9) (L (e + 1) 10) i).2.2.2.1))) = tdL A (td A pr (L (e + 11)) (L (e + 12)) (L (e + 7)) (L (e + 1) 9) (L (e + 1) 10) i).1 (td A pr (L (e + 11)) (L (e + 12)) (L (e + 7)) (L (e + 1) 9) (L (e + 1) 10) i).2.2.2.1 from rfl]
          refine LW_lstore (ls' := [(0, .ref e), (1, .long ((td A pr (L (e + 11)) (L (e + 12)) (L (e + 7)) (L (e + 1) 9) (L (e + 1) 10) i).1)), (3, .long ((td A pr (L (e + 11)) (L (e + 12)) (L (e + 7)) (L (e + 1) 9) (L (e + 1) 10) i).2.1)), (5, .int (nI i)), (6, .long ((aRu A 6) * ((td A pr (L (e + 11)) (L (e + 12)) (L (e + 7)) (L (e + 1) 9) (L (e + 1) 10) i).1) / 100)), (8, .long (tdL A (td A pr (L (e + 11)) (L (e + 12)) (L (e + 7)) (L (e + 1) 9) (L (e + 1) 10) i).1 (td A pr (L (e + 11)) (L (e + 12)) (L (e + 7)) (L (e + 1) 9) (L (e + 1) 10) i).2.2.2.1))]) dX1_takeDues_82 (by decide) rfl ?_
          refine LW_lloadn 2 dX1_takeDues_84 rfl rfl ?_
          refine LW_lconst (v := 0) dX1_takeDues_85 (by decide) ?_
          refine LW_lcmp dX1_takeDues_86 ?_
          refine LW_lif_le (tgt := 105) dX1_takeDues_87 (by decide) (fun c87 => ?_) (fun c87 => ?_)
          · refine LW_lconst (v := 0) dX1_takeDues_105 (by decide) ?_
            have hpart : 0 = (if 0 < (td A pr (L (e + 11)) (L (e + 12)) (L (e + 7)) (L (e + 1) 9) (L (e + 1) 10) i).2.1 then tdL A (td A pr (L (e + 11)) (L (e + 12)) (L (e + 7)) (L (e + 1) 9) (L (e + 1) 10) i).1 (td A pr (L (e + 11)) (L (e + 12)) (L (e + 7)) (L (e + 1) 9) (L (e + 1) 10) i).2.2.2.1 * L (e + 12) i / (td A pr (L (e + 11)) (L (e + 12)) (L (e + 7)) (L (e + 1) 9) (L (e + 1) 10) i).2.1 else 0) := by
              first | (rw [if_pos (Int64.not_le.mp c87)]; done) | (rw [if_neg (Int64.not_lt.mpr c87)]; done)
            rw [hpart]
            refine LW_lstore (ls' := [(0, .ref e), (1, .long ((td A pr (L (e + 11)) (L (e + 12)) (L (e + 7)) (L (e + 1) 9) (L (e + 1) 10) i).1)), (3, .long ((td A pr (L (e + 11)) (L (e + 12)) (L (e + 7)) (L (e + 1) 9) (L (e + 1) 10) i).2.1)), (5, .int (nI i)), (6, .long ((aRu A 6) * ((td A pr (L (e + 11)) (L (e + 12)) (L (e + 7)) (L (e + 1) 9) (L (e + 1) 10) i).1) / 100)), (8, .long (tdL A (td A pr (L (e + 11)) (L (e + 12)) (L (e + 7)) (L (e + 1) 9) (L (e + 1) 10) i).1 (td A pr (L (e + 11)) (L (e + 12)) (L (e + 7)) (L (e + 1) 9) (L (e + 1) 10) i).2.2.2.1)), (10, .long (if 0 < (td A pr (L (e + 11)) (L (e + 12)) (L (e + 7)) (L (e + 1) 9) (L (e + 1) 10) i).2.1 then tdL A (td A pr (L (e + 11)) (L (e + 12)) (L (e + 7)) (L (e + 1) 9) (L (e + 1) 10) i).1 (td A pr (L (e + 11)) (L (e + 12)) (L (e + 7)) (L (e + 1) 9) (L (e + 1) 10) i).2.2.2.1 * L (e + 12) i / (td A pr (L (e + 11)) (L (e + 12)) (L (e + 7)) (L (e + 1) 9) (L (e + 1) 10) i).2.1 else 0))]) dX1_takeDues_106 (by decide) rfl ?_
            refine LW_iconst (v := 0) dX1_takeDues_108 (by decide) ?_
            refine LW_iconst (v := 5) dX1_takeDues_109 (by decide) ?_
            refine LW_aloadn 0 dX1_takeDues_110 rfl rfl ?_
            refine gX1_0 dX1_takeDues_111 flX1_42 he.lt0 he.2.1 he.f0 ?_
            refine gX6_6 dX1_takeDues_114 flX1_133 h.l.lt0 h.l.2.1 (h.l.f 6 (by decide)) ?_
            refine LW_iload 3 dX1_takeDues_117 rfl ?_
            refine LW_iald dX1_takeDues_119 (h.l.lt 7 (by decide)) h.l.2.2.2.2.2.2.2.2.1 rfl (by omega) (Nat.le_of_ble_eq_true rfl) ?_
            rw [show I (s + 7) i = nI (aYs A i) from h.ys him]
            refine LW_iconst (v := 1) dX1_takeDues_120 (by decide) ?_
            refine LW_iadd dX1_takeDues_121 ?_
            refine LW_isub dX1_takeDues_122 ?_
            refine LW_imax dX1_takeDues_123 mlX1_137 (by decide) ⟨Nat.le_refl _, Nat.le_refl _⟩ (Nat.le_of_ble_eq_true rfl) ?_
            refine LW_i2l dX1_takeDues_126 ?_
            rw [show (if 0 < (5 - ((nI (aYs A i)) + 1)) then (5 - ((nI (aYs A i)) + 1)) else 0).toInt64 = tdM A i from rfl]
            refine LW_lstore (ls' := [(0, .ref e), (1, .long ((td A pr (L (e + 11)) (L (e + 12)) (L (e + 7)) (L (e + 1) 9) (L (e + 1) 10) i).1)), (3, .long ((td A pr (L (e + 11)) (L (e + 12)) (L (e + 7)) (L (e + 1) 9) (L (e + 1) 10) i).2.1)), (5, .int (nI i)), (6, .long ((aRu A 6) * ((td A pr (L (e + 11)) (L (e + 12)) (L (e + 7)) (L (e + 1) 9) (L (e + 1) 10) i).1) / 100)), (8, .long (tdL A (td A pr (L (e + 11)) (L (e + 12)) (L (e + 7)) (L (e + 1) 9) (L (e + 1) 10) i).1 (td A pr (L (e + 11)) (L (e + 12)) (L (e + 7)) (L (e + 1) 9) (L (e + 1) 10) i).2.2.2.1)), (10, .long (if 0 < (td A pr (L (e + 11)) (L (e + 12)) (L (e + 7)) (L (e + 1) 9) (L (e + 1) 10) i).2.1 then tdL A (td A pr (L (e + 11)) (L (e + 12)) (L (e + 7)) (L (e + 1) 9) (L (e + 1) 10) i).1 (td A pr (L (e + 11)) (L (e + 12)) (L (e + 7)) (L (e + 1) 9) (L (e + 1) 10) i).2.2.2.1 * L (e + 12) i / (td A pr (L (e + 11)) (L (e + 12)) (L (e + 7)) (L (e + 1) 9) (L (e + 1) 10) i).2.1 else 0)), (12, .long (tdM A i))]) dX1_takeDues_127 (by decide) rfl ?_
            refine LW_lload 6 dX1_takeDues_129 rfl ?_
            refine LW_lload 7 dX1_takeDues_131 rfl ?_
            refine LW_lmul dX1_takeDues_133 ?_
            refine LW_ldc2 dX1_takeDues_134 klX1_140 ?_
            refine LW_ldiv dX1_takeDues_137 (by decide) ?_
            rw [show (((if 0 < (td A pr (L (e + 11)) (L (e + 12)) (L (e + 7)) (L (e + 1) 9) (L (e + 1) 10) i).2.1 then tdL A (td A pr (L (e + 11)) (L (e + 12)) (L (e + 7)) (L (e + 1) 9) (L (e + 1) 10) i).1 (td A pr (L (e + 11)) (L (e + 12)) (L (e + 7)) (L (e + 1) 9) (L (e + 1) 10) i).2.2.2.1 * L (e + 12) i / (td A pr (L (e + 11)) (L (e + 12)) (L (e + 7)) (L (e + 1) 9) (L (e + 1) 10) i).2.1 else 0) * (tdM A i)) / 5) = tdD A (td A pr (L (e + 11)) (L (e + 12)) (L (e + 7)) (L (e + 1) 9) (L (e + 1) 10) i).1 (td A pr (L (e + 11)) (L (e + 12)) (L (e + 7)) (L (e + 1) 9) (L (e + 1) 10) i).2.1 (L (e + 12) i) (td A pr (L (e + 11)) (L (e + 12)) (L (e + 7)) (L (e + 1) 9) (L (e + 1) 10) i).2.2.2.1 i from rfl]
            refine LW_lstore (ls' := [(0, .ref e), (1, .long ((td A pr (L (e + 11)) (L (e + 12)) (L (e + 7)) (L (e + 1) 9) (L (e + 1) 10) i).1)), (3, .long ((td A pr (L (e + 11)) (L (e + 12)) (L (e + 7)) (L (e + 1) 9) (L (e + 1) 10) i).2.1)), (5, .int (nI i)), (6, .long ((aRu A 6) * ((td A pr (L (e + 11)) (L (e + 12)) (L (e + 7)) (L (e + 1) 9) (L (e + 1) 10) i).1) / 100)), (8, .long (tdL A (td A pr (L (e + 11)) (L (e + 12)) (L (e + 7)) (L (e + 1) 9) (L (e + 1) 10) i).1 (td A pr (L (e + 11)) (L (e + 12)) (L (e + 7)) (L (e + 1) 9) (L (e + 1) 10) i).2.2.2.1)), (10, .long (if 0 < (td A pr (L (e + 11)) (L (e + 12)) (L (e + 7)) (L (e + 1) 9) (L (e + 1) 10) i).2.1 then tdL A (td A pr (L (e + 11)) (L (e + 12)) (L (e + 7)) (L (e + 1) 9) (L (e + 1) 10) i).1 (td A pr (L (e + 11)) (L (e + 12)) (L (e + 7)) (L (e + 1) 9) (L (e + 1) 10) i).2.2.2.1 * L (e + 12) i / (td A pr (L (e + 11)) (L (e + 12)) (L (e + 7)) (L (e + 1) 9) (L (e + 1) 10) i).2.1 else 0)), (12, .long (tdM A i)), (14, .long (tdD A (td A pr (L (e + 11)) (L (e + 12)) (L (e + 7)) (L (e + 1) 9) (L (e + 1) 10) i).1 (td A pr (L (e + 11)) (L (e + 12)) (L (e + 7)) (L (e + 1) 9) (L (e + 1) 10) i).2.1 (L (e + 12) i) (td A pr (L (e + 11)) (L (e + 12)) (L (e + 7)) (L (e + 1) 9) (L (e + 1) 10) i).2.2.2.1 i))]) dX1_takeDues_138 (by decide) rfl ?_
            refine LW_aloadn 0 dX1_takeDues_140 rfl rfl ?_
            refine gX1_3 dX1_takeDues_141 flX1_17 he.lt0 he.2.1 he.f3 ?_
            refine LW_iconst (v := 4) dX1_takeDues_144 (by decide) ?_
            refine LW_aald7 (r := e + 7) dX1_takeDues_145 (he.lt 2 (by decide)) he.2.2.2.1 rfl (by decide) (Nat.le_of_ble_eq_true rfl) (he.fr 4 (by decide)) ?_
            refine LW_iload 3 dX1_takeDues_146 rfl ?_
            refine LW_lload 8 dX1_takeDues_148 rfl ?_
            refine LW_last dX1_takeDues_150 (he.lt 7 (by decide)) (he.yr 4 (by decide)) rfl (by omega) (Nat.le_of_ble_eq_true rfl) ?_
            generalize hL150 : hc_u L1 (e + 7) i (tdD A (td A pr (L (e + 11)) (L (e + 12)) (L (e + 7)) (L (e + 1) 9) (L (e + 1) 10) i).1 (td A pr (L (e + 11)) (L (e + 12)) (L (e + 7)) (L (e + 1) 9) (L (e + 1) 10) i).2.1 (L (e + 12) i) (td A pr (L (e + 11)) (L (e + 12)) (L (e + 7)) (L (e + 1) 9) (L (e + 1) 10) i).2.2.2.1 i) = L150
            refine LW_aloadn 0 dX1_takeDues_151 rfl rfl ?_
            refine gX1_2 dX1_takeDues_152 flX1_9 he.lt0 he.2.1 he.f2 ?_
            refine LW_bipush (v := 9) dX1_takeDues_155 (by decide) ?_
            refine LW_dup2 dX1_takeDues_157 rfl rfl ?_
            refine LW_lald dX1_takeDues_158 (he.lt 1 (by decide)) he.2.2.1 rfl (by decide) (Nat.le_of_ble_eq_true rfl) ?_
            rw [show L150 (e + 1) 9 = (td A pr (L (e + 11)) (L (e + 12)) (L (e + 7)) (L (e + 1) 9) (L (e + 1) 10) i).2.2.1 from (by rw [← hL150, hc_u_row _ _ _ _ (by omega)]; exact h9)]
            refine LW_lload 8 dX1_takeDues_159 rfl ?_
            refine LW_ladd dX1_takeDues_161 ?_
            refine LW_last dX1_takeDues_162 (he.lt 1 (by decide)) he.2.2.1 rfl (by decide) (Nat.le_of_ble_eq_true rfl) ?_
            generalize hL162 : hc_u L150 (e + 1) 9 (((td A pr (L (e + 11)) (L (e + 12)) (L (e + 7)) (L (e + 1) 9) (L (e + 1) 10) i).2.2.1) + (tdD A (td A pr (L (e + 11)) (L (e + 12)) (L (e + 7)) (L (e + 1) 9) (L (e + 1) 10) i).1 (td A pr (L (e + 11)) (L (e + 12)) (L (e + 7)) (L (e + 1) 9) (L (e + 1) 10) i).2.1 (L (e + 12) i) (td A pr (L (e + 11)) (L (e + 12)) (L (e + 7)) (L (e + 1) 9) (L (e + 1) 10) i).2.2.2.1 i)) = L162
            refine LW_aloadn 0 dX1_takeDues_163 rfl rfl ?_
            refine gX1_2 dX1_takeDues_164 flX1_9 he.lt0 he.2.1 he.f2 ?_
            refine LW_bipush (v := 10) dX1_takeDues_167 (by decide) ?_
            refine LW_dup2 dX1_takeDues_169 rfl rfl ?_
            refine LW_lald dX1_takeDues_170 (he.lt 1 (by decide)) he.2.2.1 rfl (by decide) (Nat.le_of_ble_eq_true rfl) ?_
            rw [show L162 (e + 1) 10 = (td A pr (L (e + 11)) (L (e + 12)) (L (e + 7)) (L (e + 1) 9) (L (e + 1) 10) i).2.2.2.1 from (by rw [← hL162, hc_u_at, if_neg (by decide), ← hL150, hc_u_row _ _ _ _ (by omega)]; exact h10)]
            refine LW_lload 8 dX1_takeDues_171 rfl ?_
            refine LW_ladd dX1_takeDues_173 ?_
            refine LW_last dX1_takeDues_174 (he.lt 1 (by decide)) he.2.2.1 rfl (by decide) (Nat.le_of_ble_eq_true rfl) ?_
            generalize hL174 : hc_u L162 (e + 1) 10 (((td A pr (L (e + 11)) (L (e + 12)) (L (e + 7)) (L (e + 1) 9) (L (e + 1) 10) i).2.2.2.1) + (tdD A (td A pr (L (e + 11)) (L (e + 12)) (L (e + 7)) (L (e + 1) 9) (L (e + 1) 10) i).1 (td A pr (L (e + 11)) (L (e + 12)) (L (e + 7)) (L (e + 1) 9) (L (e + 1) 10) i).2.1 (L (e + 12) i) (td A pr (L (e + 11)) (L (e + 12)) (L (e + 7)) (L (e + 1) 9) (L (e + 1) 10) i).2.2.2.1 i)) = L174
            refine LW_lloadn 1 dX1_takeDues_175 rfl rfl ?_
            refine LW_aloadn 0 dX1_takeDues_176 rfl rfl ?_
            refine gX1_6 dX1_takeDues_177 flX1_27 he.lt0 he.2.1 (he.fm 0 (by decide)) ?_
            refine LW_iload 3 dX1_takeDues_180 rfl ?_
            refine LW_lald dX1_takeDues_182 (he.lt 11 (by decide)) (he.ym 0 (by decide)) rfl (by omega) (Nat.le_of_ble_eq_true rfl) ?_
            rw [show L174 (e + 11) i = L (e + 11) i from (by rw [← hL174, hc_u_row _ _ _ _ (by omega), ← hL162, hc_u_row _ _ _ _ (by omega), ← hL150, hc_u_row _ _ _ _ (by omega), hL1 _ (by omega)])]
            refine LW_lsub dX1_takeDues_183 ?_
            refine LW_lstoren (ls' := [(0, .ref e), (1, .long (((td A pr (L (e + 11)) (L (e + 12)) (L (e + 7)) (L (e + 1) 9) (L (e + 1) 10) i).1) - (L (e + 11) i))), (3, .long ((td A pr (L (e + 11)) (L (e + 12)) (L (e + 7)) (L (e + 1) 9) (L (e + 1) 10) i).2.1)), (5, .int (nI i)), (6, .long ((aRu A 6) * ((td A pr (L (e + 11)) (L (e + 12)) (L (e + 7)) (L (e + 1) 9) (L (e + 1) 10) i).1) / 100)), (8, .long (tdL A (td A pr (L (e + 11)) (L (e + 12)) (L (e + 7)) (L (e + 1) 9) (L (e + 1) 10) i).1 (td A pr (L (e + 11)) (L (e + 12)) (L (e + 7)) (L (e + 1) 9) (L (e + 1) 10) i).2.2.2.1)), (10, .long (if 0 < (td A pr (L (e + 11)) (L (e + 12)) (L (e + 7)) (L (e + 1) 9) (L (e + 1) 10) i).2.1 then tdL A (td A pr (L (e + 11)) (L (e + 12)) (L (e + 7)) (L (e + 1) 9) (L (e + 1) 10) i).1 (td A pr (L (e + 11)) (L (e + 12)) (L (e + 7)) (L (e + 1) 9) (L (e + 1) 10) i).2.2.2.1 * L (e + 12) i / (td A pr (L (e + 11)) (L (e + 12)) (L (e + 7)) (L (e + 1) 9) (L (e + 1) 10) i).2.1 else 0)), (12, .long (tdM A i)), (14, .long (tdD A (td A pr (L (e + 11)) (L (e + 12)) (L (e + 7)) (L (e + 1) 9) (L (e + 1) 10) i).1 (td A pr (L (e + 11)) (L (e + 12)) (L (e + 7)) (L (e + 1) 9) (L (e + 1) 10) i).2.1 (L (e + 12) i) (td A pr (L (e + 11)) (L (e + 12)) (L (e + 7)) (L (e + 1) 9) (L (e + 1) 10) i).2.2.2.1 i))]) dX1_takeDues_184 rfl (by decide) rfl ?_
            refine LW_lloadn 2 dX1_takeDues_185 rfl rfl ?_
            refine LW_aloadn 0 dX1_takeDues_186 rfl rfl ?_
            refine gX1_7 dX1_takeDues_187 flX1_30 he.lt0 he.2.1 (he.fm 1 (by decide)) ?_
            refine LW_iload 3 dX1_takeDues_190 rfl ?_
            refine LW_lald dX1_takeDues_192 (he.lt 12 (by decide)) (he.ym 1 (by decide)) rfl (by omega) (Nat.le_of_ble_eq_true rfl) ?_
            rw [show L174 (e + 12) i = L (e + 12) i from (by rw [← hL174, hc_u_row _ _ _ _ (by omega), ← hL162, hc_u_row _ _ _ _ (by omega), ← hL150, hc_u_row _ _ _ _ (by omega), hL1 _ (by omega)])]
            refine LW_lsub dX1_takeDues_193 ?_
            refine LW_lstoren (ls' := [(0, .ref e), (1, .long (((td A pr (L (e + 11)) (L (e + 12)) (L (e + 7)) (L (e + 1) 9) (L (e + 1) 10) i).1) - (L (e + 11) i))), (3, .long (((td A pr (L (e + 11)) (L (e + 12)) (L (e + 7)) (L (e + 1) 9) (L (e + 1) 10) i).2.1) - (L (e + 12) i))), (5, .int (nI i)), (6, .long ((aRu A 6) * ((td A pr (L (e + 11)) (L (e + 12)) (L (e + 7)) (L (e + 1) 9) (L (e + 1) 10) i).1) / 100)), (8, .long (tdL A (td A pr (L (e + 11)) (L (e + 12)) (L (e + 7)) (L (e + 1) 9) (L (e + 1) 10) i).1 (td A pr (L (e + 11)) (L (e + 12)) (L (e + 7)) (L (e + 1) 9) (L (e + 1) 10) i).2.2.2.1)), (10, .long (if 0 < (td A pr (L (e + 11)) (L (e + 12)) (L (e + 7)) (L (e + 1) 9) (L (e + 1) 10) i).2.1 then tdL A (td A pr (L (e + 11)) (L (e + 12)) (L (e + 7)) (L (e + 1) 9) (L (e + 1) 10) i).1 (td A pr (L (e + 11)) (L (e + 12)) (L (e + 7)) (L (e + 1) 9) (L (e + 1) 10) i).2.2.2.1 * L (e + 12) i / (td A pr (L (e + 11)) (L (e + 12)) (L (e + 7)) (L (e + 1) 9) (L (e + 1) 10) i).2.1 else 0)), (12, .long (tdM A i)), (14, .long (tdD A (td A pr (L (e + 11)) (L (e + 12)) (L (e + 7)) (L (e + 1) 9) (L (e + 1) 10) i).1 (td A pr (L (e + 11)) (L (e + 12)) (L (e + 7)) (L (e + 1) 9) (L (e + 1) 10) i).2.1 (L (e + 12) i) (td A pr (L (e + 11)) (L (e + 12)) (L (e + 7)) (L (e + 1) 9) (L (e + 1) 10) i).2.2.2.1 i))]) dX1_takeDues_194 rfl (by decide) rfl ?_
            refine LW_iinc (n := 3) (v := nI (i + 1)) (ls' := [(0, .ref e), (1, .long (((td A pr (L (e + 11)) (L (e + 12)) (L (e + 7)) (L (e + 1) 9) (L (e + 1) 10) i).1) - (L (e + 11) i))), (3, .long (((td A pr (L (e + 11)) (L (e + 12)) (L (e + 7)) (L (e + 1) 9) (L (e + 1) 10) i).2.1) - (L (e + 12) i))), (5, .int (nI (i + 1))), (6, .long ((aRu A 6) * ((td A pr (L (e + 11)) (L (e + 12)) (L (e + 7)) (L (e + 1) 9) (L (e + 1) 10) i).1) / 100)), (8, .long (tdL A (td A pr (L (e + 11)) (L (e + 12)) (L (e + 7)) (L (e + 1) 9) (L (e + 1) 10) i).1 (td A pr (L (e + 11)) (L (e + 12)) (L (e + 7)) (L (e + 1) 9) (L (e + 1) 10) i).2.2.2.1)), (10, .long (if 0 < (td A pr (L (e + 11)) (L (e + 12)) (L (e + 7)) (L (e + 1) 9) (L (e + 1) 10) i).2.1 then tdL A (td A pr (L (e + 11)) (L (e + 12)) (L (e + 7)) (L (e + 1) 9) (L (e + 1) 10) i).1 (td A pr (L (e + 11)) (L (e + 12)) (L (e + 7)) (L (e + 1) 9) (L (e + 1) 10) i).2.2.2.1 * L (e + 12) i / (td A pr (L (e + 11)) (L (e + 12)) (L (e + 7)) (L (e + 1) 9) (L (e + 1) 10) i).2.1 else 0)), (12, .long (tdM A i)), (14, .long (tdD A (td A pr (L (e + 11)) (L (e + 12)) (L (e + 7)) (L (e + 1) 9) (L (e + 1) 10) i).1 (td A pr (L (e + 11)) (L (e + 12)) (L (e + 7)) (L (e + 1) 9) (L (e + 1) 10) i).2.1 (L (e + 12) i) (td A pr (L (e + 11)) (L (e + 12)) (L (e + 7)) (L (e + 1) 9) (L (e + 1) 10) i).2.2.2.1 i))]) dX1_takeDues_195 rfl (hc_inc _) (by decide) rfl ?_
            refine LW_goto (tgt := 19) dX1_takeDues_198 (by decide) ?_
            have hf : (pr i && aLv A i) = true := by rw [c33, c46]; rfl
            rw [td_y hf] at ih
            refine LW_ls [0, 1, 2, 3] rfl ?_
            refine ih _ (fun z hz => ?_) ?_ ?_ (fun j h1 h2 => ?_) (fun j hj => ?_)
            · rw [← hL174, hc_u_row _ _ _ _ (by omega), ← hL162, hc_u_row _ _ _ _ (by omega), ← hL150, hc_u_row _ _ _ _ (by omega)]
              exact hL1 z hz
            · rw [← hL174, hc_u_at, if_neg (by decide), ← hL162, hc_u_at, if_pos rfl]
            · rw [← hL174, hc_u_at, if_pos rfl]
            · rw [← hL174, hc_u_at, if_neg h2, ← hL162, hc_u_at, if_neg h1, ← hL150, hc_u_row _ _ _ _ (by omega)]
              exact hT j h1 h2
            · rw [← hL174, hc_u_row _ _ _ _ (by omega), ← hL162, hc_u_row _ _ _ _ (by omega), ← hL150, hc_u_at]
              show _ = lpUp _ _ _ j
              unfold lpUp
              rw [hd j hj]
          · refine LW_lload 5 dX1_takeDues_90 rfl ?_
            refine LW_aloadn 0 dX1_takeDues_92 rfl rfl ?_
            refine gX1_7 dX1_takeDues_93 flX1_30 he.lt0 he.2.1 (he.fm 1 (by decide)) ?_
            refine LW_iload 3 dX1_takeDues_96 rfl ?_
            refine LW_lald dX1_takeDues_98 (he.lt 12 (by decide)) (he.ym 1 (by decide)) rfl (by omega) (Nat.le_of_ble_eq_true rfl) ?_
            rw [show L1 (e + 12) i = L (e + 12) i from (by rw [hL1 _ (by omega)])]
            refine LW_lmul dX1_takeDues_99 ?_
            refine LW_lloadn 2 dX1_takeDues_100 rfl rfl ?_
            refine LW_ldiv dX1_takeDues_101 (fun q => absurd (Int64.not_le.mp c87) (by rw [q]; exact Int64.lt_irrefl)) ?_
            refine LW_goto (tgt := 106) dX1_takeDues_102 (by decide) ?_
            have hpart : ((tdL A (td A pr (L (e + 11)) (L (e + 12)) (L (e + 7)) (L (e + 1) 9) (L (e + 1) 10) i).1 (td A pr (L (e + 11)) (L (e + 12)) (L (e + 7)) (L (e + 1) 9) (L (e + 1) 10) i).2.2.2.1) * (L (e + 12) i)) / ((td A pr (L (e + 11)) (L (e + 12)) (L (e + 7)) (L (e + 1) 9) (L (e + 1) 10) i).2.1) = (if 0 < (td A pr (L (e + 11)) (L (e + 12)) (L (e + 7)) (L (e + 1) 9) (L (e + 1) 10) i).2.1 then tdL A (td A pr (L (e + 11)) (L (e + 12)) (L (e + 7)) (L (e + 1) 9) (L (e + 1) 10) i).1 (td A pr (L (e + 11)) (L (e + 12)) (L (e + 7)) (L (e + 1) 9) (L (e + 1) 10) i).2.2.2.1 * L (e + 12) i / (td A pr (L (e + 11)) (L (e + 12)) (L (e + 7)) (L (e + 1) 9) (L (e + 1) 10) i).2.1 else 0) := by
              first | (rw [if_pos (Int64.not_le.mp c87)]; done) | (rw [if_neg (Int64.not_lt.mpr c87)]; done)
            rw [hpart]
            refine LW_lstore (ls' := [(0, .ref e), (1, .long ((td A pr (L (e + 11)) (L (e + 12)) (L (e + 7)) (L (e + 1) 9) (L (e + 1) 10) i).1)), (3, .long ((td A pr (L (e + 11)) (L (e + 12)) (L (e + 7)) (L (e + 1) 9) (L (e + 1) 10) i).2.1)), (5, .int (nI i)), (6, .long ((aRu A 6) * ((td A pr (L (e + 11)) (L (e + 12)) (L (e + 7)) (L (e + 1) 9) (L (e + 1) 10) i).1) / 100)), (8, .long (tdL A (td A pr (L (e + 11)) (L (e + 12)) (L (e + 7)) (L (e + 1) 9) (L (e + 1) 10) i).1 (td A pr (L (e + 11)) (L (e + 12)) (L (e + 7)) (L (e + 1) 9) (L (e + 1) 10) i).2.2.2.1)), (10, .long (if 0 < (td A pr (L (e + 11)) (L (e + 12)) (L (e + 7)) (L (e + 1) 9) (L (e + 1) 10) i).2.1 then tdL A (td A pr (L (e + 11)) (L (e + 12)) (L (e + 7)) (L (e + 1) 9) (L (e + 1) 10) i).1 (td A pr (L (e + 11)) (L (e + 12)) (L (e + 7)) (L (e + 1) 9) (L (e + 1) 10) i).2.2.2.1 * L (e + 12) i / (td A pr (L (e + 11)) (L (e + 12)) (L (e + 7)) (L (e + 1) 9) (L (e + 1) 10) i).2.1 else 0))]) dX1_takeDues_106 (by decide) rfl ?_
            refine LW_iconst (v := 0) dX1_takeDues_108 (by decide) ?_
            refine LW_iconst (v := 5) dX1_takeDues_109 (by decide) ?_
            refine LW_aloadn 0 dX1_takeDues_110 rfl rfl ?_
            refine gX1_0 dX1_takeDues_111 flX1_42 he.lt0 he.2.1 he.f0 ?_
            refine gX6_6 dX1_takeDues_114 flX1_133 h.l.lt0 h.l.2.1 (h.l.f 6 (by decide)) ?_
            refine LW_iload 3 dX1_takeDues_117 rfl ?_
            refine LW_iald dX1_takeDues_119 (h.l.lt 7 (by decide)) h.l.2.2.2.2.2.2.2.2.1 rfl (by omega) (Nat.le_of_ble_eq_true rfl) ?_
            rw [show I (s + 7) i = nI (aYs A i) from h.ys him]
            refine LW_iconst (v := 1) dX1_takeDues_120 (by decide) ?_
            refine LW_iadd dX1_takeDues_121 ?_
            refine LW_isub dX1_takeDues_122 ?_
            refine LW_imax dX1_takeDues_123 mlX1_137 (by decide) ⟨Nat.le_refl _, Nat.le_refl _⟩ (Nat.le_of_ble_eq_true rfl) ?_
            refine LW_i2l dX1_takeDues_126 ?_
            rw [show (if 0 < (5 - ((nI (aYs A i)) + 1)) then (5 - ((nI (aYs A i)) + 1)) else 0).toInt64 = tdM A i from rfl]
            refine LW_lstore (ls' := [(0, .ref e), (1, .long ((td A pr (L (e + 11)) (L (e + 12)) (L (e + 7)) (L (e + 1) 9) (L (e + 1) 10) i).1)), (3, .long ((td A pr (L (e + 11)) (L (e + 12)) (L (e + 7)) (L (e + 1) 9) (L (e + 1) 10) i).2.1)), (5, .int (nI i)), (6, .long ((aRu A 6) * ((td A pr (L (e + 11)) (L (e + 12)) (L (e + 7)) (L (e + 1) 9) (L (e + 1) 10) i).1) / 100)), (8, .long (tdL A (td A pr (L (e + 11)) (L (e + 12)) (L (e + 7)) (L (e + 1) 9) (L (e + 1) 10) i).1 (td A pr (L (e + 11)) (L (e + 12)) (L (e + 7)) (L (e + 1) 9) (L (e + 1) 10) i).2.2.2.1)), (10, .long (if 0 < (td A pr (L (e + 11)) (L (e + 12)) (L (e + 7)) (L (e + 1) 9) (L (e + 1) 10) i).2.1 then tdL A (td A pr (L (e + 11)) (L (e + 12)) (L (e + 7)) (L (e + 1) 9) (L (e + 1) 10) i).1 (td A pr (L (e + 11)) (L (e + 12)) (L (e + 7)) (L (e + 1) 9) (L (e + 1) 10) i).2.2.2.1 * L (e + 12) i / (td A pr (L (e + 11)) (L (e + 12)) (L (e + 7)) (L (e + 1) 9) (L (e + 1) 10) i).2.1 else 0)), (12, .long (tdM A i))]) dX1_takeDues_127 (by decide) rfl ?_
            refine LW_lload 6 dX1_takeDues_129 rfl ?_
            refine LW_lload 7 dX1_takeDues_131 rfl ?_
            refine LW_lmul dX1_takeDues_133 ?_
            refine LW_ldc2 dX1_takeDues_134 klX1_140 ?_
            refine LW_ldiv dX1_takeDues_137 (by decide) ?_
            rw [show (((if 0 < (td A pr (L (e + 11)) (L (e + 12)) (L (e + 7)) (L (e + 1) 9) (L (e + 1) 10) i).2.1 then tdL A (td A pr (L (e + 11)) (L (e + 12)) (L (e + 7)) (L (e + 1) 9) (L (e + 1) 10) i).1 (td A pr (L (e + 11)) (L (e + 12)) (L (e + 7)) (L (e + 1) 9) (L (e + 1) 10) i).2.2.2.1 * L (e + 12) i / (td A pr (L (e + 11)) (L (e + 12)) (L (e + 7)) (L (e + 1) 9) (L (e + 1) 10) i).2.1 else 0) * (tdM A i)) / 5) = tdD A (td A pr (L (e + 11)) (L (e + 12)) (L (e + 7)) (L (e + 1) 9) (L (e + 1) 10) i).1 (td A pr (L (e + 11)) (L (e + 12)) (L (e + 7)) (L (e + 1) 9) (L (e + 1) 10) i).2.1 (L (e + 12) i) (td A pr (L (e + 11)) (L (e + 12)) (L (e + 7)) (L (e + 1) 9) (L (e + 1) 10) i).2.2.2.1 i from rfl]
            refine LW_lstore (ls' := [(0, .ref e), (1, .long ((td A pr (L (e + 11)) (L (e + 12)) (L (e + 7)) (L (e + 1) 9) (L (e + 1) 10) i).1)), (3, .long ((td A pr (L (e + 11)) (L (e + 12)) (L (e + 7)) (L (e + 1) 9) (L (e + 1) 10) i).2.1)), (5, .int (nI i)), (6, .long ((aRu A 6) * ((td A pr (L (e + 11)) (L (e + 12)) (L (e + 7)) (L (e + 1) 9) (L (e + 1) 10) i).1) / 100)), (8, .long (tdL A (td A pr (L (e + 11)) (L (e + 12)) (L (e + 7)) (L (e + 1) 9) (L (e + 1) 10) i).1 (td A pr (L (e + 11)) (L (e + 12)) (L (e + 7)) (L (e + 1) 9) (L (e + 1) 10) i).2.2.2.1)), (10, .long (if 0 < (td A pr (L (e + 11)) (L (e + 12)) (L (e + 7)) (L (e + 1) 9) (L (e + 1) 10) i).2.1 then tdL A (td A pr (L (e + 11)) (L (e + 12)) (L (e + 7)) (L (e + 1) 9) (L (e + 1) 10) i).1 (td A pr (L (e + 11)) (L (e + 12)) (L (e + 7)) (L (e + 1) 9) (L (e + 1) 10) i).2.2.2.1 * L (e + 12) i / (td A pr (L (e + 11)) (L (e + 12)) (L (e + 7)) (L (e + 1) 9) (L (e + 1) 10) i).2.1 else 0)), (12, .long (tdM A i)), (14, .long (tdD A (td A pr (L (e + 11)) (L (e + 12)) (L (e + 7)) (L (e + 1) 9) (L (e + 1) 10) i).1 (td A pr (L (e + 11)) (L (e + 12)) (L (e + 7)) (L (e + 1) 9) (L (e + 1) 10) i).2.1 (L (e + 12) i) (td A pr (L (e + 11)) (L (e + 12)) (L (e + 7)) (L (e + 1) 9) (L (e + 1) 10) i).2.2.2.1 i))]) dX1_takeDues_138 (by decide) rfl ?_
            refine LW_aloadn 0 dX1_takeDues_140 rfl rfl ?_
            refine gX1_3 dX1_takeDues_141 flX1_17 he.lt0 he.2.1 he.f3 ?_
            refine LW_iconst (v := 4) dX1_takeDues_144 (by decide) ?_
            refine LW_aald7 (r := e + 7) dX1_takeDues_145 (he.lt 2 (by decide)) he.2.2.2.1 rfl (by decide) (Nat.le_of_ble_eq_true rfl) (he.fr 4 (by decide)) ?_
            refine LW_iload 3 dX1_takeDues_146 rfl ?_
            refine LW_lload 8 dX1_takeDues_148 rfl ?_
            refine LW_last dX1_takeDues_150 (he.lt 7 (by decide)) (he.yr 4 (by decide)) rfl (by omega) (Nat.le_of_ble_eq_true rfl) ?_
            generalize hL150 : hc_u L1 (e + 7) i (tdD A (td A pr (L (e + 11)) (L (e + 12)) (L (e + 7)) (L (e + 1) 9) (L (e + 1) 10) i).1 (td A pr (L (e + 11)) (L (e + 12)) (L (e + 7)) (L (e + 1) 9) (L (e + 1) 10) i).2.1 (L (e + 12) i) (td A pr (L (e + 11)) (L (e + 12)) (L (e + 7)) (L (e + 1) 9) (L (e + 1) 10) i).2.2.2.1 i) = L150
            refine LW_aloadn 0 dX1_takeDues_151 rfl rfl ?_
            refine gX1_2 dX1_takeDues_152 flX1_9 he.lt0 he.2.1 he.f2 ?_
            refine LW_bipush (v := 9) dX1_takeDues_155 (by decide) ?_
            refine LW_dup2 dX1_takeDues_157 rfl rfl ?_
            refine LW_lald dX1_takeDues_158 (he.lt 1 (by decide)) he.2.2.1 rfl (by decide) (Nat.le_of_ble_eq_true rfl) ?_
            rw [show L150 (e + 1) 9 = (td A pr (L (e + 11)) (L (e + 12)) (L (e + 7)) (L (e + 1) 9) (L (e + 1) 10) i).2.2.1 from (by rw [← hL150, hc_u_row _ _ _ _ (by omega)]; exact h9)]
            refine LW_lload 8 dX1_takeDues_159 rfl ?_
            refine LW_ladd dX1_takeDues_161 ?_
            refine LW_last dX1_takeDues_162 (he.lt 1 (by decide)) he.2.2.1 rfl (by decide) (Nat.le_of_ble_eq_true rfl) ?_
            generalize hL162 : hc_u L150 (e + 1) 9 (((td A pr (L (e + 11)) (L (e + 12)) (L (e + 7)) (L (e + 1) 9) (L (e + 1) 10) i).2.2.1) + (tdD A (td A pr (L (e + 11)) (L (e + 12)) (L (e + 7)) (L (e + 1) 9) (L (e + 1) 10) i).1 (td A pr (L (e + 11)) (L (e + 12)) (L (e + 7)) (L (e + 1) 9) (L (e + 1) 10) i).2.1 (L (e + 12) i) (td A pr (L (e + 11)) (L (e + 12)) (L (e + 7)) (L (e + 1) 9) (L (e + 1) 10) i).2.2.2.1 i)) = L162
            refine LW_aloadn 0 dX1_takeDues_163 rfl rfl ?_
            refine gX1_2 dX1_takeDues_164 flX1_9 he.lt0 he.2.1 he.f2 ?_
            refine LW_bipush (v := 10) dX1_takeDues_167 (by decide) ?_
            refine LW_dup2 dX1_takeDues_169 rfl rfl ?_
            refine LW_lald dX1_takeDues_170 (he.lt 1 (by decide)) he.2.2.1 rfl (by decide) (Nat.le_of_ble_eq_true rfl) ?_
            rw [show L162 (e + 1) 10 = (td A pr (L (e + 11)) (L (e + 12)) (L (e + 7)) (L (e + 1) 9) (L (e + 1) 10) i).2.2.2.1 from (by rw [← hL162, hc_u_at, if_neg (by decide), ← hL150, hc_u_row _ _ _ _ (by omega)]; exact h10)]
            refine LW_lload 8 dX1_takeDues_171 rfl ?_
            refine LW_ladd dX1_takeDues_173 ?_
            refine LW_last dX1_takeDues_174 (he.lt 1 (by decide)) he.2.2.1 rfl (by decide) (Nat.le_of_ble_eq_true rfl) ?_
            generalize hL174 : hc_u L162 (e + 1) 10 (((td A pr (L (e + 11)) (L (e + 12)) (L (e + 7)) (L (e + 1) 9) (L (e + 1) 10) i).2.2.2.1) + (tdD A (td A pr (L (e + 11)) (L (e + 12)) (L (e + 7)) (L (e + 1) 9) (L (e + 1) 10) i).1 (td A pr (L (e + 11)) (L (e + 12)) (L (e + 7)) (L (e + 1) 9) (L (e + 1) 10) i).2.1 (L (e + 12) i) (td A pr (L (e + 11)) (L (e + 12)) (L (e + 7)) (L (e + 1) 9) (L (e + 1) 10) i).2.2.2.1 i)) = L174
            refine LW_lloadn 1 dX1_takeDues_175 rfl rfl ?_
            refine LW_aloadn 0 dX1_takeDues_176 rfl rfl ?_
            refine gX1_6 dX1_takeDues_177 flX1_27 he.lt0 he.2.1 (he.fm 0 (by decide)) ?_
            refine LW_iload 3 dX1_takeDues_180 rfl ?_
            refine LW_lald dX1_takeDues_182 (he.lt 11 (by decide)) (he.ym 0 (by decide)) rfl (by omega) (Nat.le_of_ble_eq_true rfl) ?_
            rw [show L174 (e + 11) i = L (e + 11) i from (by rw [← hL174, hc_u_row _ _ _ _ (by omega), ← hL162, hc_u_row _ _ _ _ (by omega), ← hL150, hc_u_row _ _ _ _ (by omega), hL1 _ (by omega)])]
            refine LW_lsub dX1_takeDues_183 ?_
            refine LW_lstoren (ls' := [(0, .ref e), (1, .long (((td A pr (L (e + 11)) (L (e + 12)) (L (e + 7)) (L (e + 1) 9) (L (e + 1) 10) i).1) - (L (e + 11) i))), (3, .long ((td A pr (L (e + 11)) (L (e + 12)) (L (e + 7)) (L (e + 1) 9) (L (e + 1) 10) i).2.1)), (5, .int (nI i)), (6, .long ((aRu A 6) * ((td A pr (L (e + 11)) (L (e + 12)) (L (e + 7)) (L (e + 1) 9) (L (e + 1) 10) i).1) / 100)), (8, .long (tdL A (td A pr (L (e + 11)) (L (e + 12)) (L (e + 7)) (L (e + 1) 9) (L (e + 1) 10) i).1 (td A pr (L (e + 11)) (L (e + 12)) (L (e + 7)) (L (e + 1) 9) (L (e + 1) 10) i).2.2.2.1)), (10, .long (if 0 < (td A pr (L (e + 11)) (L (e + 12)) (L (e + 7)) (L (e + 1) 9) (L (e + 1) 10) i).2.1 then tdL A (td A pr (L (e + 11)) (L (e + 12)) (L (e + 7)) (L (e + 1) 9) (L (e + 1) 10) i).1 (td A pr (L (e + 11)) (L (e + 12)) (L (e + 7)) (L (e + 1) 9) (L (e + 1) 10) i).2.2.2.1 * L (e + 12) i / (td A pr (L (e + 11)) (L (e + 12)) (L (e + 7)) (L (e + 1) 9) (L (e + 1) 10) i).2.1 else 0)), (12, .long (tdM A i)), (14, .long (tdD A (td A pr (L (e + 11)) (L (e + 12)) (L (e + 7)) (L (e + 1) 9) (L (e + 1) 10) i).1 (td A pr (L (e + 11)) (L (e + 12)) (L (e + 7)) (L (e + 1) 9) (L (e + 1) 10) i).2.1 (L (e + 12) i) (td A pr (L (e + 11)) (L (e + 12)) (L (e + 7)) (L (e + 1) 9) (L (e + 1) 10) i).2.2.2.1 i))]) dX1_takeDues_184 rfl (by decide) rfl ?_
            refine LW_lloadn 2 dX1_takeDues_185 rfl rfl ?_
            refine LW_aloadn 0 dX1_takeDues_186 rfl rfl ?_
            refine gX1_7 dX1_takeDues_187 flX1_30 he.lt0 he.2.1 (he.fm 1 (by decide)) ?_
            refine LW_iload 3 dX1_takeDues_190 rfl ?_
            refine LW_lald dX1_takeDues_192 (he.lt 12 (by decide)) (he.ym 1 (by decide)) rfl (by omega) (Nat.le_of_ble_eq_true rfl) ?_
            rw [show L174 (e + 12) i = L (e + 12) i from (by rw [← hL174, hc_u_row _ _ _ _ (by omega), ← hL162, hc_u_row _ _ _ _ (by omega), ← hL150, hc_u_row _ _ _ _ (by omega), hL1 _ (by omega)])]
            refine LW_lsub dX1_takeDues_193 ?_
            refine LW_lstoren (ls' := [(0, .ref e), (1, .long (((td A pr (L (e + 11)) (L (e + 12)) (L (e + 7)) (L (e + 1) 9) (L (e + 1) 10) i).1) - (L (e + 11) i))), (3, .long (((td A pr (L (e + 11)) (L (e + 12)) (L (e + 7)) (L (e + 1) 9) (L (e + 1) 10) i).2.1) - (L (e + 12) i))), (5, .int (nI i)), (6, .long ((aRu A 6) * ((td A pr (L (e + 11)) (L (e + 12)) (L (e + 7)) (L (e + 1) 9) (L (e + 1) 10) i).1) / 100)), (8, .long (tdL A (td A pr (L (e + 11)) (L (e + 12)) (L (e + 7)) (L (e + 1) 9) (L (e + 1) 10) i).1 (td A pr (L (e + 11)) (L (e + 12)) (L (e + 7)) (L (e + 1) 9) (L (e + 1) 10) i).2.2.2.1)), (10, .long (if 0 < (td A pr (L (e + 11)) (L (e + 12)) (L (e + 7)) (L (e + 1) 9) (L (e + 1) 10) i).2.1 then tdL A (td A pr (L (e + 11)) (L (e + 12)) (L (e + 7)) (L (e + 1) 9) (L (e + 1) 10) i).1 (td A pr (L (e + 11)) (L (e + 12)) (L (e + 7)) (L (e + 1) 9) (L (e + 1) 10) i).2.2.2.1 * L (e + 12) i / (td A pr (L (e + 11)) (L (e + 12)) (L (e + 7)) (L (e + 1) 9) (L (e + 1) 10) i).2.1 else 0)), (12, .long (tdM A i)), (14, .long (tdD A (td A pr (L (e + 11)) (L (e + 12)) (L (e + 7)) (L (e + 1) 9) (L (e + 1) 10) i).1 (td A pr (L (e + 11)) (L (e + 12)) (L (e + 7)) (L (e + 1) 9) (L (e + 1) 10) i).2.1 (L (e + 12) i) (td A pr (L (e + 11)) (L (e + 12)) (L (e + 7)) (L (e + 1) 9) (L (e + 1) 10) i).2.2.2.1 i))]) dX1_takeDues_194 rfl (by decide) rfl ?_
            refine LW_iinc (n := 3) (v := nI (i + 1)) (ls' := [(0, .ref e), (1, .long (((td A pr (L (e + 11)) (L (e + 12)) (L (e + 7)) (L (e + 1) 9) (L (e + 1) 10) i).1) - (L (e + 11) i))), (3, .long (((td A pr (L (e + 11)) (L (e + 12)) (L (e + 7)) (L (e + 1) 9) (L (e + 1) 10) i).2.1) - (L (e + 12) i))), (5, .int (nI (i + 1))), (6, .long ((aRu A 6) * ((td A pr (L (e + 11)) (L (e + 12)) (L (e + 7)) (L (e + 1) 9) (L (e + 1) 10) i).1) / 100)), (8, .long (tdL A (td A pr (L (e + 11)) (L (e + 12)) (L (e + 7)) (L (e + 1) 9) (L (e + 1) 10) i).1 (td A pr (L (e + 11)) (L (e + 12)) (L (e + 7)) (L (e + 1) 9) (L (e + 1) 10) i).2.2.2.1)), (10, .long (if 0 < (td A pr (L (e + 11)) (L (e + 12)) (L (e + 7)) (L (e + 1) 9) (L (e + 1) 10) i).2.1 then tdL A (td A pr (L (e + 11)) (L (e + 12)) (L (e + 7)) (L (e + 1) 9) (L (e + 1) 10) i).1 (td A pr (L (e + 11)) (L (e + 12)) (L (e + 7)) (L (e + 1) 9) (L (e + 1) 10) i).2.2.2.1 * L (e + 12) i / (td A pr (L (e + 11)) (L (e + 12)) (L (e + 7)) (L (e + 1) 9) (L (e + 1) 10) i).2.1 else 0)), (12, .long (tdM A i)), (14, .long (tdD A (td A pr (L (e + 11)) (L (e + 12)) (L (e + 7)) (L (e + 1) 9) (L (e + 1) 10) i).1 (td A pr (L (e + 11)) (L (e + 12)) (L (e + 7)) (L (e + 1) 9) (L (e + 1) 10) i).2.1 (L (e + 12) i) (td A pr (L (e + 11)) (L (e + 12)) (L (e + 7)) (L (e + 1) 9) (L (e + 1) 10) i).2.2.2.1 i))]) dX1_takeDues_195 rfl (hc_inc _) (by decide) rfl ?_
            refine LW_goto (tgt := 19) dX1_takeDues_198 (by decide) ?_
            have hf : (pr i && aLv A i) = true := by rw [c33, c46]; rfl
            rw [td_y hf] at ih
            refine LW_ls [0, 1, 2, 3] rfl ?_
            refine ih _ (fun z hz => ?_) ?_ ?_ (fun j h1 h2 => ?_) (fun j hj => ?_)
            · rw [← hL174, hc_u_row _ _ _ _ (by omega), ← hL162, hc_u_row _ _ _ _ (by omega), ← hL150, hc_u_row _ _ _ _ (by omega)]
              exact hL1 z hz
            · rw [← hL174, hc_u_at, if_neg (by decide), ← hL162, hc_u_at, if_pos rfl]
            · rw [← hL174, hc_u_at, if_pos rfl]
            · rw [← hL174, hc_u_at, if_neg h2, ← hL162, hc_u_at, if_neg h1, ← hL150, hc_u_row _ _ _ _ (by omega)]
              exact hT j h1 h2
            · rw [← hL174, hc_u_row _ _ _ _ (by omega), ← hL162, hc_u_row _ _ _ _ (by omega), ← hL150, hc_u_at]
              show _ = lpUp _ _ _ j
              unfold lpUp
              rw [hd j hj]
        · refine LW_goto (tgt := 195) dX1_takeDues_49 (by decide) ?_
          refine LW_iinc (n := 3) (v := nI (i + 1)) (ls' := [(0, .ref e), (1, .long ((td A pr (L (e + 11)) (L (e + 12)) (L (e + 7)) (L (e + 1) 9) (L (e + 1) 10) i).1)), (3, .long ((td A pr (L (e + 11)) (L (e + 12)) (L (e + 7)) (L (e + 1) 9) (L (e + 1) 10) i).2.1)), (5, .int (nI (i + 1)))]) dX1_takeDues_195 rfl (hc_inc _) (by decide) rfl ?_
          refine LW_goto (tgt := 19) dX1_takeDues_198 (by decide) ?_
          have hf : (pr i && aLv A i) = false := by
            first | (rw [c33]; rfl) | (rw [Classical.not_not.mp (fun q => c46 q) |> fun z => (show aLv A i = false from z), Bool.and_false]) | (rw [c46, Bool.and_false])
          rw [td_n hf] at ih
          exact ih L1 hL1 h9 h10 hT hd
  exact loop 0 (Nat.zero_le _) L (fun _ _ => rfl) rfl rfl (fun _ _ _ => rfl) (fun _ _ => rfl)
def abAdv (pt : Nat → Int64) (x : Int64) : Nat → Int64 := sumJ (fun m => pt m * x / 1000)
def aheadN (pr : Nat → Bool) (b : Nat → Int64) (m j : Nat) : Bool := pr j && (decide (b m < b j) || (decide (b j = b m) && decide (j < m)))
def abAhead (pr : Nat → Bool) (b : Nat → Int64) (m : Nat) : Nat → Int32 := sumI (fun j => hc_b (aheadN pr b m j))
set_option maxRecDepth 100000 in
theorem r_advancesBy {Λ : hc_L} {I : hc_I} {L : hc_J} {R : hc_R} {e s a : Nat} (he : EnL Λ e s a) (x : Int32) : Run xX1_advancesBy [.ref e, .int x] Λ I L R (Qr (some (.long (abAdv (L (e + 12)) x.toInt64 12))) Λ I L R) := by
  refine Run.of (by decide +kernel) (Nat.le_of_ble_eq_true rfl) ?_
  show LW _ _ _ [(0, .ref e), (1, .int x)] _ _ _ _ _ _
  refine LW_lconst (v := 0) dX1_advancesBy_0 (by decide) ?_
  refine LW_lstoren (ls' := [(0, .ref e), (1, .int x), (2, .long 0)]) dX1_advancesBy_1 rfl (by decide) rfl ?_
  refine LW_iconst (v := 0) dX1_advancesBy_2 (by decide) ?_
  refine LW_istore (ls' := [(0, .ref e), (1, .int x), (2, .long 0), (4, .int 0)]) dX1_advancesBy_3 (by decide) rfl ?_
  have loop : ∀ i, i ≤ 12 → LW xX1_advancesBy (0, 0) 5 [(0, .ref e), (1, .int x), (2, .long (abAdv (L (e + 12)) x.toInt64 i)), (4, .int (nI i))] [] Λ I L R (Qr (some (.long (abAdv (L (e + 12)) x.toInt64 12))) Λ I L R) := by
    refine hc_down ?_ ?_
    · refine LW_iload 3 dX1_advancesBy_5 rfl ?_
      refine LW_bipush (v := 12) dX1_advancesBy_7 (by decide) ?_
      refine LW_icmp_ge (tgt := 33) dX1_advancesBy_9 (by decide) (fun c9 => ?_) (fun c9 => absurd (Int32.le_refl _) c9)
      refine LW_lloadn 2 dX1_advancesBy_33 rfl rfl ?_
      refine LW_lret dX1_advancesBy_34 rfl (Nat.le_of_ble_eq_true rfl) (Nat.le_of_ble_eq_true rfl) ?_
      exact Qr.mk rfl
    · intro i hi ih
      refine LW_iload 3 dX1_advancesBy_5 rfl ?_
      refine LW_bipush (v := 12) dX1_advancesBy_7 (by decide) ?_
      refine LW_icmp_ge (tgt := 33) dX1_advancesBy_9 (by decide) (fun c9 => absurd c9 (hc_nle (by decide) (by omega) hi)) (fun c9 => ?_)
      refine LW_lloadn 2 dX1_advancesBy_12 rfl rfl ?_
      refine LW_aloadn 0 dX1_advancesBy_13 rfl rfl ?_
      refine gX1_7 dX1_advancesBy_14 flX1_30 he.lt0 he.2.1 (he.fm 1 (by decide)) ?_
      refine LW_iload 3 dX1_advancesBy_17 rfl ?_
      refine LW_lald dX1_advancesBy_19 (he.lt 12 (by decide)) (he.ym 1 (by decide)) rfl (by omega) (Nat.le_of_ble_eq_true rfl) ?_
      refine LW_iloadn 1 dX1_advancesBy_20 rfl rfl ?_
      refine LW_i2l dX1_advancesBy_21 ?_
      refine LW_callSN (As := [.long (L (e + 12) i), .long x.toInt64]) (st := [.long (abAdv (L (e + 12)) x.toInt64 i)]) (r_advance (L (e + 12) i) x.toInt64) YX10_advance rfl dX1_advancesBy_22 nlX1_89 (by decide) ⟨Nat.le_refl _, Nat.le_refl _⟩ (Nat.le_of_ble_eq_true rfl) rfl (fun r22 Λc22 Ic22 Lc22 Rc22 hq22 => ?_)
      obtain ⟨rfl, rfl, rfl, rfl, rfl⟩ := hq22
      refine LW_ladd dX1_advancesBy_25 ?_
      refine LW_lstoren (ls' := [(0, .ref e), (1, .int x), (2, .long ((abAdv (L (e + 12)) x.toInt64 i) + ((L (e + 12) i) * x.toInt64 / 1000))), (4, .int (nI i))]) dX1_advancesBy_26 rfl (by decide) rfl ?_
      refine LW_iinc (n := 3) (v := nI (i + 1)) (ls' := [(0, .ref e), (1, .int x), (2, .long ((abAdv (L (e + 12)) x.toInt64 i) + ((L (e + 12) i) * x.toInt64 / 1000))), (4, .int (nI (i + 1)))]) dX1_advancesBy_27 rfl (hc_inc _) (by decide) rfl ?_
      refine LW_goto (tgt := 5) dX1_advancesBy_30 (by decide) ?_
      exact ih
  exact loop 0 (Nat.zero_le _)
set_option maxRecDepth 100000 in
theorem r_ahead {Λ : hc_L} {I : hc_I} {L : hc_J} {R : hc_R} {e s a : Nat} (he : EnL Λ e s a) {pr : Nat → Bool} (hpr : ∀ j, j < 12 → I (e + 9) j = hc_b (pr j)) {m : Nat} (hm : m < 12) : Run xX1_ahead [.ref e, .int (nI m)] Λ I L R (Qr (some (.int (abAhead pr (L (e + 8)) m 12))) Λ I L R) := by
  refine Run.of (by decide +kernel) (Nat.le_of_ble_eq_true rfl) ?_
  show LW _ _ _ [(0, .ref e), (1, .int (nI m))] _ _ _ _ _ _
  refine LW_iloadn 1 dX1_ahead_0 rfl rfl ?_
  refine LW_if_lt (tgt := 10) dX1_ahead_1 (by decide) (fun c1 => absurd c1 (hc_nlt (b := 0) (by omega) (by omega) (Nat.zero_le _))) (fun c1 => ?_)
  refine LW_iloadn 1 dX1_ahead_4 rfl rfl ?_
  refine LW_bipush (v := 12) dX1_ahead_5 (by decide) ?_
  refine LW_icmp_lt (tgt := 12) dX1_ahead_7 (by decide) (fun c7 => ?_) (fun c7 => absurd ((hc_lt (b := 12) (by omega) (by omega)).mpr hm) c7)
  refine LW_aloadn 0 dX1_ahead_12 rfl rfl ?_
  refine gX1_3 dX1_ahead_13 flX1_17 he.lt0 he.2.1 he.f3 ?_
  refine LW_iconst (v := 5) dX1_ahead_16 (by decide) ?_
  refine LW_aald7 (r := e + 8) dX1_ahead_17 (he.lt 2 (by decide)) he.2.2.2.1 rfl (by decide) (Nat.le_of_ble_eq_true rfl) (he.fr 5 (by decide)) ?_
  refine LW_iloadn 1 dX1_ahead_18 rfl rfl ?_
  refine LW_lald dX1_ahead_19 (he.lt 8 (by decide)) (he.yr 5 (by decide)) rfl (by omega) (Nat.le_of_ble_eq_true rfl) ?_
  refine LW_lstoren (ls' := [(0, .ref e), (1, .int (nI m)), (2, .long (L (e + 8) m))]) dX1_ahead_20 rfl (by decide) rfl ?_
  refine LW_iconst (v := 0) dX1_ahead_21 (by decide) ?_
  refine LW_istore (ls' := [(0, .ref e), (1, .int (nI m)), (2, .long (L (e + 8) m)), (4, .int 0)]) dX1_ahead_22 (by decide) rfl ?_
  refine LW_iconst (v := 0) dX1_ahead_24 (by decide) ?_
  refine LW_istore (ls' := [(0, .ref e), (1, .int (nI m)), (2, .long (L (e + 8) m)), (4, .int 0), (5, .int 0)]) dX1_ahead_25 (by decide) rfl ?_
  have loop : ∀ i, i ≤ 12 → LW xX1_ahead (0, 0) 27 [(0, .ref e), (1, .int (nI m)), (2, .long (L (e + 8) m)), (4, .int (abAhead pr (L (e + 8)) m i)), (5, .int (nI i))] [] Λ I L R (Qr (some (.int (abAhead pr (L (e + 8)) m 12))) Λ I L R) := by
    refine hc_down ?_ ?_
    · refine LW_iload 4 dX1_ahead_27 rfl ?_
      refine LW_bipush (v := 12) dX1_ahead_29 (by decide) ?_
      refine LW_icmp_ge (tgt := 84) dX1_ahead_31 (by decide) (fun c31 => ?_) (fun c31 => absurd (Int32.le_refl _) c31)
      refine LW_iload 3 dX1_ahead_84 rfl ?_
      refine LW_iret dX1_ahead_86 rfl (Nat.le_of_ble_eq_true rfl) (Nat.le_of_ble_eq_true rfl) ?_
      exact Qr.mk rfl
    · intro i hi ih
      refine LW_iload 4 dX1_ahead_27 rfl ?_
      refine LW_bipush (v := 12) dX1_ahead_29 (by decide) ?_
      refine LW_icmp_ge (tgt := 84) dX1_ahead_31 (by decide) (fun c31 => absurd c31 (hc_nle (by decide) (by omega) hi)) (fun c31 => ?_)
      refine LW_aloadn 0 dX1_ahead_34 rfl rfl ?_
      refine gX1_3 dX1_ahead_35 flX1_17 he.lt0 he.2.1 he.f3 ?_
      refine LW_iconst (v := 5) dX1_ahead_38 (by decide) ?_
      refine LW_aald7 (r := e + 8) dX1_ahead_39 (he.lt 2 (by decide)) he.2.2.2.1 rfl (by decide) (Nat.le_of_ble_eq_true rfl) (he.fr 5 (by decide)) ?_
      refine LW_iload 4 dX1_ahead_40 rfl ?_
      refine LW_lald dX1_ahead_42 (he.lt 8 (by decide)) (he.yr 5 (by decide)) rfl (by omega) (Nat.le_of_ble_eq_true rfl) ?_
      refine LW_lstore (ls' := [(0, .ref e), (1, .int (nI m)), (2, .long (L (e + 8) m)), (4, .int (abAhead pr (L (e + 8)) m i)), (5, .int (nI i)), (6, .long (L (e + 8) i))]) dX1_ahead_43 (by decide) rfl ?_
      refine LW_aloadn 0 dX1_ahead_45 rfl rfl ?_
      refine gX1_4 dX1_ahead_46 flX1_20 he.lt0 he.2.1 he.f4 ?_
      refine LW_iload 4 dX1_ahead_49 rfl ?_
      refine LW_zald dX1_ahead_51 (he.lt 9 (by decide)) he.2.2.2.2.2.1 rfl (by omega) (Nat.le_of_ble_eq_true rfl) ?_
      rw [show I (e + 9) i = hc_b (pr i) from hpr i hi]
      refine LW_bif_eq (tgt := 78) dX1_ahead_52 (by decide) (fun c52 => ?_) (fun c52 => ?_)
      · refine LW_iinc (n := 4) (v := nI (i + 1)) (ls' := [(0, .ref e), (1, .int (nI m)), (2, .long (L (e + 8) m)), (4, .int (abAhead pr (L (e + 8)) m i)), (5, .int (nI (i + 1))), (6, .long (L (e + 8) i))]) dX1_ahead_78 rfl (hc_inc _) (by decide) rfl ?_
        refine LW_goto (tgt := 27) dX1_ahead_81 (by decide) ?_
        refine LW_ls [0, 1, 2, 3, 4] rfl ?_
        refine hc_lsc ?_ ih
        have key : abAhead pr (L (e + 8)) m (i + 1) = abAhead pr (L (e + 8)) m i + hc_b (aheadN pr (L (e + 8)) m i) := rfl
        have hb : aheadN pr (L (e + 8)) m i = false := by
          unfold aheadN
          first | (rw [c52]; rfl) | (rw [c52, decide_eq_false c59, decide_eq_false c66]; rfl) | (rw [c52, decide_eq_false c59, decide_eq_false (fun q => absurd ((hc_le (by omega) (by omega)).mp c72) (Nat.not_le.mpr q)), Bool.and_false]; rfl)
        rw [key, hb]
        simp [lv_pick, hc_b]
      · refine LW_lload 5 dX1_ahead_55 rfl ?_
        refine LW_lloadn 2 dX1_ahead_57 rfl rfl ?_
        refine LW_lcmp dX1_ahead_58 ?_
        refine LW_lif_gt (tgt := 75) dX1_ahead_59 (by decide) (fun c59 => ?_) (fun c59 => ?_)
        · refine LW_iinc (n := 3) (v := abAhead pr (L (e + 8)) m i + 1) (ls' := [(0, .ref e), (1, .int (nI m)), (2, .long (L (e + 8) m)), (4, .int (abAhead pr (L (e + 8)) m i + 1)), (5, .int (nI i)), (6, .long (L (e + 8) i))]) dX1_ahead_75 rfl rfl (by decide) rfl ?_
          refine LW_iinc (n := 4) (v := nI (i + 1)) (ls' := [(0, .ref e), (1, .int (nI m)), (2, .long (L (e + 8) m)), (4, .int (abAhead pr (L (e + 8)) m i + 1)), (5, .int (nI (i + 1))), (6, .long (L (e + 8) i))]) dX1_ahead_78 rfl (hc_inc _) (by decide) rfl ?_
          refine LW_goto (tgt := 27) dX1_ahead_81 (by decide) ?_
          refine LW_ls [0, 1, 2, 3, 4] rfl ?_
          refine hc_lsc ?_ ih
          have key : abAhead pr (L (e + 8)) m (i + 1) = abAhead pr (L (e + 8)) m i + hc_b (aheadN pr (L (e + 8)) m i) := rfl
          have hb : aheadN pr (L (e + 8)) m i = true := by
            unfold aheadN
            first | (rw [c52, decide_eq_true c59]; rfl) | (rw [c52, decide_eq_true (Classical.not_not.mp c66), decide_eq_true (show i < m by rcases Nat.lt_or_ge i m with q | q; exact q; exact absurd ((hc_le (by omega) (by omega)).mpr q) c72), Bool.and_self, Bool.or_true]; rfl)
          rw [key, hb]
          rfl
        · refine LW_lload 5 dX1_ahead_62 rfl ?_
          refine LW_lloadn 2 dX1_ahead_64 rfl rfl ?_
          refine LW_lcmp dX1_ahead_65 ?_
          refine LW_lif_ne (tgt := 78) dX1_ahead_66 (by decide) (fun c66 => ?_) (fun c66 => ?_)
          · refine LW_iinc (n := 4) (v := nI (i + 1)) (ls' := [(0, .ref e), (1, .int (nI m)), (2, .long (L (e + 8) m)), (4, .int (abAhead pr (L (e + 8)) m i)), (5, .int (nI (i + 1))), (6, .long (L (e + 8) i))]) dX1_ahead_78 rfl (hc_inc _) (by decide) rfl ?_
            refine LW_goto (tgt := 27) dX1_ahead_81 (by decide) ?_
            refine LW_ls [0, 1, 2, 3, 4] rfl ?_
            refine hc_lsc ?_ ih
            have key : abAhead pr (L (e + 8)) m (i + 1) = abAhead pr (L (e + 8)) m i + hc_b (aheadN pr (L (e + 8)) m i) := rfl
            have hb : aheadN pr (L (e + 8)) m i = false := by
              unfold aheadN
              first | (rw [c52]; rfl) | (rw [c52, decide_eq_false c59, decide_eq_false c66]; rfl) | (rw [c52, decide_eq_false c59, decide_eq_false (fun q => absurd ((hc_le (by omega) (by omega)).mp c72) (Nat.not_le.mpr q)), Bool.and_false]; rfl)
            rw [key, hb]
            simp [lv_pick, hc_b]
          · refine LW_iload 4 dX1_ahead_69 rfl ?_
            refine LW_iloadn 1 dX1_ahead_71 rfl rfl ?_
            refine LW_icmp_ge (tgt := 78) dX1_ahead_72 (by decide) (fun c72 => ?_) (fun c72 => ?_)
            · refine LW_iinc (n := 4) (v := nI (i + 1)) (ls' := [(0, .ref e), (1, .int (nI m)), (2, .long (L (e + 8) m)), (4, .int (abAhead pr (L (e + 8)) m i)), (5, .int (nI (i + 1))), (6, .long (L (e + 8) i))]) dX1_ahead_78 rfl (hc_inc _) (by decide) rfl ?_
              refine LW_goto (tgt := 27) dX1_ahead_81 (by decide) ?_
              refine LW_ls [0, 1, 2, 3, 4] rfl ?_
              refine hc_lsc ?_ ih
              have key : abAhead pr (L (e + 8)) m (i + 1) = abAhead pr (L (e + 8)) m i + hc_b (aheadN pr (L (e + 8)) m i) := rfl
              have hb : aheadN pr (L (e + 8)) m i = false := by
                unfold aheadN
                first | (rw [c52]; rfl) | (rw [c52, decide_eq_false c59, decide_eq_false c66]; rfl) | (rw [c52, decide_eq_false c59, decide_eq_false (fun q => absurd ((hc_le (by omega) (by omega)).mp c72) (Nat.not_le.mpr q)), Bool.and_false]; rfl)
              rw [key, hb]
              simp [lv_pick, hc_b]
            · refine LW_iinc (n := 3) (v := abAhead pr (L (e + 8)) m i + 1) (ls' := [(0, .ref e), (1, .int (nI m)), (2, .long (L (e + 8) m)), (4, .int (abAhead pr (L (e + 8)) m i + 1)), (5, .int (nI i)), (6, .long (L (e + 8) i))]) dX1_ahead_75 rfl rfl (by decide) rfl ?_
              refine LW_iinc (n := 4) (v := nI (i + 1)) (ls' := [(0, .ref e), (1, .int (nI m)), (2, .long (L (e + 8) m)), (4, .int (abAhead pr (L (e + 8)) m i + 1)), (5, .int (nI (i + 1))), (6, .long (L (e + 8) i))]) dX1_ahead_78 rfl (hc_inc _) (by decide) rfl ?_
              refine LW_goto (tgt := 27) dX1_ahead_81 (by decide) ?_
              refine LW_ls [0, 1, 2, 3, 4] rfl ?_
              refine hc_lsc ?_ ih
              have key : abAhead pr (L (e + 8)) m (i + 1) = abAhead pr (L (e + 8)) m i + hc_b (aheadN pr (L (e + 8)) m i) := rfl
              have hb : aheadN pr (L (e + 8)) m i = true := by
                unfold aheadN
                first | (rw [c52, decide_eq_true c59]; rfl) | (rw [c52, decide_eq_true (Classical.not_not.mp c66), decide_eq_true (show i < m by rcases Nat.lt_or_ge i m with q | q; exact q; exact absurd ((hc_le (by omega) (by omega)).mpr q) c72), Bool.and_self, Bool.or_true]; rfl)
              rw [key, hb]
              rfl
  exact loop 0 (Nat.zero_le _)
