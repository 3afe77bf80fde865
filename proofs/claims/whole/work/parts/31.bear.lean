/-! the Ending: bear, balance, clear, takeDues -/
def cBorne (A : AS) (x : Int64) : Int64 := if aRu A 1 / 2 < x then aRu A 1 / 2 else x
set_option maxRecDepth 100000 in
theorem r_bear {Λ : hc_L} {I : hc_I} {L : hc_J} {R : hc_R} {e s a : Nat} {A : AS} (he : EnL Λ e s a) (h : St Λ I L R s A) {pr : Nat → Bool} (hpr : ∀ j, j < 12 → I (e + 9) j = hc_b (pr j)) (x : Int64) : Run xX1_bear [.ref e, .long x] Λ I L R (Qvi (fun z => z = e + 10) (fun z => z = e + 1 ∨ z = e + 4 ∨ z = e + 6 ∨ z = e + 14 ∨ z = e + 15) none (fun I' L' => L' (e + 1) 6 = cBorne A x ∧ L' (e + 1) 7 = sumJ (cfG (fun m => aRu A 5 * L (e + 13) m) (L (e + 12)) 13 pr (L (e + 6)) (x - cBorne A x) (L (e + 14))) 12 ∧ L' (e + 1) 8 = sumJ (dv (x - cBorne A x - sumJ (cfG (fun m => aRu A 5 * L (e + 13) m) (L (e + 12)) 13 pr (L (e + 6)) (x - cBorne A x) (L (e + 14))) 12) (L (e + 3)) pr) 12 ∧ (∀ j, j ≠ 6 → j ≠ 7 → j ≠ 8 → L' (e + 1) j = L (e + 1) j) ∧ (∀ j, j < 12 → L' (e + 6) j = cfG (fun m => aRu A 5 * L (e + 13) m) (L (e + 12)) 13 pr (L (e + 6)) (x - cBorne A x) (L (e + 14)) j) ∧ ∀ j, j < 12 → L' (e + 4) j = dv (x - cBorne A x - sumJ (cfG (fun m => aRu A 5 * L (e + 13) m) (L (e + 12)) 13 pr (L (e + 6)) (x - cBorne A x) (L (e + 14))) 12) (L (e + 3)) pr j) Λ I L R) := by
  refine Run.of (by decide +kernel) (Nat.le_of_ble_eq_true rfl) ?_
  show LW _ _ _ [(0, .ref e), (1, .long x)] _ _ _ _ _ _
  refine LW_aloadn 0 dX1_bear_0 rfl rfl ?_
  refine gX1_2 dX1_bear_1 flX1_9 he.lt0 he.2.1 he.f2 ?_
  refine LW_bipush (v := 6) dX1_bear_4 (by decide) ?_
  refine LW_lloadn 1 dX1_bear_6 rfl rfl ?_
  refine LW_aloadn 0 dX1_bear_7 rfl rfl ?_
  refine gX1_0 dX1_bear_8 flX1_42 he.lt0 he.2.1 he.f0 ?_
  refine gX6_0 dX1_bear_11 flX1_73 h.l.lt0 h.l.2.1 (h.l.f 0 (by decide)) ?_
  refine LW_iconst (v := 1) dX1_bear_14 (by decide) ?_
  refine LW_lald dX1_bear_15 (h.l.lt 1 (by decide)) h.l.2.2.1 rfl (by decide) (Nat.le_of_ble_eq_true rfl) ?_
  rw [show L (s + 1) 1 = aRu A 1 from h.ru (by decide)]
  refine LW_ldc2 dX1_bear_16 klX1_119 ?_
  refine LW_ldiv dX1_bear_19 (by decide) ?_
  refine LW_lmin dX1_bear_20 mlX1_103 (by decide) ⟨Nat.le_refl _, Nat.le_refl _⟩ (Nat.le_of_ble_eq_true rfl) ?_
  rw [show (if ((aRu A 1) / 2) < x then ((aRu A 1) / 2) else x) = cBorne A x from rfl]
  refine LW_last dX1_bear_23 (he.lt 1 (by decide)) he.2.2.1 rfl (by decide) (Nat.le_of_ble_eq_true rfl) ?_
  generalize hL23 : hc_u L (e + 1) 6 (cBorne A x) = L23
  have z23 : ∀ z, z ≠ e + 1 → L23 z = L z := fun z hz => by rw [← hL23, hc_u_row _ _ _ _ hz]
  have h23 : St Λ I L23 R s A := h.jk (fun k hk => z23 _ (he.ap hk (by decide)))
  refine LW_aloadn 0 dX1_bear_24 rfl rfl ?_
  refine LW_lloadn 1 dX1_bear_25 rfl rfl ?_
  refine LW_aloadn 0 dX1_bear_26 rfl rfl ?_
  refine gX1_2 dX1_bear_27 flX1_9 he.lt0 he.2.1 he.f2 ?_
  refine LW_bipush (v := 6) dX1_bear_30 (by decide) ?_
  refine LW_lald dX1_bear_32 (he.lt 1 (by decide)) he.2.2.1 rfl (by decide) (Nat.le_of_ble_eq_true rfl) ?_
  rw [show L23 (e + 1) 6 = cBorne A x from (by rw [← hL23, hc_u_at, if_pos rfl])]
  refine LW_lsub dX1_bear_33 ?_
  refine LW_callV (As := [.long (x - (cBorne A x))]) (b := e) (st := []) (ci := 1) (r := (RX1, TX1, 11)) (r_callFor he h23 hpr (x - cBorne A x)) YX1_callFor rfl dX1_bear_34 mlX1_121 he.lt0 he.2.1 ⟨rfl, rfl⟩ (by decide) ⟨Nat.le_refl _, Nat.le_refl _⟩ (Nat.le_of_ble_eq_true rfl) rfl (fun r34 Λc34 Ic34 Lc34 Rc34 hq34 => ?_)
  rw [z23 _ (show e + 13 ≠ e + 1 by omega), z23 _ (show e + 12 ≠ e + 1 by omega), z23 _ (show e + 6 ≠ e + 1 by omega), z23 _ (show e + 14 ≠ e + 1 by omega)] at hq34
  obtain ⟨rfl, rfl, hIa, hLa, rfl, hFc⟩ := hq34
  refine LW_aloadn 0 dX1_bear_37 rfl rfl ?_
  refine gX1_2 dX1_bear_38 flX1_9 he.lt0 he.2.1 he.f2 ?_
  refine LW_bipush (v := 7) dX1_bear_41 (by decide) ?_
  refine LW_aloadn 0 dX1_bear_43 rfl rfl ?_
  refine gX1_3 dX1_bear_44 flX1_17 he.lt0 he.2.1 he.f3 ?_
  refine LW_iconst (v := 3) dX1_bear_47 (by decide) ?_
  refine LW_aald7 (r := e + 6) dX1_bear_48 (he.lt 2 (by decide)) he.2.2.2.1 rfl (by decide) (Nat.le_of_ble_eq_true rfl) (he.fr 3 (by decide)) ?_
  refine LW_callS (As := [.ref (e + 6)]) (st := [.int 7, .ref (e + 1)]) (r_total (he.lt 6 (by decide)) (he.yr 3 (by decide))) YX1_total rfl dX1_bear_49 mlX1_108 (by decide) ⟨Nat.le_refl _, Nat.le_refl _⟩ (Nat.le_of_ble_eq_true rfl) rfl (fun r49 Λc49 Ic49 Lc49 Rc49 hq49 => ?_)
  obtain ⟨rfl, rfl, rfl, rfl, rfl⟩ := hq49
  have hS7 : sumJ (Lc34 (e + 6)) 12 = sumJ (cfG (fun m => aRu A 5 * L (e + 13) m) (L (e + 12)) 13 pr (L (e + 6)) (x - cBorne A x) (L (e + 14))) 12 := sumJ_congr hFc
  rw [hS7]
  refine LW_last dX1_bear_52 (he.lt 1 (by decide)) he.2.2.1 rfl (by decide) (Nat.le_of_ble_eq_true rfl) ?_
  generalize hL52 : hc_u Lc34 (e + 1) 7 (sumJ (cfG (fun m => aRu A 5 * L (e + 13) m) (L (e + 12)) 13 pr (L (e + 6)) (x - cBorne A x) (L (e + 14))) 12) = L52
  refine LW_aloadn 0 dX1_bear_53 rfl rfl ?_
  refine LW_lloadn 1 dX1_bear_54 rfl rfl ?_
  refine LW_aloadn 0 dX1_bear_55 rfl rfl ?_
  refine gX1_2 dX1_bear_56 flX1_9 he.lt0 he.2.1 he.f2 ?_
  refine LW_bipush (v := 6) dX1_bear_59 (by decide) ?_
  refine LW_lald dX1_bear_61 (he.lt 1 (by decide)) he.2.2.1 rfl (by decide) (Nat.le_of_ble_eq_true rfl) ?_
  rw [show L52 (e + 1) 6 = cBorne A x from (by rw [← hL52, hc_u_at, if_neg (by decide), hLa _ (by omega), ← hL23, hc_u_at, if_pos rfl])]
  refine LW_lsub dX1_bear_62 ?_
  refine LW_aloadn 0 dX1_bear_63 rfl rfl ?_
  refine gX1_2 dX1_bear_64 flX1_9 he.lt0 he.2.1 he.f2 ?_
  refine LW_bipush (v := 7) dX1_bear_67 (by decide) ?_
  refine LW_lald dX1_bear_69 (he.lt 1 (by decide)) he.2.2.1 rfl (by decide) (Nat.le_of_ble_eq_true rfl) ?_
  rw [show L52 (e + 1) 7 = sumJ (cfG (fun m => aRu A 5 * L (e + 13) m) (L (e + 12)) 13 pr (L (e + 6)) (x - cBorne A x) (L (e + 14))) 12 from (by rw [← hL52, hc_u_at, if_pos rfl])]
  refine LW_lsub dX1_bear_70 ?_
  refine LW_aloadn 0 dX1_bear_71 rfl rfl ?_
  refine gX1_3 dX1_bear_72 flX1_17 he.lt0 he.2.1 he.f3 ?_
  refine LW_iconst (v := 0) dX1_bear_75 (by decide) ?_
  refine LW_aald7 (r := e + 3) dX1_bear_76 (he.lt 2 (by decide)) he.2.2.2.1 rfl (by decide) (Nat.le_of_ble_eq_true rfl) (he.fr 0 (by decide)) ?_
  refine LW_aloadn 0 dX1_bear_77 rfl rfl ?_
  refine gX1_4 dX1_bear_78 flX1_20 he.lt0 he.2.1 he.f4 ?_
  refine LW_aloadn 0 dX1_bear_81 rfl rfl ?_
  refine gX1_3 dX1_bear_82 flX1_17 he.lt0 he.2.1 he.f3 ?_
  refine LW_iconst (v := 1) dX1_bear_85 (by decide) ?_
  refine LW_aald7 (r := e + 4) dX1_bear_86 (he.lt 2 (by decide)) he.2.2.2.1 rfl (by decide) (Nat.le_of_ble_eq_true rfl) (he.fr 1 (by decide)) ?_
  refine LW_callV (As := [.long ((x - (cBorne A x)) - (sumJ (cfG (fun m => aRu A 5 * L (e + 13) m) (L (e + 12)) 13 pr (L (e + 6)) (x - cBorne A x) (L (e + 14))) 12)), .ref (e + 3), .ref (e + 9), .ref (e + 4)]) (b := e) (st := []) (ci := 1) (r := (RX1, TX1, 11)) (r_divide (wt := L (e + 3)) (am := pr) he.lt0 he.2.1 (he.fm 4 (by decide)) (he.lt 3 (by decide)) (he.yr 0 (by decide)) (he.lt 9 (by decide)) he.2.2.2.2.2.1 (he.lt 4 (by decide)) (he.yr 1 (by decide)) (he.lt 15 (by decide)) (he.ym 4 (by decide)) (by omega) (by omega) (by omega) (fun j _ => by rw [← hL52, hc_u_row _ _ _ _ (by omega), hLa _ (by omega), z23 _ (by omega)]) (fun j hj => by rw [hIa _ (by omega)]; exact hpr j hj)) YX1_divide rfl dX1_bear_87 mlX1_115 he.lt0 he.2.1 ⟨rfl, rfl⟩ (by decide) ⟨Nat.le_refl _, Nat.le_refl _⟩ (Nat.le_of_ble_eq_true rfl) rfl (fun r87 Λc87 Ic87 Lc87 Rc87 hq87 => ?_)
  obtain ⟨rfl, rfl, rfl, hL87, rfl, hd87⟩ := hq87
  refine LW_aloadn 0 dX1_bear_90 rfl rfl ?_
  refine gX1_2 dX1_bear_91 flX1_9 he.lt0 he.2.1 he.f2 ?_
  refine LW_bipush (v := 8) dX1_bear_94 (by decide) ?_
  refine LW_aloadn 0 dX1_bear_96 rfl rfl ?_
  refine gX1_3 dX1_bear_97 flX1_17 he.lt0 he.2.1 he.f3 ?_
  refine LW_iconst (v := 1) dX1_bear_100 (by decide) ?_
  refine LW_aald7 (r := e + 4) dX1_bear_101 (he.lt 2 (by decide)) he.2.2.2.1 rfl (by decide) (Nat.le_of_ble_eq_true rfl) (he.fr 1 (by decide)) ?_
  refine LW_callS (As := [.ref (e + 4)]) (st := [.int 8, .ref (e + 1)]) (r_total (he.lt 4 (by decide)) (he.yr 1 (by decide))) YX1_total rfl dX1_bear_102 mlX1_108 (by decide) ⟨Nat.le_refl _, Nat.le_refl _⟩ (Nat.le_of_ble_eq_true rfl) rfl (fun r102 Λc102 Ic102 Lc102 Rc102 hq102 => ?_)
  obtain ⟨rfl, rfl, rfl, rfl, rfl⟩ := hq102
  refine LW_last dX1_bear_105 (he.lt 1 (by decide)) he.2.2.1 rfl (by decide) (Nat.le_of_ble_eq_true rfl) ?_
  generalize hL105 : hc_u Lc87 (e + 1) 8 (sumJ (Lc87 (e + 4)) 12) = L105
  refine LW_vret dX1_bear_106 rfl (Nat.le_of_ble_eq_true rfl) (Nat.le_of_ble_eq_true rfl) ?_
  have hS8 : sumJ (Lc87 (e + 4)) 12 = sumJ (dv (x - cBorne A x - sumJ (cfG (fun m => aRu A 5 * L (e + 13) m) (L (e + 12)) 13 pr (L (e + 6)) (x - cBorne A x) (L (e + 14))) 12) (L (e + 3)) pr) 12 := sumJ_congr hd87
  refine ⟨rfl, rfl, hIa, fun z hz => ?_, rfl, ?_, ?_, ?_, fun j h1 h2 h3 => ?_, fun j hj => ?_, fun j hj => ?_⟩
  · rw [← hL105, hc_u_row _ _ _ _ (by omega), hL87 _ (by omega), ← hL52, hc_u_row _ _ _ _ (by omega), hLa _ (by omega), z23 _ (by omega)]
  · rw [← hL105, hc_u_at, if_neg (by decide), hL87 _ (by omega), ← hL52, hc_u_at, if_neg (by decide), hLa _ (by omega), ← hL23, hc_u_at, if_pos rfl]
  · rw [← hL105, hc_u_at, if_neg (by decide), hL87 _ (by omega), ← hL52, hc_u_at, if_pos rfl]
  · rw [← hL105, hc_u_at, if_pos rfl, hS8]
  · rw [← hL105, hc_u_at, if_neg h3, hL87 _ (by omega), ← hL52, hc_u_at, if_neg h2, hLa _ (by omega), ← hL23, hc_u_at, if_neg h1]
  · rw [← hL105, hc_u_row _ _ _ _ (by omega), hL87 _ (by omega), ← hL52, hc_u_row _ _ _ _ (by omega), hFc j hj]
  · rw [← hL105, hc_u_row _ _ _ _ (by omega), hd87 j hj]
set_option maxRecDepth 100000 in
theorem r_balance {Λ : hc_L} {I : hc_I} {L : hc_J} {R : hc_R} {e s a : Nat} (he : EnL Λ e s a) : Run xX1_balance [.ref e] Λ I L R (Qv (fun z => z = e + 8) (fun L' => ∀ j, j < 12 → L' (e + 8) j = L (e + 3) j - L (e + 4) j + L (e + 5) j - L (e + 13) j - L (e + 6) j - L (e + 7) j) Λ I L R) := by
  refine Run.of (by decide +kernel) (Nat.le_of_ble_eq_true rfl) ?_
  show LW _ _ _ [(0, .ref e)] _ _ _ _ _ _
  refine LW_iconst (v := 0) dX1_balance_0 (by decide) ?_
  refine LW_istoren (ls' := [(0, .ref e), (1, .int 0)]) dX1_balance_1 rfl (by decide) rfl ?_
  have loop : ∀ i, i ≤ 12 → ∀ L1 : hc_J, (∀ z, ¬ z = e + 8 → L1 z = L z) → (∀ j, j < i → L1 (e + 8) j = L (e + 3) j - L (e + 4) j + L (e + 5) j - L (e + 13) j - L (e + 6) j - L (e + 7) j) → LW xX1_balance (0, 0) 2 [(0, .ref e), (1, .int (nI i))] [] Λ I L1 R (Qv (fun z => z = e + 8) (fun L' => ∀ j, j < 12 → L' (e + 8) j = L (e + 3) j - L (e + 4) j + L (e + 5) j - L (e + 13) j - L (e + 6) j - L (e + 7) j) Λ I L R) := by
    refine hc_down ?_ ?_
    · intro L1 hL1 hb1
      refine LW_iloadn 1 dX1_balance_2 rfl rfl ?_
      refine LW_bipush (v := 12) dX1_balance_3 (by decide) ?_
      refine LW_icmp_ge (tgt := 75) dX1_balance_5 (by decide) (fun c5 => ?_) (fun c5 => absurd (Int32.le_refl _) c5)
      refine LW_vret dX1_balance_75 rfl (Nat.le_of_ble_eq_true rfl) (Nat.le_of_ble_eq_true rfl) ?_
      exact ⟨rfl, rfl, rfl, hL1, rfl, hb1⟩
    · intro i hi0 ih L1 hL1 hb1
      refine LW_iloadn 1 dX1_balance_2 rfl rfl ?_
      refine LW_bipush (v := 12) dX1_balance_3 (by decide) ?_
      refine LW_icmp_ge (tgt := 75) dX1_balance_5 (by decide) (fun c5 => absurd c5 (hc_nle (by decide) (by omega) hi0)) (fun c5 => ?_)
      refine LW_aloadn 0 dX1_balance_8 rfl rfl ?_
      refine gX1_3 dX1_balance_9 flX1_17 he.lt0 he.2.1 he.f3 ?_
      refine LW_iconst (v := 0) dX1_balance_12 (by decide) ?_
      refine LW_aald7 (r := e + 3) dX1_balance_13 (he.lt 2 (by decide)) he.2.2.2.1 rfl (by decide) (Nat.le_of_ble_eq_true rfl) (he.fr 0 (by decide)) ?_
      refine LW_iloadn 1 dX1_balance_14 rfl rfl ?_
      refine LW_lald dX1_balance_15 (he.lt 3 (by decide)) (he.yr 0 (by decide)) rfl (by omega) (Nat.le_of_ble_eq_true rfl) ?_
      rw [show L1 (e + 3) i = L (e + 3) i from (by rw [hL1 _ (by omega)])]
      refine LW_aloadn 0 dX1_balance_16 rfl rfl ?_
      refine gX1_3 dX1_balance_17 flX1_17 he.lt0 he.2.1 he.f3 ?_
      refine LW_iconst (v := 1) dX1_balance_20 (by decide) ?_
      refine LW_aald7 (r := e + 4) dX1_balance_21 (he.lt 2 (by decide)) he.2.2.2.1 rfl (by decide) (Nat.le_of_ble_eq_true rfl) (he.fr 1 (by decide)) ?_
      refine LW_iloadn 1 dX1_balance_22 rfl rfl ?_
      refine LW_lald dX1_balance_23 (he.lt 4 (by decide)) (he.yr 1 (by decide)) rfl (by omega) (Nat.le_of_ble_eq_true rfl) ?_
      rw [show L1 (e + 4) i = L (e + 4) i from (by rw [hL1 _ (by omega)])]
      refine LW_lsub dX1_balance_24 ?_
      refine LW_aloadn 0 dX1_balance_25 rfl rfl ?_
      refine gX1_3 dX1_balance_26 flX1_17 he.lt0 he.2.1 he.f3 ?_
      refine LW_iconst (v := 2) dX1_balance_29 (by decide) ?_
      refine LW_aald7 (r := e + 5) dX1_balance_30 (he.lt 2 (by decide)) he.2.2.2.1 rfl (by decide) (Nat.le_of_ble_eq_true rfl) (he.fr 2 (by decide)) ?_
      refine LW_iloadn 1 dX1_balance_31 rfl rfl ?_
      refine LW_lald dX1_balance_32 (he.lt 5 (by decide)) (he.yr 2 (by decide)) rfl (by omega) (Nat.le_of_ble_eq_true rfl) ?_
      rw [show L1 (e + 5) i = L (e + 5) i from (by rw [hL1 _ (by omega)])]
      refine LW_ladd dX1_balance_33 ?_
      refine LW_lstoren (ls' := [(0, .ref e), (1, .int (nI i)), (2, .long (((L (e + 3) i) - (L (e + 4) i)) + (L (e + 5) i)))]) dX1_balance_34 rfl (by decide) rfl ?_
      refine LW_aloadn 0 dX1_balance_35 rfl rfl ?_
      refine gX1_3 dX1_balance_36 flX1_17 he.lt0 he.2.1 he.f3 ?_
      refine LW_iconst (v := 5) dX1_balance_39 (by decide) ?_
      refine LW_aald7 (r := e + 8) dX1_balance_40 (he.lt 2 (by decide)) he.2.2.2.1 rfl (by decide) (Nat.le_of_ble_eq_true rfl) (he.fr 5 (by decide)) ?_
      refine LW_iloadn 1 dX1_balance_41 rfl rfl ?_
      refine LW_lloadn 2 dX1_balance_42 rfl rfl ?_
      refine LW_aloadn 0 dX1_balance_43 rfl rfl ?_
      refine gX1_8 dX1_balance_44 flX1_33 he.lt0 he.2.1 (he.fm 2 (by decide)) ?_
      refine LW_iloadn 1 dX1_balance_47 rfl rfl ?_
      refine LW_lald dX1_balance_48 (he.lt 13 (by decide)) (he.ym 2 (by decide)) rfl (by omega) (Nat.le_of_ble_eq_true rfl) ?_
      rw [show L1 (e + 13) i = L (e + 13) i from (by rw [hL1 _ (by omega)])]
      refine LW_lsub dX1_balance_49 ?_
      refine LW_aloadn 0 dX1_balance_50 rfl rfl ?_
      refine gX1_3 dX1_balance_51 flX1_17 he.lt0 he.2.1 he.f3 ?_
      refine LW_iconst (v := 3) dX1_balance_54 (by decide) ?_
      refine LW_aald7 (r := e + 6) dX1_balance_55 (he.lt 2 (by decide)) he.2.2.2.1 rfl (by decide) (Nat.le_of_ble_eq_true rfl) (he.fr 3 (by decide)) ?_
      refine LW_iloadn 1 dX1_balance_56 rfl rfl ?_
      refine LW_lald dX1_balance_57 (he.lt 6 (by decide)) (he.yr 3 (by decide)) rfl (by omega) (Nat.le_of_ble_eq_true rfl) ?_
      rw [show L1 (e + 6) i = L (e + 6) i from (by rw [hL1 _ (by omega)])]
      refine LW_lsub dX1_balance_58 ?_
      refine LW_aloadn 0 dX1_balance_59 rfl rfl ?_
      refine gX1_3 dX1_balance_60 flX1_17 he.lt0 he.2.1 he.f3 ?_
      refine LW_iconst (v := 4) dX1_balance_63 (by decide) ?_
      refine LW_aald7 (r := e + 7) dX1_balance_64 (he.lt 2 (by decide)) he.2.2.2.1 rfl (by decide) (Nat.le_of_ble_eq_true rfl) (he.fr 4 (by decide)) ?_
      refine LW_iloadn 1 dX1_balance_65 rfl rfl ?_
      refine LW_lald dX1_balance_66 (he.lt 7 (by decide)) (he.yr 4 (by decide)) rfl (by omega) (Nat.le_of_ble_eq_true rfl) ?_
      rw [show L1 (e + 7) i = L (e + 7) i from (by rw [hL1 _ (by omega)])]
      refine LW_lsub dX1_balance_67 ?_
      refine LW_last dX1_balance_68 (he.lt 8 (by decide)) (he.yr 5 (by decide)) rfl (by omega) (Nat.le_of_ble_eq_true rfl) ?_
      generalize hL68 : hc_u L1 (e + 8) i ((((((L (e + 3) i) - (L (e + 4) i)) + (L (e + 5) i)) - (L (e + 13) i)) - (L (e + 6) i)) - (L (e + 7) i)) = L68
      refine LW_iinc (n := 1) (v := nI (i + 1)) (ls' := [(0, .ref e), (1, .int (nI (i + 1))), (2, .long (((L (e + 3) i) - (L (e + 4) i)) + (L (e + 5) i)))]) dX1_balance_69 rfl (hc_inc _) (by decide) rfl ?_
      refine LW_goto (tgt := 2) dX1_balance_72 (by decide) ?_
      refine LW_ls [0, 1] rfl ?_
      exact ih _ (fun z hz => by rw [← hL68, hc_u_row _ _ _ _ hz]; exact hL1 z hz) (fun j hj => by
        rw [← hL68, hc_u_at]
        by_cases q : j = i
        · rw [if_pos q, q]
        · rw [if_neg q]
          exact hb1 j (by omega))
  exact loop 0 (Nat.zero_le _) L (fun _ _ => rfl) (fun j hj => absurd hj (Nat.not_lt_zero _))
set_option maxRecDepth 100000 in
theorem r_clearE {Λ : hc_L} {I : hc_I} {L : hc_J} {R : hc_R} {e s a : Nat} (he : EnL Λ e s a) : Run xX1_clear [.ref e] Λ I L R (Qv (fun z => z = e + 1 ∨ (e + 3 ≤ z ∧ z < e + 9)) (fun L' => (∀ j, j < 11 → L' (e + 1) j = 0) ∧ ∀ w j, w < 6 → j < 12 → L' (e + 3 + w) j = 0) Λ I L R) := by
  refine Run.of (by decide +kernel) (Nat.le_of_ble_eq_true rfl) ?_
  show LW _ _ _ [(0, .ref e)] _ _ _ _ _ _
  refine LW_iconst (v := 0) dX1_clear_0 (by decide) ?_
  refine LW_istoren (ls' := [(0, .ref e), (1, .int 0)]) dX1_clear_1 rfl (by decide) rfl ?_
  have loopB : ∀ w, w ≤ 6 → ∀ L1 : hc_J, (∀ z, ¬ (z = e + 1 ∨ (e + 3 ≤ z ∧ z < e + 9)) → L1 z = L z) → (∀ j, j < 11 → L1 (e + 1) j = 0) → (∀ v j, v < w → j < 12 → L1 (e + 3 + v) j = 0) → LW xX1_clear (0, 0) 23 [(0, .ref e), (1, .int (nI w))] [] Λ I L1 R (Qv (fun z => z = e + 1 ∨ (e + 3 ≤ z ∧ z < e + 9)) (fun L' => (∀ j, j < 11 → L' (e + 1) j = 0) ∧ ∀ w j, w < 6 → j < 12 → L' (e + 3 + w) j = 0) Λ I L R) := by
    refine hc_down ?_ ?_
    · intro L1 hL1 hT hw1
      refine LW_iloadn 1 dX1_clear_23 rfl rfl ?_
      refine LW_bipush (v := 6) dX1_clear_24 (by decide) ?_
      refine LW_icmp_ge (tgt := 58) dX1_clear_26 (by decide) (fun c26 => ?_) (fun c26 => absurd (Int32.le_refl _) c26)
      refine LW_vret dX1_clear_58 rfl (Nat.le_of_ble_eq_true rfl) (Nat.le_of_ble_eq_true rfl) ?_
      exact ⟨rfl, rfl, rfl, hL1, rfl, hT, hw1⟩
    · intro w hw0 ihB L1 hL1 hT hw1
      have loopC : ∀ j, j ≤ 12 → ∀ L2 : hc_J, (∀ z, ¬ (z = e + 1 ∨ (e + 3 ≤ z ∧ z < e + 9)) → L2 z = L z) → (∀ j, j < 11 → L2 (e + 1) j = 0) → (∀ v j, v < w → j < 12 → L2 (e + 3 + v) j = 0) → (∀ k, k < j → L2 (e + 3 + w) k = 0) → LW xX1_clear (0, 0) 31 [(0, .ref e), (1, .int (nI w)), (2, .int (nI j))] [] Λ I L2 R (Qv (fun z => z = e + 1 ∨ (e + 3 ≤ z ∧ z < e + 9)) (fun L' => (∀ j, j < 11 → L' (e + 1) j = 0) ∧ ∀ w j, w < 6 → j < 12 → L' (e + 3 + w) j = 0) Λ I L R) := by
        refine hc_down ?_ ?_
        · intro L2 hL2 hT2 hw2 hk2
          refine LW_iloadn 2 dX1_clear_31 rfl rfl ?_
          refine LW_bipush (v := 12) dX1_clear_32 (by decide) ?_
          refine LW_icmp_ge (tgt := 52) dX1_clear_34 (by decide) (fun c34 => ?_) (fun c34 => absurd (Int32.le_refl _) c34)
          refine LW_iinc (n := 1) (v := nI (w + 1)) (ls' := [(0, .ref e), (1, .int (nI (w + 1))), (2, .int (nI 12))]) dX1_clear_52 rfl (hc_inc _) (by decide) rfl ?_
          refine LW_goto (tgt := 23) dX1_clear_55 (by decide) ?_
          refine LW_ls [0, 1] rfl ?_
          exact ihB L2 hL2 hT2 (fun v j hv hj => by
            by_cases q : v = w
            · rw [q]
              exact hk2 j hj
            · exact hw2 v j (by omega) hj)
        · intro j hj ih L2 hL2 hT2 hw2 hk2
          refine LW_iloadn 2 dX1_clear_31 rfl rfl ?_
          refine LW_bipush (v := 12) dX1_clear_32 (by decide) ?_
          refine LW_icmp_ge (tgt := 52) dX1_clear_34 (by decide) (fun c34 => absurd c34 (hc_nle (by decide) (by omega) hj)) (fun c34 => ?_)
          refine LW_aloadn 0 dX1_clear_37 rfl rfl ?_
          refine gX1_3 dX1_clear_38 flX1_17 he.lt0 he.2.1 he.f3 ?_
          refine LW_iloadn 1 dX1_clear_41 rfl rfl ?_
          refine LW_aald7 (r := e + 3 + w) dX1_clear_42 (he.lt 2 (by decide)) he.2.2.2.1 rfl (by omega) (Nat.le_of_ble_eq_true rfl) (he.fr w (by omega)) ?_
          refine LW_iloadn 2 dX1_clear_43 rfl rfl ?_
          refine LW_lconst (v := 0) dX1_clear_44 (by decide) ?_
          refine LW_last dX1_clear_45 (Nat.lt_of_lt_of_le (by omega) he.1) (he.yr w (by omega)) rfl (by omega) (Nat.le_of_ble_eq_true rfl) ?_
          generalize hL45 : hc_u L2 (e + 3 + w) j 0 = L45
          refine LW_iinc (n := 2) (v := nI (j + 1)) (ls' := [(0, .ref e), (1, .int (nI w)), (2, .int (nI (j + 1)))]) dX1_clear_46 rfl (hc_inc _) (by decide) rfl ?_
          refine LW_goto (tgt := 31) dX1_clear_49 (by decide) ?_
          exact ih _ (fun z hz => by rw [← hL45, hc_u_row _ _ _ _ (by omega)]; exact hL2 z hz) (fun k hk => by rw [← hL45, hc_u_row _ _ _ _ (by omega)]; exact hT2 k hk) (fun v k hv hk => by rw [← hL45, hc_u_row _ _ _ _ (by omega)]; exact hw2 v k hv hk) (fun k hk => by
            rw [← hL45, hc_u_at]
            by_cases q : k = j
            · rw [if_pos q]
            · rw [if_neg q]
              exact hk2 k (by omega))
      refine LW_iloadn 1 dX1_clear_23 rfl rfl ?_
      refine LW_bipush (v := 6) dX1_clear_24 (by decide) ?_
      refine LW_icmp_ge (tgt := 58) dX1_clear_26 (by decide) (fun c26 => absurd c26 (hc_nle (a := 6) (by omega) (by omega) hw0)) (fun c26 => ?_)
      refine LW_iconst (v := 0) dX1_clear_29 (by decide) ?_
      refine LW_istoren (ls' := [(0, .ref e), (1, .int (nI w)), (2, .int 0)]) dX1_clear_30 rfl (by decide) rfl ?_
      exact loopC 0 (Nat.zero_le _) L1 hL1 hT hw1 (fun k hk => absurd hk (Nat.not_lt_zero _))
  have loopA : ∀ i, i ≤ 11 → ∀ L1 : hc_J, (∀ z, ¬ (z = e + 1 ∨ (e + 3 ≤ z ∧ z < e + 9)) → L1 z = L z) → (∀ j, j < i → L1 (e + 1) j = 0) → LW xX1_clear (0, 0) 2 [(0, .ref e), (1, .int (nI i))] [] Λ I L1 R (Qv (fun z => z = e + 1 ∨ (e + 3 ≤ z ∧ z < e + 9)) (fun L' => (∀ j, j < 11 → L' (e + 1) j = 0) ∧ ∀ w j, w < 6 → j < 12 → L' (e + 3 + w) j = 0) Λ I L R) := by
    refine hc_down ?_ ?_
    · intro L1 hL1 hT
      refine LW_iloadn 1 dX1_clear_2 rfl rfl ?_
      refine LW_bipush (v := 11) dX1_clear_3 (by decide) ?_
      refine LW_icmp_ge (tgt := 21) dX1_clear_5 (by decide) (fun c5 => ?_) (fun c5 => absurd (Int32.le_refl _) c5)
      refine LW_iconst (v := 0) dX1_clear_21 (by decide) ?_
      refine LW_istoren (ls' := [(0, .ref e), (1, .int 0)]) dX1_clear_22 rfl (by decide) rfl ?_
      exact loopB 0 (Nat.zero_le _) L1 hL1 hT (fun v j hv _ => absurd hv (Nat.not_lt_zero _))
    · intro i hi ih L1 hL1 hT
      refine LW_iloadn 1 dX1_clear_2 rfl rfl ?_
      refine LW_bipush (v := 11) dX1_clear_3 (by decide) ?_
      refine LW_icmp_ge (tgt := 21) dX1_clear_5 (by decide) (fun c5 => absurd c5 (hc_nle (a := 11) (by omega) (by omega) hi)) (fun c5 => ?_)
      refine LW_aloadn 0 dX1_clear_8 rfl rfl ?_
      refine gX1_2 dX1_clear_9 flX1_9 he.lt0 he.2.1 he.f2 ?_
      refine LW_iloadn 1 dX1_clear_12 rfl rfl ?_
      refine LW_lconst (v := 0) dX1_clear_13 (by decide) ?_
      refine LW_last dX1_clear_14 (he.lt 1 (by decide)) he.2.2.1 rfl (by omega) (Nat.le_of_ble_eq_true rfl) ?_
      generalize hL14 : hc_u L1 (e + 1) i 0 = L14
      refine LW_iinc (n := 1) (v := nI (i + 1)) (ls' := [(0, .ref e), (1, .int (nI (i + 1)))]) dX1_clear_15 rfl (hc_inc _) (by decide) rfl ?_
      refine LW_goto (tgt := 2) dX1_clear_18 (by decide) ?_
      exact ih _ (fun z hz => by rw [← hL14, hc_u_row _ _ _ _ (by omega)]; exact hL1 z hz) (fun j hj => by
        rw [← hL14, hc_u_at]
        by_cases q : j = i
        · rw [if_pos q]
        · rw [if_neg q]
          exact hT j (by omega))
  exact loopA 0 (Nat.zero_le _) L (fun _ _ => rfl) (fun j hj => absurd hj (Nat.not_lt_zero _))
