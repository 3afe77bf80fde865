/-! the Ending: what goes to the RESERVE, what is CALLED -/
def cLack (A : AS) (t : Int64) : Int64 := if aRu A 6 * t / 100 - aRu A 1 < 0 then 0 else aRu A 6 * t / 100 - aRu A 1
def cToR (A : AS) (t x : Int64) : Int64 := if cLack A t < x then cLack A t else x
/-- who is held, what those pay -/
def cfH (q : Nat → Bool) (mo : Nat → Int64) : Nat → Int64
  | 0 => -1
  | m + 1 => if q m = true then (if cfH q mo m < 0 then 0 else cfH q mo m) + mo m else cfH q mo m
def cfO (un : Nat → Bool) (p mo : Nat → Int64) (m : Nat) : Bool := un m && decide (mo m < p m)
def Qvi (JI J : Nat → Prop) (v : Option Value) (F : hc_I → hc_J → Prop) (Λ : hc_L) (I : hc_I) (L : hc_J) (R : hc_R) : hc_Q := fun r Λ' I' L' R' => r = v ∧ Λ = Λ' ∧ (∀ z, ¬ JI z → I' z = I z) ∧ (∀ z, ¬ J z → L' z = L z) ∧ R = R' ∧ F I' L'
set_option maxRecDepth 100000 in
theorem r_spread {Λ : hc_L} {I : hc_I} {L : hc_J} {R : hc_R} {e s a : Nat} {A : AS} (he : EnL Λ e s a) (h : St Λ I L R s A) {pr : Nat → Bool} (hpr : ∀ j, j < 12 → I (e + 9) j = hc_b (pr j)) (x : Int64) : Run xX1_spread [.ref e, .long x] Λ I L R (Qv (fun z => z = e + 1 ∨ z = e + 5 ∨ z = e + 15) (fun L' => L' (e + 1) 4 = cToR A (sumJ (L (e + 11)) 12) x ∧ (∀ j, j < 12 → L' (e + 5) j = dv (x - cToR A (sumJ (L (e + 11)) 12) x) (L (e + 13)) pr j) ∧ L' (e + 1) 5 = sumJ (dv (x - cToR A (sumJ (L (e + 11)) 12) x) (L (e + 13)) pr) 12 ∧ ∀ j, j ≠ 4 → j ≠ 5 → L' (e + 1) j = L (e + 1) j) Λ I L R) := by
  refine Run.of (by decide +kernel) (Nat.le_of_ble_eq_true rfl) ?_
  show LW _ _ _ [(0, .ref e), (1, .long x)] _ _ _ _ _ _
  refine LW_lconst (v := 0) dX1_spread_0 (by decide) ?_
  refine LW_aloadn 0 dX1_spread_1 rfl rfl ?_
  refine gX1_0 dX1_spread_2 flX1_42 he.lt0 he.2.1 he.f0 ?_
  refine gX6_0 dX1_spread_5 flX1_73 h.l.lt0 h.l.2.1 (h.l.f 0 (by decide)) ?_
  refine LW_bipush (v := 6) dX1_spread_8 (by decide) ?_
  refine LW_lald dX1_spread_10 (h.l.lt 1 (by decide)) h.l.2.2.1 rfl (by decide) (Nat.le_of_ble_eq_true rfl) ?_
  rw [show L (s + 1) 6 = aRu A 6 from h.ru (by decide)]
  refine LW_aloadn 0 dX1_spread_11 rfl rfl ?_
  refine gX1_6 dX1_spread_12 flX1_27 he.lt0 he.2.1 (he.fm 0 (by decide)) ?_
  refine LW_callS (As := [.ref (e + 11)]) (st := [.long (aRu A 6), .long 0]) (r_total (he.lt 11 (by decide)) (he.ym 0 (by decide))) YX1_total rfl dX1_spread_15 mlX1_108 (by decide) ⟨Nat.le_refl _, Nat.le_refl _⟩ (Nat.le_of_ble_eq_true rfl) rfl (fun r15 Λc15 Ic15 Lc15 Rc15 hq15 => ?_)
  obtain ⟨rfl, rfl, rfl, rfl, rfl⟩ := hq15
  refine LW_callSN (As := [.long (aRu A 6), .long (sumJ (L (e + 11)) 12)]) (st := [.long 0]) (r_goalCoins (aRu A 6) (sumJ (L (e + 11)) 12)) YX10_goalCoins rfl dX1_spread_18 nlX1_112 (by decide) ⟨Nat.le_refl _, Nat.le_refl _⟩ (Nat.le_of_ble_eq_true rfl) rfl (fun r18 Λc18 Ic18 Lc18 Rc18 hq18 => ?_)
  obtain ⟨rfl, rfl, rfl, rfl, rfl⟩ := hq18
  refine LW_aloadn 0 dX1_spread_21 rfl rfl ?_
  refine gX1_0 dX1_spread_22 flX1_42 he.lt0 he.2.1 he.f0 ?_
  refine gX6_0 dX1_spread_25 flX1_73 h.l.lt0 h.l.2.1 (h.l.f 0 (by decide)) ?_
  refine LW_iconst (v := 1) dX1_spread_28 (by decide) ?_
  refine LW_lald dX1_spread_29 (h.l.lt 1 (by decide)) h.l.2.2.1 rfl (by decide) (Nat.le_of_ble_eq_true rfl) ?_
  rw [show L (s + 1) 1 = aRu A 1 from h.ru (by decide)]
  refine LW_lsub dX1_spread_30 ?_
  refine LW_lmax dX1_spread_31 mlX1_98 (by decide) ⟨Nat.le_refl _, Nat.le_refl _⟩ (Nat.le_of_ble_eq_true rfl) ?_
  rw [show (if (((aRu A 6) * (sumJ (L (e + 11)) 12) / 100) - (aRu A 1)) < 0 then 0 else (((aRu A 6) * (sumJ (L (e + 11)) 12) / 100) - (aRu A 1))) = cLack A (sumJ (L (e + 11)) 12) from rfl]
  refine LW_lstoren (ls' := [(0, .ref e), (1, .long x), (3, .long (cLack A (sumJ (L (e + 11)) 12)))]) dX1_spread_34 rfl (by decide) rfl ?_
  refine LW_aloadn 0 dX1_spread_35 rfl rfl ?_
  refine gX1_2 dX1_spread_36 flX1_9 he.lt0 he.2.1 he.f2 ?_
  refine LW_iconst (v := 4) dX1_spread_39 (by decide) ?_
  refine LW_lloadn 1 dX1_spread_40 rfl rfl ?_
  refine LW_lloadn 2 dX1_spread_41 rfl rfl ?_
  refine LW_lmin dX1_spread_42 mlX1_103 (by decide) ⟨Nat.le_refl _, Nat.le_refl _⟩ (Nat.le_of_ble_eq_true rfl) ?_
  rw [show (if (cLack A (sumJ (L (e + 11)) 12)) < x then (cLack A (sumJ (L (e + 11)) 12)) else x) = cToR A (sumJ (L (e + 11)) 12) x from rfl]
  refine LW_last dX1_spread_45 (he.lt 1 (by decide)) he.2.2.1 rfl (by decide) (Nat.le_of_ble_eq_true rfl) ?_
  generalize hL45 : hc_u L (e + 1) 4 (cToR A (sumJ (L (e + 11)) 12) x) = L45
  refine LW_aloadn 0 dX1_spread_46 rfl rfl ?_
  refine LW_lloadn 1 dX1_spread_47 rfl rfl ?_
  refine LW_aloadn 0 dX1_spread_48 rfl rfl ?_
  refine gX1_2 dX1_spread_49 flX1_9 he.lt0 he.2.1 he.f2 ?_
  refine LW_iconst (v := 4) dX1_spread_52 (by decide) ?_
  refine LW_lald dX1_spread_53 (he.lt 1 (by decide)) he.2.2.1 rfl (by decide) (Nat.le_of_ble_eq_true rfl) ?_
  rw [show L45 (e + 1) 4 = cToR A (sumJ (L (e + 11)) 12) x from (by rw [← hL45, hc_u_at, if_pos rfl])]
  refine LW_lsub dX1_spread_54 ?_
  refine LW_aloadn 0 dX1_spread_55 rfl rfl ?_
  refine gX1_8 dX1_spread_56 flX1_33 he.lt0 he.2.1 (he.fm 2 (by decide)) ?_
  refine LW_aloadn 0 dX1_spread_59 rfl rfl ?_
  refine gX1_4 dX1_spread_60 flX1_20 he.lt0 he.2.1 he.f4 ?_
  refine LW_aloadn 0 dX1_spread_63 rfl rfl ?_
  refine gX1_3 dX1_spread_64 flX1_17 he.lt0 he.2.1 he.f3 ?_
  refine LW_iconst (v := 2) dX1_spread_67 (by decide) ?_
  refine LW_aald7 (r := e + 5) dX1_spread_68 (he.lt 2 (by decide)) he.2.2.2.1 rfl (by decide) (Nat.le_of_ble_eq_true rfl) (he.fr 2 (by decide)) ?_
  refine LW_callV (As := [.long (x - (cToR A (sumJ (L (e + 11)) 12) x)), .ref (e + 13), .ref (e + 9), .ref (e + 5)]) (b := e) (st := []) (ci := 1) (r := (RX1, TX1, 11)) (r_divide (wt := L (e + 13)) (am := pr) he.lt0 he.2.1 (he.fm 4 (by decide)) (he.lt 13 (by decide)) (he.ym 2 (by decide)) (he.lt 9 (by decide)) he.2.2.2.2.2.1 (he.lt 5 (by decide)) (he.yr 2 (by decide)) (he.lt 15 (by decide)) (he.ym 4 (by decide)) (by omega) (by omega) (by omega) (fun j _ => by rw [← hL45, hc_u_row _ _ _ _ (by omega)]) hpr) YX1_divide rfl dX1_spread_69 mlX1_115 he.lt0 he.2.1 ⟨rfl, rfl⟩ (by decide) ⟨Nat.le_refl _, Nat.le_refl _⟩ (Nat.le_of_ble_eq_true rfl) rfl (fun r69 Λc69 Ic69 Lc69 Rc69 hq69 => ?_)
  obtain ⟨rfl, rfl, rfl, hL69, rfl, hd69⟩ := hq69
  refine LW_aloadn 0 dX1_spread_72 rfl rfl ?_
  refine gX1_2 dX1_spread_73 flX1_9 he.lt0 he.2.1 he.f2 ?_
  refine LW_iconst (v := 5) dX1_spread_76 (by decide) ?_
  refine LW_aloadn 0 dX1_spread_77 rfl rfl ?_
  refine gX1_3 dX1_spread_78 flX1_17 he.lt0 he.2.1 he.f3 ?_
  refine LW_iconst (v := 2) dX1_spread_81 (by decide) ?_
  refine LW_aald7 (r := e + 5) dX1_spread_82 (he.lt 2 (by decide)) he.2.2.2.1 rfl (by decide) (Nat.le_of_ble_eq_true rfl) (he.fr 2 (by decide)) ?_
  refine LW_callS (As := [.ref (e + 5)]) (st := [.int 5, .ref (e + 1)]) (r_total (he.lt 5 (by decide)) (he.yr 2 (by decide))) YX1_total rfl dX1_spread_83 mlX1_108 (by decide) ⟨Nat.le_refl _, Nat.le_refl _⟩ (Nat.le_of_ble_eq_true rfl) rfl (fun r83 Λc83 Ic83 Lc83 Rc83 hq83 => ?_)
  obtain ⟨rfl, rfl, rfl, rfl, rfl⟩ := hq83
  refine LW_last dX1_spread_86 (he.lt 1 (by decide)) he.2.2.1 rfl (by decide) (Nat.le_of_ble_eq_true rfl) ?_
  generalize hL86 : hc_u Lc69 (e + 1) 5 (sumJ (Lc69 (e + 5)) 12) = L86
  refine LW_vret dX1_spread_87 rfl (Nat.le_of_ble_eq_true rfl) (Nat.le_of_ble_eq_true rfl) ?_
  have h5 : sumJ (Lc69 (e + 5)) 12 = sumJ (dv (x - cToR A (sumJ (L (e + 11)) 12) x) (L (e + 13)) pr) 12 := sumJ_congr hd69
  refine ⟨rfl, rfl, rfl, fun z hz => ?_, rfl, ?_, fun j hj => ?_, ?_, fun j h1 h2 => ?_⟩
  · rw [← hL86, hc_u_row _ _ _ _ (fun q => hz (Or.inl q)), hL69 _ (fun q => hz (Or.inr q)), ← hL45, hc_u_row _ _ _ _ (fun q => hz (Or.inl q))]
  · rw [← hL86, hc_u_at, if_neg (by decide), hL69 _ (by omega), ← hL45, hc_u_at, if_pos rfl]
  · rw [← hL86, hc_u_row _ _ _ _ (by omega)]
    exact hd69 j hj
  · rw [← hL86, hc_u_at, if_pos rfl, h5]
  · rw [← hL86, hc_u_at, if_neg h2, hL69 _ (by omega), ← hL45, hc_u_at, if_neg h1]
set_option maxRecDepth 100000 in
theorem r_holdAtCap {Λ : hc_L} {I : hc_I} {L : hc_J} {R : hc_R} {e s a : Nat} {A : AS} (he : EnL Λ e s a) (h : St Λ I L R s A) {un : Nat → Bool} {p : Nat → Int64} (hun : ∀ j, j < 12 → I (e + 10) j = hc_b (un j)) (hp : ∀ j, j < 12 → L (e + 14) j = p j) : Run xX1_holdAtCap [.ref e] Λ I L R (Qvi (fun z => z = e + 10) (fun z => z = e + 6) (some (.long (cfH (cfO un p (fun m => aRu A 5 * L (e + 13) m)) (fun m => aRu A 5 * L (e + 13) m) 12))) (fun I' L' => (∀ j, j < 12 → I' (e + 10) j = hc_b (un j && !cfO un p (fun m => aRu A 5 * L (e + 13) m) j)) ∧ (∀ j, j < 12 → L' (e + 6) j = if cfO un p (fun m => aRu A 5 * L (e + 13) m) j = true then aRu A 5 * L (e + 13) j else L (e + 6) j)) Λ I L R) := by
  refine Run.of (by decide +kernel) (Nat.le_of_ble_eq_true rfl) ?_
  show LW _ _ _ [(0, .ref e)] _ _ _ _ _ _
  refine LW_ldc2 dX1_holdAtCap_0 klX1_128 ?_
  refine LW_lstoren (ls' := [(0, .ref e), (1, .long (-1))]) dX1_holdAtCap_3 rfl (by decide) rfl ?_
  refine LW_iconst (v := 0) dX1_holdAtCap_4 (by decide) ?_
  refine LW_istoren (ls' := [(0, .ref e), (1, .long (-1)), (3, .int 0)]) dX1_holdAtCap_5 rfl (by decide) rfl ?_
  have loop : ∀ i, i ≤ 12 → ∀ I1 : hc_I, ∀ L1 : hc_J, (∀ z, ¬ z = e + 10 → I1 z = I z) → (∀ z, ¬ z = e + 6 → L1 z = L z) → (∀ j, j < i → I1 (e + 10) j = hc_b (un j && !cfO un p (fun m => aRu A 5 * L (e + 13) m) j)) → (∀ j, i ≤ j → j < 12 → I1 (e + 10) j = hc_b (un j)) → (∀ j, j < i → L1 (e + 6) j = if cfO un p (fun m => aRu A 5 * L (e + 13) m) j = true then aRu A 5 * L (e + 13) j else L (e + 6) j) → (∀ j, i ≤ j → j < 12 → L1 (e + 6) j = L (e + 6) j) → LW xX1_holdAtCap (0, 0) 6 [(0, .ref e), (1, .long (cfH (cfO un p (fun m => aRu A 5 * L (e + 13) m)) (fun m => aRu A 5 * L (e + 13) m) i)), (3, .int (nI i))] [] Λ I1 L1 R (Qvi (fun z => z = e + 10) (fun z => z = e + 6) (some (.long (cfH (cfO un p (fun m => aRu A 5 * L (e + 13) m)) (fun m => aRu A 5 * L (e + 13) m) 12))) (fun I' L' => (∀ j, j < 12 → I' (e + 10) j = hc_b (un j && !cfO un p (fun m => aRu A 5 * L (e + 13) m) j)) ∧ (∀ j, j < 12 → L' (e + 6) j = if cfO un p (fun m => aRu A 5 * L (e + 13) m) j = true then aRu A 5 * L (e + 13) j else L (e + 6) j)) Λ I L R) := by
    refine hc_down ?_ ?_
    · intro I1 L1 hI1 hL1 hu1 hv1 hc1 hd1
      refine LW_iloadn 2 dX1_holdAtCap_6 rfl rfl ?_
      refine LW_bipush (v := 12) dX1_holdAtCap_7 (by decide) ?_
      refine LW_icmp_ge (tgt := 83) dX1_holdAtCap_9 (by decide) (fun c9 => ?_) (fun c9 => absurd (Int32.le_refl _) c9)
      refine LW_lloadn 1 dX1_holdAtCap_83 rfl rfl ?_
      refine LW_lret dX1_holdAtCap_84 rfl (Nat.le_of_ble_eq_true rfl) (Nat.le_of_ble_eq_true rfl) ?_
      exact ⟨rfl, rfl, hI1, hL1, rfl, hu1, hc1⟩
    · intro i hi0 ih I1 L1 hI1 hL1 hu1 hv1 hc1 hd1
      refine LW_iloadn 2 dX1_holdAtCap_6 rfl rfl ?_
      refine LW_bipush (v := 12) dX1_holdAtCap_7 (by decide) ?_
      refine LW_icmp_ge (tgt := 83) dX1_holdAtCap_9 (by decide) (fun c9 => absurd c9 (hc_nle (by decide) (by omega) hi0)) (fun c9 => ?_)
      refine LW_aloadn 0 dX1_holdAtCap_12 rfl rfl ?_
      refine gX1_0 dX1_holdAtCap_13 flX1_42 he.lt0 he.2.1 he.f0 ?_
      refine gX6_0 dX1_holdAtCap_16 flX1_73 h.l.lt0 h.l.2.1 (h.l.f 0 (by decide)) ?_
      refine LW_iconst (v := 5) dX1_holdAtCap_19 (by decide) ?_
      refine LW_lald dX1_holdAtCap_20 (h.l.lt 1 (by decide)) h.l.2.2.1 rfl (by decide) (Nat.le_of_ble_eq_true rfl) ?_
      rw [show L1 (s + 1) 5 = aRu A 5 from (by rw [hL1 (s + 1) (he.ap (by decide) (by decide))]; exact h.ru (by decide))]
      refine LW_aloadn 0 dX1_holdAtCap_21 rfl rfl ?_
      refine gX1_8 dX1_holdAtCap_22 flX1_33 he.lt0 he.2.1 (he.fm 2 (by decide)) ?_
      refine LW_iloadn 2 dX1_holdAtCap_25 rfl rfl ?_
      refine LW_lald dX1_holdAtCap_26 (he.lt 13 (by decide)) (he.ym 2 (by decide)) rfl (by omega) (Nat.le_of_ble_eq_true rfl) ?_
      rw [show L1 (e + 13) i = L (e + 13) i from (by rw [hL1 _ (by omega)])]
      refine LW_lmul dX1_holdAtCap_27 ?_
      refine LW_lstore (ls' := [(0, .ref e), (1, .long (cfH (cfO un p (fun m => aRu A 5 * L (e + 13) m)) (fun m => aRu A 5 * L (e + 13) m) i)), (3, .int (nI i)), (4, .long ((aRu A 5) * (L (e + 13) i)))]) dX1_holdAtCap_28 (by decide) rfl ?_
      refine LW_aloadn 0 dX1_holdAtCap_30 rfl rfl ?_
      refine gX1_5 dX1_holdAtCap_31 flX1_24 he.lt0 he.2.1 he.f5 ?_
      refine LW_iloadn 2 dX1_holdAtCap_34 rfl rfl ?_
      refine LW_zald dX1_holdAtCap_35 (he.lt 10 (by decide)) he.2.2.2.2.2.2.1 rfl (by omega) (Nat.le_of_ble_eq_true rfl) ?_
      rw [show I1 (e + 10) i = hc_b (un i) from hv1 i (Nat.le_refl _) hi0]
      refine LW_bif_eq (tgt := 77) dX1_holdAtCap_36 (by decide) (fun c36 => ?_) (fun c36 => ?_)
      · refine LW_iinc (n := 2) (v := nI (i + 1)) (ls' := [(0, .ref e), (1, .long (cfH (cfO un p (fun m => aRu A 5 * L (e + 13) m)) (fun m => aRu A 5 * L (e + 13) m) i)), (3, .int (nI (i + 1))), (4, .long ((aRu A 5) * (L (e + 13) i)))]) dX1_holdAtCap_77 rfl (hc_inc _) (by decide) rfl ?_
        refine LW_goto (tgt := 6) dX1_holdAtCap_80 (by decide) ?_
        refine LW_ls [0, 1, 2] rfl ?_
        have ho : cfO un p (fun m => aRu A 5 * L (e + 13) m) i = false := by
          unfold cfO
          first | (rw [c36]; rfl) | (rw [decide_eq_false (Int64.not_lt.mpr c48), Bool.and_false])
        refine hc_lsc ?_ (ih I1 L1 hI1 hL1 (fun j hj => ?_) (fun j h1 h2 => hv1 j (by omega) h2) (fun j hj => ?_) (fun j h1 h2 => hd1 j (by omega) h2))
        · simp [lv_pick, cfH, ho]
        · by_cases q : j = i
          · rw [q, ho, hv1 i (Nat.le_refl _) hi0, Bool.not_false, Bool.and_true]
          · exact hu1 j (by omega)
        · by_cases q : j = i
          · rw [q, ho, if_neg (by decide)]
            exact hd1 i (Nat.le_refl _) hi0
          · exact hc1 j (by omega)
      · refine LW_aloadn 0 dX1_holdAtCap_39 rfl rfl ?_
        refine gX1_9 dX1_holdAtCap_40 flX1_36 he.lt0 he.2.1 (he.fm 3 (by decide)) ?_
        refine LW_iloadn 2 dX1_holdAtCap_43 rfl rfl ?_
        refine LW_lald dX1_holdAtCap_44 (he.lt 14 (by decide)) (he.ym 3 (by decide)) rfl (by omega) (Nat.le_of_ble_eq_true rfl) ?_
        rw [show L1 (e + 14) i = p i from (by rw [hL1 _ (by omega)]; exact hp i hi0)]
        refine LW_lload 3 dX1_holdAtCap_45 rfl ?_
        refine LW_lcmp dX1_holdAtCap_47 ?_
        refine LW_lif_le (tgt := 77) dX1_holdAtCap_48 (by decide) (fun c48 => ?_) (fun c48 => ?_)
        · refine LW_iinc (n := 2) (v := nI (i + 1)) (ls' := [(0, .ref e), (1, .long (cfH (cfO un p (fun m => aRu A 5 * L (e + 13) m)) (fun m => aRu A 5 * L (e + 13) m) i)), (3, .int (nI (i + 1))), (4, .long ((aRu A 5) * (L (e + 13) i)))]) dX1_holdAtCap_77 rfl (hc_inc _) (by decide) rfl ?_
          refine LW_goto (tgt := 6) dX1_holdAtCap_80 (by decide) ?_
          refine LW_ls [0, 1, 2] rfl ?_
          have ho : cfO un p (fun m => aRu A 5 * L (e + 13) m) i = false := by
            unfold cfO
            first | (rw [c36]; rfl) | (rw [decide_eq_false (Int64.not_lt.mpr c48), Bool.and_false])
          refine hc_lsc ?_ (ih I1 L1 hI1 hL1 (fun j hj => ?_) (fun j h1 h2 => hv1 j (by omega) h2) (fun j hj => ?_) (fun j h1 h2 => hd1 j (by omega) h2))
          · simp [lv_pick, cfH, ho]
          · by_cases q : j = i
            · rw [q, ho, hv1 i (Nat.le_refl _) hi0, Bool.not_false, Bool.and_true]
            · exact hu1 j (by omega)
          · by_cases q : j = i
            · rw [q, ho, if_neg (by decide)]
              exact hd1 i (Nat.le_refl _) hi0
            · exact hc1 j (by omega)
        · refine LW_aloadn 0 dX1_holdAtCap_51 rfl rfl ?_
          refine gX1_5 dX1_holdAtCap_52 flX1_24 he.lt0 he.2.1 he.f5 ?_
          refine LW_iloadn 2 dX1_holdAtCap_55 rfl rfl ?_
          refine LW_iconst (v := 0) dX1_holdAtCap_56 (by decide) ?_
          refine LW_zast dX1_holdAtCap_57 (he.lt 10 (by decide)) he.2.2.2.2.2.2.1 rfl (by omega) (Nat.le_of_ble_eq_true rfl) ?_
          generalize hI57 : hc_u I1 (e + 10) i (vp_nar .boolean 0) = I57
          refine LW_aloadn 0 dX1_holdAtCap_58 rfl rfl ?_
          refine gX1_3 dX1_holdAtCap_59 flX1_17 he.lt0 he.2.1 he.f3 ?_
          refine LW_iconst (v := 3) dX1_holdAtCap_62 (by decide) ?_
          refine LW_aald7 (r := e + 6) dX1_holdAtCap_63 (he.lt 2 (by decide)) he.2.2.2.1 rfl (by decide) (Nat.le_of_ble_eq_true rfl) (he.fr 3 (by decide)) ?_
          refine LW_iloadn 2 dX1_holdAtCap_64 rfl rfl ?_
          refine LW_lload 3 dX1_holdAtCap_65 rfl ?_
          refine LW_last dX1_holdAtCap_67 (he.lt 6 (by decide)) (he.yr 3 (by decide)) rfl (by omega) (Nat.le_of_ble_eq_true rfl) ?_
          generalize hL67 : hc_u L1 (e + 6) i ((aRu A 5) * (L (e + 13) i)) = L67
          refine LW_lconst (v := 0) dX1_holdAtCap_68 (by decide) ?_
          refine LW_lloadn 1 dX1_holdAtCap_69 rfl rfl ?_
          refine LW_lmax dX1_holdAtCap_70 mlX1_98 (by decide) ⟨Nat.le_refl _, Nat.le_refl _⟩ (Nat.le_of_ble_eq_true rfl) ?_
          refine LW_lload 3 dX1_holdAtCap_73 rfl ?_
          refine LW_ladd dX1_holdAtCap_75 ?_
          refine LW_lstoren (ls' := [(0, .ref e), (1, .long ((if (cfH (cfO un p (fun m => aRu A 5 * L (e + 13) m)) (fun m => aRu A 5 * L (e + 13) m) i) < 0 then 0 else (cfH (cfO un p (fun m => aRu A 5 * L (e + 13) m)) (fun m => aRu A 5 * L (e + 13) m) i)) + ((aRu A 5) * (L (e + 13) i)))), (3, .int (nI i)), (4, .long ((aRu A 5) * (L (e + 13) i)))]) dX1_holdAtCap_76 rfl (by decide) rfl ?_
          refine LW_iinc (n := 2) (v := nI (i + 1)) (ls' := [(0, .ref e), (1, .long ((if (cfH (cfO un p (fun m => aRu A 5 * L (e + 13) m)) (fun m => aRu A 5 * L (e + 13) m) i) < 0 then 0 else (cfH (cfO un p (fun m => aRu A 5 * L (e + 13) m)) (fun m => aRu A 5 * L (e + 13) m) i)) + ((aRu A 5) * (L (e + 13) i)))), (3, .int (nI (i + 1))), (4, .long ((aRu A 5) * (L (e + 13) i)))]) dX1_holdAtCap_77 rfl (hc_inc _) (by decide) rfl ?_
          refine LW_goto (tgt := 6) dX1_holdAtCap_80 (by decide) ?_
          refine LW_ls [0, 1, 2] rfl ?_
          have ho : cfO un p (fun m => aRu A 5 * L (e + 13) m) i = true := by
            unfold cfO
            rw [c36, decide_eq_true (Int64.not_le.mp c48)]
            rfl
          refine hc_lsc ?_ (ih _ _ (fun z hz => ?_) (fun z hz => ?_) (fun j hj => ?_) (fun j h1 h2 => ?_) (fun j hj => ?_) (fun j h1 h2 => ?_))
          · simp [lv_pick, cfH, ho]
          · rw [← hI57, hc_u_row _ _ _ _ hz]
            exact hI1 z hz
          · rw [← hL67, hc_u_row _ _ _ _ hz]
            exact hL1 z hz
          · rw [← hI57, hc_u_at]
            by_cases q : j = i
            · rw [if_pos q, q, ho, Bool.not_true, Bool.and_false]
              rfl
            · rw [if_neg q]
              exact hu1 j (by omega)
          · rw [← hI57, hc_u_at, if_neg (by omega)]
            exact hv1 j (by omega) h2
          · rw [← hL67, hc_u_at]
            by_cases q : j = i
            · rw [if_pos q, q, if_pos ho]
            · rw [if_neg q]
              exact hc1 j (by omega)
          · rw [← hL67, hc_u_at, if_neg (by omega)]
            exact hd1 j (by omega) h2
  exact loop 0 (Nat.zero_le _) I L (fun _ _ => rfl) (fun _ _ => rfl) (fun j hj => absurd hj (Nat.not_lt_zero _)) (fun j _ hj => hun j hj) (fun j hj => absurd hj (Nat.not_lt_zero _)) (fun j _ _ => rfl)
