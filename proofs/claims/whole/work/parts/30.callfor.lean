/-! the Ending: callFor, bear -/
/-- what each is called for: rounds till nobody is held, n more at most -/
def cfG (mo pts : Nat → Int64) : Nat → (Nat → Bool) → (Nat → Int64) → Int64 → (Nat → Int64) → (Nat → Int64)
  | 0, un, cl, _, parts => fun m => if un m = true then parts m else cl m
  | n + 1, un, cl, left, _ =>
    let p := dv left pts un
    let o := cfO un p mo
    let un' := fun m => un m && !o m
    let cl' := fun m => if o m = true then mo m else cl m
    if cfH o mo 12 = -1 then (fun m => if un' m = true then p m else cl' m) else cfG mo pts n un' cl' (left - cfH o mo 12) p
theorem cfG_stop {mo pts : Nat → Int64} {n : Nat} {un : Nat → Bool} {cl parts : Nat → Int64} {left : Int64} (h : cfH (cfO un (dv left pts un) mo) mo 12 = -1) : cfG mo pts (n + 1) un cl left parts = fun m => if (un m && !cfO un (dv left pts un) mo m) = true then dv left pts un m else (if cfO un (dv left pts un) mo m = true then mo m else cl m) := if_pos h
theorem cfG_go {mo pts : Nat → Int64} {n : Nat} {un : Nat → Bool} {cl parts : Nat → Int64} {left : Int64} (h : ¬ cfH (cfO un (dv left pts un) mo) mo 12 = -1) : cfG mo pts (n + 1) un cl left parts = cfG mo pts n (fun m => un m && !cfO un (dv left pts un) mo m) (fun m => if cfO un (dv left pts un) mo m = true then mo m else cl m) (left - cfH (cfO un (dv left pts un) mo) mo 12) (dv left pts un) := if_neg h
theorem St.jki {Λ : hc_L} {I I' : hc_I} {L L' : hc_J} {R : hc_R} {s : Nat} {A : AS} (h : St Λ I L R s A) (hL : ∀ k, k < 18 → L' (s + k) = L (s + k)) (hI : ∀ k, k < 18 → I' (s + k) = I (s + k)) (hO : ∀ r, (Λ.2.1 r = (102, 0) ∨ Λ.2.1 r = (107, 0)) → I' r = I r) : St Λ I' L' R s A := by
  obtain ⟨h1, h2, h3, h4, h5, h6, h7, h8, h9, h10, h11, h12, h13⟩ := h.jk hL
  have i0 := hI 0 (by omega)
  rw [Nat.add_zero] at i0
  refine ⟨h1, h2, by rw [i0]; exact h3, h4, by rw [hI 2 (by omega)]; exact h5, by rw [hI 3 (by omega)]; exact h6, fun m hm => ?_, fun i hi => ?_, fun i hi => ?_, h10, h11, by rw [hI 10 (by omega), hI 6 (by omega), hI 7 (by omega)]; exact h12, h13⟩
  · rw [hI 5 (by omega), hI 6 (by omega), hI 7 (by omega)]
    exact h7 m hm
  · obtain ⟨r, a1, a2, a3, a4⟩ := h8 i hi
    exact ⟨r, a1, a2, a3, by rw [hO r (Or.inl a3)]; exact a4⟩
  · obtain ⟨r, a1, a2, a3, a4⟩ := h9 i hi
    exact ⟨r, a1, a2, a3, by rw [hO r (Or.inr a3)]; exact a4⟩
set_option maxRecDepth 100000 in
theorem r_callFor {Λ : hc_L} {I : hc_I} {L : hc_J} {R : hc_R} {e s a : Nat} {A : AS} (he : EnL Λ e s a) (h : St Λ I L R s A) {pr : Nat → Bool} (hpr : ∀ j, j < 12 → I (e + 9) j = hc_b (pr j)) (x : Int64) : Run xX1_callFor [.ref e, .long x] Λ I L R (Qvi (fun z => z = e + 10) (fun z => z = e + 6 ∨ z = e + 14 ∨ z = e + 15) none (fun I' L' => ∀ j, j < 12 → L' (e + 6) j = cfG (fun m => aRu A 5 * L (e + 13) m) (L (e + 12)) 13 pr (L (e + 6)) x (L (e + 14)) j) Λ I L R) := by
  refine Run.of (by decide +kernel) (Nat.le_of_ble_eq_true rfl) ?_
  show LW _ _ _ [(0, .ref e), (1, .long x)] _ _ _ _ _ _
  refine LW_iconst (v := 0) dX1_callFor_0 (by decide) ?_
  refine LW_istoren (ls' := [(0, .ref e), (1, .long x), (3, .int 0)]) dX1_callFor_1 rfl (by decide) rfl ?_
  have loop3 : ∀ i, i ≤ 12 → ∀ (left : Int64) (I1 : hc_I) (L1 : hc_J) (un : Nat → Bool) (p cl : Nat → Int64), (∀ z, ¬ z = e + 10 → I1 z = I z) → (∀ z, ¬ (z = e + 6 ∨ z = e + 14 ∨ z = e + 15) → L1 z = L z) → (∀ j, j < 12 → I1 (e + 10) j = hc_b (un j)) → (∀ j, j < 12 → L1 (e + 14) j = p j) → (∀ j, i ≤ j → j < 12 → L1 (e + 6) j = cl j) → (∀ j, j < i → L1 (e + 6) j = if un j = true then p j else cl j) → (∀ m, (if un m = true then p m else cl m) = cfG (fun m => aRu A 5 * L (e + 13) m) (L (e + 12)) 13 pr (L (e + 6)) x (L (e + 14)) m) → LW xX1_callFor (0, 0) 87 [(0, .ref e), (1, .long x), (3, .long left), (5, .int (nI i))] [] Λ I1 L1 R (Qvi (fun z => z = e + 10) (fun z => z = e + 6 ∨ z = e + 14 ∨ z = e + 15) none (fun I' L' => ∀ j, j < 12 → L' (e + 6) j = cfG (fun m => aRu A 5 * L (e + 13) m) (L (e + 12)) 13 pr (L (e + 6)) x (L (e + 14)) j) Λ I L R) := by
    refine hc_down ?_ ?_
    · intro left I1 L1 un p cl hI1 hL1 hu hp hn hd hC
      refine LW_iload 3 dX1_callFor_87 rfl ?_
      refine LW_bipush (v := 12) dX1_callFor_89 (by decide) ?_
      refine LW_icmp_ge (tgt := 126) dX1_callFor_91 (by decide) (fun c91 => ?_) (fun c91 => absurd (Int32.le_refl _) c91)
      refine LW_vret dX1_callFor_126 rfl (Nat.le_of_ble_eq_true rfl) (Nat.le_of_ble_eq_true rfl) ?_
      exact ⟨rfl, rfl, hI1, hL1, rfl, fun j hj => by rw [hd j hj, hC]⟩
    · intro i hi ih left I1 L1 un p cl hI1 hL1 hu hp hn hd hC
      refine LW_iload 3 dX1_callFor_87 rfl ?_
      refine LW_bipush (v := 12) dX1_callFor_89 (by decide) ?_
      refine LW_icmp_ge (tgt := 126) dX1_callFor_91 (by decide) (fun c91 => absurd c91 (hc_nle (by decide) (by omega) hi)) (fun c91 => ?_)
      refine LW_aloadn 0 dX1_callFor_94 rfl rfl ?_
      refine gX1_5 dX1_callFor_95 flX1_24 he.lt0 he.2.1 he.f5 ?_
      refine LW_iload 3 dX1_callFor_98 rfl ?_
      refine LW_zald dX1_callFor_100 (he.lt 10 (by decide)) he.2.2.2.2.2.2.1 rfl (by omega) (Nat.le_of_ble_eq_true rfl) ?_
      rw [show I1 (e + 10) i = hc_b (un i) from hu i hi]
      refine LW_bif_eq (tgt := 120) dX1_callFor_101 (by decide) (fun c101 => ?_) (fun c101 => ?_)
      · refine LW_iinc (n := 3) (v := nI (i + 1)) (ls' := [(0, .ref e), (1, .long x), (3, .long left), (5, .int (nI (i + 1)))]) dX1_callFor_120 rfl (hc_inc _) (by decide) rfl ?_
        refine LW_goto (tgt := 87) dX1_callFor_123 (by decide) ?_
        exact ih left I1 L1 un p cl hI1 hL1 hu hp (fun j h1 h2 => hn j (by omega) h2) (fun j hj => by
          by_cases q : j = i
          · rw [q, c101, if_neg (by decide)]
            exact hn i (Nat.le_refl _) hi
          · exact hd j (by omega)) hC
      · refine LW_aloadn 0 dX1_callFor_104 rfl rfl ?_
        refine gX1_3 dX1_callFor_105 flX1_17 he.lt0 he.2.1 he.f3 ?_
        refine LW_iconst (v := 3) dX1_callFor_108 (by decide) ?_
        refine LW_aald7 (r := e + 6) dX1_callFor_109 (he.lt 2 (by decide)) he.2.2.2.1 rfl (by decide) (Nat.le_of_ble_eq_true rfl) (he.fr 3 (by decide)) ?_
        refine LW_iload 3 dX1_callFor_110 rfl ?_
        refine LW_aloadn 0 dX1_callFor_112 rfl rfl ?_
        refine gX1_9 dX1_callFor_113 flX1_36 he.lt0 he.2.1 (he.fm 3 (by decide)) ?_
        refine LW_iload 3 dX1_callFor_116 rfl ?_
        refine LW_lald dX1_callFor_118 (he.lt 14 (by decide)) (he.ym 3 (by decide)) rfl (by omega) (Nat.le_of_ble_eq_true rfl) ?_
        rw [show L1 (e + 14) i = p i from hp i hi]
        refine LW_last dX1_callFor_119 (he.lt 6 (by decide)) (he.yr 3 (by decide)) rfl (by omega) (Nat.le_of_ble_eq_true rfl) ?_
        generalize hL119 : hc_u L1 (e + 6) i (p i) = L119
        refine LW_iinc (n := 3) (v := nI (i + 1)) (ls' := [(0, .ref e), (1, .long x), (3, .long left), (5, .int (nI (i + 1)))]) dX1_callFor_120 rfl (hc_inc _) (by decide) rfl ?_
        refine LW_goto (tgt := 87) dX1_callFor_123 (by decide) ?_
        exact ih left I1 _ un p cl hI1 (fun z hz => by
          rw [← hL119, hc_u_row _ _ _ _ (fun q => hz (Or.inl q))]
          exact hL1 z hz) hu (fun j hj => by
          rw [← hL119, hc_u_row _ _ _ _ (by omega)]
          exact hp j hj) (fun j h1 h2 => by
          rw [← hL119, hc_u_at, if_neg (by omega)]
          exact hn j (by omega) h2) (fun j hj => by
          rw [← hL119, hc_u_at]
          by_cases q : j = i
          · rw [if_pos q, q, if_pos c101]
          · rw [if_neg q]
            exact hd j (by omega)) hC
  have loop2 : ∀ i, i ≤ 13 → ∀ (left : Int64) (I1 : hc_I) (L1 : hc_J) (un : Nat → Bool) (p cl : Nat → Int64), (∀ z, ¬ z = e + 10 → I1 z = I z) → (∀ z, ¬ (z = e + 6 ∨ z = e + 14 ∨ z = e + 15) → L1 z = L z) → (∀ j, j < 12 → I1 (e + 10) j = hc_b (un j)) → (∀ j, j < 12 → L1 (e + 14) j = p j) → (∀ j, j < 12 → L1 (e + 6) j = cl j) → cfG (fun m => aRu A 5 * L (e + 13) m) (L (e + 12)) (13 - i) un cl left p = cfG (fun m => aRu A 5 * L (e + 13) m) (L (e + 12)) 13 pr (L (e + 6)) x (L (e + 14)) → LW xX1_callFor (0, 0) 31 [(0, .ref e), (1, .long x), (3, .long left), (5, .int (nI i))] [] Λ I1 L1 R (Qvi (fun z => z = e + 10) (fun z => z = e + 6 ∨ z = e + 14 ∨ z = e + 15) none (fun I' L' => ∀ j, j < 12 → L' (e + 6) j = cfG (fun m => aRu A 5 * L (e + 13) m) (L (e + 12)) 13 pr (L (e + 6)) x (L (e + 14)) j) Λ I L R) := by
    refine hc_down ?_ ?_
    · intro left I1 L1 un p cl hI1 hL1 hu hp hc hC
      refine LW_iload 3 dX1_callFor_31 rfl ?_
      refine LW_bipush (v := 12) dX1_callFor_33 (by decide) ?_
      refine LW_icmp_gt (tgt := 84) dX1_callFor_35 (by decide) (fun c35 => ?_) (fun c35 => absurd ((hc_lt (a := 12) (b := 13) (by omega) (by omega)).mpr (by omega)) c35)
      refine LW_iconst (v := 0) dX1_callFor_84 (by decide) ?_
      refine LW_istore (ls' := [(0, .ref e), (1, .long x), (3, .long left), (5, .int 0)]) dX1_callFor_85 (by decide) rfl ?_
      exact loop3 0 (Nat.zero_le _) left I1 L1 un p cl hI1 hL1 hu hp (fun j _ h2 => hc j h2) (fun j hj => absurd hj (Nat.not_lt_zero _)) (fun m => by rw [← hC]; rfl)
    · intro i hi ih left I1 L1 un p cl hI1 hL1 hu hp hc hC
      refine LW_iload 3 dX1_callFor_31 rfl ?_
      refine LW_bipush (v := 12) dX1_callFor_33 (by decide) ?_
      refine LW_icmp_gt (tgt := 84) dX1_callFor_35 (by decide) (fun c35 => absurd c35 (fun q => absurd ((hc_lt (a := 12) (by omega) (by omega)).mp q) (by omega))) (fun c35 => ?_)
      refine LW_aloadn 0 dX1_callFor_38 rfl rfl ?_
      refine LW_lloadn 2 dX1_callFor_39 rfl rfl ?_
      refine LW_aloadn 0 dX1_callFor_40 rfl rfl ?_
      refine gX1_7 dX1_callFor_41 flX1_30 he.lt0 he.2.1 (he.fm 1 (by decide)) ?_
      refine LW_aloadn 0 dX1_callFor_44 rfl rfl ?_
      refine gX1_5 dX1_callFor_45 flX1_24 he.lt0 he.2.1 he.f5 ?_
      refine LW_aloadn 0 dX1_callFor_48 rfl rfl ?_
      refine gX1_9 dX1_callFor_49 flX1_36 he.lt0 he.2.1 (he.fm 3 (by decide)) ?_
      refine LW_callV (As := [.long left, .ref (e + 12), .ref (e + 10), .ref (e + 14)]) (b := e) (st := []) (ci := 1) (r := (RX1, TX1, 11)) (r_divide (wt := L (e + 12)) (am := un) he.lt0 he.2.1 (he.fm 4 (by decide)) (he.lt 12 (by decide)) (he.ym 1 (by decide)) (he.lt 10 (by decide)) he.2.2.2.2.2.2.1 (he.lt 14 (by decide)) (he.ym 3 (by decide)) (he.lt 15 (by decide)) (he.ym 4 (by decide)) (by omega) (by omega) (by omega) (fun j _ => by rw [hL1 _ (by omega)]) hu) YX1_divide rfl dX1_callFor_52 mlX1_115 he.lt0 he.2.1 ⟨rfl, rfl⟩ (by decide) ⟨Nat.le_refl _, Nat.le_refl _⟩ (Nat.le_of_ble_eq_true rfl) rfl (fun r52 Λc52 Ic52 Lc52 Rc52 hq52 => ?_)
      obtain ⟨rfl, rfl, rfl, hL52, rfl, hd52⟩ := hq52
      have e52 : ∀ z, ¬ (z = e + 6 ∨ z = e + 14 ∨ z = e + 15) → Lc52 z = L z := fun z hz => (hL52 z (fun q => hz (Or.inr q))).trans (hL1 z hz)
      have h52 : St Λ I1 Lc52 R s A := h.jki (fun k hk => e52 _ (fun q => by rcases q with q | q | q <;> exact he.ap hk (by decide) q)) (fun k hk => hI1 _ (he.ap hk (by decide))) (fun r hr => hI1 r (fun q => by rw [q, he.2.2.2.2.2.2.1] at hr; rcases hr with hr | hr <;> cases hr))
      have e13 : Lc52 (e + 13) = L (e + 13) := e52 _ (by omega)
      refine LW_aloadn 0 dX1_callFor_55 rfl rfl ?_
      refine LW_callV (As := []) (b := e) (st := []) (ci := 1) (r := (RX1, TX1, 11)) (r_holdAtCap (un := un) (p := dv left (L (e + 12)) un) he h52 hu hd52) YX1_holdAtCap rfl dX1_callFor_56 mlX1_124 he.lt0 he.2.1 ⟨rfl, rfl⟩ (by decide) ⟨Nat.le_refl _, Nat.le_refl _⟩ (Nat.le_of_ble_eq_true rfl) rfl (fun r56 Λc56 Ic56 Lc56 Rc56 hq56 => ?_)
      rw [e13] at hq56
      obtain ⟨rfl, rfl, hIa, hLa, rfl, hFu, hFc⟩ := hq56
      refine LW_lstore (ls' := [(0, .ref e), (1, .long x), (3, .long left), (5, .int (nI i)), (6, .long (cfH (cfO un (dv left (L (e + 12)) un) (fun m => aRu A 5 * L (e + 13) m)) (fun m => aRu A 5 * L (e + 13) m) 12))]) dX1_callFor_59 (by decide) rfl ?_
      refine LW_lload 4 dX1_callFor_61 rfl ?_
      refine LW_ldc2 dX1_callFor_63 klX1_128 ?_
      refine LW_lcmp dX1_callFor_66 ?_
      have hIz : ∀ z, ¬ z = e + 10 → Ic56 z = I z := fun z hz => (hIa z hz).trans (hI1 z hz)
      have hLz : ∀ z, ¬ (z = e + 6 ∨ z = e + 14 ∨ z = e + 15) → Lc56 z = L z := fun z hz => (hLa z (fun q => hz (Or.inl q))).trans (e52 z hz)
      have hpz : ∀ j, j < 12 → Lc56 (e + 14) j = dv left (L (e + 12)) un j := fun j hj => by rw [hLa _ (by omega)]; exact hd52 j hj
      have hcz : ∀ j, j < 12 → Lc56 (e + 6) j = (fun m => if cfO un (dv left (L (e + 12)) un) (fun m => aRu A 5 * L (e + 13) m) m = true then (fun m => aRu A 5 * L (e + 13) m) m else cl m) j := fun j hj => by rw [hFc j hj]; show _ = if _ then _ else cl j; rw [hL52 _ (by omega), hc j hj]
      rw [show 13 - i = (12 - i) + 1 by omega] at hC
      refine LW_lif_ne (tgt := 73) dX1_callFor_67 (by decide) (fun c67 => ?_) (fun c67 => ?_)
      · refine LW_lloadn 2 dX1_callFor_73 rfl rfl ?_
        refine LW_lload 4 dX1_callFor_74 rfl ?_
        refine LW_lsub dX1_callFor_76 ?_
        refine LW_lstoren (ls' := [(0, .ref e), (1, .long x), (3, .long (left - (cfH (cfO un (dv left (L (e + 12)) un) (fun m => aRu A 5 * L (e + 13) m)) (fun m => aRu A 5 * L (e + 13) m) 12))), (5, .int (nI i)), (6, .long (cfH (cfO un (dv left (L (e + 12)) un) (fun m => aRu A 5 * L (e + 13) m)) (fun m => aRu A 5 * L (e + 13) m) 12))]) dX1_callFor_77 rfl (by decide) rfl ?_
        refine LW_iinc (n := 3) (v := nI (i + 1)) (ls' := [(0, .ref e), (1, .long x), (3, .long (left - (cfH (cfO un (dv left (L (e + 12)) un) (fun m => aRu A 5 * L (e + 13) m)) (fun m => aRu A 5 * L (e + 13) m) 12))), (5, .int (nI (i + 1))), (6, .long (cfH (cfO un (dv left (L (e + 12)) un) (fun m => aRu A 5 * L (e + 13) m)) (fun m => aRu A 5 * L (e + 13) m) 12))]) dX1_callFor_78 rfl (hc_inc _) (by decide) rfl ?_
        refine LW_goto (tgt := 31) dX1_callFor_81 (by decide) ?_
        have hCC := hC
        rw [cfG_go c67] at hCC
        refine LW_ls [0, 1, 2, 3] rfl ?_
        exact ih (left - cfH (cfO un (dv left (L (e + 12)) un) (fun m => aRu A 5 * L (e + 13) m)) (fun m => aRu A 5 * L (e + 13) m) 12) Ic56 Lc56 (fun m => un m && !cfO un (dv left (L (e + 12)) un) (fun m => aRu A 5 * L (e + 13) m) m) (dv left (L (e + 12)) un) (fun m => if cfO un (dv left (L (e + 12)) un) (fun m => aRu A 5 * L (e + 13) m) m = true then (fun m => aRu A 5 * L (e + 13) m) m else cl m) hIz hLz hFu hpz hcz (by rw [show 13 - (i + 1) = 12 - i by omega]; exact hCC)
      · refine LW_goto (tgt := 84) dX1_callFor_70 (by decide) ?_
        refine LW_iconst (v := 0) dX1_callFor_84 (by decide) ?_
        refine LW_istore (ls' := [(0, .ref e), (1, .long x), (3, .long left), (5, .int 0), (6, .long (cfH (cfO un (dv left (L (e + 12)) un) (fun m => aRu A 5 * L (e + 13) m)) (fun m => aRu A 5 * L (e + 13) m) 12))]) dX1_callFor_85 (by decide) rfl ?_
        have hCC := hC
        rw [cfG_stop (Classical.not_not.mp c67)] at hCC
        refine LW_ls [0, 1, 2, 3] rfl ?_
        exact loop3 0 (Nat.zero_le _) left Ic56 Lc56 (fun m => un m && !cfO un (dv left (L (e + 12)) un) (fun m => aRu A 5 * L (e + 13) m) m) (dv left (L (e + 12)) un) (fun m => if cfO un (dv left (L (e + 12)) un) (fun m => aRu A 5 * L (e + 13) m) m = true then (fun m => aRu A 5 * L (e + 13) m) m else cl m) hIz hLz hFu hpz (fun j _ h2 => hcz j h2) (fun j hj => absurd hj (Nat.not_lt_zero _)) (fun m => by rw [← hCC])
  have loop1 : ∀ i, i ≤ 12 → ∀ (I1 : hc_I), (∀ z, ¬ z = e + 10 → I1 z = I z) → (∀ j, j < i → I1 (e + 10) j = hc_b (pr j)) → LW xX1_callFor (0, 0) 2 [(0, .ref e), (1, .long x), (3, .int (nI i))] [] Λ I1 L R (Qvi (fun z => z = e + 10) (fun z => z = e + 6 ∨ z = e + 14 ∨ z = e + 15) none (fun I' L' => ∀ j, j < 12 → L' (e + 6) j = cfG (fun m => aRu A 5 * L (e + 13) m) (L (e + 12)) 13 pr (L (e + 6)) x (L (e + 14)) j) Λ I L R) := by
    refine hc_down ?_ ?_
    · intro I1 hI1 hu
      refine LW_iloadn 2 dX1_callFor_2 rfl rfl ?_
      refine LW_bipush (v := 12) dX1_callFor_3 (by decide) ?_
      refine LW_icmp_ge (tgt := 26) dX1_callFor_5 (by decide) (fun c5 => ?_) (fun c5 => absurd (Int32.le_refl _) c5)
      refine LW_lloadn 1 dX1_callFor_26 rfl rfl ?_
      refine LW_lstoren (ls' := [(0, .ref e), (1, .long x), (3, .long x)]) dX1_callFor_27 rfl (by decide) rfl ?_
      refine LW_iconst (v := 0) dX1_callFor_28 (by decide) ?_
      refine LW_istore (ls' := [(0, .ref e), (1, .long x), (3, .long x), (5, .int 0)]) dX1_callFor_29 (by decide) rfl ?_
      exact loop2 0 (Nat.zero_le _) x I1 L pr (L (e + 14)) (L (e + 6)) hI1 (fun _ _ => rfl) hu (fun _ _ => rfl) (fun _ _ => rfl) rfl
    · intro i hi ih I1 hI1 hu
      refine LW_iloadn 2 dX1_callFor_2 rfl rfl ?_
      refine LW_bipush (v := 12) dX1_callFor_3 (by decide) ?_
      refine LW_icmp_ge (tgt := 26) dX1_callFor_5 (by decide) (fun c5 => absurd c5 (hc_nle (by decide) (by omega) hi)) (fun c5 => ?_)
      refine LW_aloadn 0 dX1_callFor_8 rfl rfl ?_
      refine gX1_5 dX1_callFor_9 flX1_24 he.lt0 he.2.1 he.f5 ?_
      refine LW_iloadn 2 dX1_callFor_12 rfl rfl ?_
      refine LW_aloadn 0 dX1_callFor_13 rfl rfl ?_
      refine gX1_4 dX1_callFor_14 flX1_20 he.lt0 he.2.1 he.f4 ?_
      refine LW_iloadn 2 dX1_callFor_17 rfl rfl ?_
      refine LW_zald dX1_callFor_18 (he.lt 9 (by decide)) he.2.2.2.2.2.1 rfl (by omega) (Nat.le_of_ble_eq_true rfl) ?_
      rw [show I1 (e + 9) i = hc_b (pr i) from (by rw [hI1 _ (by omega)]; exact hpr i hi)]
      refine LW_zast dX1_callFor_19 (he.lt 10 (by decide)) he.2.2.2.2.2.2.1 rfl (by omega) (Nat.le_of_ble_eq_true rfl) ?_
      generalize hI19 : hc_u I1 (e + 10) i (vp_nar .boolean (hc_b (pr i))) = I19
      refine LW_iinc (n := 2) (v := nI (i + 1)) (ls' := [(0, .ref e), (1, .long x), (3, .int (nI (i + 1)))]) dX1_callFor_20 rfl (hc_inc _) (by decide) rfl ?_
      refine LW_goto (tgt := 2) dX1_callFor_23 (by decide) ?_
      exact ih _ (fun z hz => by rw [← hI19, hc_u_row _ _ _ _ hz]; exact hI1 z hz) (fun j hj => by
        rw [← hI19, hc_u_at]
        by_cases q : j = i
        · rw [if_pos q, q]
          cases pr i <;> rfl
        · rw [if_neg q]
          exact hu j (by omega))
  exact loop1 0 (Nat.zero_le _) I (fun _ _ => rfl) (fun j hj => absurd hj (Nat.not_lt_zero _))
