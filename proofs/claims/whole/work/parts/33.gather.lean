/-! the Ending: gather, reckon -/
def gS (A : AS) (pr : Nat → Bool) (m : Nat) : Int64 := if pr m = true then abSums A m (aF A) else 0
def gP (A : AS) (pr : Nat → Bool) (m : Nat) : Int64 := if pr m = true then abPts A m (aF A) else 0
def gA (A : AS) (pr : Nat → Bool) (m : Nat) : Int64 := gP A pr m * aRu A 0 / 1000
def gC (A : AS) (P : LwP) (pr : Nat → Bool) (m : Nat) : Int64 := if pr m = true then abClaims A P m (aF A) else 0
def gJ (e l z : Nat) : Prop := z = e + 1 ∨ z = e + 3 ∨ z = e + 11 ∨ z = e + 12 ∨ z = e + 13 ∨ z = l + 2
set_option maxRecDepth 100000 in
theorem r_gather {Λ : hc_L} {I : hc_I} {L : hc_J} {R : hc_R} {e s a : Nat} {A : AS} (he : EnL Λ e s a) (h : St Λ I L R s A) {l : Nat} (ha : AsL Λ a s l) {P : LwP} (hl : LwAt Λ I l P) (hP : lpOk P) (hel : ∀ j, j < 16 → l + 2 ≠ e + j) {pr : Nat → Bool} {m : Nat} (hpr : I (e + 9) m = hc_b (pr m)) (hm : m < 12) : Run xX1_gather [.ref e, .int (nI m)] Λ I L R (Qv (gJ e l) (fun L' => (∀ j, L' (e + 11) j = if j = m then gS A pr m else L (e + 11) j) ∧ (∀ j, L' (e + 12) j = if j = m then gP A pr m else L (e + 12) j) ∧ (∀ j, L' (e + 13) j = if j = m then gA A pr m else L (e + 13) j) ∧ (∀ j, L' (e + 3) j = if j = m then gC A P pr m else L (e + 3) j) ∧ L' (e + 1) 0 = L (e + 1) 0 + gC A P pr m ∧ L' (e + 1) 3 = L (e + 1) 3 + gA A pr m ∧ ∀ j, j ≠ 0 → j ≠ 3 → L' (e + 1) j = L (e + 1) j) Λ I L R) := by
  refine Run.of (by decide +kernel) (Nat.le_of_ble_eq_true rfl) ?_
  show LW _ _ _ [(0, .ref e), (1, .int (nI m))] _ _ _ _ _ _
  have he1 := hel 1 (by decide)
  rcases Bool.eq_false_or_eq_true (pr m) with hb | hb
  · skip
    refine LW_aloadn 0 dX1_gather_0 rfl rfl ?_
    refine gX1_4 dX1_gather_1 flX1_20 he.lt0 he.2.1 he.f4 ?_
    refine LW_iloadn 1 dX1_gather_4 rfl rfl ?_
    refine LW_zald dX1_gather_5 (he.lt 9 (by decide)) he.2.2.2.2.2.1 rfl (by omega) (Nat.le_of_ble_eq_true rfl) ?_
    rw [show I (e + 9) m = hc_b (pr m) from hpr]
    refine LW_istoren (ls' := [(0, .ref e), (1, .int (nI m)), (2, .int (hc_b (pr m)))]) dX1_gather_6 rfl (by decide) rfl ?_
    refine LW_aloadn 0 dX1_gather_7 rfl rfl ?_
    refine gX1_6 dX1_gather_8 flX1_27 he.lt0 he.2.1 (he.fm 0 (by decide)) ?_
    refine LW_iloadn 1 dX1_gather_11 rfl rfl ?_
    refine LW_iloadn 2 dX1_gather_12 rfl rfl ?_
    refine LW_bif_eq (tgt := 27) dX1_gather_13 (by decide) (fun c13 => absurd (c13.symm.trans hb) (by decide)) (fun c13 => ?_)
    refine LW_aloadn 0 dX1_gather_16 rfl rfl ?_
    refine gX1_0 dX1_gather_17 flX1_42 he.lt0 he.2.1 he.f0 ?_
    refine LW_iloadn 1 dX1_gather_20 rfl rfl ?_
    refine LW_callV (As := [.int (nI m)]) (b := s) (st := [.int (nI m), .ref (e + 11)]) (ci := 6) (r := (RX6, TX6, 15)) (r_sumsOf h (by omega)) YX6_sumsOf rfl dX1_gather_21 mlX1_82 h.l.lt0 h.l.2.1 ⟨rfl, rfl⟩ (by decide) ⟨Nat.le_refl _, Nat.le_refl _⟩ (Nat.le_of_ble_eq_true rfl) rfl (fun r21 Λc21 Ic21 Lc21 Rc21 hq21 => ?_)
    obtain ⟨rfl, rfl, rfl, rfl, rfl⟩ := hq21
    refine LW_goto (tgt := 28) dX1_gather_24 (by decide) ?_
    rw [show abSums A m (aF A) = gS A pr m from (if_pos hb : gS A pr m = _).symm]
    refine LW_last dX1_gather_28 (he.lt 11 (by decide)) (he.ym 0 (by decide)) rfl (by omega) (Nat.le_of_ble_eq_true rfl) ?_
    generalize hL28 : hc_u L (e + 11) m (gS A pr m) = L28
    have z28 : ∀ z, z ≠ e + 11 → L28 z = L z := fun z hz => by rw [← hL28, hc_u_row _ _ _ _ hz]
    have h28 : St Λ I L28 R s A := h.jk (fun k hk => by rw [z28 _ (he.ap hk (by decide))])
    refine LW_aloadn 0 dX1_gather_29 rfl rfl ?_
    refine gX1_7 dX1_gather_30 flX1_30 he.lt0 he.2.1 (he.fm 1 (by decide)) ?_
    refine LW_iloadn 1 dX1_gather_33 rfl rfl ?_
    refine LW_iloadn 2 dX1_gather_34 rfl rfl ?_
    refine LW_bif_eq (tgt := 49) dX1_gather_35 (by decide) (fun c35 => absurd (c35.symm.trans hb) (by decide)) (fun c35 => ?_)
    refine LW_aloadn 0 dX1_gather_38 rfl rfl ?_
    refine gX1_0 dX1_gather_39 flX1_42 he.lt0 he.2.1 he.f0 ?_
    refine LW_iloadn 1 dX1_gather_42 rfl rfl ?_
    refine LW_callV (As := [.int (nI m)]) (b := s) (st := [.int (nI m), .ref (e + 12)]) (ci := 6) (r := (RX6, TX6, 15)) (r_pointsOf h28 (by omega)) YX6_pointsOf rfl dX1_gather_43 mlX1_86 h.l.lt0 h.l.2.1 ⟨rfl, rfl⟩ (by decide) ⟨Nat.le_refl _, Nat.le_refl _⟩ (Nat.le_of_ble_eq_true rfl) rfl (fun r43 Λc43 Ic43 Lc43 Rc43 hq43 => ?_)
    obtain ⟨rfl, rfl, rfl, rfl, rfl⟩ := hq43
    refine LW_goto (tgt := 50) dX1_gather_46 (by decide) ?_
    rw [show abPts A m (aF A) = gP A pr m from (if_pos hb : gP A pr m = _).symm]
    refine LW_last dX1_gather_50 (he.lt 12 (by decide)) (he.ym 1 (by decide)) rfl (by omega) (Nat.le_of_ble_eq_true rfl) ?_
    generalize hL50 : hc_u L28 (e + 12) m (gP A pr m) = L50
    have z50 : ∀ z, z ≠ e + 12 → L50 z = L28 z := fun z hz => by rw [← hL50, hc_u_row _ _ _ _ hz]
    refine LW_aloadn 0 dX1_gather_51 rfl rfl ?_
    refine gX1_8 dX1_gather_52 flX1_33 he.lt0 he.2.1 (he.fm 2 (by decide)) ?_
    refine LW_iloadn 1 dX1_gather_55 rfl rfl ?_
    refine LW_aloadn 0 dX1_gather_56 rfl rfl ?_
    refine gX1_7 dX1_gather_57 flX1_30 he.lt0 he.2.1 (he.fm 1 (by decide)) ?_
    refine LW_iloadn 1 dX1_gather_60 rfl rfl ?_
    refine LW_lald dX1_gather_61 (he.lt 12 (by decide)) (he.ym 1 (by decide)) rfl (by omega) (Nat.le_of_ble_eq_true rfl) ?_
    rw [show L50 (e + 12) m = gP A pr m from (by rw [← hL50, hc_u_at, if_pos rfl])]
    refine LW_aloadn 0 dX1_gather_62 rfl rfl ?_
    refine gX1_0 dX1_gather_63 flX1_42 he.lt0 he.2.1 he.f0 ?_
    refine gX6_0 dX1_gather_66 flX1_73 h.l.lt0 h.l.2.1 (h.l.f 0 (by decide)) ?_
    refine LW_iconst (v := 0) dX1_gather_69 (by decide) ?_
    refine LW_lald dX1_gather_70 (h.l.lt 1 (by decide)) h.l.2.2.1 rfl (by decide) (Nat.le_of_ble_eq_true rfl) ?_
    rw [show L50 (s + 1) 0 = aRu A 0 from (by rw [z50 _ (he.ap (by decide) (by decide)), z28 _ (he.ap (by decide) (by decide))]; exact h.ru (by decide))]
    refine LW_callSN (As := [.long (gP A pr m), .long (aRu A 0)]) (st := [.int (nI m), .ref (e + 13)]) (r_advance (gP A pr m) (aRu A 0)) YX10_advance rfl dX1_gather_71 nlX1_89 (by decide) ⟨Nat.le_refl _, Nat.le_refl _⟩ (Nat.le_of_ble_eq_true rfl) rfl (fun r71 Λc71 Ic71 Lc71 Rc71 hq71 => ?_)
    obtain ⟨rfl, rfl, rfl, rfl, rfl⟩ := hq71
    rw [show gP A pr m * aRu A 0 / 1000 = gA A pr m from rfl]
    refine LW_last dX1_gather_74 (he.lt 13 (by decide)) (he.ym 2 (by decide)) rfl (by omega) (Nat.le_of_ble_eq_true rfl) ?_
    generalize hL74 : hc_u L50 (e + 13) m (gA A pr m) = L74
    have z74 : ∀ z, z ≠ e + 13 → L74 z = L50 z := fun z hz => by rw [← hL74, hc_u_row _ _ _ _ hz]
    have h74 : St Λ I L74 R s A := h.jk (fun k hk => by rw [z74 _ (he.ap hk (by decide)), z50 _ (he.ap hk (by decide)), z28 _ (he.ap hk (by decide))])
    refine LW_aloadn 0 dX1_gather_75 rfl rfl ?_
    refine gX1_3 dX1_gather_76 flX1_17 he.lt0 he.2.1 he.f3 ?_
    refine LW_iconst (v := 0) dX1_gather_79 (by decide) ?_
    refine LW_aald7 (r := e + 3) dX1_gather_80 (he.lt 2 (by decide)) he.2.2.2.1 rfl (by decide) (Nat.le_of_ble_eq_true rfl) (he.fr 0 (by decide)) ?_
    refine LW_iloadn 1 dX1_gather_81 rfl rfl ?_
    refine LW_iloadn 2 dX1_gather_82 rfl rfl ?_
    refine LW_bif_eq (tgt := 97) dX1_gather_83 (by decide) (fun c83 => absurd (c83.symm.trans hb) (by decide)) (fun c83 => ?_)
    refine LW_aloadn 0 dX1_gather_86 rfl rfl ?_
    refine gX1_1 dX1_gather_87 flX1_46 he.lt0 he.2.1 he.f1 ?_
    refine LW_iloadn 1 dX1_gather_90 rfl rfl ?_
    refine LW_callV (As := [.int (nI m)]) (b := a) (st := [.int (nI m), .ref (e + 3)]) (ci := 0) (r := (RX0, TX0, 7)) (r_claimsOf ha h74 hl hP (by omega)) YX0_claimsOf rfl dX1_gather_91 mlX1_93 ha.lt0 ha.2.1 ⟨rfl, rfl⟩ (by decide) ⟨Nat.le_refl _, Nat.le_refl _⟩ (Nat.le_of_ble_eq_true rfl) rfl (fun r91 Λc91 Ic91 Lc91 Rc91 hq91 => ?_)
    obtain ⟨rfl, rfl, rfl, hL91, rfl⟩ := hq91
    refine LW_goto (tgt := 98) dX1_gather_94 (by decide) ?_
    rw [show abClaims A P m (aF A) = gC A P pr m from (if_pos hb : gC A P pr m = _).symm]
    refine LW_last dX1_gather_98 (he.lt 3 (by decide)) (he.yr 0 (by decide)) rfl (by omega) (Nat.le_of_ble_eq_true rfl) ?_
    generalize hL98 : hc_u Lc91 (e + 3) m (gC A P pr m) = L98
    have z98 : ∀ z, z ≠ e + 3 → L98 z = Lc91 z := fun z hz => by rw [← hL98, hc_u_row _ _ _ _ hz]
    refine LW_aloadn 0 dX1_gather_99 rfl rfl ?_
    refine gX1_2 dX1_gather_100 flX1_9 he.lt0 he.2.1 he.f2 ?_
    refine LW_iconst (v := 0) dX1_gather_103 (by decide) ?_
    refine LW_dup2 dX1_gather_104 rfl rfl ?_
    refine LW_lald dX1_gather_105 (he.lt 1 (by decide)) he.2.2.1 rfl (by decide) (Nat.le_of_ble_eq_true rfl) ?_
    rw [show L98 (e + 1) 0 = L (e + 1) 0 from (by rw [z98 _ (by omega), hL91 _ (fun q => hel 1 (by decide) q.symm), z74 _ (by omega), z50 _ (by omega), z28 _ (by omega)])]
    refine LW_aloadn 0 dX1_gather_106 rfl rfl ?_
    refine gX1_3 dX1_gather_107 flX1_17 he.lt0 he.2.1 he.f3 ?_
    refine LW_iconst (v := 0) dX1_gather_110 (by decide) ?_
    refine LW_aald7 (r := e + 3) dX1_gather_111 (he.lt 2 (by decide)) he.2.2.2.1 rfl (by decide) (Nat.le_of_ble_eq_true rfl) (he.fr 0 (by decide)) ?_
    refine LW_iloadn 1 dX1_gather_112 rfl rfl ?_
    refine LW_lald dX1_gather_113 (he.lt 3 (by decide)) (he.yr 0 (by decide)) rfl (by omega) (Nat.le_of_ble_eq_true rfl) ?_
    rw [show L98 (e + 3) m = gC A P pr m from (by rw [← hL98, hc_u_at, if_pos rfl])]
    refine LW_ladd dX1_gather_114 ?_
    refine LW_last dX1_gather_115 (he.lt 1 (by decide)) he.2.2.1 rfl (by decide) (Nat.le_of_ble_eq_true rfl) ?_
    generalize hL115 : hc_u L98 (e + 1) 0 ((L (e + 1) 0) + (gC A P pr m)) = L115
    have z115 : ∀ z, z ≠ e + 1 → L115 z = L98 z := fun z hz => by rw [← hL115, hc_u_row _ _ _ _ hz]
    refine LW_aloadn 0 dX1_gather_116 rfl rfl ?_
    refine gX1_2 dX1_gather_117 flX1_9 he.lt0 he.2.1 he.f2 ?_
    refine LW_iconst (v := 3) dX1_gather_120 (by decide) ?_
    refine LW_dup2 dX1_gather_121 rfl rfl ?_
    refine LW_lald dX1_gather_122 (he.lt 1 (by decide)) he.2.2.1 rfl (by decide) (Nat.le_of_ble_eq_true rfl) ?_
    rw [show L115 (e + 1) 3 = L (e + 1) 3 from (by rw [← hL115, hc_u_at, if_neg (by decide), z98 _ (by omega), hL91 _ (fun q => hel 1 (by decide) q.symm), z74 _ (by omega), z50 _ (by omega), z28 _ (by omega)])]
    refine LW_aloadn 0 dX1_gather_123 rfl rfl ?_
    refine gX1_8 dX1_gather_124 flX1_33 he.lt0 he.2.1 (he.fm 2 (by decide)) ?_
    refine LW_iloadn 1 dX1_gather_127 rfl rfl ?_
    refine LW_lald dX1_gather_128 (he.lt 13 (by decide)) (he.ym 2 (by decide)) rfl (by omega) (Nat.le_of_ble_eq_true rfl) ?_
    rw [show L115 (e + 13) m = gA A pr m from (by rw [z115 _ (by omega), z98 _ (by omega), hL91 _ (fun q => hel 13 (by decide) q.symm), ← hL74, hc_u_at, if_pos rfl])]
    refine LW_ladd dX1_gather_129 ?_
    refine LW_last dX1_gather_130 (he.lt 1 (by decide)) he.2.2.1 rfl (by decide) (Nat.le_of_ble_eq_true rfl) ?_
    generalize hL130 : hc_u L115 (e + 1) 3 ((L (e + 1) 3) + (gA A pr m)) = L130
    refine LW_vret dX1_gather_131 rfl (Nat.le_of_ble_eq_true rfl) (Nat.le_of_ble_eq_true rfl) ?_
    have z130 : ∀ z, z ≠ e + 1 → L130 z = L115 z := fun z hz => by rw [← hL130, hc_u_row _ _ _ _ hz]
    refine ⟨rfl, rfl, rfl, fun z hz => ?_, rfl, fun j => ?_, fun j => ?_, fun j => ?_, fun j => ?_, ?_, ?_, fun j h1 h2 => ?_⟩
    · unfold gJ at hz
      rw [z130 _ (by omega), z115 _ (by omega), z98 _ (by omega), hL91 _ (by omega), z74 _ (by omega), z50 _ (by omega), z28 _ (by omega)]
    · rw [z130 _ (by omega), z115 _ (by omega), z98 _ (by omega), hL91 _ (fun q => hel 11 (by decide) q.symm), z74 _ (by omega), z50 _ (by omega), ← hL28, hc_u_at]
    · rw [z130 _ (by omega), z115 _ (by omega), z98 _ (by omega), hL91 _ (fun q => hel 12 (by decide) q.symm), z74 _ (by omega), ← hL50, hc_u_at, z28 _ (by omega)]
    · rw [z130 _ (by omega), z115 _ (by omega), z98 _ (by omega), hL91 _ (fun q => hel 13 (by decide) q.symm), ← hL74, hc_u_at, z50 _ (by omega), z28 _ (by omega)]
    · rw [z130 _ (by omega), z115 _ (by omega), ← hL98, hc_u_at, hL91 _ (fun q => hel 3 (by decide) q.symm), z74 _ (by omega), z50 _ (by omega), z28 _ (by omega)]
    · rw [← hL130, hc_u_at, if_neg (by decide), ← hL115, hc_u_at, if_pos rfl]
    · rw [← hL130, hc_u_at, if_pos rfl]
    · rw [← hL130, hc_u_at, if_neg h2, ← hL115, hc_u_at, if_neg h1, z98 _ (by omega), hL91 _ (fun q => hel 1 (by decide) q.symm), z74 _ (by omega), z50 _ (by omega), z28 _ (by omega)]
  · skip
    refine LW_aloadn 0 dX1_gather_0 rfl rfl ?_
    refine gX1_4 dX1_gather_1 flX1_20 he.lt0 he.2.1 he.f4 ?_
    refine LW_iloadn 1 dX1_gather_4 rfl rfl ?_
    refine LW_zald dX1_gather_5 (he.lt 9 (by decide)) he.2.2.2.2.2.1 rfl (by omega) (Nat.le_of_ble_eq_true rfl) ?_
    rw [show I (e + 9) m = hc_b (pr m) from hpr]
    refine LW_istoren (ls' := [(0, .ref e), (1, .int (nI m)), (2, .int (hc_b (pr m)))]) dX1_gather_6 rfl (by decide) rfl ?_
    refine LW_aloadn 0 dX1_gather_7 rfl rfl ?_
    refine gX1_6 dX1_gather_8 flX1_27 he.lt0 he.2.1 (he.fm 0 (by decide)) ?_
    refine LW_iloadn 1 dX1_gather_11 rfl rfl ?_
    refine LW_iloadn 2 dX1_gather_12 rfl rfl ?_
    refine LW_bif_eq (tgt := 27) dX1_gather_13 (by decide) (fun c13 => ?_) (fun c13 => absurd (c13.symm.trans hb) (by decide))
    refine LW_lconst (v := 0) dX1_gather_27 (by decide) ?_
    rw [show (0 : Int64) = gS A pr m from (if_neg (by rw [hb]; decide) : gS A pr m = _).symm]
    refine LW_last dX1_gather_28 (he.lt 11 (by decide)) (he.ym 0 (by decide)) rfl (by omega) (Nat.le_of_ble_eq_true rfl) ?_
    generalize hL28 : hc_u L (e + 11) m (gS A pr m) = L28
    have z28 : ∀ z, z ≠ e + 11 → L28 z = L z := fun z hz => by rw [← hL28, hc_u_row _ _ _ _ hz]
    have h28 : St Λ I L28 R s A := h.jk (fun k hk => by rw [z28 _ (he.ap hk (by decide))])
    refine LW_aloadn 0 dX1_gather_29 rfl rfl ?_
    refine gX1_7 dX1_gather_30 flX1_30 he.lt0 he.2.1 (he.fm 1 (by decide)) ?_
    refine LW_iloadn 1 dX1_gather_33 rfl rfl ?_
    refine LW_iloadn 2 dX1_gather_34 rfl rfl ?_
    refine LW_bif_eq (tgt := 49) dX1_gather_35 (by decide) (fun c35 => ?_) (fun c35 => absurd (c35.symm.trans hb) (by decide))
    refine LW_lconst (v := 0) dX1_gather_49 (by decide) ?_
    rw [show (0 : Int64) = gP A pr m from (if_neg (by rw [hb]; decide) : gP A pr m = _).symm]
    refine LW_last dX1_gather_50 (he.lt 12 (by decide)) (he.ym 1 (by decide)) rfl (by omega) (Nat.le_of_ble_eq_true rfl) ?_
    generalize hL50 : hc_u L28 (e + 12) m (gP A pr m) = L50
    have z50 : ∀ z, z ≠ e + 12 → L50 z = L28 z := fun z hz => by rw [← hL50, hc_u_row _ _ _ _ hz]
    refine LW_aloadn 0 dX1_gather_51 rfl rfl ?_
    refine gX1_8 dX1_gather_52 flX1_33 he.lt0 he.2.1 (he.fm 2 (by decide)) ?_
    refine LW_iloadn 1 dX1_gather_55 rfl rfl ?_
    refine LW_aloadn 0 dX1_gather_56 rfl rfl ?_
    refine gX1_7 dX1_gather_57 flX1_30 he.lt0 he.2.1 (he.fm 1 (by decide)) ?_
    refine LW_iloadn 1 dX1_gather_60 rfl rfl ?_
    refine LW_lald dX1_gather_61 (he.lt 12 (by decide)) (he.ym 1 (by decide)) rfl (by omega) (Nat.le_of_ble_eq_true rfl) ?_
    rw [show L50 (e + 12) m = gP A pr m from (by rw [← hL50, hc_u_at, if_pos rfl])]
    refine LW_aloadn 0 dX1_gather_62 rfl rfl ?_
    refine gX1_0 dX1_gather_63 flX1_42 he.lt0 he.2.1 he.f0 ?_
    refine gX6_0 dX1_gather_66 flX1_73 h.l.lt0 h.l.2.1 (h.l.f 0 (by decide)) ?_
    refine LW_iconst (v := 0) dX1_gather_69 (by decide) ?_
    refine LW_lald dX1_gather_70 (h.l.lt 1 (by decide)) h.l.2.2.1 rfl (by decide) (Nat.le_of_ble_eq_true rfl) ?_
    rw [show L50 (s + 1) 0 = aRu A 0 from (by rw [z50 _ (he.ap (by decide) (by decide)), z28 _ (he.ap (by decide) (by decide))]; exact h.ru (by decide))]
    refine LW_callSN (As := [.long (gP A pr m), .long (aRu A 0)]) (st := [.int (nI m), .ref (e + 13)]) (r_advance (gP A pr m) (aRu A 0)) YX10_advance rfl dX1_gather_71 nlX1_89 (by decide) ⟨Nat.le_refl _, Nat.le_refl _⟩ (Nat.le_of_ble_eq_true rfl) rfl (fun r71 Λc71 Ic71 Lc71 Rc71 hq71 => ?_)
    obtain ⟨rfl, rfl, rfl, rfl, rfl⟩ := hq71
    rw [show gP A pr m * aRu A 0 / 1000 = gA A pr m from rfl]
    refine LW_last dX1_gather_74 (he.lt 13 (by decide)) (he.ym 2 (by decide)) rfl (by omega) (Nat.le_of_ble_eq_true rfl) ?_
    generalize hL74 : hc_u L50 (e + 13) m (gA A pr m) = L74
    have z74 : ∀ z, z ≠ e + 13 → L74 z = L50 z := fun z hz => by rw [← hL74, hc_u_row _ _ _ _ hz]
    have h74 : St Λ I L74 R s A := h.jk (fun k hk => by rw [z74 _ (he.ap hk (by decide)), z50 _ (he.ap hk (by decide)), z28 _ (he.ap hk (by decide))])
    refine LW_aloadn 0 dX1_gather_75 rfl rfl ?_
    refine gX1_3 dX1_gather_76 flX1_17 he.lt0 he.2.1 he.f3 ?_
    refine LW_iconst (v := 0) dX1_gather_79 (by decide) ?_
    refine LW_aald7 (r := e + 3) dX1_gather_80 (he.lt 2 (by decide)) he.2.2.2.1 rfl (by decide) (Nat.le_of_ble_eq_true rfl) (he.fr 0 (by decide)) ?_
    refine LW_iloadn 1 dX1_gather_81 rfl rfl ?_
    refine LW_iloadn 2 dX1_gather_82 rfl rfl ?_
    refine LW_bif_eq (tgt := 97) dX1_gather_83 (by decide) (fun c83 => ?_) (fun c83 => absurd (c83.symm.trans hb) (by decide))
    refine LW_lconst (v := 0) dX1_gather_97 (by decide) ?_
    rw [show (0 : Int64) = gC A P pr m from (if_neg (by rw [hb]; decide) : gC A P pr m = _).symm]
    refine LW_last dX1_gather_98 (he.lt 3 (by decide)) (he.yr 0 (by decide)) rfl (by omega) (Nat.le_of_ble_eq_true rfl) ?_
    generalize hL98 : hc_u L74 (e + 3) m (gC A P pr m) = L98
    have z98 : ∀ z, z ≠ e + 3 → L98 z = L74 z := fun z hz => by rw [← hL98, hc_u_row _ _ _ _ hz]
    refine LW_aloadn 0 dX1_gather_99 rfl rfl ?_
    refine gX1_2 dX1_gather_100 flX1_9 he.lt0 he.2.1 he.f2 ?_
    refine LW_iconst (v := 0) dX1_gather_103 (by decide) ?_
    refine LW_dup2 dX1_gather_104 rfl rfl ?_
    refine LW_lald dX1_gather_105 (he.lt 1 (by decide)) he.2.2.1 rfl (by decide) (Nat.le_of_ble_eq_true rfl) ?_
    rw [show L98 (e + 1) 0 = L (e + 1) 0 from (by rw [z98 _ (by omega), z74 _ (by omega), z50 _ (by omega), z28 _ (by omega)])]
    refine LW_aloadn 0 dX1_gather_106 rfl rfl ?_
    refine gX1_3 dX1_gather_107 flX1_17 he.lt0 he.2.1 he.f3 ?_
    refine LW_iconst (v := 0) dX1_gather_110 (by decide) ?_
    refine LW_aald7 (r := e + 3) dX1_gather_111 (he.lt 2 (by decide)) he.2.2.2.1 rfl (by decide) (Nat.le_of_ble_eq_true rfl) (he.fr 0 (by decide)) ?_
    refine LW_iloadn 1 dX1_gather_112 rfl rfl ?_
    refine LW_lald dX1_gather_113 (he.lt 3 (by decide)) (he.yr 0 (by decide)) rfl (by omega) (Nat.le_of_ble_eq_true rfl) ?_
    rw [show L98 (e + 3) m = gC A P pr m from (by rw [← hL98, hc_u_at, if_pos rfl])]
    refine LW_ladd dX1_gather_114 ?_
    refine LW_last dX1_gather_115 (he.lt 1 (by decide)) he.2.2.1 rfl (by decide) (Nat.le_of_ble_eq_true rfl) ?_
    generalize hL115 : hc_u L98 (e + 1) 0 ((L (e + 1) 0) + (gC A P pr m)) = L115
    have z115 : ∀ z, z ≠ e + 1 → L115 z = L98 z := fun z hz => by rw [← hL115, hc_u_row _ _ _ _ hz]
    refine LW_aloadn 0 dX1_gather_116 rfl rfl ?_
    refine gX1_2 dX1_gather_117 flX1_9 he.lt0 he.2.1 he.f2 ?_
    refine LW_iconst (v := 3) dX1_gather_120 (by decide) ?_
    refine LW_dup2 dX1_gather_121 rfl rfl ?_
    refine LW_lald dX1_gather_122 (he.lt 1 (by decide)) he.2.2.1 rfl (by decide) (Nat.le_of_ble_eq_true rfl) ?_
    rw [show L115 (e + 1) 3 = L (e + 1) 3 from (by rw [← hL115, hc_u_at, if_neg (by decide), z98 _ (by omega), z74 _ (by omega), z50 _ (by omega), z28 _ (by omega)])]
    refine LW_aloadn 0 dX1_gather_123 rfl rfl ?_
    refine gX1_8 dX1_gather_124 flX1_33 he.lt0 he.2.1 (he.fm 2 (by decide)) ?_
    refine LW_iloadn 1 dX1_gather_127 rfl rfl ?_
    refine LW_lald dX1_gather_128 (he.lt 13 (by decide)) (he.ym 2 (by decide)) rfl (by omega) (Nat.le_of_ble_eq_true rfl) ?_
    rw [show L115 (e + 13) m = gA A pr m from (by rw [z115 _ (by omega), z98 _ (by omega), ← hL74, hc_u_at, if_pos rfl])]
    refine LW_ladd dX1_gather_129 ?_
    refine LW_last dX1_gather_130 (he.lt 1 (by decide)) he.2.2.1 rfl (by decide) (Nat.le_of_ble_eq_true rfl) ?_
    generalize hL130 : hc_u L115 (e + 1) 3 ((L (e + 1) 3) + (gA A pr m)) = L130
    refine LW_vret dX1_gather_131 rfl (Nat.le_of_ble_eq_true rfl) (Nat.le_of_ble_eq_true rfl) ?_
    have z130 : ∀ z, z ≠ e + 1 → L130 z = L115 z := fun z hz => by rw [← hL130, hc_u_row _ _ _ _ hz]
    refine ⟨rfl, rfl, rfl, fun z hz => ?_, rfl, fun j => ?_, fun j => ?_, fun j => ?_, fun j => ?_, ?_, ?_, fun j h1 h2 => ?_⟩
    · unfold gJ at hz
      rw [z130 _ (by omega), z115 _ (by omega), z98 _ (by omega), z74 _ (by omega), z50 _ (by omega), z28 _ (by omega)]
    · rw [z130 _ (by omega), z115 _ (by omega), z98 _ (by omega), z74 _ (by omega), z50 _ (by omega), ← hL28, hc_u_at]
    · rw [z130 _ (by omega), z115 _ (by omega), z98 _ (by omega), z74 _ (by omega), ← hL50, hc_u_at, z28 _ (by omega)]
    · rw [z130 _ (by omega), z115 _ (by omega), z98 _ (by omega), ← hL74, hc_u_at, z50 _ (by omega), z28 _ (by omega)]
    · rw [z130 _ (by omega), z115 _ (by omega), ← hL98, hc_u_at, z74 _ (by omega), z50 _ (by omega), z28 _ (by omega)]
    · rw [← hL130, hc_u_at, if_neg (by decide), ← hL115, hc_u_at, if_pos rfl]
    · rw [← hL130, hc_u_at, if_pos rfl]
    · rw [← hL130, hc_u_at, if_neg h2, ← hL115, hc_u_at, if_neg h1, z98 _ (by omega), z74 _ (by omega), z50 _ (by omega), z28 _ (by omega)]
