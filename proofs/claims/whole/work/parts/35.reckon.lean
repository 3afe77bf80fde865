/-! the END of the YEAR as it would be: reckon -/
def prX (A : AS) (x : Int32) (i : Nat) : Bool := !(decide (nI i = x)) && aIs A i
def kLo (A : AS) (P : LwP) (pr : Nat → Bool) : Int64 := sumJ (gC A P pr) 12
def kAv (A : AS) (pr : Nat → Bool) : Int64 := sumJ (gA A pr) 12
def kAg (A : AS) (P : LwP) (pr : Nat → Bool) : Int64 := cAgain A (kLo A P pr)
def kNe (A : AS) (P : LwP) (pr : Nat → Bool) : Int64 := kLo A P pr - kAg A P pr
def kBt (A : AS) (P : LwP) (pr : Nat → Bool) : Int64 := kAv A pr - kNe A P pr
def kToR (A : AS) (P : LwP) (pr : Nat → Bool) : Int64 := cToR A (sumJ (gS A pr) 12) (kBt A P pr)
def kGiv (A : AS) (P : LwP) (pr : Nat → Bool) : Nat → Int64 := dv (kBt A P pr - kToR A P pr) (gA A pr) pr
def kBo (A : AS) (P : LwP) (pr : Nat → Bool) : Int64 := cBorne A (-kBt A P pr)
def kCal (A : AS) (P : LwP) (pr : Nat → Bool) : Nat → Int64 := cfG (fun m => aRu A 5 * gA A pr m) (gP A pr) 13 pr (fun _ => 0) (-kBt A P pr - kBo A P pr) (fun _ => 0)
def kCut (A : AS) (P : LwP) (pr : Nat → Bool) : Nat → Int64 := dv (-kBt A P pr - kBo A P pr - sumJ (kCal A P pr) 12) (gC A P pr) pr
def kT4 (A : AS) (P : LwP) (pr : Nat → Bool) : Int64 := if 0 ≤ kBt A P pr then kToR A P pr else 0
def kT6 (A : AS) (P : LwP) (pr : Nat → Bool) : Int64 := if 0 ≤ kBt A P pr then 0 else kBo A P pr
def kRes (A : AS) (P : LwP) (pr : Nat → Bool) : Int64 := aRu A 1 + kT4 A P pr - kT6 A P pr
def kTd (A : AS) (P : LwP) (pr : Nat → Bool) : Int64 × Int64 × Int64 × Int64 × (Nat → Int64) := td A pr (gS A pr) (gP A pr) (fun _ => 0) 0 (kRes A P pr) 12
/-- what now() tells -/
def kT (A : AS) (P : LwP) (pr : Nat → Bool) : Nat → Int64
  | 0 => kLo A P pr
  | 1 => kAg A P pr
  | 2 => kNe A P pr
  | 3 => kAv A pr
  | 4 => kT4 A P pr
  | 5 => if 0 ≤ kBt A P pr then sumJ (kGiv A P pr) 12 else 0
  | 6 => kT6 A P pr
  | 7 => if 0 ≤ kBt A P pr then 0 else sumJ (kCal A P pr) 12
  | 8 => if 0 ≤ kBt A P pr then 0 else sumJ (kCut A P pr) 12
  | 9 => (kTd A P pr).2.2.1
  | _ => (kTd A P pr).2.2.2.1
def kR1 (A : AS) (P : LwP) (pr : Nat → Bool) (m : Nat) : Int64 := if 0 ≤ kBt A P pr then 0 else kCut A P pr m
def kR2 (A : AS) (P : LwP) (pr : Nat → Bool) (m : Nat) : Int64 := if 0 ≤ kBt A P pr then kGiv A P pr m else 0
def kR3 (A : AS) (P : LwP) (pr : Nat → Bool) (m : Nat) : Int64 := if 0 ≤ kBt A P pr then 0 else kCal A P pr m
/-- what mine() tells -/
def kR (A : AS) (P : LwP) (pr : Nat → Bool) : Nat → Nat → Int64
  | 0, m => gC A P pr m
  | 1, m => kR1 A P pr m
  | 2, m => kR2 A P pr m
  | 3, m => kR3 A P pr m
  | 4, m => (kTd A P pr).2.2.2.2 m
  | _, m => gC A P pr m - kR1 A P pr m + kR2 A P pr m - gA A pr m - kR3 A P pr m - (kTd A P pr).2.2.2.2 m
def kJ (e l z : Nat) : Prop := (e + 1 ≤ z ∧ z < e + 16) ∨ z = l + 2
def kI (e z : Nat) : Prop := z = e + 9 ∨ z = e + 10
theorem LwAt.jk {Λ : hc_L} {I I' : hc_I} {l : Nat} {P : LwP} (h : LwAt Λ I l P) (h1 : I' l = I l) (h2 : I' (l + 1) = I (l + 1)) : LwAt Λ I' l P := by
  obtain ⟨a1, a2, a3⟩ := h
  exact ⟨a1, by rw [h1]; exact a2, by rw [h2]; exact a3⟩
theorem St.jkE {Λ : hc_L} {I I' : hc_I} {L L' : hc_J} {R : hc_R} {s e a l : Nat} {A : AS} (h : St Λ I L R s A) (he : EnL Λ e s a) (ha : AsL Λ a s l) (hI : ∀ z, ¬ kI e z → I' z = I z) (hL : ∀ z, ¬ kJ e l z → L' z = L z) : St Λ I' L' R s A := by
  refine h.jki (fun k hk => hL _ ?_) (fun k hk => hI _ ?_) (fun r hr => hI r ?_)
  · rintro (q | q)
    · exact he.ap hk (j := s + k - e) (by omega) (by omega)
    · exact ha.2.2.2.2.2.2.2.2.1 k hk q
  · rintro (q | q)
    · exact he.ap hk (by decide) q
    · exact he.ap hk (by decide) q
  · rintro (q | q)
    · rw [q, he.2.2.2.2.2.1] at hr
      rcases hr with hr | hr <;> cases hr
    · rw [q, he.2.2.2.2.2.2.1] at hr
      rcases hr with hr | hr <;> cases hr
theorem prX_lt {A : AS} {x : Int32} {j : Nat} (h : prX A x j = true) : j < aM A := by
  simp only [prX, aIs, Bool.and_eq_true, decide_eq_true_eq] at h
  exact h.2.1
set_option maxRecDepth 100000 in
theorem r_reckon {Λ : hc_L} {I : hc_I} {L : hc_J} {R : hc_R} {e s a l : Nat} {A : AS} (he : EnL Λ e s a) (h : St Λ I L R s A) (ha : AsL Λ a s l) {P : LwP} (hl : LwAt Λ I l P) (hP : lpOk P) (hel : ∀ k j, k < 3 → j < 16 → l + k ≠ e + j) (x : Int32) : Run xX1_reckon [.ref e, .int x] Λ I L R (Qvi (kI e) (kJ e l) none (fun I' L' => (∀ k, k < 11 → L' (e + 1) k = kT A P (prX A x) k) ∧ (∀ w m, w < 6 → m < 12 → L' (e + 3 + w) m = kR A P (prX A x) w m) ∧ (∀ j, j < 12 → I' (e + 9) j = hc_b ((prX A x) j)) ∧ ∀ j, j < 12 → L' (e + 12) j = gP A (prX A x) j) Λ I L R) := by
  refine Run.of (by decide +kernel) (Nat.le_of_ble_eq_true rfl) ?_
  show LW _ _ _ [(0, .ref e), (1, .int x)] _ _ _ _ _ _
  have hel2 : ∀ j, j < 16 → l + 2 ≠ e + j := fun j hj => hel 2 j (by decide) hj
  have tail : ∀ (u : Int64) (I3 : hc_I) (L3 : hc_J), (∀ z, ¬ kI e z → I3 z = I z) → (∀ z, ¬ kJ e l z → L3 z = L z) → (∀ j, j < 12 → I3 (e + 9) j = hc_b ((prX A x) j)) → (∀ j, j < 12 → L3 (e + 11) j = gS A (prX A x) j) → (∀ j, j < 12 → L3 (e + 12) j = gP A (prX A x) j) → (∀ j, j < 12 → L3 (e + 13) j = gA A (prX A x) j) → (∀ j, j < 12 → L3 (e + 3) j = gC A P (prX A x) j) → (∀ k, k < 9 → L3 (e + 1) k = kT A P (prX A x) k) → (L3 (e + 1) 9 = 0) → (∀ j, j < 12 → L3 (e + 4) j = kR1 A P (prX A x) j) → (∀ j, j < 12 → L3 (e + 5) j = kR2 A P (prX A x) j) → (∀ j, j < 12 → L3 (e + 6) j = kR3 A P (prX A x) j) → (∀ j, j < 12 → L3 (e + 7) j = 0) → LW xX1_reckon (0, 0) 88 [(0, .ref e), (1, .int x), (2, .long u)] [] Λ I3 L3 R (Qvi (kI e) (kJ e l) none (fun I' L' => (∀ k, k < 11 → L' (e + 1) k = kT A P (prX A x) k) ∧ (∀ w m, w < 6 → m < 12 → L' (e + 3 + w) m = kR A P (prX A x) w m) ∧ (∀ j, j < 12 → I' (e + 9) j = hc_b ((prX A x) j)) ∧ ∀ j, j < 12 → L' (e + 12) j = gP A (prX A x) j) Λ I L R) := by
    intro u I3 L3 hI3 hL3 hp3 a11 a12 a13 a3 t8 t9 r1 r2 r3 r4
    have h3 : St Λ I3 L3 R s A := h.jkE he ha hI3 hL3
    refine LW_aloadn 0 dX1_reckon_88 rfl rfl ?_
    refine gX1_2 dX1_reckon_89 flX1_9 he.lt0 he.2.1 he.f2 ?_
    refine LW_bipush (v := 10) dX1_reckon_92 (by decide) ?_
    refine LW_aloadn 0 dX1_reckon_94 rfl rfl ?_
    refine gX1_0 dX1_reckon_95 flX1_42 he.lt0 he.2.1 he.f0 ?_
    refine gX6_0 dX1_reckon_98 flX1_73 h.l.lt0 h.l.2.1 (h.l.f 0 (by decide)) ?_
    refine LW_iconst (v := 1) dX1_reckon_101 (by decide) ?_
    refine LW_lald dX1_reckon_102 (h.l.lt 1 (by decide)) h.l.2.2.1 rfl (by decide) (Nat.le_of_ble_eq_true rfl) ?_
    rw [show L3 (s + 1) 1 = aRu A 1 from h3.ru (by decide)]
    refine LW_aloadn 0 dX1_reckon_103 rfl rfl ?_
    refine gX1_2 dX1_reckon_104 flX1_9 he.lt0 he.2.1 he.f2 ?_
    refine LW_iconst (v := 4) dX1_reckon_107 (by decide) ?_
    refine LW_lald dX1_reckon_108 (he.lt 1 (by decide)) he.2.2.1 rfl (by decide) (Nat.le_of_ble_eq_true rfl) ?_
    rw [show L3 (e + 1) 4 = kT4 A P (prX A x) from t8 4 (by decide)]
    refine LW_ladd dX1_reckon_109 ?_
    refine LW_aloadn 0 dX1_reckon_110 rfl rfl ?_
    refine gX1_2 dX1_reckon_111 flX1_9 he.lt0 he.2.1 he.f2 ?_
    refine LW_bipush (v := 6) dX1_reckon_114 (by decide) ?_
    refine LW_lald dX1_reckon_116 (he.lt 1 (by decide)) he.2.2.1 rfl (by decide) (Nat.le_of_ble_eq_true rfl) ?_
    rw [show L3 (e + 1) 6 = kT6 A P (prX A x) from t8 6 (by decide)]
    refine LW_lsub dX1_reckon_117 ?_
    rw [show (((aRu A 1) + (kT4 A P (prX A x))) - (kT6 A P (prX A x))) = kRes A P (prX A x) from rfl]
    refine LW_last dX1_reckon_118 (he.lt 1 (by decide)) he.2.2.1 rfl (by decide) (Nat.le_of_ble_eq_true rfl) ?_
    generalize hL118 : hc_u L3 (e + 1) 10 (kRes A P (prX A x)) = L118
    have h4 : St Λ I3 L118 R s A := h3.jk (fun k hk => by rw [← hL118, hc_u_row _ _ _ _ (he.ap hk (by decide))])
    refine LW_aloadn 0 dX1_reckon_119 rfl rfl ?_
    refine LW_callV (As := []) (b := e) (st := []) (ci := 1) (r := (RX1, TX1, 11)) (r_takeDues (pr := (prX A x)) he h4 hp3 (fun j _ hj => prX_lt hj)) YX1_takeDues rfl dX1_reckon_120 mlX1_76 he.lt0 he.2.1 ⟨rfl, rfl⟩ (by decide) ⟨Nat.le_refl _, Nat.le_refl _⟩ (Nat.le_of_ble_eq_true rfl) rfl (fun r120 Λc120 Ic120 Lc120 Rc120 hq120 => ?_)
    obtain ⟨rfl, rfl, rfl, hL120, rfl, d9, d10, dT, d7⟩ := hq120
    refine LW_aloadn 0 dX1_reckon_123 rfl rfl ?_
    refine LW_callV (As := []) (b := e) (st := []) (ci := 1) (r := (RX1, TX1, 11)) (r_balance he) YX1_balance rfl dX1_reckon_124 mlX1_79 he.lt0 he.2.1 ⟨rfl, rfl⟩ (by decide) ⟨Nat.le_refl _, Nat.le_refl _⟩ (Nat.le_of_ble_eq_true rfl) rfl (fun r124 Λc124 Ic124 Lc124 Rc124 hq124 => ?_)
    obtain ⟨rfl, rfl, rfl, hL124, rfl, hB⟩ := hq124
    refine LW_vret dX1_reckon_127 rfl (Nat.le_of_ble_eq_true rfl) (Nat.le_of_ble_eq_true rfl) ?_
    have e1 : ∀ z, z ≠ e + 1 → L118 z = L3 z := fun z hz => by rw [← hL118, hc_u_row _ _ _ _ hz]
    have e2 : ∀ z, z ≠ e + 1 → z ≠ e + 7 → Lc120 z = L3 z := fun z h1 h2 => (hL120 z (by omega)).trans (e1 z h1)
    have s10 : L118 (e + 1) 10 = kRes A P (prX A x) := by rw [← hL118, hc_u_at, if_pos rfl]
    have s9 : L118 (e + 1) 9 = 0 := by rw [← hL118, hc_u_at, if_neg (by decide), t9]
    have hq := td_congr (A := A) (pr := (prX A x)) (pr' := (prX A x)) (sm' := gS A (prX A x)) (pt' := gP A (prX A x)) (du' := fun _ => 0) (sm := L118 (e + 11)) (pt := L118 (e + 12)) (du := L118 (e + 7)) (d := 0) (r := kRes A P (prX A x)) (fun _ _ => rfl) (fun j hj => by rw [e1 _ (by omega)]; exact a11 j hj) (fun j hj => by rw [e1 _ (by omega)]; exact a12 j hj) (fun j hj => by rw [e1 _ (by omega)]; exact r4 j hj) 12 (Nat.le_refl _)
    rw [s9, s10] at d9 d10 d7
    have d7' : ∀ j, j < 12 → Lc120 (e + 7) j = (kTd A P (prX A x)).2.2.2.2 j := fun j hj => (d7 j hj).trans (hq.2.2.2.2 j hj)
    refine ⟨rfl, rfl, hI3, fun z hz => ?_, rfl, fun k hk => ?_, fun w m hw hm => ?_, hp3, fun j hj => ?_⟩
    · unfold kJ at hz
      rw [hL124 _ (by omega), e2 _ (by omega) (by omega)]
      exact hL3 z hz
    · rw [hL124 _ (by omega)]
      rcases (show k < 9 ∨ k = 9 ∨ k = 10 by omega) with q | q | q
      · rw [dT k (by omega) (by omega), ← hL118, hc_u_at, if_neg (by omega)]
        exact t8 k q
      · rw [q, d9]
        exact hq.2.2.1
      · rw [q, d10]
        exact hq.2.2.2.1
    · rcases (show w = 0 ∨ w = 1 ∨ w = 2 ∨ w = 3 ∨ w = 4 ∨ w = 5 by omega) with q | q | q | q | q | q <;> subst q
      · rw [hL124 _ (by omega), e2 _ (by omega) (by omega)]
        exact a3 m hm
      · rw [hL124 _ (by omega), e2 _ (by omega) (by omega)]
        exact r1 m hm
      · rw [hL124 _ (by omega), e2 _ (by omega) (by omega)]
        exact r2 m hm
      · rw [hL124 _ (by omega), e2 _ (by omega) (by omega)]
        exact r3 m hm
      · rw [hL124 _ (by omega)]
        exact d7' m hm
      · show Lc124 (e + 8) m = _
        rw [hB m hm, e2 (e + 3) (by omega) (by omega), e2 (e + 4) (by omega) (by omega), e2 (e + 5) (by omega) (by omega), e2 (e + 13) (by omega) (by omega), e2 (e + 6) (by omega) (by omega), d7' m hm, a3 m hm, r1 m hm, r2 m hm, a13 m hm, r3 m hm]
        rfl
    · rw [hL124 _ (by omega), e2 _ (by omega) (by omega)]
      exact a12 j hj
  have loop : ∀ i, i ≤ 12 → ∀ (I1 : hc_I) (L1 : hc_J), (∀ z, z ≠ e + 9 → I1 z = I z) → (∀ z, ¬ kJ e l z → L1 z = L z) → (∀ j, j < i → I1 (e + 9) j = hc_b ((prX A x) j)) → (∀ j, j < i → L1 (e + 11) j = gS A (prX A x) j) → (∀ j, j < i → L1 (e + 12) j = gP A (prX A x) j) → (∀ j, j < i → L1 (e + 13) j = gA A (prX A x) j) → (∀ j, j < i → L1 (e + 3) j = gC A P (prX A x) j) → (L1 (e + 1) 0 = sumJ (gC A P (prX A x)) i) → (L1 (e + 1) 3 = sumJ (gA A (prX A x)) i) → (∀ j, j < 11 → j ≠ 0 → j ≠ 3 → L1 (e + 1) j = 0) → (∀ w j, 1 ≤ w → w < 6 → j < 12 → L1 (e + 3 + w) j = 0) → LW xX1_reckon (0, 0) 6 [(0, .ref e), (1, .int x), (2, .int (nI i))] [] Λ I1 L1 R (Qvi (kI e) (kJ e l) none (fun I' L' => (∀ k, k < 11 → L' (e + 1) k = kT A P (prX A x) k) ∧ (∀ w m, w < 6 → m < 12 → L' (e + 3 + w) m = kR A P (prX A x) w m) ∧ (∀ j, j < 12 → I' (e + 9) j = hc_b ((prX A x) j)) ∧ ∀ j, j < 12 → L' (e + 12) j = gP A (prX A x) j) Λ I L R) := by
    refine hc_down ?_ ?_
    · intro I1 L1 hI1 hL1 hp1 a11 a12 a13 a3 t0 t3 tz rz
      have h1 : St Λ I1 L1 R s A := h.jkE he ha (fun z hz => hI1 z (fun q => hz (Or.inl q))) hL1
      refine LW_iloadn 2 dX1_reckon_6 rfl rfl ?_
      refine LW_bipush (v := 12) dX1_reckon_7 (by decide) ?_
      refine LW_icmp_ge (tgt := 50) dX1_reckon_9 (by decide) (fun c9 => ?_) (fun c9 => absurd (Int32.le_refl _) c9)
      refine LW_aloadn 0 dX1_reckon_50 rfl rfl ?_
      refine LW_callV (As := []) (b := e) (st := []) (ci := 1) (r := (RX1, TX1, 11)) (r_coverAgain he h1) YX1_coverAgain rfl dX1_reckon_51 mlX1_63 he.lt0 he.2.1 ⟨rfl, rfl⟩ (by decide) ⟨Nat.le_refl _, Nat.le_refl _⟩ (Nat.le_of_ble_eq_true rfl) rfl (fun r51 Λc51 Ic51 Lc51 Rc51 hq51 => ?_)
      obtain ⟨rfl, rfl, rfl, hL51, rfl, c1, c2, cz⟩ := hq51
      have k0 : Lc51 (e + 1) 0 = kLo A P (prX A x) := (cz 0 (by decide) (by decide)).trans t0
      have k3 : Lc51 (e + 1) 3 = kAv A (prX A x) := (cz 3 (by decide) (by decide)).trans t3
      rw [t0] at c1 c2
      have h2 : St Λ I1 Lc51 R s A := h1.jk (fun k hk => hL51 _ (he.ap hk (by decide)))
      refine LW_aloadn 0 dX1_reckon_54 rfl rfl ?_
      refine gX1_2 dX1_reckon_55 flX1_9 he.lt0 he.2.1 he.f2 ?_
      refine LW_iconst (v := 3) dX1_reckon_58 (by decide) ?_
      refine LW_lald dX1_reckon_59 (he.lt 1 (by decide)) he.2.2.1 rfl (by decide) (Nat.le_of_ble_eq_true rfl) ?_
      rw [show Lc51 (e + 1) 3 = kAv A (prX A x) from k3]
      refine LW_aloadn 0 dX1_reckon_60 rfl rfl ?_
      refine gX1_2 dX1_reckon_61 flX1_9 he.lt0 he.2.1 he.f2 ?_
      refine LW_iconst (v := 2) dX1_reckon_64 (by decide) ?_
      refine LW_lald dX1_reckon_65 (he.lt 1 (by decide)) he.2.2.1 rfl (by decide) (Nat.le_of_ble_eq_true rfl) ?_
      rw [show Lc51 (e + 1) 2 = kNe A P (prX A x) from c2]
      refine LW_lsub dX1_reckon_66 ?_
      rw [show ((kAv A (prX A x)) - (kNe A P (prX A x))) = kBt A P (prX A x) from rfl]
      refine LW_lstoren (ls' := [(0, .ref e), (1, .int x), (2, .long (kBt A P (prX A x)))]) dX1_reckon_67 rfl (by decide) rfl ?_
      refine LW_lloadn 2 dX1_reckon_68 rfl rfl ?_
      refine LW_lconst (v := 0) dX1_reckon_69 (by decide) ?_
      refine LW_lcmp dX1_reckon_70 ?_
      refine LW_lif_lt (tgt := 82) dX1_reckon_71 (by decide) (fun c71 => ?_) (fun c71 => ?_)
      · refine LW_aloadn 0 dX1_reckon_82 rfl rfl ?_
        refine LW_lloadn 2 dX1_reckon_83 rfl rfl ?_
        refine LW_lneg dX1_reckon_84 ?_
        refine LW_callV (As := [.long (-(kBt A P (prX A x)))]) (b := e) (st := []) (ci := 1) (r := (RX1, TX1, 11)) (r_bear he h2 hp1 (-kBt A P (prX A x))) YX1_bear rfl dX1_reckon_85 mlX1_70 he.lt0 he.2.1 ⟨rfl, rfl⟩ (by decide) ⟨Nat.le_refl _, Nat.le_refl _⟩ (Nat.le_of_ble_eq_true rfl) rfl (fun r85 Λc85 Ic85 Lc85 Rc85 hq85 => ?_)
        obtain ⟨rfl, rfl, hIa, hL85, rfl, s6, s7, s8, sz, sC, sD⟩ := hq85
        have hbt : ¬ 0 ≤ kBt A P (prX A x) := Int64.not_le.mpr c71
        have hcl : ∀ j, j < 12 → cfG (fun m => aRu A 5 * Lc51 (e + 13) m) (Lc51 (e + 12)) 13 (prX A x) (Lc51 (e + 6)) (-kBt A P (prX A x) - cBorne A (-kBt A P (prX A x))) (Lc51 (e + 14)) j = kCal A P (prX A x) j := fun j hj => cfG_congr (fun i hi => by rw [hL51 _ (by omega), a13 i hi]) (fun i hi => by rw [hL51 _ (by omega)]; exact a12 i hi) 13 _ _ _ _ _ _ _ (fun _ _ => rfl) (fun i hi => by rw [hL51 _ (by omega)]; exact rz 3 i (by decide) (by decide) hi) (fun q => absurd q (by decide)) j hj
        have hcs : sumJ (cfG (fun m => aRu A 5 * Lc51 (e + 13) m) (Lc51 (e + 12)) 13 (prX A x) (Lc51 (e + 6)) (-kBt A P (prX A x) - cBorne A (-kBt A P (prX A x))) (Lc51 (e + 14))) 12 = sumJ (kCal A P (prX A x)) 12 := sumJ_congr hcl
        rw [hcs] at s7 s8 sD
        have hct : ∀ j, j < 12 → dv (-kBt A P (prX A x) - cBorne A (-kBt A P (prX A x)) - sumJ (kCal A P (prX A x)) 12) (Lc51 (e + 3)) (prX A x) j = kCut A P (prX A x) j := fun j hj => dv_congr (fun i hi => by rw [hL51 _ (by omega)]; exact a3 i hi) (fun _ _ => rfl) hj
        exact tail _ Ic85 Lc85 (fun z hz => by unfold kI at hz; rw [hIa z (by omega)]; exact hI1 z (by omega)) (fun z hz => by unfold kJ at hz; rw [hL85 _ (by omega), hL51 _ (by omega)]; exact hL1 z hz) (fun j hj => by rw [hIa _ (by omega)]; exact hp1 j hj)
          (fun j hj => by rw [hL85 _ (by omega), hL51 _ (by omega)]; exact a11 j hj) (fun j hj => by rw [hL85 _ (by omega), hL51 _ (by omega)]; exact a12 j hj) (fun j hj => by rw [hL85 _ (by omega), hL51 _ (by omega)]; exact a13 j hj) (fun j hj => by rw [hL85 _ (by omega), hL51 _ (by omega)]; exact a3 j hj)
          (fun k hk => by
            rcases (show k = 0 ∨ k = 1 ∨ k = 2 ∨ k = 3 ∨ k = 4 ∨ k = 5 ∨ k = 6 ∨ k = 7 ∨ k = 8 by omega) with q | q | q | q | q | q | q | q | q <;> subst q
            · rw [sz 0 (by decide) (by decide) (by decide)]; exact k0
            · rw [sz 1 (by decide) (by decide) (by decide)]; exact c1
            · rw [sz 2 (by decide) (by decide) (by decide)]; exact c2
            · rw [sz 3 (by decide) (by decide) (by decide)]; exact k3
            · rw [sz 4 (by decide) (by decide) (by decide), cz 4 (by decide) (by decide), tz 4 (by decide) (by decide) (by decide)]; show _ = kT4 A P (prX A x); unfold kT4; rw [if_neg hbt]
            · rw [sz 5 (by decide) (by decide) (by decide), cz 5 (by decide) (by decide), tz 5 (by decide) (by decide) (by decide)]; show _ = if 0 ≤ kBt A P (prX A x) then _ else _; rw [if_neg hbt]
            · rw [s6]; show _ = kT6 A P (prX A x); unfold kT6; rw [if_neg hbt]; rfl
            · rw [s7]; show _ = if 0 ≤ kBt A P (prX A x) then _ else _; rw [if_neg hbt]
            · rw [s8]; show _ = if 0 ≤ kBt A P (prX A x) then _ else _; rw [if_neg hbt]; exact sumJ_congr hct)
          (by rw [sz 9 (by decide) (by decide) (by decide), cz 9 (by decide) (by decide)]; exact tz 9 (by decide) (by decide) (by decide))
          (fun j hj => by unfold kR1; rw [if_neg hbt, sD j hj]; exact hct j hj)
          (fun j hj => by rw [hL85 _ (by omega), hL51 _ (by omega)]; unfold kR2; rw [if_neg hbt]; exact rz 2 j (by decide) (by decide) hj)
          (fun j hj => by unfold kR3; rw [if_neg hbt, sC j hj]; exact hcl j hj)
          (fun j hj => by rw [hL85 _ (by omega), hL51 _ (by omega)]; exact rz 4 j (by decide) (by decide) hj)
      · refine LW_aloadn 0 dX1_reckon_74 rfl rfl ?_
        refine LW_lloadn 2 dX1_reckon_75 rfl rfl ?_
        refine LW_callV (As := [.long (kBt A P (prX A x))]) (b := e) (st := []) (ci := 1) (r := (RX1, TX1, 11)) (r_spread he h2 hp1 (kBt A P (prX A x))) YX1_spread rfl dX1_reckon_76 mlX1_66 he.lt0 he.2.1 ⟨rfl, rfl⟩ (by decide) ⟨Nat.le_refl _, Nat.le_refl _⟩ (Nat.le_of_ble_eq_true rfl) rfl (fun r76 Λc76 Ic76 Lc76 Rc76 hq76 => ?_)
        obtain ⟨rfl, rfl, rfl, hL76, rfl, s4, s5, s5t, sz⟩ := hq76
        refine LW_goto (tgt := 88) dX1_reckon_79 (by decide) ?_
        have hbt : 0 ≤ kBt A P (prX A x) := Int64.not_lt.mp c71
        have q11 : sumJ (Lc51 (e + 11)) 12 = sumJ (gS A (prX A x)) 12 := sumJ_congr (fun j hj => by rw [hL51 _ (by omega)]; exact a11 j hj)
        rw [q11] at s4 s5 s5t
        have hgv : ∀ j, j < 12 → dv (kBt A P (prX A x) - kToR A P (prX A x)) (Lc51 (e + 13)) (prX A x) j = kGiv A P (prX A x) j := fun j hj => dv_congr (fun i hi => by rw [hL51 _ (by omega)]; exact a13 i hi) (fun _ _ => rfl) hj
        exact tail _ I1 Lc76 (fun z hz => hI1 z (fun q => hz (Or.inl q))) (fun z hz => by unfold kJ at hz; rw [hL76 _ (by omega), hL51 _ (by omega)]; exact hL1 z hz) hp1
          (fun j hj => by rw [hL76 _ (by omega), hL51 _ (by omega)]; exact a11 j hj) (fun j hj => by rw [hL76 _ (by omega), hL51 _ (by omega)]; exact a12 j hj) (fun j hj => by rw [hL76 _ (by omega), hL51 _ (by omega)]; exact a13 j hj) (fun j hj => by rw [hL76 _ (by omega), hL51 _ (by omega)]; exact a3 j hj)
          (fun k hk => by
            rcases (show k = 0 ∨ k = 1 ∨ k = 2 ∨ k = 3 ∨ k = 4 ∨ k = 5 ∨ k = 6 ∨ k = 7 ∨ k = 8 by omega) with q | q | q | q | q | q | q | q | q <;> subst q
            · rw [sz 0 (by decide) (by decide)]; exact k0
            · rw [sz 1 (by decide) (by decide)]; exact c1
            · rw [sz 2 (by decide) (by decide)]; exact c2
            · rw [sz 3 (by decide) (by decide)]; exact k3
            · rw [s4]; show _ = kT4 A P (prX A x); unfold kT4; rw [if_pos hbt]; rfl
            · rw [s5t]; show _ = if 0 ≤ kBt A P (prX A x) then _ else _; rw [if_pos hbt]; exact sumJ_congr hgv
            · rw [sz 6 (by decide) (by decide), cz 6 (by decide) (by decide), tz 6 (by decide) (by decide) (by decide)]; show _ = kT6 A P (prX A x); unfold kT6; rw [if_pos hbt]
            · rw [sz 7 (by decide) (by decide), cz 7 (by decide) (by decide), tz 7 (by decide) (by decide) (by decide)]; show _ = if 0 ≤ kBt A P (prX A x) then _ else _; rw [if_pos hbt]
            · rw [sz 8 (by decide) (by decide), cz 8 (by decide) (by decide), tz 8 (by decide) (by decide) (by decide)]; show _ = if 0 ≤ kBt A P (prX A x) then _ else _; rw [if_pos hbt])
          (by rw [sz 9 (by decide) (by decide), cz 9 (by decide) (by decide)]; exact tz 9 (by decide) (by decide) (by decide))
          (fun j hj => by rw [hL76 _ (by omega), hL51 _ (by omega)]; unfold kR1; rw [if_pos hbt]; exact rz 1 j (by decide) (by decide) hj)
          (fun j hj => by unfold kR2; rw [if_pos hbt, s5 j hj]; exact hgv j hj)
          (fun j hj => by rw [hL76 _ (by omega), hL51 _ (by omega)]; unfold kR3; rw [if_pos hbt]; exact rz 3 j (by decide) (by decide) hj)
          (fun j hj => by rw [hL76 _ (by omega), hL51 _ (by omega)]; exact rz 4 j (by decide) (by decide) hj)
    · intro i hi ih I1 L1 hI1 hL1 hp1 a11 a12 a13 a3 t0 t3 tz rz
      have h1 : St Λ I1 L1 R s A := h.jkE he ha (fun z hz => hI1 z (fun q => hz (Or.inl q))) hL1
      refine LW_iloadn 2 dX1_reckon_6 rfl rfl ?_
      refine LW_bipush (v := 12) dX1_reckon_7 (by decide) ?_
      refine LW_icmp_ge (tgt := 50) dX1_reckon_9 (by decide) (fun c9 => absurd c9 (hc_nle (by decide) (by omega) hi)) (fun c9 => ?_)
      refine LW_aloadn 0 dX1_reckon_12 rfl rfl ?_
      refine gX1_4 dX1_reckon_13 flX1_20 he.lt0 he.2.1 he.f4 ?_
      refine LW_iloadn 2 dX1_reckon_16 rfl rfl ?_
      refine LW_iloadn 2 dX1_reckon_17 rfl rfl ?_
      refine LW_iloadn 1 dX1_reckon_18 rfl rfl ?_
      refine LW_icmp_eq (tgt := 37) dX1_reckon_19 (by decide) (fun c19 => ?_) (fun c19 => ?_)
      · refine LW_iconst (v := 0) dX1_reckon_37 (by decide) ?_
        refine LW_zast dX1_reckon_38 (he.lt 9 (by decide)) he.2.2.2.2.2.1 rfl (by omega) (Nat.le_of_ble_eq_true rfl) ?_
        generalize hI38 : hc_u I1 (e + 9) i (vp_nar .boolean 0) = I38
        have hgI : ∀ z, z ≠ e + 9 → I38 z = I z := fun z hz => by rw [← hI38, hc_u_row _ _ _ _ hz]; exact hI1 z hz
        have hgp : I38 (e + 9) i = hc_b ((prX A x) i) := by
          rw [← hI38, hc_u_at, if_pos rfl]
          unfold prX
          first | (rw [decide_eq_true c19]; rfl) | (rw [decide_eq_false c19, c30]; rfl)
        have hg : St Λ I38 L1 R s A := h.jkE he ha (fun z hz => hgI z (fun q => hz (Or.inl q))) hL1
        have hlg : LwAt Λ I38 l P := hl.jk (hgI _ (hel 0 9 (by decide) (by decide))) (hgI _ (hel 1 9 (by decide) (by decide)))
        refine LW_aloadn 0 dX1_reckon_39 rfl rfl ?_
        refine LW_iloadn 2 dX1_reckon_40 rfl rfl ?_
        refine LW_callV (As := [.int (nI i)]) (b := e) (st := []) (ci := 1) (r := (RX1, TX1, 11)) (r_gather (pr := (prX A x)) he hg ha hlg hP (fun j hj => hel 2 j (by decide) hj) hgp hi) YX1_gather rfl dX1_reckon_41 mlX1_59 he.lt0 he.2.1 ⟨rfl, rfl⟩ (by decide) ⟨Nat.le_refl _, Nat.le_refl _⟩ (Nat.le_of_ble_eq_true rfl) rfl (fun r41 Λc41 Ic41 Lc41 Rc41 hq41 => ?_)
        obtain ⟨rfl, rfl, rfl, hL41, rfl, b11, b12, b13, b3, b0, b1, bz⟩ := hq41
        refine LW_iinc (n := 2) (v := nI (i + 1)) (ls' := [(0, .ref e), (1, .int x), (2, .int (nI (i + 1)))]) dX1_reckon_44 rfl (hc_inc _) (by decide) rfl ?_
        refine LW_goto (tgt := 6) dX1_reckon_47 (by decide) ?_
        have gz : ∀ z, ¬ gJ e l z → Lc41 z = L1 z := hL41
        exact ih I38 Lc41 hgI (fun z hz => by unfold kJ at hz; rw [gz z (by unfold gJ; omega)]; exact hL1 z hz)
          (fun j hj => by
            by_cases q : j = i
            · rw [q]; exact hgp
            · rw [← hI38, hc_u_at, if_neg q]; exact hp1 j (by omega))
          (fun j hj => by
            rw [b11 j]
            by_cases q : j = i
            · rw [if_pos q, q]
            · rw [if_neg q]; exact a11 j (by omega))
          (fun j hj => by
            rw [b12 j]
            by_cases q : j = i
            · rw [if_pos q, q]
            · rw [if_neg q]; exact a12 j (by omega))
          (fun j hj => by
            rw [b13 j]
            by_cases q : j = i
            · rw [if_pos q, q]
            · rw [if_neg q]; exact a13 j (by omega))
          (fun j hj => by
            rw [b3 j]
            by_cases q : j = i
            · rw [if_pos q, q]
            · rw [if_neg q]; exact a3 j (by omega))
          (by rw [b0, t0]; rfl) (by rw [b1, t3]; rfl) (fun j hj q1 q2 => by rw [bz j q1 q2]; exact tz j hj q1 q2)
          (fun w j hw1 hw2 hj => by
            rw [gz _ (by unfold gJ; have := hel 2 (3 + w) (by decide) (by omega); omega)]
            exact rz w j hw1 hw2 hj)
      · refine LW_aloadn 0 dX1_reckon_22 rfl rfl ?_
        refine gX1_0 dX1_reckon_23 flX1_42 he.lt0 he.2.1 he.f0 ?_
        refine LW_iloadn 2 dX1_reckon_26 rfl rfl ?_
        refine LW_callV (As := [.int (nI i)]) (b := s) (st := [.int (nI i), .ref (e + 9)]) (ci := 6) (r := (RX6, TX6, 15)) (r_isThereN h1 (by omega)) YX6_isThere rfl dX1_reckon_27 mlX1_53 h.l.lt0 h.l.2.1 ⟨rfl, rfl⟩ (by decide) ⟨Nat.le_refl _, Nat.le_refl _⟩ (Nat.le_of_ble_eq_true rfl) rfl (fun r27 Λc27 Ic27 Lc27 Rc27 hq27 => ?_)
        obtain ⟨rfl, rfl, rfl, rfl, rfl⟩ := hq27
        refine LW_bif_eq (tgt := 37) dX1_reckon_30 (by decide) (fun c30 => ?_) (fun c30 => ?_)
        · refine LW_iconst (v := 0) dX1_reckon_37 (by decide) ?_
          refine LW_zast dX1_reckon_38 (he.lt 9 (by decide)) he.2.2.2.2.2.1 rfl (by omega) (Nat.le_of_ble_eq_true rfl) ?_
          generalize hI38 : hc_u I1 (e + 9) i (vp_nar .boolean 0) = I38
          have hgI : ∀ z, z ≠ e + 9 → I38 z = I z := fun z hz => by rw [← hI38, hc_u_row _ _ _ _ hz]; exact hI1 z hz
          have hgp : I38 (e + 9) i = hc_b ((prX A x) i) := by
            rw [← hI38, hc_u_at, if_pos rfl]
            unfold prX
            first | (rw [decide_eq_true c19]; rfl) | (rw [decide_eq_false c19, c30]; rfl)
          have hg : St Λ I38 L1 R s A := h.jkE he ha (fun z hz => hgI z (fun q => hz (Or.inl q))) hL1
          have hlg : LwAt Λ I38 l P := hl.jk (hgI _ (hel 0 9 (by decide) (by decide))) (hgI _ (hel 1 9 (by decide) (by decide)))
          refine LW_aloadn 0 dX1_reckon_39 rfl rfl ?_
          refine LW_iloadn 2 dX1_reckon_40 rfl rfl ?_
          refine LW_callV (As := [.int (nI i)]) (b := e) (st := []) (ci := 1) (r := (RX1, TX1, 11)) (r_gather (pr := (prX A x)) he hg ha hlg hP (fun j hj => hel 2 j (by decide) hj) hgp hi) YX1_gather rfl dX1_reckon_41 mlX1_59 he.lt0 he.2.1 ⟨rfl, rfl⟩ (by decide) ⟨Nat.le_refl _, Nat.le_refl _⟩ (Nat.le_of_ble_eq_true rfl) rfl (fun r41 Λc41 Ic41 Lc41 Rc41 hq41 => ?_)
          obtain ⟨rfl, rfl, rfl, hL41, rfl, b11, b12, b13, b3, b0, b1, bz⟩ := hq41
          refine LW_iinc (n := 2) (v := nI (i + 1)) (ls' := [(0, .ref e), (1, .int x), (2, .int (nI (i + 1)))]) dX1_reckon_44 rfl (hc_inc _) (by decide) rfl ?_
          refine LW_goto (tgt := 6) dX1_reckon_47 (by decide) ?_
          have gz : ∀ z, ¬ gJ e l z → Lc41 z = L1 z := hL41
          exact ih I38 Lc41 hgI (fun z hz => by unfold kJ at hz; rw [gz z (by unfold gJ; omega)]; exact hL1 z hz)
            (fun j hj => by
              by_cases q : j = i
              · rw [q]; exact hgp
              · rw [← hI38, hc_u_at, if_neg q]; exact hp1 j (by omega))
            (fun j hj => by
              rw [b11 j]
              by_cases q : j = i
              · rw [if_pos q, q]
              · rw [if_neg q]; exact a11 j (by omega))
            (fun j hj => by
              rw [b12 j]
              by_cases q : j = i
              · rw [if_pos q, q]
              · rw [if_neg q]; exact a12 j (by omega))
            (fun j hj => by
              rw [b13 j]
              by_cases q : j = i
              · rw [if_pos q, q]
              · rw [if_neg q]; exact a13 j (by omega))
            (fun j hj => by
              rw [b3 j]
              by_cases q : j = i
              · rw [if_pos q, q]
              · rw [if_neg q]; exact a3 j (by omega))
            (by rw [b0, t0]; rfl) (by rw [b1, t3]; rfl) (fun j hj q1 q2 => by rw [bz j q1 q2]; exact tz j hj q1 q2)
            (fun w j hw1 hw2 hj => by
              rw [gz _ (by unfold gJ; have := hel 2 (3 + w) (by decide) (by omega); omega)]
              exact rz w j hw1 hw2 hj)
        · refine LW_iconst (v := 1) dX1_reckon_33 (by decide) ?_
          refine LW_goto (tgt := 38) dX1_reckon_34 (by decide) ?_
          refine LW_zast dX1_reckon_38 (he.lt 9 (by decide)) he.2.2.2.2.2.1 rfl (by omega) (Nat.le_of_ble_eq_true rfl) ?_
          generalize hI38 : hc_u I1 (e + 9) i (vp_nar .boolean 1) = I38
          have hgI : ∀ z, z ≠ e + 9 → I38 z = I z := fun z hz => by rw [← hI38, hc_u_row _ _ _ _ hz]; exact hI1 z hz
          have hgp : I38 (e + 9) i = hc_b ((prX A x) i) := by
            rw [← hI38, hc_u_at, if_pos rfl]
            unfold prX
            first | (rw [decide_eq_true c19]; rfl) | (rw [decide_eq_false c19, c30]; rfl)
          have hg : St Λ I38 L1 R s A := h.jkE he ha (fun z hz => hgI z (fun q => hz (Or.inl q))) hL1
          have hlg : LwAt Λ I38 l P := hl.jk (hgI _ (hel 0 9 (by decide) (by decide))) (hgI _ (hel 1 9 (by decide) (by decide)))
          refine LW_aloadn 0 dX1_reckon_39 rfl rfl ?_
          refine LW_iloadn 2 dX1_reckon_40 rfl rfl ?_
          refine LW_callV (As := [.int (nI i)]) (b := e) (st := []) (ci := 1) (r := (RX1, TX1, 11)) (r_gather (pr := (prX A x)) he hg ha hlg hP (fun j hj => hel 2 j (by decide) hj) hgp hi) YX1_gather rfl dX1_reckon_41 mlX1_59 he.lt0 he.2.1 ⟨rfl, rfl⟩ (by decide) ⟨Nat.le_refl _, Nat.le_refl _⟩ (Nat.le_of_ble_eq_true rfl) rfl (fun r41 Λc41 Ic41 Lc41 Rc41 hq41 => ?_)
          obtain ⟨rfl, rfl, rfl, hL41, rfl, b11, b12, b13, b3, b0, b1, bz⟩ := hq41
          refine LW_iinc (n := 2) (v := nI (i + 1)) (ls' := [(0, .ref e), (1, .int x), (2, .int (nI (i + 1)))]) dX1_reckon_44 rfl (hc_inc _) (by decide) rfl ?_
          refine LW_goto (tgt := 6) dX1_reckon_47 (by decide) ?_
          have gz : ∀ z, ¬ gJ e l z → Lc41 z = L1 z := hL41
          exact ih I38 Lc41 hgI (fun z hz => by unfold kJ at hz; rw [gz z (by unfold gJ; omega)]; exact hL1 z hz)
            (fun j hj => by
              by_cases q : j = i
              · rw [q]; exact hgp
              · rw [← hI38, hc_u_at, if_neg q]; exact hp1 j (by omega))
            (fun j hj => by
              rw [b11 j]
              by_cases q : j = i
              · rw [if_pos q, q]
              · rw [if_neg q]; exact a11 j (by omega))
            (fun j hj => by
              rw [b12 j]
              by_cases q : j = i
              · rw [if_pos q, q]
              · rw [if_neg q]; exact a12 j (by omega))
            (fun j hj => by
              rw [b13 j]
              by_cases q : j = i
              · rw [if_pos q, q]
              · rw [if_neg q]; exact a13 j (by omega))
            (fun j hj => by
              rw [b3 j]
              by_cases q : j = i
              · rw [if_pos q, q]
              · rw [if_neg q]; exact a3 j (by omega))
            (by rw [b0, t0]; rfl) (by rw [b1, t3]; rfl) (fun j hj q1 q2 => by rw [bz j q1 q2]; exact tz j hj q1 q2)
            (fun w j hw1 hw2 hj => by
              rw [gz _ (by unfold gJ; have := hel 2 (3 + w) (by decide) (by omega); omega)]
              exact rz w j hw1 hw2 hj)
  refine LW_aloadn 0 dX1_reckon_0 rfl rfl ?_
  refine LW_callV (As := []) (b := e) (st := []) (ci := 1) (r := (RX1, TX1, 11)) (r_clearE he) YX1_clear rfl dX1_reckon_1 mlX1_50 he.lt0 he.2.1 ⟨rfl, rfl⟩ (by decide) ⟨Nat.le_refl _, Nat.le_refl _⟩ (Nat.le_of_ble_eq_true rfl) rfl (fun r1 Λc1 Ic1 Lc1 Rc1 hq1 => ?_)
  obtain ⟨rfl, rfl, rfl, hL1, rfl, z0, zr⟩ := hq1
  refine LW_iconst (v := 0) dX1_reckon_4 (by decide) ?_
  refine LW_istoren (ls' := [(0, .ref e), (1, .int x), (2, .int 0)]) dX1_reckon_5 rfl (by decide) rfl ?_
  exact loop 0 (Nat.zero_le _) I Lc1 (fun _ _ => rfl) (fun z hz => hL1 z (fun q => hz (Or.inl (by omega)))) (fun j hj => absurd hj (Nat.not_lt_zero _)) (fun j hj => absurd hj (Nat.not_lt_zero _)) (fun j hj => absurd hj (Nat.not_lt_zero _)) (fun j hj => absurd hj (Nat.not_lt_zero _)) (fun j hj => absurd hj (Nat.not_lt_zero _)) (z0 0 (by decide)) (z0 3 (by decide)) (fun j hj _ _ => z0 j hj) (fun w j _ hw hj => zr w j hw hj)
