/-! the constructor of HailClub -/
abbrev tX6 : List (Nat × Nat) := [(3, 7), (2, 64), (2, 4), (3, 12), (0, 12), (0, 12), (2, 12), (4, 24), (5, 16), (0, 12), (7, 6), (3, 12), (3, 12), (3, 12), (3, 12), (3, 12), (3, 12)]
abbrev fX6 (b : Nat) : List (Nat × Nat × Nat) := [(0, 0, b + 1 + 0), (0, 1, b + 1 + 1), (0, 2, b + 1 + 2), (0, 3, b + 1 + 3), (0, 4, b + 1 + 4), (0, 5, b + 1 + 5), (0, 6, b + 1 + 6), (0, 7, b + 1 + 7), (0, 8, b + 1 + 8), (0, 9, b + 1 + 9), (0, 10, b + 1 + 10), (11, 0, b + 12 + 0), (11, 1, b + 12 + 1), (11, 2, b + 12 + 2), (11, 3, b + 12 + 3), (11, 4, b + 12 + 4), (11, 5, b + 12 + 5)]
abbrev tX5 : List (Nat × Nat) := [(2, 5), (109, 0), (2, 701), (2, 701), (3, 701), (3, 18)]
abbrev fX5 (b t s l : Nat) : List (Nat × Nat × Nat) := [(0, 0, b + 2), (0, 1, s), (0, 2, l), (0, 3, b + 1), (2, 0, b + 2 + 1), (2, 1, b + 2 + 2), (2, 2, b + 2 + 3), (2, 4, b + 2 + 4), (2, 5, t)]
/-- shapes and references of the cells b + 1 … b + n and of b -/
def Ct (n : Nat) (tT : List (Nat × Nat)) (tF : List (Nat × Nat × Nat)) (b : Nat) (Λ : hc_L) : Prop := (∀ j, j < n → tT[j]? = some (Λ.2.1 (b + 1 + j))) ∧ ∀ q ∈ tF, Λ.2.2 (b + q.1) q.2.1 = some q.2.2
theorem StL.ct {Λ : hc_L} {b : Nat} (h : StL Λ b) : Ct 17 tX6 (fX6 b) b Λ := by
  obtain ⟨l0, l1, l2, l3, l4, l5, l6, l7, l8, l9, l10, l11, l12, l13, l14, l15⟩ := h
  refine ⟨fun j hj => ?_, List.forall_mem_cons.mpr ⟨(l14 0 (by decide)), List.forall_mem_cons.mpr ⟨(l14 1 (by decide)), List.forall_mem_cons.mpr ⟨(l14 2 (by decide)), List.forall_mem_cons.mpr ⟨(l14 3 (by decide)), List.forall_mem_cons.mpr ⟨(l14 4 (by decide)), List.forall_mem_cons.mpr ⟨(l14 5 (by decide)), List.forall_mem_cons.mpr ⟨(l14 6 (by decide)), List.forall_mem_cons.mpr ⟨(l14 7 (by decide)), List.forall_mem_cons.mpr ⟨(l14 8 (by decide)), List.forall_mem_cons.mpr ⟨(l14 9 (by decide)), List.forall_mem_cons.mpr ⟨(l14 10 (by decide)), List.forall_mem_cons.mpr ⟨(l15 0 (by decide)), List.forall_mem_cons.mpr ⟨(l15 1 (by decide)), List.forall_mem_cons.mpr ⟨(l15 2 (by decide)), List.forall_mem_cons.mpr ⟨(l15 3 (by decide)), List.forall_mem_cons.mpr ⟨(l15 4 (by decide)), List.forall_mem_cons.mpr ⟨(l15 5 (by decide)), fun _ h => absurd h List.not_mem_nil⟩⟩⟩⟩⟩⟩⟩⟩⟩⟩⟩⟩⟩⟩⟩⟩⟩⟩
  rcases (show j = 0 ∨ j = 1 ∨ j = 2 ∨ j = 3 ∨ j = 4 ∨ j = 5 ∨ j = 6 ∨ j = 7 ∨ j = 8 ∨ j = 9 ∨ j = 10 ∨ j = 11 ∨ j = 12 ∨ j = 13 ∨ j = 14 ∨ j = 15 ∨ j = 16 by omega) with rfl | rfl | rfl | rfl | rfl | rfl | rfl | rfl | rfl | rfl | rfl | rfl | rfl | rfl | rfl | rfl | rfl
  · exact congrArg some l2.symm
  · exact congrArg some l3.symm
  · exact congrArg some l4.symm
  · exact congrArg some l5.symm
  · exact congrArg some l6.symm
  · exact congrArg some l7.symm
  · exact congrArg some l8.symm
  · exact congrArg some l9.symm
  · exact congrArg some l10.symm
  · exact congrArg some l11.symm
  · exact congrArg some l12.symm
  · exact congrArg some (l13 0 (by decide)).symm
  · exact congrArg some (l13 1 (by decide)).symm
  · exact congrArg some (l13 2 (by decide)).symm
  · exact congrArg some (l13 3 (by decide)).symm
  · exact congrArg some (l13 4 (by decide)).symm
  · exact congrArg some (l13 5 (by decide)).symm
theorem RdL.ct {Λ : hc_L} {b t s l : Nat} (h : RdL Λ b t s l) : Ct 6 tX5 (fX5 b t s l) b Λ := by
  obtain ⟨h1, ⟨a0, a1, a2, a3, a4, a5, b0, b1, b2, b3, b4, c⟩, h3, h4, h5, h6⟩ := h
  refine ⟨fun j hj => ?_, List.forall_mem_cons.mpr ⟨h3, List.forall_mem_cons.mpr ⟨h4, List.forall_mem_cons.mpr ⟨h5, List.forall_mem_cons.mpr ⟨h6, List.forall_mem_cons.mpr ⟨b0, List.forall_mem_cons.mpr ⟨b1, List.forall_mem_cons.mpr ⟨b2, List.forall_mem_cons.mpr ⟨b3, List.forall_mem_cons.mpr ⟨b4, fun _ h => absurd h List.not_mem_nil⟩⟩⟩⟩⟩⟩⟩⟩⟩⟩
  rcases (show j = 0 ∨ j = 1 ∨ j = 2 ∨ j = 3 ∨ j = 4 ∨ j = 5 by omega) with rfl | rfl | rfl | rfl | rfl | rfl
  · exact congrArg some h1.symm
  · exact congrArg some a1.symm
  · exact congrArg some a2.symm
  · exact congrArg some a3.symm
  · exact congrArg some a4.symm
  · exact congrArg some a5.symm
theorem Cs.ct {Λ : hc_L} {I : hc_I} {L : hc_J} {R : hc_R} {Λ1 : hc_L} {I1 : hc_I} {L1 : hc_J} {R1 : hc_R} {n b : Nat} {tT : List (Nat × Nat)} {tF : List (Nat × Nat × Nat)} (h : Cs n tT tF b Λ I L R Λ1 I1 L1 R1) : Ct n tT tF b Λ1 := h.2
theorem Ct.T {n b t : Nat} {tT : List (Nat × Nat)} {tF : List (Nat × Nat × Nat)} {Λ : hc_L} (h : Ct n tT tF b Λ) (h0 : Λ.2.1 b = (t, 0)) (chk : ∀ k, k < 238 → b ≤ k → k < b + 1 + n → lyT[k]? = if k = b then some (t, 0) else tT[k - b - 1]?) (hb : b + 1 + n ≤ 238) : ∀ (k : Nat) (q : Nat × Nat), b ≤ k → k < b + 1 + n → lyT[k]? = some q → Λ.2.1 k = q := by
  intro k q h1 h2 h3
  rw [chk k (by omega) h1 h2] at h3
  by_cases e : k = b
  · rw [if_pos e] at h3
    rw [e, h0]; exact Option.some.inj h3
  · rw [if_neg e] at h3
    have := h.1 (k - b - 1) (by omega)
    rw [show b + 1 + (k - b - 1) = k by omega, h3] at this
    exact (Option.some.inj this).symm
theorem Ct.F {n b : Nat} {tT : List (Nat × Nat)} {tF : List (Nat × Nat × Nat)} {Λ : hc_L} (h : Ct n tT tF b Λ) (chk : ∀ q ∈ lyF, b ≤ q.1 → q.1 < b + 1 + n → (q.1 - b, q.2.1, q.2.2) ∈ tF) : ∀ q ∈ lyF, b ≤ q.1 → q.1 < b + 1 + n → Λ.2.2 q.1 q.2.1 = some q.2.2 := by
  intro q hq h1 h2
  have := h.2 _ (chk q hq h1 h2)
  rw [show b + (q.1 - b) = q.1 by omega] at this
  exact this
/-- what of HailClub stands at n cells -/
def CX (n : Nat) (F : Nat → Option Nat) (Λ : hc_L) : Prop := Λ.1 = n ∧ (∀ (k : Nat) (q : Nat × Nat), k < n → lyT[k]? = some q → Λ.2.1 k = q) ∧ (∀ q ∈ lyF, 1 ≤ q.1 → q.1 < n → Λ.2.2 q.1 q.2.1 = some q.2.2) ∧ Λ.2.2 0 = F
theorem CX.put {n j r : Nat} {F : Nat → Option Nat} {Λ : hc_L} (h : CX n F Λ) : CX n (fun i => if i = j then some r else F i) (Λ.1, Λ.2.1, hc_u Λ.2.2 0 j (some r)) := by
  obtain ⟨h1, h2, h3, h4⟩ := h
  refine ⟨h1, h2, fun q hq a b => ?_, ?_⟩
  · show hc_u Λ.2.2 0 j (some r) q.1 q.2.1 = _
    rw [hc_u_row _ _ _ _ (by omega)]; exact h3 q hq a b
  · funext i
    show hc_u Λ.2.2 0 j (some r) 0 i = _
    rw [hc_u_at, h4]
theorem CX.step {Λ : hc_L} {I : hc_I} {L : hc_J} {R : hc_R} {Λ1 : hc_L} {I1 : hc_I} {L1 : hc_J} {R1 : hc_R} {Λ2 : hc_L} {I2 : hc_I} {L2 : hc_J} {R2 : hc_R} {n n' t m : Nat} {F : Nat → Option Nat} (h : CX n F Λ) (g : Nx t m n Λ I L R Λ1 I1 L1 R1) (w : Nw n Λ1 I1 L1 R1 Λ2 I2 L2 R2) (hn : Λ2.1 = n') (h0 : 0 < n) (hT : ∀ (k : Nat) (q : Nat × Nat), n ≤ k → k < n' → lyT[k]? = some q → Λ2.2.1 k = q) (hF : ∀ q ∈ lyF, n ≤ q.1 → q.1 < n' → Λ2.2.2 q.1 q.2.1 = some q.2.2) : CX n' F Λ2 := by
  obtain ⟨h1, h2, h3, h4⟩ := h
  refine ⟨hn, fun k q hk hq => ?_, fun q hq a b => ?_, ?_⟩
  · by_cases c : k < n
    · rw [w.1 k (Nat.le_of_lt c), (g.2.1 k c).1]; exact h2 k q c hq
    · exact hT k q (by omega) hk hq
  · by_cases c : q.1 < n
    · rw [w.2.1 _ c, (g.2.1 _ c).2]; exact h3 q hq a c
    · exact hF q hq (by omega) b
  · rw [w.2.1 0 h0, (g.2.1 0 h0).2]; exact h4
theorem Ct.hT {Λ : hc_L} (hL : HsL Λ 52) (hS : ∀ j, j < 8 → ∃ (I : hc_I) (L : hc_J) (R : hc_R) (er : Nat → Nat → Int64), St Λ I L R (52 + 2 + 18 * j) (aNew er)) : (∀ (k : Nat) (q : Nat × Nat), 52 ≤ k → k < 198 → lyT[k]? = some q → Λ.2.1 k = q) ∧ ∀ q ∈ lyF, 52 ≤ q.1 → q.1 < 198 → Λ.2.2 q.1 q.2.1 = some q.2.2 := by
  have hC : ∀ j, j < 8 → Λ.2.1 (54 + 18 * j) = (106, 0) ∧ Ct 17 tX6 (fX6 (54 + 18 * j)) (54 + 18 * j) Λ := fun j hj => by
    obtain ⟨I, L, R, er, h⟩ := hS j hj
    exact ⟨h.l.2.1, h.l.ct⟩
  constructor
  · intro k q h1 h2 h3
    by_cases e : k < 54
    · rcases (show k = 52 ∨ k = 53 by omega) with rfl | rfl
      · exact hL.2.1.trans (Option.some.inj h3)
      · exact hL.2.2.1.trans (Option.some.inj h3)
    · obtain ⟨j, hj, i, hi, rfl⟩ : ∃ j, j < 8 ∧ ∃ i, i < 18 ∧ k = 54 + 18 * j + i := ⟨(k - 54) / 18, by omega, (k - 54) % 18, by omega, by omega⟩
      have chk : ∀ j, j < 8 → ∀ i, i < 18 → lyT[54 + 18 * j + i]? = if i = 0 then some (106, 0) else tX6[i - 1]? := by decide +kernel
      rw [chk j hj i hi] at h3
      by_cases c : i = 0
      · rw [if_pos c] at h3
        rw [c]; exact (hC j hj).1.trans (Option.some.inj h3)
      · rw [if_neg c] at h3
        have := (hC j hj).2.1 (i - 1) (by omega)
        rw [show 54 + 18 * j + 1 + (i - 1) = 54 + 18 * j + i by omega, h3] at this
        exact (Option.some.inj this).symm
  · intro q hq h1 h2
    by_cases e : q.1 < 54
    · have chk : ∀ q ∈ lyF, 52 ≤ q.1 → q.1 < 54 → (q.1 = 52 ∧ q.2.1 = 0 ∧ q.2.2 = 53) ∨ (q.1 = 53 ∧ q.2.1 < 8 ∧ q.2.2 = 54 + 18 * q.2.1) := by decide +kernel
      rcases chk q hq h1 e with ⟨c1, c2, c3⟩ | ⟨c1, c2, c3⟩
      · rw [c1, c2, c3]; exact hL.2.2.2.1
      · rw [c1, c3]; exact hL.2.2.2.2 _ c2
    · have chk : ∀ q ∈ lyF, 54 ≤ q.1 → q.1 < 198 → (q.1 - 54) / 18 < 8 ∧ (q.1 - (54 + 18 * ((q.1 - 54) / 18)), q.2.1, q.2.2) ∈ fX6 (54 + 18 * ((q.1 - 54) / 18)) ∧ 54 + 18 * ((q.1 - 54) / 18) ≤ q.1 := by decide +kernel
      obtain ⟨c1, c2, c3⟩ := chk q hq (by omega) h2
      have := (hC _ c1).2.2 _ c2
      rw [show 54 + 18 * ((q.1 - 54) / 18) + (q.1 - (54 + 18 * ((q.1 - 54) / 18))) = q.1 by omega] at this
      exact this
/-- what a new HailClub holds -/
def CR (Λ : hc_L) (I : hc_I) (L : hc_J) (R : hc_R) : Prop := I 1 1 = 0 ∧ (∃ er, St Λ I L R 3 (aNew er)) ∧ (∃ er, St Λ I L R 21 (aNew er)) ∧ I 39 2 = 0 ∧ (I 45 4 = 0 ∧ I 45 5 = -1) ∧ (∀ i, i < 18 → L 51 i = lN (qw i)) ∧ (I 52 1 = 0 ∧ I 52 2 = 0) ∧ ∀ j, j < 8 → ∃ er, St Λ I L R (54 + 18 * j) (aNew er)
theorem CR.gx {e : Nat → Prop} {Λ : hc_L} {I : hc_I} {L : hc_J} {R : hc_R} {Λ1 : hc_L} {I1 : hc_I} {L1 : hc_J} {R1 : hc_R} (h : CR Λ I L R) (hn : 198 ≤ Λ.1) (g : Gx e Λ I L R Λ1 I1 L1 R1) (he : ∀ z, e z → z = 0 ∨ 198 ≤ z) : CR Λ1 I1 L1 R1 := by
  obtain ⟨h1, ⟨e3, h3⟩, ⟨e21, h21⟩, h39, ⟨h45, h45'⟩, h51, ⟨h52, h52'⟩, hH⟩ := h
  have c : ∀ z, z < 198 → I1 z = I z ∧ L1 z = L z := fun z hz => ⟨(g.2.2 z (by omega)).1, (g.2.2 z (by omega)).2.1⟩
  refine ⟨by rw [(c 1 (by decide)).1]; exact h1, ⟨e3, h3.gx g (fun z q => by have := he z q; omega)⟩, ⟨e21, h21.gx g (fun z q => by have := he z q; omega)⟩, by rw [(c 39 (by decide)).1]; exact h39, ⟨by rw [(c 45 (by decide)).1]; exact h45, by rw [(c 45 (by decide)).1]; exact h45'⟩, fun i hi => by rw [(c 51 (by decide)).2]; exact h51 i hi, ⟨by rw [(c 52 (by decide)).1]; exact h52, by rw [(c 52 (by decide)).1]; exact h52'⟩, fun j hj => ?_⟩
  obtain ⟨er, q⟩ := hH j hj
  exact ⟨er, q.gx g (fun z q => by have := he z q; omega)⟩
set_option maxRecDepth 100000 in
theorem k_X10 {Λ : hc_L} {I : hc_I} {L : hc_J} {R : hc_R} (hn : Λ.1 = 1) (hl : Λ.2.1 0 = (110, 0)) : Run xX10_init [.ref 0] Λ I L R (fun r Λ' I' L' R' => r = none ∧ Λ'.1 = 217 ∧ (∀ (k : Nat) (q : Nat × Nat), k < 217 → lyT[k]? = some q → Λ'.2.1 k = q) ∧ (∀ q ∈ lyF, q.1 < 217 → Λ'.2.2 q.1 q.2.1 = some q.2.2) ∧ CR Λ' I' L' R') := by
  refine Run.of (by decide +kernel) (Nat.le_of_ble_eq_true rfl) ?_
  show LW _ _ _ [(0, .ref 0)] _ _ _ _ _ _
  refine LW_aloadn 0 dX10_init_0 rfl rfl ?_
  refine LW_objInit dX10_init_1 mlX10_3 hc_oi hc_oc (by decide) (Nat.le_of_ble_eq_true rfl) ?_
  have x0 : CX 1 (Λ.2.2 0) Λ := by
    refine ⟨hn, fun k q hk hq => ?_, fun q hq a b => absurd b (by omega), rfl⟩
    obtain rfl : k = 0 := by omega
    exact hl.trans (Option.some.inj hq)
  refine LW_aloadn 0 dX10_init_4 rfl rfl ?_
  refine NX_new x0.1 (t := 100 + 8) (m := 0) (fun k => LW_new (ci := 8) (C := RX8) (T := TX8) (N := 2) rfl inX8 tyX8_ok dvX8 dX10_init_5 clX10_9 insX8 iniX8 (by rw [x0.1]; decide) ⟨Nat.le_of_ble_eq_true rfl, Nat.le_of_ble_eq_true rfl⟩ k) (fun Λa1 Ia1 La1 Ra1 g1 => ?_)
  refine LW_dup dX10_init_8 rfl ?_
  refine LW_callIN (As := []) (b := 1) (st := [.ref 1, .ref 0]) (k_X8 (b := 1) g1.1.2.1 g1.1.2.2 (by decide)) YX8_init rfl dX10_init_9 nlX10_11 (by rw [g1.1.2.1]; decide) (by decide) ⟨Nat.le_of_ble_eq_true rfl, Nat.le_of_ble_eq_true rfl⟩ (Nat.le_of_ble_eq_true rfl) rfl (fun r1 Λ1 I1 L1 R1 hq => ?_)
  obtain ⟨rfl, cs1, cI1⟩ := hq
  have w1 := cs1.nw
  have l1 : Λ1.1 = 3 := cs1.1.1
  have ct1 := cs1.ct
  have y1 := x0.step g1 w1 l1 (by decide) (ct1.T ((w1.1 1 (Nat.le_refl _)).trans g1.1.2.2) (by decide +kernel) (by decide)) (ct1.F (by decide +kernel))
  have G1 : Gx (fun z => z = 0) Λ I L R (Λ1.1, Λ1.2.1, hc_u Λ1.2.2 0 0 (some 1)) I1 L1 R1 := (Gx.nw g1 w1 (by rw [l1]; decide)).trans (Gx.put rfl)
  have p1 : Gx (fun z => z = 0) Λ1 I1 L1 R1 (Λ1.1, Λ1.2.1, hc_u Λ1.2.2 0 0 (some 1)) I1 L1 R1 := Gx.put rfl
  have fA1 : I1 1 1 = 0 := ((congrFun cI1 1).trans (congrFun g1.2.2.2 1))
  refine pX10_0 (r := 1) dX10_init_12 flX10_12 (by rw [y1.1]; decide) (y1.2.1 0 _ (by decide) rfl) rfl rfl ?_
  have x1 := y1.put (j := 0) (r := 1)
  have x1_1 : Λ1.1 = 3 := l1
  refine LW_aloadn 0 dX10_init_15 rfl rfl ?_
  refine NX_new x1.1 (t := 100 + 6) (m := 0) (fun k => LW_new (ci := 6) (C := RX6) (T := TX6) (N := 15) rfl inX6 tyX6_ok dvX6 dX10_init_16 clX10_16 insX6 iniX6 (by rw [x1.1]; decide) ⟨Nat.le_of_ble_eq_true rfl, Nat.le_of_ble_eq_true rfl⟩ k) (fun Λa2 Ia2 La2 Ra2 g2 => ?_)
  refine LW_dup dX10_init_19 rfl ?_
  refine LW_callI (As := []) (b := 3) (st := [.ref 3, .ref 0]) (k_X6 (b := 3) g2.1.2.1 g2.1.2.2 (by decide)) YX6_init rfl dX10_init_20 mlX10_18 (by rw [g2.1.2.1]; decide) (by decide) ⟨Nat.le_of_ble_eq_true rfl, Nat.le_of_ble_eq_true rfl⟩ (Nat.le_of_ble_eq_true rfl) rfl (fun r2 Λ2 I2 L2 R2 hq => ?_)
  obtain ⟨rfl, l2, w2, er2, s2⟩ := hq
  have ct2 := s2.l.ct
  have y2 := x1.step g2 w2 l2 (by decide) (ct2.T ((w2.1 3 (Nat.le_refl _)).trans g2.1.2.2) (by decide +kernel) (by decide)) (ct2.F (by decide +kernel))
  have G2 : Gx (fun z => z = 0) (Λ1.1, Λ1.2.1, hc_u Λ1.2.2 0 0 (some 1)) I1 L1 R1 (Λ2.1, Λ2.2.1, hc_u Λ2.2.2 0 1 (some 3)) I2 L2 R2 := (Gx.nw g2 w2 (by rw [l2]; decide)).trans (Gx.put rfl)
  have p2 : Gx (fun z => z = 0) Λ2 I2 L2 R2 (Λ2.1, Λ2.2.1, hc_u Λ2.2.2 0 1 (some 3)) I2 L2 R2 := Gx.put rfl
  have fA2 := (congrFun (G2.2.2 1 (by show Λ1.1 > _; rw [x1_1]; decide)).1 1).trans fA1
  have fB2 := s2.gx p2 (fun z (q : z = 0) => by omega)
  refine pX10_1 (r := 3) dX10_init_23 flX10_19 (by rw [y2.1]; decide) (y2.2.1 0 _ (by decide) rfl) rfl rfl ?_
  have x2 := y2.put (j := 1) (r := 3)
  have x2_1 : Λ2.1 = 21 := l2
  refine LW_aloadn 0 dX10_init_26 rfl rfl ?_
  refine NX_new x2.1 (t := 100 + 6) (m := 0) (fun k => LW_new (ci := 6) (C := RX6) (T := TX6) (N := 15) rfl inX6 tyX6_ok dvX6 dX10_init_27 clX10_16 insX6 iniX6 (by rw [x2.1]; decide) ⟨Nat.le_of_ble_eq_true rfl, Nat.le_of_ble_eq_true rfl⟩ k) (fun Λa3 Ia3 La3 Ra3 g3 => ?_)
  refine LW_dup dX10_init_30 rfl ?_
  refine LW_callI (As := []) (b := 21) (st := [.ref 21, .ref 0]) (k_X6 (b := 21) g3.1.2.1 g3.1.2.2 (by decide)) YX6_init rfl dX10_init_31 mlX10_18 (by rw [g3.1.2.1]; decide) (by decide) ⟨Nat.le_of_ble_eq_true rfl, Nat.le_of_ble_eq_true rfl⟩ (Nat.le_of_ble_eq_true rfl) rfl (fun r3 Λ3 I3 L3 R3 hq => ?_)
  obtain ⟨rfl, l3, w3, er3, s3⟩ := hq
  have ct3 := s3.l.ct
  have y3 := x2.step g3 w3 l3 (by decide) (ct3.T ((w3.1 21 (Nat.le_refl _)).trans g3.1.2.2) (by decide +kernel) (by decide)) (ct3.F (by decide +kernel))
  have G3 : Gx (fun z => z = 0) (Λ2.1, Λ2.2.1, hc_u Λ2.2.2 0 1 (some 3)) I2 L2 R2 (Λ3.1, Λ3.2.1, hc_u Λ3.2.2 0 2 (some 21)) I3 L3 R3 := (Gx.nw g3 w3 (by rw [l3]; decide)).trans (Gx.put rfl)
  have p3 : Gx (fun z => z = 0) Λ3 I3 L3 R3 (Λ3.1, Λ3.2.1, hc_u Λ3.2.2 0 2 (some 21)) I3 L3 R3 := Gx.put rfl
  have fA3 := (congrFun (G3.2.2 1 (by show Λ2.1 > _; rw [x2_1]; decide)).1 1).trans fA2
  have fB3 := fB2.gx G3 (fun z (q : z = 0) => by omega)
  have fC3 := s3.gx p3 (fun z (q : z = 0) => by omega)
  refine pX10_2 (r := 21) dX10_init_34 flX10_23 (by rw [y3.1]; decide) (y3.2.1 0 _ (by decide) rfl) rfl rfl ?_
  have x3 := y3.put (j := 2) (r := 21)
  have x3_1 : Λ3.1 = 39 := l3
  refine LW_aloadn 0 dX10_init_37 rfl rfl ?_
  refine NX_new x3.1 (t := 100 + 4) (m := 0) (fun k => LW_new (ci := 4) (C := RX4) (T := TX4) (N := 3) rfl inX4 tyX4_ok dvX4 dX10_init_38 clX10_26 insX4 iniX4 (by rw [x3.1]; decide) ⟨Nat.le_of_ble_eq_true rfl, Nat.le_of_ble_eq_true rfl⟩ k) (fun Λa4 Ia4 La4 Ra4 g4 => ?_)
  refine LW_dup dX10_init_41 rfl ?_
  refine LW_callIN (As := []) (b := 39) (st := [.ref 39, .ref 0]) (k_X4 (b := 39) g4.1.2.1 g4.1.2.2 (by decide)) YX4_init rfl dX10_init_42 nlX10_28 (by rw [g4.1.2.1]; decide) (by decide) ⟨Nat.le_of_ble_eq_true rfl, Nat.le_of_ble_eq_true rfl⟩ (Nat.le_of_ble_eq_true rfl) rfl (fun r4 Λ4 I4 L4 R4 hq => ?_)
  obtain ⟨rfl, cs4, cI4⟩ := hq
  have w4 := cs4.nw
  have l4 : Λ4.1 = 42 := cs4.1.1
  have ct4 := cs4.ct
  have y4 := x3.step g4 w4 l4 (by decide) (ct4.T ((w4.1 39 (Nat.le_refl _)).trans g4.1.2.2) (by decide +kernel) (by decide)) (ct4.F (by decide +kernel))
  have G4 : Gx (fun z => z = 0) (Λ3.1, Λ3.2.1, hc_u Λ3.2.2 0 2 (some 21)) I3 L3 R3 (Λ4.1, Λ4.2.1, hc_u Λ4.2.2 0 3 (some 39)) I4 L4 R4 := (Gx.nw g4 w4 (by rw [l4]; decide)).trans (Gx.put rfl)
  have p4 : Gx (fun z => z = 0) Λ4 I4 L4 R4 (Λ4.1, Λ4.2.1, hc_u Λ4.2.2 0 3 (some 39)) I4 L4 R4 := Gx.put rfl
  have fA4 := (congrFun (G4.2.2 1 (by show Λ3.1 > _; rw [x3_1]; decide)).1 1).trans fA3
  have fB4 := fB3.gx G4 (fun z (q : z = 0) => by omega)
  have fC4 := fC3.gx G4 (fun z (q : z = 0) => by omega)
  have fD4 : I4 39 2 = 0 := ((congrFun cI4 2).trans (congrFun g4.2.2.2 2))
  refine pX10_3 (r := 39) dX10_init_45 flX10_29 (by rw [y4.1]; decide) (y4.2.1 0 _ (by decide) rfl) rfl rfl ?_
  have x4 := y4.put (j := 3) (r := 39)
  have x4_1 : Λ4.1 = 42 := l4
  refine LW_aloadn 0 dX10_init_48 rfl rfl ?_
  refine NX_new x4.1 (t := 100 + 4) (m := 0) (fun k => LW_new (ci := 4) (C := RX4) (T := TX4) (N := 3) rfl inX4 tyX4_ok dvX4 dX10_init_49 clX10_26 insX4 iniX4 (by rw [x4.1]; decide) ⟨Nat.le_of_ble_eq_true rfl, Nat.le_of_ble_eq_true rfl⟩ k) (fun Λa5 Ia5 La5 Ra5 g5 => ?_)
  refine LW_dup dX10_init_52 rfl ?_
  refine LW_callIN (As := []) (b := 42) (st := [.ref 42, .ref 0]) (k_X4 (b := 42) g5.1.2.1 g5.1.2.2 (by decide)) YX4_init rfl dX10_init_53 nlX10_28 (by rw [g5.1.2.1]; decide) (by decide) ⟨Nat.le_of_ble_eq_true rfl, Nat.le_of_ble_eq_true rfl⟩ (Nat.le_of_ble_eq_true rfl) rfl (fun r5 Λ5 I5 L5 R5 hq => ?_)
  obtain ⟨rfl, cs5, cI5⟩ := hq
  have w5 := cs5.nw
  have l5 : Λ5.1 = 45 := cs5.1.1
  have ct5 := cs5.ct
  have y5 := x4.step g5 w5 l5 (by decide) (ct5.T ((w5.1 42 (Nat.le_refl _)).trans g5.1.2.2) (by decide +kernel) (by decide)) (ct5.F (by decide +kernel))
  have G5 : Gx (fun z => z = 0) (Λ4.1, Λ4.2.1, hc_u Λ4.2.2 0 3 (some 39)) I4 L4 R4 (Λ5.1, Λ5.2.1, hc_u Λ5.2.2 0 4 (some 42)) I5 L5 R5 := (Gx.nw g5 w5 (by rw [l5]; decide)).trans (Gx.put rfl)
  have p5 : Gx (fun z => z = 0) Λ5 I5 L5 R5 (Λ5.1, Λ5.2.1, hc_u Λ5.2.2 0 4 (some 42)) I5 L5 R5 := Gx.put rfl
  have fA5 := (congrFun (G5.2.2 1 (by show Λ4.1 > _; rw [x4_1]; decide)).1 1).trans fA4
  have fB5 := fB4.gx G5 (fun z (q : z = 0) => by omega)
  have fC5 := fC4.gx G5 (fun z (q : z = 0) => by omega)
  have fD5 := (congrFun (G5.2.2 39 (by show Λ4.1 > _; rw [x4_1]; decide)).1 2).trans fD4
  refine pX10_4 (r := 42) dX10_init_56 flX10_33 (by rw [y5.1]; decide) (y5.2.1 0 _ (by decide) rfl) rfl rfl ?_
  have x5 := y5.put (j := 4) (r := 42)
  have x5_1 : Λ5.1 = 45 := l5
  refine LW_aloadn 0 dX10_init_59 rfl rfl ?_
  refine NX_new x5.1 (t := 100 + 5) (m := 0) (fun k => LW_new (ci := 5) (C := RX5) (T := TX5) (N := 11) rfl inX5 tyX5_ok dvX5 dX10_init_60 clX10_36 insX5 iniX5 (by rw [x5.1]; decide) ⟨Nat.le_of_ble_eq_true rfl, Nat.le_of_ble_eq_true rfl⟩ k) (fun Λa6 Ia6 La6 Ra6 g6 => ?_)
  refine LW_dup dX10_init_63 rfl ?_
  refine LW_aloadn 0 dX10_init_64 rfl rfl ?_
  refine gX10_0 (r := 1) dX10_init_65 flX10_12 (by rw [g6.1.2.1]; decide) (((g6.2.1 0 (by decide)).1).trans (x5.2.1 0 _ (by decide) rfl)) (by rw [(g6.2.1 0 (by decide)).2, x5.2.2.2]; rfl) ?_
  refine LW_aloadn 0 dX10_init_68 rfl rfl ?_
  refine gX10_2 (r := 21) dX10_init_69 flX10_23 (by rw [g6.1.2.1]; decide) (((g6.2.1 0 (by decide)).1).trans (x5.2.1 0 _ (by decide) rfl)) (by rw [(g6.2.1 0 (by decide)).2, x5.2.2.2]; rfl) ?_
  refine LW_aloadn 0 dX10_init_72 rfl rfl ?_
  refine gX10_4 (r := 42) dX10_init_73 flX10_33 (by rw [g6.1.2.1]; decide) (((g6.2.1 0 (by decide)).1).trans (x5.2.1 0 _ (by decide) rfl)) (by rw [(g6.2.1 0 (by decide)).2, x5.2.2.2]; rfl) ?_
  refine LW_callI (As := [.ref 1, .ref 21, .ref 42]) (b := 45) (st := [.ref 45, .ref 0]) (k_X5 (b := 45) g6.1.2.1 g6.1.2.2 (by decide) 1 21 42 (by decide)) YX5_init rfl dX10_init_76 mlX10_38 (by rw [g6.1.2.1]; decide) (by decide) ⟨Nat.le_of_ble_eq_true rfl, Nat.le_of_ble_eq_true rfl⟩ (Nat.le_of_ble_eq_true rfl) rfl (fun r6 Λ6 I6 L6 R6 hq => ?_)
  obtain ⟨rfl, l6, w6, rd6, qw6, c4, c5⟩ := hq
  have ct6 := rd6.ct
  have y6 := x5.step g6 w6 l6 (by decide) (ct6.T ((w6.1 45 (Nat.le_refl _)).trans g6.1.2.2) (by decide +kernel) (by decide)) (ct6.F (by decide +kernel))
  have G6 : Gx (fun z => z = 0) (Λ5.1, Λ5.2.1, hc_u Λ5.2.2 0 4 (some 42)) I5 L5 R5 (Λ6.1, Λ6.2.1, hc_u Λ6.2.2 0 5 (some 45)) I6 L6 R6 := (Gx.nw g6 w6 (by rw [l6]; decide)).trans (Gx.put rfl)
  have p6 : Gx (fun z => z = 0) Λ6 I6 L6 R6 (Λ6.1, Λ6.2.1, hc_u Λ6.2.2 0 5 (some 45)) I6 L6 R6 := Gx.put rfl
  have fA6 := (congrFun (G6.2.2 1 (by show Λ5.1 > _; rw [x5_1]; decide)).1 1).trans fA5
  have fB6 := fB5.gx G6 (fun z (q : z = 0) => by omega)
  have fC6 := fC5.gx G6 (fun z (q : z = 0) => by omega)
  have fD6 := (congrFun (G6.2.2 39 (by show Λ5.1 > _; rw [x5_1]; decide)).1 2).trans fD5
  have fE6 : I6 45 4 = 0 := c4.trans (congrFun g6.2.2.2 4)
  have fF6 : I6 45 5 = -1 := c5
  have fG6 : ∀ i, i < 18 → L6 51 i = lN (qw i) := qw6
  refine pX10_5 (r := 45) dX10_init_79 flX10_41 (by rw [y6.1]; decide) (y6.2.1 0 _ (by decide) rfl) rfl rfl ?_
  have x6 := y6.put (j := 5) (r := 45)
  have x6_1 : Λ6.1 = 52 := l6
  refine LW_aloadn 0 dX10_init_82 rfl rfl ?_
  refine NX_new x6.1 (t := 100 + 3) (m := 0) (fun k => LW_new (ci := 3) (C := RX3) (T := TX3) (N := 3) rfl inX3 tyX3_ok dvX3 dX10_init_83 clX10_45 insX3 iniX3 (by rw [x6.1]; decide) ⟨Nat.le_of_ble_eq_true rfl, Nat.le_of_ble_eq_true rfl⟩ k) (fun Λa7 Ia7 La7 Ra7 g7 => ?_)
  refine LW_dup dX10_init_86 rfl ?_
  refine LW_callI (As := []) (b := 52) (st := [.ref 52, .ref 0]) (k_X3 (b := 52) g7.1.2.1 g7.1.2.2 (by decide)) YX3_init rfl dX10_init_87 mlX10_47 (by rw [g7.1.2.1]; decide) (by decide) ⟨Nat.le_of_ble_eq_true rfl, Nat.le_of_ble_eq_true rfl⟩ (Nat.le_of_ble_eq_true rfl) rfl (fun r7 Λ7 I7 L7 R7 hq => ?_)
  obtain ⟨rfl, l7, w7, hsl, hst, c52⟩ := hq
  have ct7 := Ct.hT hsl (fun j hj => ⟨_, _, _, hst j hj⟩)
  have y7 := x6.step g7 w7 l7 (by decide) ct7.1 ct7.2
  have G7 : Gx (fun z => z = 0) (Λ6.1, Λ6.2.1, hc_u Λ6.2.2 0 5 (some 45)) I6 L6 R6 (Λ7.1, Λ7.2.1, hc_u Λ7.2.2 0 6 (some 52)) I7 L7 R7 := (Gx.nw g7 w7 (by rw [l7]; decide)).trans (Gx.put rfl)
  have p7 : Gx (fun z => z = 0) Λ7 I7 L7 R7 (Λ7.1, Λ7.2.1, hc_u Λ7.2.2 0 6 (some 52)) I7 L7 R7 := Gx.put rfl
  have fA7 := (congrFun (G7.2.2 1 (by show Λ6.1 > _; rw [x6_1]; decide)).1 1).trans fA6
  have fB7 := fB6.gx G7 (fun z (q : z = 0) => by omega)
  have fC7 := fC6.gx G7 (fun z (q : z = 0) => by omega)
  have fD7 := (congrFun (G7.2.2 39 (by show Λ6.1 > _; rw [x6_1]; decide)).1 2).trans fD6
  have fE7 := (congrFun (G7.2.2 45 (by show Λ6.1 > _; rw [x6_1]; decide)).1 4).trans fE6
  have fF7 := (congrFun (G7.2.2 45 (by show Λ6.1 > _; rw [x6_1]; decide)).1 5).trans fF6
  have fG7 : ∀ i, i < 18 → L7 51 i = lN (qw i) := fun i hi => (congrFun (G7.2.2 51 (by show Λ6.1 > _; rw [x6_1]; decide)).2.1 i).trans (fG6 i hi)
  have fI7 : I7 52 1 = 0 := ((congrFun c52 1).trans (congrFun g7.2.2.2 1))
  have fJ7 : I7 52 2 = 0 := ((congrFun c52 2).trans (congrFun g7.2.2.2 2))
  have fH7 := fun j (hj : j < 8) => ((hst j hj).elim fun er h => Exists.intro er (h.gx p7 (fun z (q : z = 0) => by omega)))
  refine pX10_6 (r := 52) dX10_init_90 flX10_48 (by rw [y7.1]; decide) (y7.2.1 0 _ (by decide) rfl) rfl rfl ?_
  have x7 := y7.put (j := 6) (r := 52)
  have x7_1 : Λ7.1 = 198 := l7
  refine LW_aloadn 0 dX10_init_93 rfl rfl ?_
  refine NX_new x7.1 (t := 100 + 0) (m := 0) (fun k => LW_new (ci := 0) (C := RX0) (T := TX0) (N := 7) rfl inX0 tyX0_ok dvX0 dX10_init_94 clX10_52 insX0 iniX0 (by rw [x7.1]; decide) ⟨Nat.le_of_ble_eq_true rfl, Nat.le_of_ble_eq_true rfl⟩ k) (fun Λa8 Ia8 La8 Ra8 g8 => ?_)
  refine LW_dup dX10_init_97 rfl ?_
  refine LW_aloadn 0 dX10_init_98 rfl rfl ?_
  refine gX10_1 (r := 3) dX10_init_99 flX10_19 (by rw [g8.1.2.1]; decide) (((g8.2.1 0 (by decide)).1).trans (x7.2.1 0 _ (by decide) rfl)) (by rw [(g8.2.1 0 (by decide)).2, x7.2.2.2]; rfl) ?_
  refine LW_aloadn 0 dX10_init_102 rfl rfl ?_
  refine gX10_3 (r := 39) dX10_init_103 flX10_29 (by rw [g8.1.2.1]; decide) (((g8.2.1 0 (by decide)).1).trans (x7.2.1 0 _ (by decide) rfl)) (by rw [(g8.2.1 0 (by decide)).2, x7.2.2.2]; rfl) ?_
  refine LW_callI (As := [.ref 3, .ref 39]) (b := 198) (st := [.ref 198, .ref 0]) (k_X0 (b := 198) g8.1.2.1 g8.1.2.2 (by decide) 3 39) YX0_init rfl dX10_init_106 mlX10_54 (by rw [g8.1.2.1]; decide) (by decide) ⟨Nat.le_of_ble_eq_true rfl, Nat.le_of_ble_eq_true rfl⟩ (Nat.le_of_ble_eq_true rfl) rfl (fun r8 Λ8 I8 L8 R8 hq => ?_)
  obtain ⟨rfl, cs8, cI8⟩ := hq
  have w8 := cs8.nw
  have l8 : Λ8.1 = 201 := cs8.1.1
  have ct8 := cs8.ct
  have y8 := x7.step g8 w8 l8 (by decide) (ct8.T ((w8.1 198 (Nat.le_refl _)).trans g8.1.2.2) (by decide +kernel) (by decide)) (ct8.F (by decide +kernel))
  have G8 : Gx (fun z => z = 0) (Λ7.1, Λ7.2.1, hc_u Λ7.2.2 0 6 (some 52)) I7 L7 R7 (Λ8.1, Λ8.2.1, hc_u Λ8.2.2 0 7 (some 198)) I8 L8 R8 := (Gx.nw g8 w8 (by rw [l8]; decide)).trans (Gx.put rfl)
  have p8 : Gx (fun z => z = 0) Λ8 I8 L8 R8 (Λ8.1, Λ8.2.1, hc_u Λ8.2.2 0 7 (some 198)) I8 L8 R8 := Gx.put rfl
  have fA8 := (congrFun (G8.2.2 1 (by show Λ7.1 > _; rw [x7_1]; decide)).1 1).trans fA7
  have fB8 := fB7.gx G8 (fun z (q : z = 0) => by omega)
  have fC8 := fC7.gx G8 (fun z (q : z = 0) => by omega)
  have fD8 := (congrFun (G8.2.2 39 (by show Λ7.1 > _; rw [x7_1]; decide)).1 2).trans fD7
  have fE8 := (congrFun (G8.2.2 45 (by show Λ7.1 > _; rw [x7_1]; decide)).1 4).trans fE7
  have fF8 := (congrFun (G8.2.2 45 (by show Λ7.1 > _; rw [x7_1]; decide)).1 5).trans fF7
  have fG8 : ∀ i, i < 18 → L8 51 i = lN (qw i) := fun i hi => (congrFun (G8.2.2 51 (by show Λ7.1 > _; rw [x7_1]; decide)).2.1 i).trans (fG7 i hi)
  have fI8 := (congrFun (G8.2.2 52 (by show Λ7.1 > _; rw [x7_1]; decide)).1 1).trans fI7
  have fJ8 := (congrFun (G8.2.2 52 (by show Λ7.1 > _; rw [x7_1]; decide)).1 2).trans fJ7
  have fH8 := fun j (hj : j < 8) => ((fH7 j hj).elim fun er h => Exists.intro er (h.gx G8 (fun z (q : z = 0) => by omega)))
  refine pX10_7 (r := 198) dX10_init_109 flX10_57 (by rw [y8.1]; decide) (y8.2.1 0 _ (by decide) rfl) rfl rfl ?_
  have x8 := y8.put (j := 7) (r := 198)
  have x8_1 : Λ8.1 = 201 := l8
  refine LW_aloadn 0 dX10_init_112 rfl rfl ?_
  refine NX_new x8.1 (t := 100 + 1) (m := 0) (fun k => LW_new (ci := 1) (C := RX1) (T := TX1) (N := 11) rfl inX1 tyX1_ok dvX1 dX10_init_113 clX10_61 insX1 iniX1 (by rw [x8.1]; decide) ⟨Nat.le_of_ble_eq_true rfl, Nat.le_of_ble_eq_true rfl⟩ k) (fun Λa9 Ia9 La9 Ra9 g9 => ?_)
  refine LW_dup dX10_init_116 rfl ?_
  refine LW_aloadn 0 dX10_init_117 rfl rfl ?_
  refine gX10_1 (r := 3) dX10_init_118 flX10_19 (by rw [g9.1.2.1]; decide) (((g9.2.1 0 (by decide)).1).trans (x8.2.1 0 _ (by decide) rfl)) (by rw [(g9.2.1 0 (by decide)).2, x8.2.2.2]; rfl) ?_
  refine LW_aloadn 0 dX10_init_121 rfl rfl ?_
  refine gX10_7 (r := 198) dX10_init_122 flX10_57 (by rw [g9.1.2.1]; decide) (((g9.2.1 0 (by decide)).1).trans (x8.2.1 0 _ (by decide) rfl)) (by rw [(g9.2.1 0 (by decide)).2, x8.2.2.2]; rfl) ?_
  refine LW_callI (As := [.ref 3, .ref 198]) (b := 201) (st := [.ref 201, .ref 0]) (k_X1 (b := 201) g9.1.2.1 g9.1.2.2 (by decide) 3 198) YX1_init rfl dX10_init_125 mlX10_63 (by rw [g9.1.2.1]; decide) (by decide) ⟨Nat.le_of_ble_eq_true rfl, Nat.le_of_ble_eq_true rfl⟩ (Nat.le_of_ble_eq_true rfl) rfl (fun r9 Λ9 I9 L9 R9 hq => ?_)
  obtain ⟨rfl, cs9, cI9⟩ := hq
  have w9 := cs9.nw
  have l9 : Λ9.1 = 217 := cs9.1.1
  have ct9 := cs9.ct
  have y9 := x8.step g9 w9 l9 (by decide) (ct9.T ((w9.1 201 (Nat.le_refl _)).trans g9.1.2.2) (by decide +kernel) (by decide)) (ct9.F (by decide +kernel))
  have G9 : Gx (fun z => z = 0) (Λ8.1, Λ8.2.1, hc_u Λ8.2.2 0 7 (some 198)) I8 L8 R8 (Λ9.1, Λ9.2.1, hc_u Λ9.2.2 0 8 (some 201)) I9 L9 R9 := (Gx.nw g9 w9 (by rw [l9]; decide)).trans (Gx.put rfl)
  have p9 : Gx (fun z => z = 0) Λ9 I9 L9 R9 (Λ9.1, Λ9.2.1, hc_u Λ9.2.2 0 8 (some 201)) I9 L9 R9 := Gx.put rfl
  have fA9 := (congrFun (G9.2.2 1 (by show Λ8.1 > _; rw [x8_1]; decide)).1 1).trans fA8
  have fB9 := fB8.gx G9 (fun z (q : z = 0) => by omega)
  have fC9 := fC8.gx G9 (fun z (q : z = 0) => by omega)
  have fD9 := (congrFun (G9.2.2 39 (by show Λ8.1 > _; rw [x8_1]; decide)).1 2).trans fD8
  have fE9 := (congrFun (G9.2.2 45 (by show Λ8.1 > _; rw [x8_1]; decide)).1 4).trans fE8
  have fF9 := (congrFun (G9.2.2 45 (by show Λ8.1 > _; rw [x8_1]; decide)).1 5).trans fF8
  have fG9 : ∀ i, i < 18 → L9 51 i = lN (qw i) := fun i hi => (congrFun (G9.2.2 51 (by show Λ8.1 > _; rw [x8_1]; decide)).2.1 i).trans (fG8 i hi)
  have fI9 := (congrFun (G9.2.2 52 (by show Λ8.1 > _; rw [x8_1]; decide)).1 1).trans fI8
  have fJ9 := (congrFun (G9.2.2 52 (by show Λ8.1 > _; rw [x8_1]; decide)).1 2).trans fJ8
  have fH9 := fun j (hj : j < 8) => ((fH8 j hj).elim fun er h => Exists.intro er (h.gx G9 (fun z (q : z = 0) => by omega)))
  refine pX10_8 (r := 201) dX10_init_128 flX10_66 (by rw [y9.1]; decide) (y9.2.1 0 _ (by decide) rfl) rfl rfl ?_
  have x9 := y9.put (j := 8) (r := 201)
  have x9_1 : Λ9.1 = 217 := l9
  refine LW_vret dX10_init_131 rfl (Nat.le_of_ble_eq_true rfl) (Nat.le_of_ble_eq_true rfl) ?_
  refine ⟨rfl, x9.1, x9.2.1, fun q hq hb => ?_, fA9, ⟨_, fB9⟩, ⟨_, fC9⟩, fD9, ⟨fE9, fF9⟩, fG9, ⟨fI9, fJ9⟩, fH9⟩
  by_cases c : 1 ≤ q.1
  · exact x9.2.2.1 q hq c hb
  · have chk : ∀ q ∈ lyF, q.1 < 1 → q.2.1 < 9 ∧ q.2.2 = [1, 3, 21, 39, 42, 45, 52, 198, 201].getD q.2.1 0 := by decide +kernel
    obtain ⟨d1, d2⟩ := chk q hq (by omega)
    rw [show q.1 = 0 by omega, x9.2.2.2, d2]
    generalize q.2.1 = j at d1
    rcases (show j = 0 ∨ j = 1 ∨ j = 2 ∨ j = 3 ∨ j = 4 ∨ j = 5 ∨ j = 6 ∨ j = 7 ∨ j = 8 by omega) with rfl | rfl | rfl | rfl | rfl | rfl | rfl | rfl | rfl <;> rfl
