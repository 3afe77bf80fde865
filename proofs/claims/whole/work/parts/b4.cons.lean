/-! constructors: Reader, History -/
/-- growth: what was there stays, but the references of the rows e -/
def Gx (e : Nat → Prop) (Λ : hc_L) (I : hc_I) (L : hc_J) (R : hc_R) (Λ' : hc_L) (I' : hc_I) (L' : hc_J) (R' : hc_R) : Prop := Λ.1 ≤ Λ'.1 ∧ (∀ z, z < Λ.1 → Λ'.2.1 z = Λ.2.1 z ∧ (¬ e z → Λ'.2.2 z = Λ.2.2 z)) ∧ ∀ z, z < Λ.1 → I' z = I z ∧ L' z = L z ∧ R' z = R z
theorem Gx.rf {e : Nat → Prop} {Λ : hc_L} {I : hc_I} {L : hc_J} {R : hc_R} : Gx e Λ I L R Λ I L R := ⟨Nat.le_refl _, fun _ _ => ⟨rfl, fun _ => rfl⟩, fun _ _ => ⟨rfl, rfl, rfl⟩⟩
theorem Gx.trans {e : Nat → Prop} {Λ : hc_L} {I : hc_I} {L : hc_J} {R : hc_R} {Λ1 : hc_L} {I1 : hc_I} {L1 : hc_J} {R1 : hc_R} {Λ2 : hc_L} {I2 : hc_I} {L2 : hc_J} {R2 : hc_R} (g : Gx e Λ I L R Λ1 I1 L1 R1) (h : Gx e Λ1 I1 L1 R1 Λ2 I2 L2 R2) : Gx e Λ I L R Λ2 I2 L2 R2 := by
  have hl := g.1
  refine ⟨Nat.le_trans g.1 h.1, fun z hz => ?_, fun z hz => ?_⟩
  · have a := g.2.1 z hz; have b := h.2.1 z (Nat.lt_of_lt_of_le hz hl)
    exact ⟨b.1.trans a.1, fun q => (b.2 q).trans (a.2 q)⟩
  · have a := g.2.2 z hz; have b := h.2.2 z (Nat.lt_of_lt_of_le hz hl)
    exact ⟨b.1.trans a.1, b.2.1.trans a.2.1, b.2.2.trans a.2.2⟩
theorem Gx.put {e : Nat → Prop} {Λ : hc_L} {I : hc_I} {L : hc_J} {R : hc_R} {b j : Nat} {x : Option Nat} (hb : e b) : Gx e Λ I L R (Λ.1, Λ.2.1, hc_u Λ.2.2 b j x) I L R := ⟨Nat.le_refl _, fun z hz => ⟨rfl, fun q => hc_u_row _ _ _ _ (fun c => q (c ▸ hb))⟩, fun _ _ => ⟨rfl, rfl, rfl⟩⟩
/-- one new cell at n -/
def Nx (t m n : Nat) (Λ : hc_L) (I : hc_I) (L : hc_J) (R : hc_R) (Λ1 : hc_L) (I1 : hc_I) (L1 : hc_J) (R1 : hc_R) : Prop := (Λ.1 = n ∧ Λ1.1 = n + 1 ∧ Λ1.2.1 n = (t, m)) ∧ (∀ z, z < n → Λ1.2.1 z = Λ.2.1 z ∧ Λ1.2.2 z = Λ.2.2 z) ∧ (∀ z, z < n → I1 z = I z ∧ L1 z = L z ∧ R1 z = R z) ∧ I1 n = (fun _ => 0)
theorem Nx.of {Λ : hc_L} {I : hc_I} {L : hc_J} {R : hc_R} {n : Nat} (h : Λ.1 = n) (t m : Nat) : Nx t m n Λ I L R (hc_nw Λ t m) (hc_r I Λ.1 (fun _ => 0)) (hc_r L Λ.1 (fun _ => 0)) (hc_r R Λ.1 (fun _ => none)) := by
  subst h
  exact ⟨⟨rfl, rfl, hc_nwl _ _ _⟩, fun z hz => ⟨if_neg (Nat.ne_of_lt hz), hc_r_ne _ _ _ (Nat.ne_of_lt hz)⟩, fun z hz => ⟨hc_r_ne _ _ _ (Nat.ne_of_lt hz), hc_r_ne _ _ _ (Nat.ne_of_lt hz), hc_r_ne _ _ _ (Nat.ne_of_lt hz)⟩, hc_r_eq _ _ _⟩
theorem NX_new {cx : hc_X} {ac ac' : Nat × Nat} {pc pc' : Nat} {ls : List (Nat × Value)} {st stk : List Value} {Q : hc_Q} {Λ : hc_L} {I : hc_I} {L : hc_J} {R : hc_R} {n : Nat} (h : Λ.1 = n) {t m : Nat} (hn : LW cx ac' pc' ls (.ref Λ.1 :: st) (hc_nw Λ t m) (hc_r I Λ.1 (fun _ => 0)) (hc_r L Λ.1 (fun _ => 0)) (hc_r R Λ.1 (fun _ => none)) Q → LW cx ac pc ls stk Λ I L R Q)
    (kk : ∀ Λ1 I1 L1 R1, Nx t m n Λ I L R Λ1 I1 L1 R1 → LW cx ac' pc' ls (.ref n :: st) Λ1 I1 L1 R1 Q) : LW cx ac pc ls stk Λ I L R Q := hn (by rw [h]; have := kk _ _ _ _ (Nx.of h t m); rw [h] at this; exact this)
/-- a new object and its constructor, seen from ahead of it -/
theorem Gx.nw {e : Nat → Prop} {Λ : hc_L} {I : hc_I} {L : hc_J} {R : hc_R} {Λ1 : hc_L} {I1 : hc_I} {L1 : hc_J} {R1 : hc_R} {Λ2 : hc_L} {I2 : hc_I} {L2 : hc_J} {R2 : hc_R} {t m n : Nat} (g : Nx t m n Λ I L R Λ1 I1 L1 R1) (h : Nw n Λ1 I1 L1 R1 Λ2 I2 L2 R2) (hl : n ≤ Λ2.1) : Gx e Λ I L R Λ2 I2 L2 R2 := by
  obtain ⟨⟨a1, a2, a3⟩, b, c, -⟩ := g
  refine ⟨by omega, fun z hz => ?_, fun z hz => ?_⟩
  · rw [a1] at hz
    exact ⟨(h.1 z (Nat.le_of_lt hz)).trans (b z hz).1, fun _ => (h.2.1 z hz).trans (b z hz).2⟩
  · rw [a1] at hz
    have p := h.2.2 z hz; have q := c z hz
    exact ⟨p.1.trans q.1, p.2.1.trans q.2.1, p.2.2.trans q.2.2⟩
theorem Cs.nw {Λ : hc_L} {I : hc_I} {L : hc_J} {R : hc_R} {Λ1 : hc_L} {I1 : hc_I} {L1 : hc_J} {R1 : hc_R} {n b : Nat} {tT : List (Nat × Nat)} {tF : List (Nat × Nat × Nat)} (h : Cs n tT tF b Λ I L R Λ1 I1 L1 R1) : Nw b Λ I L R Λ1 I1 L1 R1 := ⟨h.1.2.1, h.1.2.2.1, h.1.2.2.2⟩
/-- a club that has just been cleared stays so -/
theorem St.gx {e : Nat → Prop} {Λ : hc_L} {I : hc_I} {L : hc_J} {R : hc_R} {Λ1 : hc_L} {I1 : hc_I} {L1 : hc_J} {R1 : hc_R} {s : Nat} {er : Nat → Nat → Int64} (h : St Λ I L R s (aNew er)) (g : Gx e Λ I L R Λ1 I1 L1 R1) (h0 : ∀ z, e z → ¬ (s ≤ z ∧ z < s + 18)) : St Λ1 I1 L1 R1 s (aNew er) := by
  have hs : ∀ k, k < 18 → I1 (s + k) = I (s + k) ∧ L1 (s + k) = L (s + k) ∧ R1 (s + k) = R (s + k) := fun k hk => g.2.2 _ (h.l.lt k hk)
  have hI : ∀ k, k < 18 → I1 (s + k) = I (s + k) := fun k hk => (hs k hk).1
  have hL : ∀ k, k < 18 → L1 (s + k) = L (s + k) := fun k hk => (hs k hk).2.1
  have hR : ∀ k, k < 18 → R1 (s + k) = R (s + k) := fun k hk => (hs k hk).2.2
  have hT : ∀ k, k < 18 → Λ1.2.1 (s + k) = Λ.2.1 (s + k) := fun k hk => (g.2.1 _ (h.l.lt k hk)).1
  have hF : ∀ k, k < 18 → Λ1.2.2 (s + k) = Λ.2.2 (s + k) := fun k hk => (g.2.1 _ (h.l.lt k hk)).2 (fun q => h0 _ q (by omega))
  have hI0 : I1 s = I s := hI 0 (by decide)
  obtain ⟨l0, l1, l2, l3, l4, l5, l6, l7, l8, l9, l10, l11, l12, l13, l14, l15⟩ := h.l
  have hl : StL Λ1 s := ⟨Nat.le_trans l0 g.1, (hT 0 (by decide)).trans l1, (hT 1 (by decide)).trans l2, (hT 2 (by decide)).trans l3, (hT 3 (by decide)).trans l4, (hT 4 (by decide)).trans l5, (hT 5 (by decide)).trans l6, (hT 6 (by decide)).trans l7, (hT 7 (by decide)).trans l8, (hT 8 (by decide)).trans l9, (hT 9 (by decide)).trans l10, (hT 10 (by decide)).trans l11, (hT 11 (by decide)).trans l12, fun i hi => by rw [show s + 12 + i = s + (12 + i) by omega, hT _ (by omega), show s + (12 + i) = s + 12 + i by omega]; exact l13 i hi, fun j hj => by rw [show Λ1.2.2 s = Λ.2.2 s from hF 0 (by decide)]; exact l14 j hj, fun i hi => by rw [hF 11 (by decide)]; exact l15 i hi⟩
  refine ⟨hl, h.w, by rw [hI0]; exact h.2.2.1, fun k hk => by rw [hL 1 (by decide)]; exact h.ru hk, fun c hc => by rw [hI 2 (by decide)]; exact h.hz hc, fun c hc => by rw [hI 3 (by decide)]; exact h.so hc, fun k hk => absurd hk (Nat.not_lt_zero k), fun i hi => absurd hi (Nat.not_lt_zero i), fun i hi => absurd hi (Nat.not_lt_zero i), fun i q hi hq => ?_, fun i q hi hq => ?_, fun m hm => by rw [hI 10 (by decide), hI 6 (by decide), hI 7 (by decide)]; exact h.ets hm, fun w m hw hm => by rw [show s + 12 + w = s + (12 + w) by omega, hL (12 + w) (by omega), show s + (12 + w) = s + 12 + w by omega]; exact h.er hw hm⟩
  · rw [hR 8 (by decide)] at hq
    obtain ⟨a, b⟩ := h.rf hi hq
    exact ⟨Nat.lt_of_lt_of_le a g.1, by rw [(g.2.1 q a).1]; exact b⟩
  · rw [hR 9 (by decide)] at hq
    obtain ⟨a, b⟩ := h.rs hi hq
    exact ⟨Nat.lt_of_lt_of_le a g.1, by rw [(g.2.1 q a).1]; exact b⟩
theorem TkL.gx {e : Nat → Prop} {Λ : hc_L} {I : hc_I} {L : hc_J} {R : hc_R} {Λ1 : hc_L} {I1 : hc_I} {L1 : hc_J} {R1 : hc_R} {k t : Nat} (h : TkL Λ k t) (g : Gx e Λ I L R Λ1 I1 L1 R1) (h0 : ∀ z, e z → z ≠ k) : TkL Λ1 k t := by
  obtain ⟨a0, a1, a2, a3, a4, a5, b0, b1, b2, b3, b4, c⟩ := h
  have hF : Λ1.2.2 k = Λ.2.2 k := (g.2.1 _ (by omega)).2 (fun q => h0 _ q rfl)
  exact ⟨Nat.le_trans a0 g.1, (g.2.1 _ (by omega)).1.trans a1, (g.2.1 _ (by omega)).1.trans a2, (g.2.1 _ (by omega)).1.trans a3, (g.2.1 _ (by omega)).1.trans a4, (g.2.1 _ (by omega)).1.trans a5, by rw [hF]; exact b0, by rw [hF]; exact b1, by rw [hF]; exact b2, by rw [hF]; exact b3, by rw [hF]; exact b4, c⟩
def RdL (Λ : hc_L) (b t s l : Nat) : Prop := Λ.2.1 (b + 1) = (2, 5) ∧ TkL Λ (b + 2) t ∧ Λ.2.2 b 0 = some (b + 2) ∧ Λ.2.2 b 1 = some s ∧ Λ.2.2 b 2 = some l ∧ Λ.2.2 b 3 = some (b + 1)
set_option maxRecDepth 100000 in
theorem k_X5 {Λ : hc_L} {I : hc_I} {L : hc_J} {R : hc_R} {b : Nat} (hn : Λ.1 = b + 1) (hl : Λ.2.1 b = (105, 0)) (hb : b + 500 < 1000000) (t s l : Nat) (ht : t + 2 ≤ b) : Run xX5_init [.ref b, .ref t, .ref s, .ref l] Λ I L R (fun r Λ' I' L' R' => r = none ∧ Λ'.1 = b + 7 ∧ Nw b Λ I L R Λ' I' L' R' ∧ RdL Λ' b t s l ∧ (∀ i, i < 18 → L' (b + 6) i = lN (qw i)) ∧ I' b 4 = I b 4 ∧ I' b 5 = -1) := by
  refine Run.of (by decide +kernel) (Nat.le_of_ble_eq_true rfl) ?_
  show LW _ _ _ [(0, .ref b), (1, .ref t), (2, .ref s), (3, .ref l)] _ _ _ _ _ _
  have g := Gr.s0 (I := I) (L := L) (R := R) hn
  refine LW_aloadn 0 dX5_init_0 rfl rfl ?_
  refine LW_objInit dX5_init_1 mlX5_3 hc_oi hc_oc (by decide) (Nat.le_of_ble_eq_true rfl) ?_
  refine LW_aloadn 0 dX5_init_4 rfl rfl ?_
  refine LW_iconst (v := 5) dX5_init_5 (by decide) ?_
  refine CN_new g (t := 2) (m := 5) (fun k => LW_newi dX5_init_6 hc_aci rfl (by decide) (by rw [g.1]; omega) ⟨Nat.le_of_ble_eq_true rfl, Nat.le_of_ble_eq_true rfl⟩ k) (fun r1 Λ1 I1 L1 R1 hr1 g => ?_)
  subst hr1
  refine CN_put g (j := 3) (r := b + 1 + 0) (fun k => pX5_3 dX5_init_8 flX5_9 (by rw [g.1]; omega) ((g.2.1 _ (Nat.le_refl _)).trans hl) rfl rfl k) (fun Λ1 g => ?_)
  refine LW_aloadn 0 dX5_init_11 rfl rfl ?_
  refine LW_iconst (v := -1) dX5_init_12 (by decide) ?_
  refine CN_puti g (j := 5) (v := -1) (fun k => pX5_5 dX5_init_13 flX5_15 (by rw [g.1]; omega) ((g.2.1 _ (Nat.le_refl _)).trans hl) k) (fun I1 g => ?_)
  refine LW_aloadn 0 dX5_init_16 rfl rfl ?_
  refine CN_new g (t := 100 + 9) (m := 0) (fun k => LW_new (ci := 9) (C := RX9) (T := TX9) (N := 6) rfl inX9 tyX9_ok dvX9 dX5_init_17 clX5_19 insX9 iniX9 (by rw [g.1]; omega) ⟨Nat.le_of_ble_eq_true rfl, Nat.le_of_ble_eq_true rfl⟩ k) (fun r1 Λ1 I1 L1 R1 hr1 g => ?_)
  subst hr1
  refine LW_dup dX5_init_20 rfl ?_
  refine LW_aloadn 1 dX5_init_21 rfl rfl ?_
  refine LW_callI (As := [.ref t]) (b := b + 1 + 1) (st := [.ref (b + 1 + 1), .ref b]) (k_X9 (b := b + 1 + 1) g.1 ((g.sh (j := 1) (by decide)).trans rfl) (by omega) t (by omega)) YX9_init rfl dX5_init_22 mlX5_21 (by rw [g.1]; omega) (by decide) ⟨Nat.le_of_ble_eq_true rfl, Nat.le_of_ble_eq_true rfl⟩ (Nat.le_of_ble_eq_true rfl) rfl (fun r22 Λc Ic Lc Rc hq => ?_)
  obtain ⟨rfl, n1, n2, n3, n4⟩ := hq
  have hbc : Λc.2.1 b = (105, 0) := (n2.1 b (by omega)).trans ((g.2.1 _ (Nat.le_refl _)).trans hl)
  refine pX5_0 dX5_init_25 flX5_24 (by rw [n1]; omega) hbc rfl rfl ?_
  refine LW_aloadn 0 dX5_init_28 rfl rfl ?_
  refine LW_aloadn 2 dX5_init_29 rfl rfl ?_
  refine pX5_1 dX5_init_30 flX5_28 (by show b < Λc.1; rw [n1]; omega) hbc rfl rfl ?_
  refine LW_aloadn 0 dX5_init_33 rfl rfl ?_
  refine LW_aloadn 3 dX5_init_34 rfl rfl ?_
  refine pX5_2 dX5_init_35 flX5_32 (by show b < Λc.1; rw [n1]; omega) hbc rfl rfl ?_
  refine LW_vret dX5_init_38 rfl (Nat.le_of_ble_eq_true rfl) (Nat.le_of_ble_eq_true rfl) ?_
  have G : Gx (fun z => z = b) Λc Ic Lc Rc (Λc.1, Λc.2.1, hc_u (hc_u (hc_u Λc.2.2 b 0 (some (b + 1 + 1))) b 1 (some s)) b 2 (some l)) Ic Lc Rc := ⟨Nat.le_refl _, fun z hz => ⟨rfl, fun q => by show hc_u (hc_u (hc_u Λc.2.2 b 0 (some (b + 1 + 1))) b 1 (some s)) b 2 (some l) z = _; rw [hc_u_row _ _ _ _ q, hc_u_row _ _ _ _ q, hc_u_row _ _ _ _ q]⟩, fun _ _ => ⟨rfl, rfl, rfl⟩⟩
  refine ⟨rfl, n1, ⟨fun z hz => (n2.1 z (by omega)).trans (g.2.1 z hz), fun z hz => ?_, fun z hz => ⟨(n2.2.2 z (by omega)).1.trans (g.2.2.2.2.2.1 z hz).1, (n2.2.2 z (by omega)).2.1.trans (g.2.2.2.2.2.1 z hz).2.1, (n2.2.2 z (by omega)).2.2.trans (g.2.2.2.2.2.1 z hz).2.2⟩⟩, ⟨(n2.1 _ (by omega)).trans ((g.sh (j := 0) (by decide)).trans rfl), n3.gx G (fun z (q : z = b) => by omega), ?_, ?_, ?_, ?_⟩, n4, ?_, ?_⟩
  · show hc_u (hc_u (hc_u Λc.2.2 b 0 (some (b + 1 + 1))) b 1 (some s)) b 2 (some l) z = _
    rw [hc_u_row _ _ _ _ (by omega), hc_u_row _ _ _ _ (by omega), hc_u_row _ _ _ _ (by omega)]
    exact (n2.2.1 z (by omega)).trans (g.2.2.1 z hz)
  · show hc_u (hc_u (hc_u Λc.2.2 b 0 (some (b + 1 + 1))) b 1 (some s)) b 2 (some l) b 0 = _
    rw [hc_u_at, hc_u_at, hc_u_at]; rfl
  · show hc_u (hc_u (hc_u Λc.2.2 b 0 (some (b + 1 + 1))) b 1 (some s)) b 2 (some l) b 1 = _
    rw [hc_u_at, hc_u_at]; rfl
  · show hc_u (hc_u (hc_u Λc.2.2 b 0 (some (b + 1 + 1))) b 1 (some s)) b 2 (some l) b 2 = _
    rw [hc_u_at]; rfl
  · show hc_u (hc_u (hc_u Λc.2.2 b 0 (some (b + 1 + 1))) b 1 (some s)) b 2 (some l) b 3 = _
    rw [hc_u_at, hc_u_at, hc_u_at, n2.2.1 b (by omega), g.2.2.2.1]; rfl
  · rw [(n2.2.2 b (by omega)).1, g.2.2.2.2.2.2.1]; rfl
  · rw [(n2.2.2 b (by omega)).1, g.2.2.2.2.2.2.1]; rfl
set_option maxRecDepth 100000 in
theorem k_X3l {Λ0 : hc_L} {I0 : hc_I} {L0 : hc_J} {R0 : hc_R} {b a1 a2 : Nat} (h1 : a1 ≤ 1) (h2 : a2 ≤ 8) (hb : b + 500 < 1000000) (hl0 : Λ0.1 = b + 2) (hl : Λ0.2.1 b = (103, 0)) (hF : Λ0.2.2 b 0 = some (b + 1)) (hl1 : Λ0.2.1 (b + 1) = (6, 8)) {Q : hc_Q} (kk : ∀ Λ I L R, Gx (fun z => z = b + 1) Λ0 I0 L0 R0 Λ I L R → Λ.1 = b + 146 → (∀ j, j < 8 → Λ.2.2 (b + 1) j = some (b + 2 + 18 * j) ∧ ∃ er, St Λ I L R (b + 2 + 18 * j) (aNew er)) → Q none Λ I L R) : ∀ d i, i + d = 8 → ∀ a1 a2 Λ I L R, a1 ≤ 1 + 18 * i → a2 ≤ 8 + 268 * i → Gx (fun z => z = b + 1) Λ0 I0 L0 R0 Λ I L R → Λ.1 = b + 2 + 18 * i → (∀ j, j < i → Λ.2.2 (b + 1) j = some (b + 2 + 18 * j) ∧ ∃ er, St Λ I L R (b + 2 + 18 * j) (aNew er)) → LW xX3_init (a1, a2) 15 [(0, .ref b), (1, .int (nI i))] [] Λ I L R Q := by
  intro d
  induction d with
  | zero =>
    intro i hid a1 a2 Λ I L R e1 e2 G hn hS
    obtain rfl : i = 8 := hid
    refine LW_iloadn 1 dX3_init_15 rfl rfl ?_
    refine LW_bipush (v := 8) dX3_init_16 (by decide) ?_
    refine LW_icmp_ge (tgt := 40) dX3_init_18 (by decide) (fun c5 => ?_) (fun c5 => absurd (Int32.le_refl _) c5)
    refine LW_vret dX3_init_40 rfl (Nat.le_trans e1 (by decide)) (Nat.le_trans e2 (by decide)) ?_
    exact kk _ _ _ _ G hn hS
  | succ d ih =>
    intro i hid a1 a2 Λ I L R e1 e2 G hn hS
    refine LW_iloadn 1 dX3_init_15 rfl rfl ?_
    refine LW_bipush (v := 8) dX3_init_16 (by decide) ?_
    refine LW_icmp_ge (tgt := 40) dX3_init_18 (by decide) (fun c5 => absurd c5 (hc_nle (a := 8) (b := i) (by decide) (by omega) (by omega))) (fun c5 => ?_)
    refine LW_aloadn 0 dX3_init_21 rfl rfl ?_
    have tb : Λ.2.1 b = (103, 0) := (G.2.1 b (by omega)).1.trans hl
    have tb1 : Λ.2.1 (b + 1) = (6, 8) := (G.2.1 (b + 1) (by omega)).1.trans hl1
    have fb : Λ.2.2 b 0 = some (b + 1) := by rw [(G.2.1 b (by omega)).2 (by omega)]; exact hF
    refine gX3_0 dX3_init_22 flX3_11 (by omega) tb fb ?_
    refine LW_iloadn 1 dX3_init_25 rfl rfl ?_
    refine NX_new hn (t := 106) (m := 0) (fun k => LW_new (ci := 6) (C := RX6) (T := TX6) (N := 15) rfl inX6 tyX6_ok dvX6 dX3_init_26 clX3_9 insX6 iniX6 (by omega) ⟨(by show a1 + 1 ≤ 145; omega), (by show a2 + 15 ≤ 2152; omega)⟩ k) (fun Λ1 I1 L1 R1 g => ?_)
    refine LW_dup dX3_init_29 rfl ?_
    refine LW_callI (As := []) (b := b + 2 + 18 * i) (st := [.ref (b + 2 + 18 * i), .int (nI i), .ref (b + 1)]) (k_X6 g.1.2.1 g.1.2.2 (by omega)) YX6_init rfl dX3_init_30 mlX3_17 (by rw [g.1.2.1]; omega) (by decide) ⟨(by show a1 + 1 + 17 ≤ 145; omega), (by show a2 + 15 + 253 ≤ 2152; omega)⟩ (Nat.le_of_ble_eq_true rfl) rfl (fun r22 Λc Ic Lc Rc hq => ?_)
    obtain ⟨rfl, n1, n2, er, n3⟩ := hq
    have G1 : Gx (fun z => z = b + 1) Λ I L R Λc Ic Lc Rc := Gx.nw g n2 (by omega)
    refine LW_aast6 (w := 0) dX3_init_33 (by omega) ((G1.2.1 (b + 1) (by omega)).1.trans tb1) rfl (by omega) (Nat.le_of_ble_eq_true rfl) (by omega) n3.l.2.1 ?_
    have G2 : Gx (fun z => z = b + 1) Λc Ic Lc Rc (Λc.1, Λc.2.1, hc_u Λc.2.2 (b + 1) i (some (b + 2 + 18 * i))) Ic Lc Rc := Gx.put rfl
    refine LW_iinc (n := 1) (v := nI (i + 1)) (ls' := [(0, .ref b), (1, .int (nI (i + 1)))]) dX3_init_34 rfl (hc_inc _) (by decide) rfl ?_
    refine LW_goto (tgt := 15) dX3_init_37 (by decide) ?_
    refine ih (i + 1) (by omega) _ _ _ _ _ _ (by show a1 + 1 + 17 ≤ _; omega) (by show a2 + 15 + 253 ≤ _; omega) (G.trans (G1.trans G2)) (by show Λc.1 = _; omega) (fun j hj => ?_)
    show hc_u Λc.2.2 (b + 1) i (some (b + 2 + 18 * i)) (b + 1) j = _ ∧ _
    rw [hc_u_at]
    by_cases q : j = i
    · subst q
      rw [if_pos rfl]
      exact ⟨rfl, er, n3.gx G2 (fun z (q : z = b + 1) => by omega)⟩
    · rw [if_neg q]
      obtain ⟨f1, er', f2⟩ := hS j (by omega)
      have f3 := f2.gx G1 (fun z (q : z = b + 1) => by omega)
      have e3 : Λc.2.2 (b + 1) = Λ.2.2 (b + 1) := by
        rw [n2.2.1 _ (by omega)]; exact (g.2.1 _ (by omega)).2
      rw [e3]
      exact ⟨f1, er', f3.gx G2 (fun z (q : z = b + 1) => by omega)⟩
set_option maxRecDepth 100000 in
theorem k_X3 {Λ : hc_L} {I : hc_I} {L : hc_J} {R : hc_R} {b : Nat} (hn : Λ.1 = b + 1) (hl : Λ.2.1 b = (103, 0)) (hb : b + 500 < 1000000)  : Run xX3_init [.ref b] Λ I L R (fun r Λ' I' L' R' => r = none ∧ Λ'.1 = b + 146 ∧ Nw b Λ I L R Λ' I' L' R' ∧ HsL Λ' b ∧ (∀ j, j < 8 → ∃ er, St Λ' I' L' R' (b + 2 + 18 * j) (aNew er)) ∧ I' b = I b) := by
  refine Run.of (by decide +kernel) (Nat.le_of_ble_eq_true rfl) ?_
  show LW _ _ _ [(0, .ref b)] _ _ _ _ _ _
  have g := Gr.s0 (I := I) (L := L) (R := R) hn
  refine LW_aloadn 0 dX3_init_0 rfl rfl ?_
  refine LW_objInit dX3_init_1 mlX3_3 hc_oi hc_oc (by decide) (Nat.le_of_ble_eq_true rfl) ?_
  refine LW_aloadn 0 dX3_init_4 rfl rfl ?_
  refine LW_bipush (v := 8) dX3_init_5 (by decide) ?_
  refine CN_new g (t := 6) (m := 8) (fun k => LW_anew6 dX3_init_7 clX3_9 rfl (by decide) (by rw [g.1]; omega) ⟨Nat.le_of_ble_eq_true rfl, Nat.le_of_ble_eq_true rfl⟩ k) (fun r1 Λ1 I1 L1 R1 hr1 g => ?_)
  subst hr1
  refine CN_put g (j := 0) (r := b + 1 + 0) (fun k => pX3_0 dX3_init_10 flX3_11 (by rw [g.1]; omega) ((g.2.1 _ (Nat.le_refl _)).trans hl) rfl rfl k) (fun Λ1 g => ?_)
  refine LW_iconst (v := 0) dX3_init_13 (by decide) ?_
  refine LW_istoren (ls' := [(0, .ref b), (1, .int 0)]) dX3_init_14 rfl (by decide) rfl ?_
  exact k_X3l (a1 := 1) (a2 := 8) (I0 := I1) (L0 := L1) (R0 := R1) (Nat.le_refl _) (Nat.le_refl _) hb g.1 ((g.2.1 _ (Nat.le_refl _)).trans hl) ((congrFun g.2.2.2.1 0).trans rfl) ((g.sh (j := 0) (by decide)).trans rfl) (fun Λ' I' L' R' G hn hS => ⟨rfl, hn, ⟨fun z hz => (G.2.1 z (by rw [g.1]; omega)).1.trans (g.2.1 z hz), fun z hz => ((G.2.1 z (by rw [g.1]; omega)).2 (by omega)).trans (g.2.2.1 z hz), fun z hz => ⟨(G.2.2 z (by rw [g.1]; omega)).1.trans (g.2.2.2.2.2.1 z hz).1, (G.2.2 z (by rw [g.1]; omega)).2.1.trans (g.2.2.2.2.2.1 z hz).2.1, (G.2.2 z (by rw [g.1]; omega)).2.2.trans (g.2.2.2.2.2.1 z hz).2.2⟩⟩, ⟨by omega, (G.2.1 b (by rw [g.1]; omega)).1.trans ((g.2.1 _ (Nat.le_refl _)).trans hl), (G.2.1 (b + 1) (by rw [g.1]; omega)).1.trans ((g.sh (j := 0) (by decide)).trans rfl), by rw [(G.2.1 b (by rw [g.1]; omega)).2 (by omega)]; exact (congrFun g.2.2.2.1 0).trans rfl, fun j hj => (hS j hj).1⟩, fun j hj => (hS j hj).2, by rw [(G.2.2 b (by rw [g.1]; omega)).1]; exact g.2.2.2.2.2.2.1⟩) 8 0 rfl _ _ _ _ _ _ (Nat.le_refl _) (Nat.le_refl _) Gx.rf g.1 (fun j hj => absurd hj (Nat.not_lt_zero j))
