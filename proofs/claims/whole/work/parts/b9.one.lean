/-! ONE CALL OF THE LAW: class and reference hold the same S -/
theorem MW.cp {Λ Λ' : hc_L} {I I' : hc_I} {L L' : hc_J} {R R' : hc_R} {S : HS} (h : MW Λ I L S) (hY : LY Λ) (f : Fr CJ Λ I L R Λ' I' L' R') : MW Λ' I' L' S := by
  have eI : ∀ z, 217 ≤ z → z < 238 → I' z = I z := fun z h1 h2 => f.2.1 z (hY.lt h2) (fun q => by have : z < 217 := q; omega)
  have eL : ∀ z, 217 ≤ z → z < 238 → L' z = L z := fun z h1 h2 => f.2.2.1 z (hY.lt h2) (fun q => by have : z < 217 := q; omega)
  have e : I' 217 = I 217 := eI _ (by decide) (by decide)
  have h1 := h.m.kp (eL _ (by decide) (by decide)) (eI _ (by decide) (by decide)) (eI _ (by decide) (by decide)) (eI _ (by decide) (by decide)) (show I' 217 35 = I 217 35 by rw [e])
  refine ⟨⟨hY.fr f, h1.2⟩, h.l.kp (by rw [e]) (eI _ (by decide) (by decide)) (eL _ (by decide) (by decide)), by rw [eI 224 (by decide) (by decide)]; exact h.2.2.1, fun m hm => by rw [eL 220 (by decide) (by decide)]; exact h.nm hm, ⟨by rw [e]; exact h.c, h.c8, fun k hk => by rw [eL 219 (by decide) (by decide)]; exact h.2.2.2.2.1.2.2 k hk⟩, ⟨by rw [e]; exact h.t, h.n7, fun j hj => by rw [eI 227 (by decide) (by decide)]; exact h.2.2.2.2.2.1.2.2 j hj⟩, by rw [e]; exact h.f, by rw [e]; exact h.q⟩
theorem HW.mp {Λ : hc_L} {I I' : hc_I} {L L' : hc_J} {R : hc_R} {S : HS} (h : HW Λ I L R S) (hI : ∀ z, ¬ MJ z → I' z = I z) (hL : ∀ z, ¬ MJ z → L' z = L z) : HW Λ I' L' R S :=
  h.fr (Fr.of (J := MJ) (JR := fun _ => False) hI hL (fun _ _ => rfl) (fun _ q => q) (fun _ q => q) (fun _ q => q.elim)) (fun z q => ⟨q.2, Or.inr (Or.inr (Nat.le_trans (by decide) q.1))⟩)
theorem PI.s0 (er : Nat → Nat → Int64) (ek : Nat → Nat → Nat → Int64) : PI 0 (S0 er ek) := ⟨(NB.new er).gd 0, fun k hk => absurd hk (Nat.not_lt_zero k), fun h => absurd h (Nat.lt_irrefl 0), fun k hk => absurd hk (Nat.not_lt_zero _)⟩
theorem PI.nd {c : Nat} {S : HS} (h : PI c S) (x : Int32) : PI c (nEnd S x) := by
  unfold nEnd
  split
  · exact h
  · exact h
theorem PI.feed {c : Nat} {S : HS} (h : PI c S) (a b d e f : Int32) : PI c (nFeed S a b d e f) := by
  unfold nFeed
  split
  · exact h
  · exact h
set_option maxRecDepth 100000 in
theorem kb1 {a m k : Nat} (h : a ≤ 238 + 701 * k) (hm : m ≤ 701) : a + m ≤ 238 + 701 * (k + 1) := by omega
set_option maxRecDepth 100000 in
theorem kb2 {a m k : Nat} (h : a ≤ 14023 + 4206 * k) (hm : m ≤ 4206) : a + m ≤ 14023 + 4206 * (k + 1) := by omega
set_option maxRecDepth 100000 in
theorem kb3 {a k : Nat} (h : a ≤ 238 + 701 * (k + 1)) (hk : k < 512) : a ≤ 600000 := by omega
set_option maxRecDepth 100000 in
theorem kb4 {a k : Nat} (h : a ≤ 14023 + 4206 * (k + 1)) (hk : k < 512) : a ≤ 7302250 := by omega
set_option maxRecDepth 100000 in
theorem kb5 {a b k : Nat} (h : a ≤ 238 + 701 * k) (hm : b ≤ a + 701) : b ≤ 238 + 701 * (k + 1) := by omega
abbrev lS (i : Nat) : List (Nat × Value) := [(0, .ref 1000200), (1, .ref 0), (2, .ref 217), (3, .int (nI i))]
/-- what is made by the end of call k at most -/
def Kb (k : Nat) (ac : Nat × Nat) (Λ : hc_L) : Prop := ac.1 ≤ 238 + 701 * k ∧ ac.2 ≤ 14023 + 4206 * k ∧ Λ.1 ≤ 238 + 701 * k
/-- what holds as call k begins -/
def AtK (g : hc_G) (Ln : Nat) (xs : Nat → Int32) (k : Nat) (ac : Nat × Nat) (Λ : hc_L) (I : hc_I) (L : hc_J) (R : hc_R) (S : HS) : Prop := GA g Ln xs ∧ 6 * k + 6 ≤ Ln ∧ k < 512 ∧ Kb k ac Λ ∧ HW Λ I L R S ∧ MW Λ I L S ∧ PI k S
def Kt (g : hc_G) (k : Nat) : Prop := ∀ (ac : Nat × Nat) (Λ : hc_L) (I : hc_I) (L : hc_J) (R : hc_R) (S : HS), Kb (k + 1) ac Λ → HW Λ I L R S → MW Λ I L S → PI (k + 1) S → GW g ac 891 (lS (6 * k)) [] Λ I L R
section CALL
variable {g : hc_G} {Ln : Nat} {xs : Nat → Int32} {k : Nat} {ac : Nat × Nat} {pc : Nat} {ls : List (Nat × Value)} {stk : List Value} {Λ : hc_L} {I : hc_I} {L : hc_J} {R : hc_R} {S : HS}
theorem AtK.arg (a : AtK g Ln xs k ac Λ I L R S) : 6 * k + 6 ≤ Ln := a.2.1
theorem AtK.w (a : AtK g Ln xs k ac Λ I L R S) : wf (sA S) := a.2.2.2.2.1.s.w
theorem AtK.rb (a : AtK g Ln xs k ac Λ I L R S) : RB (sA S) := a.2.2.2.2.2.2.1.rb a.w
theorem AtK.kp (a : AtK g Ln xs k ac Λ I L R S) : ∀ j, j < sC S → wf (sH S j) := a.2.2.2.2.2.2.undo_wf
theorem AtK.y (a : AtK g Ln xs k ac Λ I L R S) : aY (sA S) < 600 := by have h := a.2.2.2.2.2.2.1.2.2.2.2.1; have := a.2.2.1; omega
theorem AtK.ys (a : AtK g Ln xs k ac Λ I L R S) : ∀ m, m < aM (sA S) → aYs (sA S) m < 600 := fun m hm => by have h := a.2.2.2.2.2.2.1.2.2.2.2.2 m hm; have := a.2.2.1; omega
theorem AtK.l (a : AtK g Ln xs k ac Λ I L R S) : Λ.1 + 701 < 1000000 := by have h := a.2.2.2.1.2.2; have := a.2.2.1; omega
theorem AtK.b (a : AtK g Ln xs k ac Λ I L R S) : ∀ j, j < sN S → sB S j < 256 := a.2.2.2.2.1.t.b
/-- the class is called -/
theorem GW_y (a : AtK g Ln xs k ac Λ I L R S) {cx' : hc_X} {As : List Value} {n idx : Nat} {Q' : hc_Q} {T : Value → HS → Prop} (hrun : Run cx' (.ref 0 :: As) Λ I L R Q') (hQ : ∀ r Λ' I' L' R', Q' r Λ' I' L' R' → ∃ v S', T v S' ∧ HPost (some v) S' Λ I L R r Λ' I' L' R') (hY : hc_YV cx' n) (hn : As.length = n) (hd : decode cL_law pc = .ok (.invokevirtual idx, 3)) (hl : Cond.methodLink R_law idx (xY cx') ∈ hc_T) (hc : RX10 = (xY cx').cls) (hD : xD cx' ≤ 1000) (hm : xM cx' ≤ 701 ∧ xS cx' ≤ 4206) (hs : stk = As.reverse ++ [.ref 0])
    (kk : ∀ v S' ac' Λ' I' L' R', T v S' → Kb (k + 1) ac' Λ' → HW Λ' I' L' R' S' → MW Λ' I' L' S → GW g ac' (pc + 3) ls [v] Λ' I' L' R') : GW g ac pc ls stk Λ I L R := by
  obtain ⟨G, hL, hk, ⟨b1, b2, b3⟩, hH, hM, hP⟩ := a
  obtain ⟨m1, m2⟩ := hm
  refine GW_callV G (ci := 10) (w := 0) (st := []) (r := (RX10, TX10, 9)) hrun hY hn hd hl (hH.y.lt (by decide)) (ly0 hH.y) ⟨rfl, hc⟩ hD ⟨kb3 (kb1 b1 m1) hk, kb4 (kb2 b2 m2) hk⟩ (Nat.le_of_ble_eq_true rfl) hs ?_
  intro r Λ' I' L' R' q
  obtain ⟨v, S', hT, hr, hf, hle, hH'⟩ := hQ r Λ' I' L' R' q
  subst hr
  exact kk v S' _ Λ' I' L' R' hT ⟨kb1 b1 m1, kb2 b2 m2, kb5 b3 hle⟩ hH' (hM.cp hH.y hf)
theorem GW_x (a : AtK g Ln xs k ac Λ I L R S) {cx' : hc_X} {As : List Value} {n idx : Nat} {v : Value} {S' : HS} (hrun : Run cx' (.ref 0 :: As) Λ I L R (HPost (some v) S' Λ I L R)) (hY : hc_YV cx' n) (hn : As.length = n) (hd : decode cL_law pc = .ok (.invokevirtual idx, 3)) (hl : Cond.methodLink R_law idx (xY cx') ∈ hc_T) (hc : RX10 = (xY cx').cls) (hD : xD cx' ≤ 1000) (hm : xM cx' ≤ 701 ∧ xS cx' ≤ 4206) (hs : stk = As.reverse ++ [.ref 0])
    (kk : ∀ ac' Λ' I' L' R', Kb (k + 1) ac' Λ' → HW Λ' I' L' R' S' → MW Λ' I' L' S → GW g ac' (pc + 3) ls [v] Λ' I' L' R') : GW g ac pc ls stk Λ I L R := by
  refine GW_y a (T := fun v' S2 => v' = v ∧ S2 = S') hrun (fun r Λ' I' L' R' q => ⟨v, S', ⟨rfl, rfl⟩, q⟩) hY hn hd hl hc hD hm hs ?_
  intro v' S2 ac' Λ' I' L' R' hT
  obtain ⟨rfl, rfl⟩ := hT
  exact kk ac' Λ' I' L' R'
/-- the reference is called -/
theorem GW_m (G : GA g Ln xs) (hk : k < 512) (hb : Kb (k + 1) ac Λ) {S' : HS} (hH : HW Λ I L R S') {cx' : hc_X} {As : List Value} {n idx : Nat} {v w : Value} (hrun : Run cx' (.ref 217 :: As) Λ I L R (MPost (some w) S' Λ I L R)) (hY : hc_YV cx' n) (hn : As.length = n) (hd : decode cL_law pc = .ok (.invokevirtual idx, 3)) (hl : Cond.methodLink R_law idx (xY cx') ∈ hc_T) (hc : RX11 = (xY cx').cls) (hD : xD cx' ≤ 1000) (h0 : xM cx' = 0 ∧ xS cx' = 0) (hv : ([v].map Value.category).sum ≤ 8) (hs : stk = As.reverse ++ .ref 217 :: [v])
    (kk : ∀ I' L', HW Λ I' L' R S' → MW Λ I' L' S' → GW g ac (pc + 3) ls [w, v] Λ I' L' R) : GW g ac pc ls stk Λ I L R := by
  obtain ⟨b1, b2, b3⟩ := hb
  have e : (ac.1 + xM cx', ac.2 + xS cx') = ac := by rw [h0.1, h0.2]; rfl
  refine GW_callV G (ci := 11) (w := 0) (st := [v]) (r := (RX11, TX11, 44)) hrun hY hn hd hl (hH.y.lt (by decide)) (ly217 hH.y) ⟨rfl, hc⟩ hD ⟨by rw [h0.1]; exact kb3 b1 hk, by rw [h0.2]; exact kb4 b2 hk⟩ hv hs ?_
  intro r Λ' I' L' R' q
  obtain ⟨hr, eΛ, eR, hI, hL, hM⟩ := q
  subst hr
  subst eΛ
  subst eR
  rw [e]
  exact kk I' L' (hH.mp hI hL) hM
theorem GW_tI (G : GA g Ln xs) {off : Int} {v : Int32} (hd : decode cL_law pc = .ok (.if_icmp .eq off, 3)) (ht : (pc : Int) + off = ((891 : Nat) : Int)) (kk : GW g ac 891 ls [] Λ I L R) : GW g ac pc ls [.int v, .int v] Λ I L R := GW_icmp_eq G hd ht (fun _ => kk) (fun q => absurd rfl q)
theorem GW_tL (G : GA g Ln xs) {off : Int} {v : Int64} (hd : decode cL_law pc = .ok (.lcmp, 1)) (hd2 : decode cL_law (pc + 1) = .ok (.ifCond .eq off, 3)) (ht : ((pc + 1 : Nat) : Int) + off = ((891 : Nat) : Int)) (kk : GW g ac 891 ls [] Λ I L R) : GW g ac pc ls [.long v, .long v] Λ I L R := by
  refine GW_lcmp G hd ?_
  exact GW_if_eq G hd2 ht (fun _ => kk) (fun q => absurd ((lg0 v v).mpr rfl) q)
end CALL
