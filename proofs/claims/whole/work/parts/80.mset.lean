/-! the reference: undo, leave, set -/
/-- the same fields, names, hazards, softs; the same rules 2, 3, 4 -/
def Sm (A' A : AS) : Prop := aHz A' = aHz A ∧ aSo A' = aSo A ∧ aNm A' = aNm A ∧ aM A' = aM A ∧ aF A' = aF A ∧ aFd A' = aFd A ∧ aRu A' 2 = aRu A 2 ∧ aRu A' 3 = aRu A 3 ∧ aRu A' 4 = aRu A 4
theorem MW.put {Λ : hc_L} {I I1 I2 : hc_I} {L L1 L2 : hc_J} {R : hc_R} {S : HS} {A' : AS} (h : MW Λ I L S) (hq : KQ (sA S) (sH S) (sC S) Λ I L R none Λ I1 L1 R) (hI : ∀ z, z < 228 → I2 z = I1 z) (hL : ∀ z, z < 228 → z ≠ 218 → L2 z = L1 z) (hn : NwAt (L2 218) A') (hA : wf A') (e : Sm A' (sA S)) : MW Λ I2 L2 (sPut S A') := by
  obtain ⟨-, -, -, q1, q2, q3, q4, q5⟩ := hq
  obtain ⟨e1, e2, e3, e4, e5, e6, e7, e8, e9⟩ := e
  obtain ⟨⟨m1, m2, m3, m4, m5, m6, m7⟩, ⟨l1, l2, l3⟩, ⟨r1, r2, r3⟩, n, ⟨c1, c2, c3⟩, ⟨t1, t2, t3⟩, f1, f2⟩ := h
  have k217 : ∀ j, j ≠ 2 → I2 217 j = I 217 j := fun j hj => by rw [hI 217 (by decide)]; exact q2 j hj
  have kI : ∀ z, z < 228 → z ≠ 217 → I2 z = I z := fun z hz h7 => by rw [hI z hz]; exact q1 z h7
  have kL : ∀ z, z < 228 → z ≠ 218 → z ≠ 219 → L2 z = L z := fun z hz h8 h9 => by rw [hL z hz h8]; exact q3 z h9
  refine ⟨⟨m1, hA, hn, ?_, ?_, ?_, ?_⟩, ⟨l1, ?_, ?_⟩, ⟨?_, ?_, ?_⟩, ?_, ⟨?_, Nat.min_le_left _ _, ?_⟩, ⟨?_, t2, ?_⟩, ?_, ?_⟩
  · rw [kI 221 (by decide) (by decide)]
    intro f hf a ha
    show _ = nI (aFd A' f a)
    rw [e6]; exact m4 f (by rw [← e5]; exact hf) a ha
  · rw [kI 222 (by decide) (by decide)]
    intro c hc
    show _ = nI (aHz A' c)
    rw [e1]; exact m5 c hc
  · rw [kI 223 (by decide) (by decide)]
    intro c hc
    show _ = nI (aSo A' c)
    rw [e2]; exact m6 c hc
  · rw [k217 35 (by decide)]; exact m7
  · rw [k217 10 (by decide)]; exact l2
  · rw [kI 226 (by decide) (by decide), kL 225 (by decide) (by decide) (by decide)]; exact l3
  · rw [kI 224 (by decide) (by decide)]; exact r1.trans e7.symm
  · rw [kI 224 (by decide) (by decide)]; exact r2.trans e8.symm
  · rw [kI 224 (by decide) (by decide)]; exact r3.trans e9.symm
  · rw [kL 220 (by decide) (by decide) (by decide)]
    intro m hm
    show _ = aNm A' m
    rw [e3]; exact n m (by rw [← e4]; exact hm)
  · rw [hI 217 (by decide)]; exact q4
  · rw [hL 219 (by decide) (by decide)]; exact q5
  · rw [k217 20 (by decide)]; exact t1
  · rw [kI 227 (by decide) (by decide)]; exact t3
  · rw [k217 21 (by decide)]; exact f1
  · rw [k217 22 (by decide)]; exact f2
theorem MPost.put {v v' : Option Value} {Λ : hc_L} {I I1 I2 : hc_I} {L L1 L2 : hc_J} {R : hc_R} {S : HS} {A' : AS} (h : MW Λ I L S) (hq : KQ (sA S) (sH S) (sC S) Λ I L R none Λ I1 L1 R) (hI : ∀ z, ¬ (228 ≤ z ∧ z < 238) → I2 z = I1 z) (hL : ∀ z, ¬ (228 ≤ z ∧ z < 238) → z ≠ 218 → L2 z = L1 z) (hn : NwAt (L2 218) A') (hA : wf A') (e : Sm A' (sA S)) (hv : v' = v) : MPost v (sPut S A') Λ I L R v' Λ I2 L2 R :=
  ⟨hv, rfl, rfl, fun z hz => by rw [hI z (fun q => hz ⟨by omega, q.2⟩)]; exact hq.2.2.2.1 z (fun q => hz ⟨by omega, by omega⟩), fun z hz => by rw [hL z (fun q => hz ⟨by omega, q.2⟩) (fun q => hz ⟨by omega, by omega⟩)]; exact hq.2.2.2.2.2.1 z (fun q => hz ⟨by omega, by omega⟩), h.put hq (fun z hz => hI z (by omega)) (fun z hz h8 => hL z (by omega) h8) hn hA e⟩
theorem NwAt.lv {N N' : Nat → Int64} {A : AS} {k : Nat} (h : NwAt N A) (hA : wf A) (hk : k < 12) (he : ∀ j, N' j = if j = 22 + k then 1 else N j) : NwAt N' (aSLv A k) := by
  obtain ⟨⟨a1, a2, a3, a4⟩, ⟨b1, b2, b3, b4⟩, c, d, e, f⟩ := h
  have hm := hA.m
  have hs := hA.s
  have g : ∀ j, j ≠ 22 + k → N' j = N j := fun j hj => by rw [he, if_neg hj]
  refine ⟨⟨(g 0 (by omega)).trans a1, (g 1 (by omega)).trans a2, (g 2 (by omega)).trans a3, (g 3 (by omega)).trans a4⟩, ⟨(g 4 (by omega)).trans b1, (g 5 (by omega)).trans b2, (g 6 (by omega)).trans b3, (g 7 (by omega)).trans b4⟩, fun m hm => ⟨?_, ?_, ?_⟩, fun s hs a ha => ?_, fun m hm => ?_, fun m hm q => ⟨?_, fun w hw => ?_⟩⟩
  · rw [g _ (by have : m < aM A := hm; omega)]; exact (c m hm).1
  · show _ = lB (if m = k then true else aLv A m)
    rw [he]
    by_cases q : m = k
    · rw [if_pos q, if_pos (by omega)]; rfl
    · rw [if_neg q, if_neg (by omega)]; exact (c m hm).2.1
  · rw [g _ (by omega)]; exact (c m hm).2.2
  · rw [g _ (by omega)]; exact d s hs a ha
  · rw [g _ (by omega)]; exact e m hm
  · rw [g _ (by omega)]; exact (f m hm q).1
  · rw [g _ (by omega)]; exact (f m hm q).2 w hw
theorem NwAt.r5 {N N' : Nat → Int64} {A : AS} (h : NwAt N A) {v : Int64} (h0 : N' 2 = v) (g : ∀ j, j ≠ 2 → N' j = N j) : NwAt N' (aSRu A 5 v) := by
  obtain ⟨⟨a1, a2, a3, a4⟩, ⟨b1, b2, b3, b4⟩, c, d, e, f⟩ := h
  refine ⟨⟨(g 0 (by omega)).trans a1, (g 1 (by omega)).trans a2, h0, (g 3 (by omega)).trans a4⟩, ⟨(g 4 (by omega)).trans b1, (g 5 (by omega)).trans b2, (g 6 (by omega)).trans b3, (g 7 (by omega)).trans b4⟩, fun m hm => ?_, fun s hs a ha => ?_, fun m hm => ?_, fun m hm q => ⟨?_, fun w hw => ?_⟩⟩
  · rw [g _ (by omega), g _ (by omega), g _ (by omega)]; exact c m hm
  · rw [g _ (by omega)]; exact d s hs a ha
  · rw [g _ (by omega)]; exact e m hm
  · rw [g _ (by omega)]; exact (f m hm q).1
  · rw [g _ (by omega)]; exact (f m hm q).2 w hw
theorem NwAt.r6 {N N' : Nat → Int64} {A : AS} (h : NwAt N A) {v : Int64} (h0 : N' 3 = v) (g : ∀ j, j ≠ 3 → N' j = N j) : NwAt N' (aSRu A 6 v) := by
  obtain ⟨⟨a1, a2, a3, a4⟩, ⟨b1, b2, b3, b4⟩, c, d, e, f⟩ := h
  refine ⟨⟨(g 0 (by omega)).trans a1, (g 1 (by omega)).trans a2, (g 2 (by omega)).trans a3, h0⟩, ⟨(g 4 (by omega)).trans b1, (g 5 (by omega)).trans b2, (g 6 (by omega)).trans b3, (g 7 (by omega)).trans b4⟩, fun m hm => ?_, fun s hs a ha => ?_, fun m hm => ?_, fun m hm q => ⟨?_, fun w hw => ?_⟩⟩
  · rw [g _ (by omega), g _ (by omega), g _ (by omega)]; exact c m hm
  · rw [g _ (by omega)]; exact d s hs a ha
  · rw [g _ (by omega)]; exact e m hm
  · rw [g _ (by omega)]; exact (f m hm q).1
  · rw [g _ (by omega)]; exact (f m hm q).2 w hw
/-- A is a beginning of B -/
def Beg (A B : AS) : Prop := aM A ≤ aM B ∧ aF A ≤ aF B ∧ (∀ m, m < aM A → aNm A m = aNm B m) ∧ (∀ f, f < aF A → ∀ a, a < 6 → aFd A f a = aFd B f a) ∧ (∀ c, c < 64 → aHz A c = aHz B c) ∧ (∀ c, c < 4 → aSo A c = aSo B c) ∧ aRu A 2 = aRu B 2 ∧ aRu A 3 = aRu B 3 ∧ aRu A 4 = aRu B 4
theorem MW.back {Λ : hc_L} {I I2 : hc_I} {L L2 : hc_J} {S : HS} (h : MW Λ I L S) (hc : ¬ sC S = 0) (hI : ∀ z, z < 228 → z ≠ 217 → I2 z = I z) (hJ : ∀ j, j ≠ 2 → I2 217 j = I 217 j) (h2 : I2 217 2 = nI (sC S - 1)) (hL : ∀ z, z < 228 → z ≠ 218 → L2 z = L z) (hn : NwAt (L2 218) (sH S 0)) (hA : wf (sH S 0)) (e : Beg (sH S 0) (sA S)) : MW Λ I2 L2 (nUndo S) := by
  obtain ⟨b1, b2, b3, b4, b5, b6, b7, b8, b9⟩ := e
  obtain ⟨⟨m1, m2, m3, m4, m5, m6, m7⟩, ⟨l1, l2, l3⟩, ⟨r1, r2, r3⟩, n, ⟨c1, c2, c3⟩, ⟨t1, t2, t3⟩, f1, f2⟩ := h
  unfold nUndo
  rw [if_neg hc]
  refine ⟨⟨m1, hA, hn, ?_, ?_, ?_, ?_⟩, ⟨l1, ?_, ?_⟩, ⟨?_, ?_, ?_⟩, ?_, ⟨h2, ?_, ?_⟩, ⟨?_, t2, ?_⟩, ?_, ?_⟩
  · rw [hI 221 (by decide) (by decide)]
    intro f hf a ha
    show _ = nI (aFd (sH S 0) f a)
    rw [b4 f hf a ha]; exact m4 f (Nat.lt_of_lt_of_le hf b2) a ha
  · rw [hI 222 (by decide) (by decide)]
    intro c hc
    show _ = nI (aHz (sH S 0) c)
    rw [b5 c hc]; exact m5 c hc
  · rw [hI 223 (by decide) (by decide)]
    intro c hc
    show _ = nI (aSo (sH S 0) c)
    rw [b6 c hc]; exact m6 c hc
  · rw [hJ 35 (by decide)]; exact m7
  · rw [hJ 10 (by decide)]; exact l2
  · rw [hI 226 (by decide) (by decide), hL 225 (by decide) (by decide)]; exact l3
  · rw [hI 224 (by decide) (by decide)]; exact r1.trans b7.symm
  · rw [hI 224 (by decide) (by decide)]; exact r2.trans b8.symm
  · rw [hI 224 (by decide) (by decide)]; exact r3.trans b9.symm
  · rw [hL 220 (by decide) (by decide)]
    intro m hm
    show _ = aNm (sH S 0) m
    rw [b3 m hm]; exact n m (Nat.lt_of_lt_of_le hm b1)
  · show sC S - 1 ≤ 8
    omega
  · rw [hL 219 (by decide) (by decide)]
    intro k hk
    have hk : k < sC S - 1 := hk
    show NwAt (fun j => L 219 (210 * (sC S - 1 - 1 - k) + j)) (sH S (k + 1))
    rw [show sC S - 1 - 1 - k = sC S - 1 - (k + 1) by omega]
    exact c3 (k + 1) (by omega)
  · rw [hJ 20 (by decide)]; exact t1
  · rw [hI 227 (by decide) (by decide)]; exact t3
  · rw [hJ 21 (by decide)]; exact f1
  · rw [hJ 22 (by decide)]; exact f2
set_option maxRecDepth 100000 in
theorem m_undo {Λ : hc_L} {I : hc_I} {L : hc_J} {R : hc_R} {S : HS} (hW : MW Λ I L S) (hK : ∀ k, k < sC S → wf (sH S k)) (hBg : 0 < sC S → Beg (sH S 0) (sA S)) : Run xX11_undo [.ref 217] Λ I L R (MPost (some (.int (hc_b (decide (¬ sC S = 0))))) (nUndo S) Λ I L R) := by
  refine Run.of (by decide +kernel) (Nat.le_of_ble_eq_true rfl) ?_
  show LW _ _ _ [(0, .ref 217)] _ _ _ _ _ _
  have hM := hW.m
  have hP := hW.l
  have hY := hM.y
  refine LW_aloadn 0 dX11_undo_0 rfl rfl ?_
  refine gX11_2 dX11_undo_1 flX11_87 (hY.lt (k := 217) (by decide)) (ly217 hY) ?_
  rw [show I 217 2 = nI (sC S) from hW.c]
  refine LW_if_ne (tgt := 9) dX11_undo_4 (by decide) (fun c4 => ?_) (fun c4 => ?_)
  · have hc0 : ¬ sC S = 0 := fun e => c4 (by rw [e]; rfl)
    obtain ⟨d, hd⟩ : ∃ d, sC S = d + 1 := ⟨sC S - 1, by omega⟩
    refine LW_aloadn 0 dX11_undo_9 rfl rfl ?_
    refine LW_dup dX11_undo_10 rfl ?_
    refine gX11_2 dX11_undo_11 flX11_87 (hY.lt (k := 217) (by decide)) (ly217 hY) ?_
    rw [show I 217 2 = nI (d + 1) from (by rw [hW.c, hd])]
    refine LW_iconst (v := 1) dX11_undo_14 (by decide) ?_
    refine LW_isub dX11_undo_15 ?_
    rw [show ((nI (d + 1)) - 1) = nI d from (by rw [← nI_1, Int32.add_sub_cancel])]
    refine pX11_2 dX11_undo_16 flX11_87 (hY.lt (k := 217) (by decide)) (ly217 hY) ?_
    generalize hI16 : hc_u I 217 2 (nI d) = I16
    refine LW_iconst (v := 0) dX11_undo_19 (by decide) ?_
    refine LW_istoren (ls' := [(0, .ref 217), (1, .int 0)]) dX11_undo_20 rfl (by decide) rfl ?_
    have loop : ∀ i, i ≤ 210 → ∀ L2 : hc_J, (∀ z, z ≠ 218 → L2 z = L z) → (∀ j, L2 218 j = if j < i then L 219 (210 * d + j) else L 218 j) → LW xX11_undo (0, 0) 21 [(0, .ref 217), (1, .int (nI i))] [] Λ I16 L2 R (MPost (some (.int (hc_b (decide (¬ sC S = 0))))) (nUndo S) Λ I L R) := by
      refine hc_down ?_ ?_
      · intro L2 q1 q2
        refine LW_iloadn 1 dX11_undo_21 rfl rfl ?_
        refine LW_sipush (v := 210) dX11_undo_22 (by decide) ?_
        refine LW_icmp_ge (tgt := 55) dX11_undo_25 (by decide) (fun c25 => ?_) (fun c25 => absurd (by decide) c25)
        refine LW_iconst (v := 1) dX11_undo_55 (by decide) ?_
        refine LW_zret dX11_undo_56 rfl (Nat.le_of_ble_eq_true rfl) (Nat.le_of_ble_eq_true rfl) (Or.inr rfl) ?_
        refine ⟨by rw [decide_eq_true hc0]; rfl, rfl, rfl, fun z hz => ?_, fun z hz => q1 z (fun e => hz ⟨by omega, by omega⟩), hW.back hc0 (fun z hz h7 => ?_) (fun j hj => ?_) ?_ (fun z hz h8 => q1 z h8) ?_ (hK 0 (by omega)) (hBg (by omega))⟩
        · rw [← hI16, hc_u_row _ _ _ _ (fun e => hz ⟨by omega, by omega⟩)]
        · rw [← hI16, hc_u_row _ _ _ _ h7]
        · rw [← hI16, hc_u_at, if_neg hj]
        · rw [← hI16, hc_u_at, if_pos rfl, hd]; rfl
        · refine (hW.2.2.2.2.1.2.2 0 (by omega)).cg (hK 0 (by omega)) (fun j hj => ?_)
          show L2 218 j = L 219 (210 * (sC S - 1 - 0) + j)
          rw [q2, if_pos hj, show sC S - 1 - 0 = d by omega]
      · intro i hi ih L2 q1 q2
        refine LW_iloadn 1 dX11_undo_21 rfl rfl ?_
        refine LW_sipush (v := 210) dX11_undo_22 (by decide) ?_
        refine LW_icmp_ge (tgt := 55) dX11_undo_25 (by decide) (fun c25 => absurd c25 (hc_nle (a := 210) (b := i) (by decide) (by omega) hi)) (fun c25 => ?_)
        refine LW_aloadn 0 dX11_undo_28 rfl rfl ?_
        refine gX11_0 dX11_undo_29 flX11_9 (hY.lt (k := 217) (by decide)) (ly217 hY) (lf217_0 hY) ?_
        refine LW_iloadn 1 dX11_undo_32 rfl rfl ?_
        refine LW_aloadn 0 dX11_undo_33 rfl rfl ?_
        refine gX11_1 dX11_undo_34 flX11_15 (hY.lt (k := 217) (by decide)) (ly217 hY) (lf217_1 hY) ?_
        refine LW_sipush (v := 210) dX11_undo_37 (by decide) ?_
        refine LW_aloadn 0 dX11_undo_40 rfl rfl ?_
        refine gX11_2 dX11_undo_41 flX11_87 (hY.lt (k := 217) (by decide)) (ly217 hY) ?_
        rw [show I16 217 2 = nI d from (by rw [← hI16, hc_u_at, if_pos rfl])]
        refine LW_imul dX11_undo_44 ?_
        rw [show (210 * (nI d)) = nI (210 * d) from (nI_mul 210 d)]
        refine LW_iloadn 1 dX11_undo_45 rfl rfl ?_
        refine LW_iadd dX11_undo_46 ?_
        rw [show ((nI (210 * d)) + (nI i)) = nI (210 * d + i) from (nI_add _ _)]
        refine LW_lald dX11_undo_47 (hY.lt (k := 219) (by decide)) (ly219 hY) rfl (by have := hW.c8; omega) (Nat.le_of_ble_eq_true rfl) ?_
        rw [show L2 219 (210 * d + i) = L 219 (210 * d + i) from (by rw [q1 219 (by decide)])]
        refine LW_last dX11_undo_48 (hY.lt (k := 218) (by decide)) (ly218 hY) rfl (by omega) (Nat.le_of_ble_eq_true rfl) ?_
        generalize hL48 : hc_u L2 218 i (L 219 (210 * d + i)) = L48
        refine LW_iinc (n := 1) (v := nI (i + 1)) (ls' := [(0, .ref 217), (1, .int (nI (i + 1)))]) dX11_undo_49 rfl (hc_inc _) (by decide) rfl ?_
        refine LW_goto (tgt := 21) dX11_undo_52 (by decide) ?_
        exact ih L48 (fun z z1 => by rw [← hL48, hc_u_row _ _ _ _ z1]; exact q1 z z1) (fun j => by
          rw [← hL48, hc_u_at, q2 j]
          by_cases c : j = i
          · rw [if_pos c, if_pos (by omega), c]
          · rw [if_neg c]
            by_cases d : j < i
            · rw [if_pos d, if_pos (by omega)]
            · rw [if_neg d, if_neg (by omega)])
    exact loop 0 (Nat.zero_le _) L (fun _ _ => rfl) (fun j => (if_neg (by omega)).symm)
  · refine LW_iconst (v := 0) dX11_undo_7 (by decide) ?_
    refine LW_zret dX11_undo_8 rfl (Nat.le_of_ble_eq_true rfl) (Nat.le_of_ble_eq_true rfl) (Or.inl rfl) ?_
    have e0 : sC S = 0 := (hc_eq (a := sC S) (b := 0) (by have := hW.c8; omega) (by decide)).mp (Classical.not_not.mp c4)
    rw [show nUndo S = S from if_pos e0]
    exact MPost.r hW (by rw [decide_eq_false (fun z => z e0)]; rfl)
set_option maxRecDepth 100000 in
theorem m_leave {Λ : hc_L} {I : hc_I} {L : hc_J} {R : hc_R} {S : HS} (hW : MW Λ I L S) (hK : ∀ k, k < sC S → wf (sH S k)) (x : Int32) : Run xX11_leave [.ref 217, .int x] Λ I L R (MPost (some (.int (hc_b (qLeaveB S x)))) (nLeave S x) Λ I L R) := by
  refine Run.of (by decide +kernel) (Nat.le_of_ble_eq_true rfl) ?_
  show LW _ _ _ [(0, .ref 217), (1, .int x)] _ _ _ _ _ _
  have hM := hW.m
  have hP := hW.l
  have hY := hM.y
  refine LW_aloadn 0 dX11_leave_0 rfl rfl ?_
  refine LW_iloadn 1 dX11_leave_1 rfl rfl ?_
  refine LW_callV (As := [.int x]) (b := 217) (st := []) (ci := 11) (r := (RX11, TX11, 44)) (r_mIsMember hM x) YX11_isMember rfl dX11_leave_2 mlX11_395 (hY.lt (k := 217) (by decide)) (ly217 hY) ⟨rfl, rfl⟩ (by decide) ⟨Nat.le_of_ble_eq_true rfl, Nat.le_of_ble_eq_true rfl⟩ (Nat.le_of_ble_eq_true rfl) rfl (fun r2 Λc2 Ic2 Lc2 Rc2 hq2 => ?_)
  rw [mIs_m1 hM.w] at hq2
  obtain ⟨rfl, rfl, rfl, rfl, rfl⟩ := hq2
  refine LW_bif_eq (tgt := 22) dX11_leave_5 (by decide) (fun c5 => ?_) (fun c5 => ?_)
  · refine LW_iconst (v := 0) dX11_leave_22 (by decide) ?_
    refine LW_zret dX11_leave_23 rfl (Nat.le_of_ble_eq_true rfl) (Nat.le_of_ble_eq_true rfl) (Or.inl rfl) ?_
    have hb : qLeaveB S x = false := by unfold qLeaveB; rw [c5, Bool.false_and]
    rw [show nLeave S x = S from if_neg (by rw [hb]; decide)]
    exact MPost.r hW (by rw [hb]; rfl)
  · obtain ⟨k, hkM, hk, rfl, hkk⟩ := mIs_k hM.w c5
    refine LW_aloadn 0 dX11_leave_8 rfl rfl ?_
    refine gX11_0 dX11_leave_9 flX11_9 (hY.lt (k := 217) (by decide)) (ly217 hY) (lf217_0 hY) ?_
    refine LW_bipush (v := 22) dX11_leave_12 (by decide) ?_
    refine LW_iloadn 1 dX11_leave_14 rfl rfl ?_
    refine LW_iadd dX11_leave_15 ?_
    rw [show (22 + (nI k)) = nI (22 + k) from (nI_add 22 _)]
    refine LW_lald dX11_leave_16 (hY.lt (k := 218) (by decide)) (ly218 hY) rfl (by omega) (Nat.le_of_ble_eq_true rfl) ?_
    rw [show L 218 (22 + k) = lB (aLv (sA S) k) from hM.lv hkM]
    refine LW_lconst (v := 1) dX11_leave_17 (by decide) ?_
    refine LW_lcmp dX11_leave_18 ?_
    refine LW_lif_ne (tgt := 24) dX11_leave_19 (by decide) (fun c19 => ?_) (fun c19 => ?_)
    · refine LW_aloadn 0 dX11_leave_24 rfl rfl ?_
      refine LW_callV (As := []) (b := 217) (st := []) (ci := 11) (r := (RX11, TX11, 44)) (r_keeps hY hW.c8 hW.c hM.n hM.w hW.2.2.2.2.1.2.2 hK) YX11_keeps rfl dX11_leave_25 mlX11_319 (hY.lt (k := 217) (by decide)) (ly217 hY) ⟨rfl, rfl⟩ (by decide) ⟨Nat.le_of_ble_eq_true rfl, Nat.le_of_ble_eq_true rfl⟩ (Nat.le_of_ble_eq_true rfl) rfl (fun r25 Λc25 Ic25 Lc25 Rc25 hq25 => ?_)
      obtain ⟨rfl, rfl, rfl, hI25, hJ25, hL25, hP25, hN25⟩ := hq25
      have hkq : KQ (sA S) (sH S) (sC S) Λ I L R none Λ Ic25 Lc25 R := ⟨rfl, rfl, rfl, hI25, hJ25, hL25, hP25, hN25⟩
      refine LW_aloadn 0 dX11_leave_28 rfl rfl ?_
      refine gX11_0 dX11_leave_29 flX11_9 (hY.lt (k := 217) (by decide)) (ly217 hY) (lf217_0 hY) ?_
      refine LW_bipush (v := 22) dX11_leave_32 (by decide) ?_
      refine LW_iloadn 1 dX11_leave_34 rfl rfl ?_
      refine LW_iadd dX11_leave_35 ?_
      rw [show (22 + (nI k)) = nI (22 + k) from (nI_add 22 _)]
      refine LW_lconst (v := 1) dX11_leave_36 (by decide) ?_
      refine LW_last dX11_leave_37 (hY.lt (k := 218) (by decide)) (ly218 hY) rfl (by omega) (Nat.le_of_ble_eq_true rfl) ?_
      generalize hL37 : hc_u Lc25 218 (22 + k) 1 = L37
      refine LW_iconst (v := 1) dX11_leave_38 (by decide) ?_
      refine LW_zret dX11_leave_39 rfl (Nat.le_of_ble_eq_true rfl) (Nat.le_of_ble_eq_true rfl) (Or.inr rfl) ?_
      have hb : qLeaveB S (nI k) = true := by
        unfold qLeaveB
        rw [c5, hc_cl (by omega), show aLv (sA S) k = false from by
          cases q : aLv (sA S) k with
          | false => rfl
          | true => exact absurd ((lB_1 _).mpr q) c19]; rfl
      have hn2 : nLeave S (nI k) = sPut S (aSLv (sA S) k) := by unfold nLeave; rw [if_pos hb, hc_cl (by omega)]
      rw [hn2]
      exact MPost.put hW hkq (fun _ _ => rfl) (fun z _ z8 => by rw [← hL37, hc_u_row _ _ _ _ z8]) (hM.n.lv hM.w (by omega) (fun j => by rw [← hL37, hc_u_at, hL25 218 (by decide)])) hM.w ⟨rfl, rfl, rfl, rfl, rfl, rfl, rfl, rfl, rfl⟩ (by rw [hb]; rfl)
    · refine LW_iconst (v := 0) dX11_leave_22 (by decide) ?_
      refine LW_zret dX11_leave_23 rfl (Nat.le_of_ble_eq_true rfl) (Nat.le_of_ble_eq_true rfl) (Or.inl rfl) ?_
      have hb : qLeaveB S (nI k) = false := by unfold qLeaveB; rw [hc_cl (by omega), (lB_1 _).mp (Classical.not_not.mp c19)]; exact Bool.and_false _
      rw [show nLeave S (nI k) = S from if_neg (by rw [hb]; decide)]
      exact MPost.r hW (by rw [hb]; rfl)
set_option maxRecDepth 100000 in
theorem m_set0 {Λ : hc_L} {I : hc_I} {L : hc_J} {R : hc_R} {S : HS} (hW : MW Λ I L S) (hK : ∀ k, k < sC S → wf (sH S k)) (v : Int32) : Run xX11_set [.ref 217, .int 0, .int v] Λ I L R (MPost (some (.int (hc_b (qSetB S 0 v)))) (nSet S 0 v) Λ I L R) := by
  refine Run.of (by decide +kernel) (Nat.le_of_ble_eq_true rfl) ?_
  show LW _ _ _ [(0, .ref 217), (1, .int 0), (2, .int v)] _ _ _ _ _ _
  have hM := hW.m
  have hP := hW.l
  have hY := hM.y
  refine LW_iloadn 1 dX11_set_0 rfl rfl ?_
  refine LW_if_eq (tgt := 15) dX11_set_1 (by decide) (fun c1 => ?_) (fun c1 => absurd rfl c1)
  refine LW_iloadn 2 dX11_set_15 rfl rfl ?_
  refine LW_i2l dX11_set_16 ?_
  refine LW_lconst (v := 0) dX11_set_17 (by decide) ?_
  refine LW_iloadn 1 dX11_set_18 rfl rfl ?_
  refine LW_if_ne (tgt := 28) dX11_set_19 (by decide) (fun c19 => absurd c19 (fun z => z rfl)) (fun c19 => ?_)
  refine LW_ldc2 dX11_set_22 klX11_398 ?_
  refine LW_goto (tgt := 42) dX11_set_25 (by decide) ?_
  refine LW_callS (As := [.long v.toInt64, .long 0, .long 999]) (st := []) (r_isIn v.toInt64 0 999) YX11_isIn rfl dX11_set_42 mlX11_126 (by decide) ⟨Nat.le_of_ble_eq_true rfl, Nat.le_of_ble_eq_true rfl⟩ (Nat.le_of_ble_eq_true rfl) rfl (fun r42 Λc42 Ic42 Lc42 Rc42 hq42 => ?_)
  obtain ⟨rfl, rfl, rfl, rfl, rfl⟩ := hq42
  refine LW_bif_ne (tgt := 50) dX11_set_45 (by decide) (fun c45 => ?_) (fun c45 => ?_)
  · refine LW_iloadn 1 dX11_set_50 rfl rfl ?_
    refine LW_if_ne (tgt := 58) dX11_set_51 (by decide) (fun c51 => absurd c51 (fun z => z rfl)) (fun c51 => ?_)
    refine LW_iconst (v := 0) dX11_set_54 (by decide) ?_
    refine LW_goto (tgt := 68) dX11_set_55 (by decide) ?_
    refine LW_istoren (ls' := [(0, .ref 217), (1, .int 0), (2, .int v), (3, .int 0)]) dX11_set_68 rfl (by decide) rfl ?_
    refine LW_aloadn 0 dX11_set_69 rfl rfl ?_
    refine gX11_0 dX11_set_70 flX11_9 (hY.lt (k := 217) (by decide)) (ly217 hY) (lf217_0 hY) ?_
    refine LW_iloadn 3 dX11_set_73 rfl rfl ?_
    refine LW_lald dX11_set_74 (hY.lt (k := 218) (by decide)) (ly218 hY) rfl (by decide) (Nat.le_of_ble_eq_true rfl) ?_
    rw [show L 218 0 = aRu (sA S) 0 from hM.n.1.1]
    refine LW_iloadn 2 dX11_set_75 rfl rfl ?_
    refine LW_i2l dX11_set_76 ?_
    refine LW_lcmp dX11_set_77 ?_
    refine LW_lif_ne (tgt := 83) dX11_set_78 (by decide) (fun c78 => ?_) (fun c78 => ?_)
    · refine LW_aloadn 0 dX11_set_83 rfl rfl ?_
      refine LW_callV (As := []) (b := 217) (st := []) (ci := 11) (r := (RX11, TX11, 44)) (r_keeps hY hW.c8 hW.c hM.n hM.w hW.2.2.2.2.1.2.2 hK) YX11_keeps rfl dX11_set_84 mlX11_319 (hY.lt (k := 217) (by decide)) (ly217 hY) ⟨rfl, rfl⟩ (by decide) ⟨Nat.le_of_ble_eq_true rfl, Nat.le_of_ble_eq_true rfl⟩ (Nat.le_of_ble_eq_true rfl) rfl (fun r84 Λc84 Ic84 Lc84 Rc84 hq84 => ?_)
      obtain ⟨rfl, rfl, rfl, hI84, hJ84, hL84, hP84, hN84⟩ := hq84
      have hkq : KQ (sA S) (sH S) (sC S) Λ I L R none Λ Ic84 Lc84 R := ⟨rfl, rfl, rfl, hI84, hJ84, hL84, hP84, hN84⟩
      refine LW_aloadn 0 dX11_set_87 rfl rfl ?_
      refine gX11_0 dX11_set_88 flX11_9 (hY.lt (k := 217) (by decide)) (ly217 hY) (lf217_0 hY) ?_
      refine LW_iloadn 3 dX11_set_91 rfl rfl ?_
      refine LW_iloadn 2 dX11_set_92 rfl rfl ?_
      refine LW_i2l dX11_set_93 ?_
      refine LW_last dX11_set_94 (hY.lt (k := 218) (by decide)) (ly218 hY) rfl (by decide) (Nat.le_of_ble_eq_true rfl) ?_
      generalize hL94 : hc_u Lc84 218 0 v.toInt64 = L94
      refine LW_iconst (v := 1) dX11_set_95 (by decide) ?_
      refine LW_zret dX11_set_96 rfl (Nat.le_of_ble_eq_true rfl) (Nat.le_of_ble_eq_true rfl) (Or.inr rfl) ?_
      have hb : qSetB S 0 v = true := by
        have c45 : (decide ((0:Int32) ≤ v) && decide (v ≤ nI 999)) = true := by rw [← lIn_i (by decide)]; exact c45
        rw [Bool.and_eq_true] at c45
        unfold qSetB
        rw [show (decide ((0:Int32) ≤ v)) = true from c45.1, show (decide (v ≤ hc_rm7 ((0 : Int32).toNatClampNeg))) = true from c45.2, decide_eq_false (show ¬ v.toInt64 = aRu (sA S) ((0 : Int32).toNatClampNeg) from fun e => c78 e.symm)]; rfl
      have hn2 : nSet S 0 v = sPut S (aSRu (sA S) 0 v.toInt64) := by unfold nSet; rw [if_pos hb]; rfl
      rw [hn2]
      exact MPost.put hW hkq (fun _ _ => rfl) (fun z _ z8 => by rw [← hL94, hc_u_row _ _ _ _ z8]) (hM.n.rate (by rw [← hL94, hc_u_at, if_pos rfl]) (fun j hj => by rw [← hL94, hc_u_at, if_neg hj, hL84 218 (by decide)])) hM.w ⟨rfl, rfl, rfl, rfl, rfl, rfl, rfl, rfl, rfl⟩ (by rw [hb]; rfl)
    · refine LW_iconst (v := 0) dX11_set_81 (by decide) ?_
      refine LW_zret dX11_set_82 rfl (Nat.le_of_ble_eq_true rfl) (Nat.le_of_ble_eq_true rfl) (Or.inl rfl) ?_
      have hb : qSetB S 0 v = false := by
        unfold qSetB
        rw [decide_eq_true (show v.toInt64 = aRu (sA S) ((0 : Int32).toNatClampNeg) from (Classical.not_not.mp c78).symm), Bool.not_true, Bool.and_false, Bool.and_false, Bool.and_false]
      rw [show nSet S 0 v = S from if_neg (by rw [hb]; decide)]
      exact MPost.r hW (by rw [hb]; rfl)
  · refine LW_iconst (v := 0) dX11_set_48 (by decide) ?_
    refine LW_zret dX11_set_49 rfl (Nat.le_of_ble_eq_true rfl) (Nat.le_of_ble_eq_true rfl) (Or.inl rfl) ?_
    have hb : qSetB S 0 v = false := by
      have hx : (decide ((0:Int32) ≤ v) && decide (v ≤ nI 999)) = false := by rw [← lIn_i (by decide)]; exact c45
      unfold qSetB
      rw [show (decide (v ≤ hc_rm7 ((0 : Int32).toNatClampNeg))) = decide (v ≤ nI 999) from rfl, ← Bool.and_assoc (decide ((0:Int32) ≤ v)), hx, Bool.false_and, Bool.and_false]
    rw [show nSet S 0 v = S from if_neg (by rw [hb]; decide)]
    exact MPost.r hW (by rw [hb]; rfl)
set_option maxRecDepth 100000 in
theorem m_set5 {Λ : hc_L} {I : hc_I} {L : hc_J} {R : hc_R} {S : HS} (hW : MW Λ I L S) (hK : ∀ k, k < sC S → wf (sH S k)) (v : Int32) : Run xX11_set [.ref 217, .int 5, .int v] Λ I L R (MPost (some (.int (hc_b (qSetB S 5 v)))) (nSet S 5 v) Λ I L R) := by
  refine Run.of (by decide +kernel) (Nat.le_of_ble_eq_true rfl) ?_
  show LW _ _ _ [(0, .ref 217), (1, .int 5), (2, .int v)] _ _ _ _ _ _
  have hM := hW.m
  have hP := hW.l
  have hY := hM.y
  refine LW_iloadn 1 dX11_set_0 rfl rfl ?_
  refine LW_if_eq (tgt := 15) dX11_set_1 (by decide) (fun c1 => absurd c1 (by decide)) (fun c1 => ?_)
  refine LW_iloadn 1 dX11_set_4 rfl rfl ?_
  refine LW_iconst (v := 5) dX11_set_5 (by decide) ?_
  refine LW_icmp_eq (tgt := 15) dX11_set_6 (by decide) (fun c6 => ?_) (fun c6 => absurd rfl c6)
  refine LW_iloadn 2 dX11_set_15 rfl rfl ?_
  refine LW_i2l dX11_set_16 ?_
  refine LW_lconst (v := 0) dX11_set_17 (by decide) ?_
  refine LW_iloadn 1 dX11_set_18 rfl rfl ?_
  refine LW_if_ne (tgt := 28) dX11_set_19 (by decide) (fun c19 => ?_) (fun c19 => absurd (by decide) c19)
  refine LW_iloadn 1 dX11_set_28 rfl rfl ?_
  refine LW_iconst (v := 5) dX11_set_29 (by decide) ?_
  refine LW_icmp_ne (tgt := 39) dX11_set_30 (by decide) (fun c30 => absurd c30 (fun z => z rfl)) (fun c30 => ?_)
  refine LW_ldc2 dX11_set_33 klX11_400 ?_
  refine LW_goto (tgt := 42) dX11_set_36 (by decide) ?_
  refine LW_callS (As := [.long v.toInt64, .long 0, .long 99]) (st := []) (r_isIn v.toInt64 0 99) YX11_isIn rfl dX11_set_42 mlX11_126 (by decide) ⟨Nat.le_of_ble_eq_true rfl, Nat.le_of_ble_eq_true rfl⟩ (Nat.le_of_ble_eq_true rfl) rfl (fun r42 Λc42 Ic42 Lc42 Rc42 hq42 => ?_)
  obtain ⟨rfl, rfl, rfl, rfl, rfl⟩ := hq42
  refine LW_bif_ne (tgt := 50) dX11_set_45 (by decide) (fun c45 => ?_) (fun c45 => ?_)
  · refine LW_iloadn 1 dX11_set_50 rfl rfl ?_
    refine LW_if_ne (tgt := 58) dX11_set_51 (by decide) (fun c51 => ?_) (fun c51 => absurd (by decide) c51)
    refine LW_iloadn 1 dX11_set_58 rfl rfl ?_
    refine LW_iconst (v := 5) dX11_set_59 (by decide) ?_
    refine LW_icmp_ne (tgt := 67) dX11_set_60 (by decide) (fun c60 => absurd c60 (fun z => z rfl)) (fun c60 => ?_)
    refine LW_iconst (v := 2) dX11_set_63 (by decide) ?_
    refine LW_goto (tgt := 68) dX11_set_64 (by decide) ?_
    refine LW_istoren (ls' := [(0, .ref 217), (1, .int 5), (2, .int v), (3, .int 2)]) dX11_set_68 rfl (by decide) rfl ?_
    refine LW_aloadn 0 dX11_set_69 rfl rfl ?_
    refine gX11_0 dX11_set_70 flX11_9 (hY.lt (k := 217) (by decide)) (ly217 hY) (lf217_0 hY) ?_
    refine LW_iloadn 3 dX11_set_73 rfl rfl ?_
    refine LW_lald dX11_set_74 (hY.lt (k := 218) (by decide)) (ly218 hY) rfl (by decide) (Nat.le_of_ble_eq_true rfl) ?_
    rw [show L 218 2 = aRu (sA S) 5 from hM.n.1.2.2.1]
    refine LW_iloadn 2 dX11_set_75 rfl rfl ?_
    refine LW_i2l dX11_set_76 ?_
    refine LW_lcmp dX11_set_77 ?_
    refine LW_lif_ne (tgt := 83) dX11_set_78 (by decide) (fun c78 => ?_) (fun c78 => ?_)
    · refine LW_aloadn 0 dX11_set_83 rfl rfl ?_
      refine LW_callV (As := []) (b := 217) (st := []) (ci := 11) (r := (RX11, TX11, 44)) (r_keeps hY hW.c8 hW.c hM.n hM.w hW.2.2.2.2.1.2.2 hK) YX11_keeps rfl dX11_set_84 mlX11_319 (hY.lt (k := 217) (by decide)) (ly217 hY) ⟨rfl, rfl⟩ (by decide) ⟨Nat.le_of_ble_eq_true rfl, Nat.le_of_ble_eq_true rfl⟩ (Nat.le_of_ble_eq_true rfl) rfl (fun r84 Λc84 Ic84 Lc84 Rc84 hq84 => ?_)
      obtain ⟨rfl, rfl, rfl, hI84, hJ84, hL84, hP84, hN84⟩ := hq84
      have hkq : KQ (sA S) (sH S) (sC S) Λ I L R none Λ Ic84 Lc84 R := ⟨rfl, rfl, rfl, hI84, hJ84, hL84, hP84, hN84⟩
      refine LW_aloadn 0 dX11_set_87 rfl rfl ?_
      refine gX11_0 dX11_set_88 flX11_9 (hY.lt (k := 217) (by decide)) (ly217 hY) (lf217_0 hY) ?_
      refine LW_iloadn 3 dX11_set_91 rfl rfl ?_
      refine LW_iloadn 2 dX11_set_92 rfl rfl ?_
      refine LW_i2l dX11_set_93 ?_
      refine LW_last dX11_set_94 (hY.lt (k := 218) (by decide)) (ly218 hY) rfl (by decide) (Nat.le_of_ble_eq_true rfl) ?_
      generalize hL94 : hc_u Lc84 218 2 v.toInt64 = L94
      refine LW_iconst (v := 1) dX11_set_95 (by decide) ?_
      refine LW_zret dX11_set_96 rfl (Nat.le_of_ble_eq_true rfl) (Nat.le_of_ble_eq_true rfl) (Or.inr rfl) ?_
      have hb : qSetB S 5 v = true := by
        have c45 : (decide ((0:Int32) ≤ v) && decide (v ≤ nI 99)) = true := by rw [← lIn_i (by decide)]; exact c45
        rw [Bool.and_eq_true] at c45
        unfold qSetB
        rw [show (decide ((0:Int32) ≤ v)) = true from c45.1, show (decide (v ≤ hc_rm7 ((5 : Int32).toNatClampNeg))) = true from c45.2, decide_eq_false (show ¬ v.toInt64 = aRu (sA S) ((5 : Int32).toNatClampNeg) from fun e => c78 e.symm)]; rfl
      have hn2 : nSet S 5 v = sPut S (aSRu (sA S) 5 v.toInt64) := by unfold nSet; rw [if_pos hb]; rfl
      rw [hn2]
      exact MPost.put hW hkq (fun _ _ => rfl) (fun z _ z8 => by rw [← hL94, hc_u_row _ _ _ _ z8]) (hM.n.r5 (by rw [← hL94, hc_u_at, if_pos rfl]) (fun j hj => by rw [← hL94, hc_u_at, if_neg hj, hL84 218 (by decide)])) hM.w ⟨rfl, rfl, rfl, rfl, rfl, rfl, rfl, rfl, rfl⟩ (by rw [hb]; rfl)
    · refine LW_iconst (v := 0) dX11_set_81 (by decide) ?_
      refine LW_zret dX11_set_82 rfl (Nat.le_of_ble_eq_true rfl) (Nat.le_of_ble_eq_true rfl) (Or.inl rfl) ?_
      have hb : qSetB S 5 v = false := by
        unfold qSetB
        rw [decide_eq_true (show v.toInt64 = aRu (sA S) ((5 : Int32).toNatClampNeg) from (Classical.not_not.mp c78).symm), Bool.not_true, Bool.and_false, Bool.and_false, Bool.and_false]
      rw [show nSet S 5 v = S from if_neg (by rw [hb]; decide)]
      exact MPost.r hW (by rw [hb]; rfl)
  · refine LW_iconst (v := 0) dX11_set_48 (by decide) ?_
    refine LW_zret dX11_set_49 rfl (Nat.le_of_ble_eq_true rfl) (Nat.le_of_ble_eq_true rfl) (Or.inl rfl) ?_
    have hb : qSetB S 5 v = false := by
      have hx : (decide ((0:Int32) ≤ v) && decide (v ≤ nI 99)) = false := by rw [← lIn_i (by decide)]; exact c45
      unfold qSetB
      rw [show (decide (v ≤ hc_rm7 ((5 : Int32).toNatClampNeg))) = decide (v ≤ nI 99) from rfl, ← Bool.and_assoc (decide ((0:Int32) ≤ v)), hx, Bool.false_and, Bool.and_false]
    rw [show nSet S 5 v = S from if_neg (by rw [hb]; decide)]
    exact MPost.r hW (by rw [hb]; rfl)
set_option maxRecDepth 100000 in
theorem m_set6 {Λ : hc_L} {I : hc_I} {L : hc_J} {R : hc_R} {S : HS} (hW : MW Λ I L S) (hK : ∀ k, k < sC S → wf (sH S k)) (v : Int32) : Run xX11_set [.ref 217, .int 6, .int v] Λ I L R (MPost (some (.int (hc_b (qSetB S 6 v)))) (nSet S 6 v) Λ I L R) := by
  refine Run.of (by decide +kernel) (Nat.le_of_ble_eq_true rfl) ?_
  show LW _ _ _ [(0, .ref 217), (1, .int 6), (2, .int v)] _ _ _ _ _ _
  have hM := hW.m
  have hP := hW.l
  have hY := hM.y
  refine LW_iloadn 1 dX11_set_0 rfl rfl ?_
  refine LW_if_eq (tgt := 15) dX11_set_1 (by decide) (fun c1 => absurd c1 (by decide)) (fun c1 => ?_)
  refine LW_iloadn 1 dX11_set_4 rfl rfl ?_
  refine LW_iconst (v := 5) dX11_set_5 (by decide) ?_
  refine LW_icmp_eq (tgt := 15) dX11_set_6 (by decide) (fun c6 => absurd c6 (by decide)) (fun c6 => ?_)
  refine LW_iloadn 1 dX11_set_9 rfl rfl ?_
  refine LW_bipush (v := 6) dX11_set_10 (by decide) ?_
  refine LW_icmp_ne (tgt := 48) dX11_set_12 (by decide) (fun c12 => absurd c12 (fun z => z rfl)) (fun c12 => ?_)
  refine LW_iloadn 2 dX11_set_15 rfl rfl ?_
  refine LW_i2l dX11_set_16 ?_
  refine LW_lconst (v := 0) dX11_set_17 (by decide) ?_
  refine LW_iloadn 1 dX11_set_18 rfl rfl ?_
  refine LW_if_ne (tgt := 28) dX11_set_19 (by decide) (fun c19 => ?_) (fun c19 => absurd (by decide) c19)
  refine LW_iloadn 1 dX11_set_28 rfl rfl ?_
  refine LW_iconst (v := 5) dX11_set_29 (by decide) ?_
  refine LW_icmp_ne (tgt := 39) dX11_set_30 (by decide) (fun c30 => ?_) (fun c30 => absurd (by decide) c30)
  refine LW_ldc2 dX11_set_39 klX11_352 ?_
  refine LW_callS (As := [.long v.toInt64, .long 0, .long 100]) (st := []) (r_isIn v.toInt64 0 100) YX11_isIn rfl dX11_set_42 mlX11_126 (by decide) ⟨Nat.le_of_ble_eq_true rfl, Nat.le_of_ble_eq_true rfl⟩ (Nat.le_of_ble_eq_true rfl) rfl (fun r42 Λc42 Ic42 Lc42 Rc42 hq42 => ?_)
  obtain ⟨rfl, rfl, rfl, rfl, rfl⟩ := hq42
  refine LW_bif_ne (tgt := 50) dX11_set_45 (by decide) (fun c45 => ?_) (fun c45 => ?_)
  · refine LW_iloadn 1 dX11_set_50 rfl rfl ?_
    refine LW_if_ne (tgt := 58) dX11_set_51 (by decide) (fun c51 => ?_) (fun c51 => absurd (by decide) c51)
    refine LW_iloadn 1 dX11_set_58 rfl rfl ?_
    refine LW_iconst (v := 5) dX11_set_59 (by decide) ?_
    refine LW_icmp_ne (tgt := 67) dX11_set_60 (by decide) (fun c60 => ?_) (fun c60 => absurd (by decide) c60)
    refine LW_iconst (v := 3) dX11_set_67 (by decide) ?_
    refine LW_istoren (ls' := [(0, .ref 217), (1, .int 6), (2, .int v), (3, .int 3)]) dX11_set_68 rfl (by decide) rfl ?_
    refine LW_aloadn 0 dX11_set_69 rfl rfl ?_
    refine gX11_0 dX11_set_70 flX11_9 (hY.lt (k := 217) (by decide)) (ly217 hY) (lf217_0 hY) ?_
    refine LW_iloadn 3 dX11_set_73 rfl rfl ?_
    refine LW_lald dX11_set_74 (hY.lt (k := 218) (by decide)) (ly218 hY) rfl (by decide) (Nat.le_of_ble_eq_true rfl) ?_
    rw [show L 218 3 = aRu (sA S) 6 from hM.n.1.2.2.2]
    refine LW_iloadn 2 dX11_set_75 rfl rfl ?_
    refine LW_i2l dX11_set_76 ?_
    refine LW_lcmp dX11_set_77 ?_
    refine LW_lif_ne (tgt := 83) dX11_set_78 (by decide) (fun c78 => ?_) (fun c78 => ?_)
    · refine LW_aloadn 0 dX11_set_83 rfl rfl ?_
      refine LW_callV (As := []) (b := 217) (st := []) (ci := 11) (r := (RX11, TX11, 44)) (r_keeps hY hW.c8 hW.c hM.n hM.w hW.2.2.2.2.1.2.2 hK) YX11_keeps rfl dX11_set_84 mlX11_319 (hY.lt (k := 217) (by decide)) (ly217 hY) ⟨rfl, rfl⟩ (by decide) ⟨Nat.le_of_ble_eq_true rfl, Nat.le_of_ble_eq_true rfl⟩ (Nat.le_of_ble_eq_true rfl) rfl (fun r84 Λc84 Ic84 Lc84 Rc84 hq84 => ?_)
      obtain ⟨rfl, rfl, rfl, hI84, hJ84, hL84, hP84, hN84⟩ := hq84
      have hkq : KQ (sA S) (sH S) (sC S) Λ I L R none Λ Ic84 Lc84 R := ⟨rfl, rfl, rfl, hI84, hJ84, hL84, hP84, hN84⟩
      refine LW_aloadn 0 dX11_set_87 rfl rfl ?_
      refine gX11_0 dX11_set_88 flX11_9 (hY.lt (k := 217) (by decide)) (ly217 hY) (lf217_0 hY) ?_
      refine LW_iloadn 3 dX11_set_91 rfl rfl ?_
      refine LW_iloadn 2 dX11_set_92 rfl rfl ?_
      refine LW_i2l dX11_set_93 ?_
      refine LW_last dX11_set_94 (hY.lt (k := 218) (by decide)) (ly218 hY) rfl (by decide) (Nat.le_of_ble_eq_true rfl) ?_
      generalize hL94 : hc_u Lc84 218 3 v.toInt64 = L94
      refine LW_iconst (v := 1) dX11_set_95 (by decide) ?_
      refine LW_zret dX11_set_96 rfl (Nat.le_of_ble_eq_true rfl) (Nat.le_of_ble_eq_true rfl) (Or.inr rfl) ?_
      have hb : qSetB S 6 v = true := by
        have c45 : (decide ((0:Int32) ≤ v) && decide (v ≤ nI 100)) = true := by rw [← lIn_i (by decide)]; exact c45
        rw [Bool.and_eq_true] at c45
        unfold qSetB
        rw [show (decide ((0:Int32) ≤ v)) = true from c45.1, show (decide (v ≤ hc_rm7 ((6 : Int32).toNatClampNeg))) = true from c45.2, decide_eq_false (show ¬ v.toInt64 = aRu (sA S) ((6 : Int32).toNatClampNeg) from fun e => c78 e.symm)]; rfl
      have hn2 : nSet S 6 v = sPut S (aSRu (sA S) 6 v.toInt64) := by unfold nSet; rw [if_pos hb]; rfl
      rw [hn2]
      exact MPost.put hW hkq (fun _ _ => rfl) (fun z _ z8 => by rw [← hL94, hc_u_row _ _ _ _ z8]) (hM.n.r6 (by rw [← hL94, hc_u_at, if_pos rfl]) (fun j hj => by rw [← hL94, hc_u_at, if_neg hj, hL84 218 (by decide)])) hM.w ⟨rfl, rfl, rfl, rfl, rfl, rfl, rfl, rfl, rfl⟩ (by rw [hb]; rfl)
    · refine LW_iconst (v := 0) dX11_set_81 (by decide) ?_
      refine LW_zret dX11_set_82 rfl (Nat.le_of_ble_eq_true rfl) (Nat.le_of_ble_eq_true rfl) (Or.inl rfl) ?_
      have hb : qSetB S 6 v = false := by
        unfold qSetB
        rw [decide_eq_true (show v.toInt64 = aRu (sA S) ((6 : Int32).toNatClampNeg) from (Classical.not_not.mp c78).symm), Bool.not_true, Bool.and_false, Bool.and_false, Bool.and_false]
      rw [show nSet S 6 v = S from if_neg (by rw [hb]; decide)]
      exact MPost.r hW (by rw [hb]; rfl)
  · refine LW_iconst (v := 0) dX11_set_48 (by decide) ?_
    refine LW_zret dX11_set_49 rfl (Nat.le_of_ble_eq_true rfl) (Nat.le_of_ble_eq_true rfl) (Or.inl rfl) ?_
    have hb : qSetB S 6 v = false := by
      have hx : (decide ((0:Int32) ≤ v) && decide (v ≤ nI 100)) = false := by rw [← lIn_i (by decide)]; exact c45
      unfold qSetB
      rw [show (decide (v ≤ hc_rm7 ((6 : Int32).toNatClampNeg))) = decide (v ≤ nI 100) from rfl, ← Bool.and_assoc (decide ((0:Int32) ≤ v)), hx, Bool.false_and, Bool.and_false]
    rw [show nSet S 6 v = S from if_neg (by rw [hb]; decide)]
    exact MPost.r hW (by rw [hb]; rfl)
set_option maxRecDepth 100000 in
theorem m_setE {Λ : hc_L} {I : hc_I} {L : hc_J} {R : hc_R} {S : HS} (hW : MW Λ I L S) {x : Int32} (v : Int32) (hx : x ≠ 0 ∧ x ≠ 5 ∧ x ≠ 6) : Run xX11_set [.ref 217, .int x, .int v] Λ I L R (MPost (some (.int (hc_b (qSetB S x v)))) (nSet S x v) Λ I L R) := by
  refine Run.of (by decide +kernel) (Nat.le_of_ble_eq_true rfl) ?_
  show LW _ _ _ [(0, .ref 217), (1, .int x), (2, .int v)] _ _ _ _ _ _
  have hM := hW.m
  have hP := hW.l
  have hY := hM.y
  refine LW_iloadn 1 dX11_set_0 rfl rfl ?_
  refine LW_if_eq (tgt := 15) dX11_set_1 (by decide) (fun c1 => absurd c1 hx.1) (fun c1 => ?_)
  refine LW_iloadn 1 dX11_set_4 rfl rfl ?_
  refine LW_iconst (v := 5) dX11_set_5 (by decide) ?_
  refine LW_icmp_eq (tgt := 15) dX11_set_6 (by decide) (fun c6 => absurd c6 hx.2.1) (fun c6 => ?_)
  refine LW_iloadn 1 dX11_set_9 rfl rfl ?_
  refine LW_bipush (v := 6) dX11_set_10 (by decide) ?_
  refine LW_icmp_ne (tgt := 48) dX11_set_12 (by decide) (fun c12 => ?_) (fun c12 => absurd hx.2.2 c12)
  refine LW_iconst (v := 0) dX11_set_48 (by decide) ?_
  refine LW_zret dX11_set_49 rfl (Nat.le_of_ble_eq_true rfl) (Nat.le_of_ble_eq_true rfl) (Or.inl rfl) ?_
  have hb : qSetB S x v = false := by
    unfold qSetB
    rw [decide_eq_false hx.1, decide_eq_false hx.2.1, decide_eq_false hx.2.2]; rfl
  rw [show nSet S x v = S from if_neg (by rw [hb]; decide)]
  exact MPost.r hW (by rw [hb]; rfl)
theorem m_set {Λ : hc_L} {I : hc_I} {L : hc_J} {R : hc_R} {S : HS} (hW : MW Λ I L S) (hK : ∀ k, k < sC S → wf (sH S k)) (x v : Int32) : Run xX11_set [.ref 217, .int x, .int v] Λ I L R (MPost (some (.int (hc_b (qSetB S x v)))) (nSet S x v) Λ I L R) := by
  by_cases k0 : x = 0
  · subst k0; exact m_set0 hW hK v
  by_cases k5 : x = 5
  · subst k5; exact m_set5 hW hK v
  by_cases k6 : x = 6
  · subst k6; exact m_set6 hW hK v
  exact m_setE hW v ⟨k0, k5, k6⟩
