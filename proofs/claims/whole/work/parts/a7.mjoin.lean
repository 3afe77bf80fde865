/-! the reference: who joins is read -/
/-- k fields of one that joins by this name -/
def Jn (A : AS) (w : Int64) (k : Nat) (A' : AS) : Prop := ∃ Fd : Nat → Nat → Nat, A' = (aM A + 1, aF A + k, aS A, aY A, aRu A, aHz A, aSo A, lpUp (aNm A) (aM A) w, lpUp (aTh A) (aM A) true, lpUp (aLv A) (aM A) false, lpUp (aYs A) (aM A) 0, Fd, aSd A, lpUp (aEt A) (aM A) false, aEr A) ∧ (∀ f, f < aF A → Fd f = aFd A f) ∧ ∀ f, aF A ≤ f → f < aF A + k → Fd f 0 = aM A
theorem Jn.s0 (A : AS) (w : Int64) : Jn A w 0 (aAddM A w) := ⟨aFd A, rfl, fun _ _ => rfl, fun f h1 h2 => absurd h2 (by omega)⟩
theorem Jn.s {A A1 : AS} {w : Int64} {k : Nat} {g : Nat → Nat} (h : Jn A w k A1) (hg : g 0 = aM A) : Jn A w (k + 1) (aAddF A1 g) := by
  obtain ⟨Fd, rfl, h1, h2⟩ := h
  refine ⟨lpUp Fd (aF A + k) g, rfl, fun f hf => ?_, fun f hf1 hf2 => ?_⟩
  · unfold lpUp; rw [if_neg (by omega)]; exact h1 f hf
  · unfold lpUp
    by_cases c : f = aF A + k
    · rw [if_pos c]; exact hg
    · rw [if_neg c]; exact h2 f hf1 (by omega)
theorem Jn.m {A A1 : AS} {w : Int64} {k : Nat} (h : Jn A w k A1) : aM A1 = aM A + 1 ∧ aF A1 = aF A + k := by
  obtain ⟨Fd, rfl, -, -⟩ := h; exact ⟨rfl, rfl⟩
theorem pFull_e {K V : Nat → Nat} {i : Nat} {e : Nat × Nat} (h : pNums K V fvQ i = some e) (hn : ¬ (K i = 2001 ∧ V i < 8)) : e = (pFull K V i, i) := by
  have hp : ¬ pNum K V i 0 7 = 0 := fun z => by
    have := pNum_0 z
    exact hn ⟨this.1, by omega⟩
  have e2 : pNums K V fvQ i = some (pNum K V i 0 7, i) := pNums_e hp
  have e3 := Option.some.inj (h.symm.trans e2)
  rw [e3]
  unfold pNum pFull
  by_cases c : K i = 2001
  · rw [if_pos c, if_pos c, if_neg (fun z => hn ⟨c, by omega⟩), if_pos (by have : ¬ V i < 8 := fun z => hn ⟨c, z⟩; omega)]
  · rw [if_neg c, if_neg c]
theorem nJoin_no (S : HS) (e : Nat × Nat) : nJoin S (.inl e) = sBad S e.1 (nI (tp (sB S) (sN S) e.2)) := rfl
set_option maxRecDepth 100000 in
theorem jn_no {Λ : hc_L} {I : hc_I} {L : hc_J} {R : hc_R} {S : HS} (hW : MW Λ I L S) {I1 : hc_I} {L1 : hc_J} {e0 : Nat × Nat} (hF : TF I L (sN S) (sB S) Λ I1 L1 e0) (a b d : Int32) (c : Int64) : LW xX11_join (0, 0) 91 [(0, .ref 217), (1, .int a), (2, .int b), (3, .long c), (5, .int d)] [] Λ I1 L1 R (MPost (some (.int (qJoin (.inl e0)))) (nJoin S (.inl e0)) Λ I L R) := by
  have hY := hF.1
  refine LW_aloadn 0 dX11_join_91 rfl rfl ?_
  refine gX11_23 dX11_join_92 flX11_161 (hY.lt (k := 217) (by decide)) (ly217 hY) ?_
  rw [show I1 217 23 = nI e0.1 from hF.2.2.1.1]
  refine LW_if_ne (tgt := 176) dX11_join_95 (by decide) (fun c95 => ?_) (fun c95 => absurd (fun e => absurd ((hc_eq (a := e0.1) (b := 0) (by have := hF.2.2.1.2.2; omega) (by decide)).mp e) (by have := hF.2.2.1.2.1; omega)) c95)
  refine LW_aloadn 0 dX11_join_176 rfl rfl ?_
  refine LW_callV (As := []) (b := 217) (st := []) (ci := 11) (r := (RX11, TX11, 44)) (r_isRead hY) YX11_isRead rfl dX11_join_177 mlX11_279 (hY.lt (k := 217) (by decide)) (ly217 hY) ⟨rfl, rfl⟩ (by decide) ⟨Nat.le_of_ble_eq_true rfl, Nat.le_of_ble_eq_true rfl⟩ (Nat.le_of_ble_eq_true rfl) rfl (fun r177 Λc177 Ic177 Lc177 Rc177 hq177 => ?_)
  obtain ⟨rfl, rfl, rfl, rfl, hz177, hs177⟩ := hq177
  rw [show decide (I1 217 23 = 0) = false from decide_eq_false (by rw [hF.2.2.1.1]; exact (fun e => absurd ((hc_eq (a := e0.1) (b := 0) (by have := hF.2.2.1.2.2; omega) (by decide)).mp e) (by have := hF.2.2.1.2.1; omega)))]
  refine LW_bif_ne (tgt := 185) dX11_join_180 (by decide) (fun c180 => absurd (c180.symm.trans rfl) (by decide)) (fun c180 => ?_)
  refine LW_iconst (v := -1) dX11_join_183 (by decide) ?_
  refine LW_iret dX11_join_184 rfl (Nat.le_of_ble_eq_true rfl) (Nat.le_of_ble_eq_true rfl) ?_
  refine ⟨rfl, rfl, rfl, fun z hz => ?_, fun z hz => ?_, hW.bad hF hz177 hs177⟩
  · rw [hz177 z (mj_z hz).2.2]; exact hF.2.1.1 z (mj_z hz).1
  · exact hF.2.1.2.2.1 z (mj_z hz).2.1
set_option maxRecDepth 100000 in
theorem jn_mloop {Λ : hc_L} {I : hc_I} {L : hc_J} {R : hc_R} {S : HS} (hW : MW Λ I L S) {P : LwP} {x : Rs} (h12 : aM (sA S) < 12) (hyes : ∀ i k A1 (I1 : hc_I) (L1 : hc_J), TK I L (sN S) (sB S) Λ I1 L1 i → Jn (sA S) (lN (vl (sB S) (sN S) 0)) k A1 → aF (sA S) + k ≤ 24 → (∀ j, j < k → ∀ a, a < 6 → I1 221 (6 * (24 + j) + a) = nI (aFd A1 (aF (sA S) + j) a)) → x = .inr (i, A1, P) → LW xX11_join (0, 0) 176 [(0, .ref 217), (1, .int (nI (aM (sA S)))), (2, .int (nI (aF (sA S)))), (3, .long (lN (vl (sB S) (sN S) 0))), (5, .int (nI k))] [] Λ I1 L1 R (MPost (some (.int (qJoin x))) (nJoin S x) Λ I L R)) : ∀ f k i A1 (I1 : hc_I) (L1 : hc_J), TK I L (sN S) (sB S) Λ I1 L1 i → Jn (sA S) (lN (vl (sB S) (sN S) 0)) k A1 → aF (sA S) + k ≤ 24 → (∀ j, j < k → ∀ a, a < 6 → I1 221 (6 * (24 + j) + a) = nI (aFd A1 (aF (sA S) + j) a)) → pJl (kd (sB S) (sN S)) (vl (sB S) (sN S)) f i A1 P = some x → LW xX11_join (0, 0) 91 [(0, .ref 217), (1, .int (nI (aM (sA S)))), (2, .int (nI (aF (sA S)))), (3, .long (lN (vl (sB S) (sN S) 0))), (5, .int (nI k))] [] Λ I1 L1 R (MPost (some (.int (qJoin x))) (nJoin S x) Λ I L R) := by
  intro f
  induction f with
  | zero =>
    intro k i A1 I1 L1 hT hJ hk hr hx
    cases hx
  | succ f ih =>
    intro k i A1 I1 L1 hT hJ hk hr hx
    have hY := hT.y
    obtain ⟨hJm, hJf⟩ := hJ.m
    have hl3 := srt_le (sB S) (sN S) (tp (sB S) (sN S) i)
    have hE := tkE_le (B := sB S) hT.q
    have h7 := hT.n7
    rw [pJl] at hx
    refine LW_aloadn 0 dX11_join_91 rfl rfl ?_
    refine gX11_23 dX11_join_92 flX11_161 (hY.lt (k := 217) (by decide)) (ly217 hY) ?_
    rw [show I1 217 23 = 0 from hT.2.2.2.2.1]
    refine LW_if_ne (tgt := 176) dX11_join_95 (by decide) (fun c95 => absurd c95 (by decide)) (fun c95 => ?_)
    refine LW_aloadn 0 dX11_join_98 rfl rfl ?_
    refine gX11_25 dX11_join_99 flX11_150 (hY.lt (k := 217) (by decide)) (ly217 hY) ?_
    rw [show I1 217 25 = nI (srt (sB S) (sN S) (tp (sB S) (sN S) i)) from hT.srt]
    refine LW_if_eq (tgt := 176) dX11_join_102 (by decide) (fun c102 => ?_) (fun c102 => ?_)
    · have hK : kd (sB S) (sN S) i = 2003 := (kd_0 hT.b).mpr ((hc_eq (a := srt (sB S) (sN S) (tp (sB S) (sN S) i)) (b := 0) (by omega) (by decide)).mp c102)
      rw [if_pos hK] at hx
      exact hyes i k A1 I1 L1 hT hJ hk hr (Option.some.inj hx).symm
    · have hK : ¬ kd (sB S) (sN S) i = 2003 := fun z => c102 (by rw [(kd_0 hT.b).mp z]; rfl)
      rw [if_neg hK] at hx
      have f154 : (aF (sA S) + k ≠ 24 ∨ ¬ (kd (sB S) (sN S) i = 2001 ∧ vl (sB S) (sN S) i < 8)) → LW xX11_join (0, 0) 154 [(0, .ref 217), (1, .int (nI (aM (sA S)))), (2, .int (nI (aF (sA S)))), (3, .long (lN (vl (sB S) (sN S) 0))), (5, .int (nI k))] [] Λ I1 L1 R (MPost (some (.int (qJoin x))) (nJoin S x) Λ I L R) := by
        intro h154
        refine LW_aloadn 0 dX11_join_154 rfl rfl ?_
        refine LW_bipush (v := 6) dX11_join_155 (by decide) ?_
        refine LW_bipush (v := 24) dX11_join_157 (by decide) ?_
        refine LW_iload 4 dX11_join_159 rfl ?_
        refine LW_iadd dX11_join_161 ?_
        rw [show (24 + (nI k)) = nI (24 + k) from (nI_add 24 _)]
        refine LW_imul dX11_join_162 ?_
        rw [show (6 * (nI (24 + k))) = nI (6 * (24 + k)) from (nI_mul 6 _)]
        refine LW_iloadn 1 dX11_join_163 rfl rfl ?_
        refine LW_callV (As := [.int (nI (6 * (24 + k))), .int (nI (aM (sA S)))]) (b := 217) (st := []) (ci := 11) (r := (RX11, TX11, 44)) (r_five hT (a := 6 * (24 + k)) (m := aM (sA S)) (by omega) (by omega)) YX11_readFive rfl dX11_join_164 mlX11_254 (hY.lt (k := 217) (by decide)) (ly217 hY) ⟨rfl, rfl⟩ (by decide) ⟨Nat.le_of_ble_eq_true rfl, Nat.le_of_ble_eq_true rfl⟩ (Nat.le_of_ble_eq_true rfl) rfl (fun r164 Λc164 Ic164 Lc164 Rc164 hq164 => ?_)
        obtain ⟨b164, rfl, rfl, rfl, hv164, ht164, hf164⟩ := hq164
        refine LW_bif_eq (tgt := 91) dX11_join_167 (by decide) (fun c167 => ?_) (fun c167 => ?_)
        · obtain ⟨e, he, hF⟩ := hf164 c167
          have hxe : x = .inl e := by
            by_cases h4 : aF A1 < 24
            · rw [if_pos h4] at hx
              have hl : pLand (kd (sB S) (sN S)) (vl (sB S) (sN S)) (aM A1 - 1) i A1 P = .inl e := by unfold pLand pDo; rw [he]
              rw [hl] at hx
              exact (Option.some.inj hx).symm
            · rw [if_neg h4] at hx
              rw [← Option.some.inj hx, pFull_e he (h154.resolve_left (fun z => h4 (by omega)))]
          rw [hxe]
          exact jn_no hW hF _ _ _ _
        · refine LW_iinc (n := 4) (v := nI (k + 1)) (ls' := [(0, .ref 217), (1, .int (nI (aM (sA S)))), (2, .int (nI (aF (sA S)))), (3, .long (lN (vl (sB S) (sN S) 0))), (5, .int (nI (k + 1)))]) dX11_join_170 rfl (hc_inc _) (by decide) rfl ?_
          refine LW_goto (tgt := 91) dX11_join_173 (by decide) ?_
          obtain ⟨he, hT2, hrow⟩ := ht164 c167
          have h4 : aF A1 < 24 := by
            rcases Nat.lt_or_ge (aF A1) 24 with z | z
            · exact z
            · exfalso
              have hn := h154.resolve_left (fun y => y (by omega))
              have hp0 : pNum (kd (sB S) (sN S)) (vl (sB S) (sN S)) i 0 7 = 0 := by
                by_cases c : pNum (kd (sB S) (sN S)) (vl (sB S) (sN S)) i 0 7 = 0
                · exact c
                · rw [show pNums (kd (sB S) (sN S)) (vl (sB S) (sN S)) fvQ i = some (pNum (kd (sB S) (sN S)) (vl (sB S) (sN S)) i 0 7, i) from pNums_e c] at he; cases he
              have := pNum_0 hp0
              exact hn ⟨this.1, by omega⟩
          rw [if_pos h4] at hx
          have hl : pLand (kd (sB S) (sN S)) (vl (sB S) (sN S)) (aM A1 - 1) i A1 P = .inr (i + 5, aAddF A1 (fdRow (vl (sB S) (sN S)) (aM (sA S)) i), P) := by unfold pLand pDo; rw [he, show aM A1 - 1 = aM (sA S) by omega]; rfl
          rw [hl] at hx
          refine ih (k + 1) (i + 5) _ Ic164 Lc164 hT2 (hJ.s rfl) (by omega) (fun j hj a ha => ?_) hx
          show _ = nI (lpUp (aFd A1) (aF A1) (fdRow (vl (sB S) (sN S)) (aM (sA S)) i) (aF (sA S) + j) a)
          unfold lpUp
          by_cases c : j = k
          · rw [if_pos (by omega), c]; exact hrow a ha
          · rw [if_neg (by omega), hv164.2.2.1 _ (by omega)]; exact hr j (by omega) a ha
      refine LW_aloadn 0 dX11_join_105 rfl rfl ?_
      refine gX11_25 dX11_join_106 flX11_150 (hY.lt (k := 217) (by decide)) (ly217 hY) ?_
      rw [show I1 217 25 = nI (srt (sB S) (sN S) (tp (sB S) (sN S) i)) from hT.srt]
      refine LW_iconst (v := 2) dX11_join_109 (by decide) ?_
      refine LW_icmp_ne (tgt := 154) dX11_join_110 (by decide) (fun c110 => ?_) (fun c110 => ?_)
      · exact f154 (by
          first
            | exact Or.inl (fun z => c142 (by rw [z]; rfl))
            | exact Or.inr (fun z => (hc_nlt (a := vl (sB S) (sN S) i) (b := 8) (by omega) (by decide) ((hc_le (a := 8) (b := vl (sB S) (sN S) i) (by decide) (by omega)).mp c133)) ((hc_lt (by omega) (by decide)).mpr z.2))
            | exact Or.inr (fun z => (Int32.not_lt.mpr ((hc_le (a := tkE (sB S) (sN S) (tp (sB S) (sN S) i) - tp (sB S) (sN S) i) (b := 8) (by omega) (by decide)).mpr ((kd_2 hT.b).mp z.1).2)) c124)
            | exact Or.inr (fun z => c110 (by rw [((kd_2 hT.b).mp z.1).1]; rfl)))
      · refine LW_aloadn 0 dX11_join_113 rfl rfl ?_
        refine gX11_27 dX11_join_114 flX11_130 (hY.lt (k := 217) (by decide)) (ly217 hY) ?_
        rw [show I1 217 27 = nI (tkE (sB S) (sN S) (tp (sB S) (sN S) i)) from hT.x.2.1]
        refine LW_aloadn 0 dX11_join_117 rfl rfl ?_
        refine gX11_26 dX11_join_118 flX11_137 (hY.lt (k := 217) (by decide)) (ly217 hY) ?_
        rw [show I1 217 26 = nI (tp (sB S) (sN S) i) from hT.x.1]
        refine LW_isub dX11_join_121 ?_
        rw [show ((nI (tkE (sB S) (sN S) (tp (sB S) (sN S) i))) - (nI (tp (sB S) (sN S) i))) = nI (tkE (sB S) (sN S) (tp (sB S) (sN S) i) - tp (sB S) (sN S) i) from hT.len]
        refine LW_bipush (v := 8) dX11_join_122 (by decide) ?_
        refine LW_icmp_gt (tgt := 154) dX11_join_124 (by decide) (fun c124 => ?_) (fun c124 => ?_)
        · exact f154 (by
            first
              | exact Or.inl (fun z => c142 (by rw [z]; rfl))
              | exact Or.inr (fun z => (hc_nlt (a := vl (sB S) (sN S) i) (b := 8) (by omega) (by decide) ((hc_le (a := 8) (b := vl (sB S) (sN S) i) (by decide) (by omega)).mp c133)) ((hc_lt (by omega) (by decide)).mpr z.2))
              | exact Or.inr (fun z => (Int32.not_lt.mpr ((hc_le (a := tkE (sB S) (sN S) (tp (sB S) (sN S) i) - tp (sB S) (sN S) i) (b := 8) (by omega) (by decide)).mpr ((kd_2 hT.b).mp z.1).2)) c124)
              | exact Or.inr (fun z => c110 (by rw [((kd_2 hT.b).mp z.1).1]; rfl)))
        · have hk1 : kd (sB S) (sN S) i = 2001 := (kd_2 hT.b).mpr ⟨(hc_eq (a := srt (sB S) (sN S) (tp (sB S) (sN S) i)) (b := 2) (by omega) (by decide)).mp (Classical.not_not.mp c110), (hc_le (a := tkE (sB S) (sN S) (tp (sB S) (sN S) i) - tp (sB S) (sN S) i) (b := 8) (by omega) (by decide)).mp (Int32.not_lt.mp c124)⟩
          have hv8 := vl_n hT.b hk1
          refine LW_aloadn 0 dX11_join_127 rfl rfl ?_
          refine gX11_29 dX11_join_128 flX11_144 (hY.lt (k := 217) (by decide)) (ly217 hY) ?_
          rw [show I1 217 29 = nI (vl (sB S) (sN S) i) from (hT.num hk1)]
          refine LW_bipush (v := 8) dX11_join_131 (by decide) ?_
          refine LW_icmp_ge (tgt := 154) dX11_join_133 (by decide) (fun c133 => ?_) (fun c133 => ?_)
          · exact f154 (by
              first
                | exact Or.inl (fun z => c142 (by rw [z]; rfl))
                | exact Or.inr (fun z => (hc_nlt (a := vl (sB S) (sN S) i) (b := 8) (by omega) (by decide) ((hc_le (a := 8) (b := vl (sB S) (sN S) i) (by decide) (by omega)).mp c133)) ((hc_lt (by omega) (by decide)).mpr z.2))
                | exact Or.inr (fun z => (Int32.not_lt.mpr ((hc_le (a := tkE (sB S) (sN S) (tp (sB S) (sN S) i) - tp (sB S) (sN S) i) (b := 8) (by omega) (by decide)).mpr ((kd_2 hT.b).mp z.1).2)) c124)
                | exact Or.inr (fun z => c110 (by rw [((kd_2 hT.b).mp z.1).1]; rfl)))
          · refine LW_iloadn 2 dX11_join_136 rfl rfl ?_
            refine LW_iload 4 dX11_join_137 rfl ?_
            refine LW_iadd dX11_join_139 ?_
            rw [show ((nI (aF (sA S))) + (nI k)) = nI (aF (sA S) + k) from (nI_add _ _)]
            refine LW_bipush (v := 24) dX11_join_140 (by decide) ?_
            refine LW_icmp_ne (tgt := 154) dX11_join_142 (by decide) (fun c142 => ?_) (fun c142 => ?_)
            · exact f154 (by
                first
                  | exact Or.inl (fun z => c142 (by rw [z]; rfl))
                  | exact Or.inr (fun z => (hc_nlt (a := vl (sB S) (sN S) i) (b := 8) (by omega) (by decide) ((hc_le (a := 8) (b := vl (sB S) (sN S) i) (by decide) (by omega)).mp c133)) ((hc_lt (by omega) (by decide)).mpr z.2))
                  | exact Or.inr (fun z => (Int32.not_lt.mpr ((hc_le (a := tkE (sB S) (sN S) (tp (sB S) (sN S) i) - tp (sB S) (sN S) i) (b := 8) (by omega) (by decide)).mpr ((kd_2 hT.b).mp z.1).2)) c124)
                  | exact Or.inr (fun z => c110 (by rw [((kd_2 hT.b).mp z.1).1]; rfl)))
            · refine LW_aloadn 0 dX11_join_145 rfl rfl ?_
              refine LW_iconst (v := 5) dX11_join_146 (by decide) ?_
              refine LW_callV (As := [.int 5]) (b := 217) (st := []) (ci := 11) (r := (RX11, TX11, 44)) (r_fl hT (c := 5) (by decide) (by decide)) YX11_fails rfl dX11_join_147 mlX11_231 (hY.lt (k := 217) (by decide)) (ly217 hY) ⟨rfl, rfl⟩ (by decide) ⟨Nat.le_of_ble_eq_true rfl, Nat.le_of_ble_eq_true rfl⟩ (Nat.le_of_ble_eq_true rfl) rfl (fun r147 Λc147 Ic147 Lc147 Rc147 hq147 => ?_)
              obtain ⟨rfl, rfl, rfl, hl147, hF⟩ := hq147
              refine LW_pop dX11_join_150 rfl ?_
              refine LW_goto (tgt := 91) dX11_join_151 (by decide) ?_
              have hxe : x = .inl (5, i) := by
                have h4 : ¬ aF A1 < 24 := by have := (hc_eq (a := aF (sA S) + k) (b := 24) (by omega) (by decide)).mp (Classical.not_not.mp c142); omega
                rw [if_neg h4] at hx
                rw [← Option.some.inj hx]
                unfold pFull
                rw [if_pos hk1, if_neg (by have := (hc_le (a := 8) (b := vl (sB S) (sN S) i) (by decide) (by omega)).mpr; exact fun z => c133 (this z))]
              rw [hxe]
              exact jn_no hW hF _ _ _ _
set_option maxRecDepth 100000 in
theorem m_join0 {Λ : hc_L} {I : hc_I} {L : hc_J} {R : hc_R} {S : HS} (hW : MW Λ I L S) {P : LwP} {x : Rs} (hx : jnR S P = some x) (hyes : aM (sA S) < 12 → ∀ i k A1 (I1 : hc_I) (L1 : hc_J), TK I L (sN S) (sB S) Λ I1 L1 i → Jn (sA S) (lN (vl (sB S) (sN S) 0)) k A1 → aF (sA S) + k ≤ 24 → (∀ j, j < k → ∀ a, a < 6 → I1 221 (6 * (24 + j) + a) = nI (aFd A1 (aF (sA S) + j) a)) → x = .inr (i, A1, P) → LW xX11_join (0, 0) 176 [(0, .ref 217), (1, .int (nI (aM (sA S)))), (2, .int (nI (aF (sA S)))), (3, .long (lN (vl (sB S) (sN S) 0))), (5, .int (nI k))] [] Λ I1 L1 R (MPost (some (.int (qJoin x))) (nJoin S x) Λ I L R)) : Run xX11_join [.ref 217] Λ I L R (MPost (some (.int (qJoin x))) (nJoin S x) Λ I L R) := by
  refine Run.of (by decide +kernel) (Nat.le_of_ble_eq_true rfl) ?_
  show LW _ _ _ [(0, .ref 217)] _ _ _ _ _ _
  have hY := hW.m.y
  have hM := hW.m
  have hm12 := hM.w.m
  have hf24 := hM.w.f
  refine LW_aloadn 0 dX11_join_0 rfl rfl ?_
  refine gX11_0 dX11_join_1 flX11_9 (hY.lt (k := 217) (by decide)) (ly217 hY) (lf217_0 hY) ?_
  refine LW_iconst (v := 5) dX11_join_4 (by decide) ?_
  refine LW_lald dX11_join_5 (hY.lt (k := 218) (by decide)) (ly218 hY) rfl (by decide) (Nat.le_of_ble_eq_true rfl) ?_
  rw [show L 218 5 = lN (aM (sA S)) from hM.nM]
  refine LW_l2i dX11_join_6 ?_
  rw [show (lN (aM (sA S))).toInt32 = nI (aM (sA S)) from (lN_i _)]
  refine LW_istoren (ls' := [(0, .ref 217), (1, .int (nI (aM (sA S))))]) dX11_join_7 rfl (by decide) rfl ?_
  refine LW_aloadn 0 dX11_join_8 rfl rfl ?_
  refine gX11_0 dX11_join_9 flX11_9 (hY.lt (k := 217) (by decide)) (ly217 hY) (lf217_0 hY) ?_
  refine LW_bipush (v := 6) dX11_join_12 (by decide) ?_
  refine LW_lald dX11_join_14 (hY.lt (k := 218) (by decide)) (ly218 hY) rfl (by decide) (Nat.le_of_ble_eq_true rfl) ?_
  rw [show L 218 6 = lN (aF (sA S)) from hM.nF]
  refine LW_l2i dX11_join_15 ?_
  rw [show (lN (aF (sA S))).toInt32 = nI (aF (sA S)) from (lN_i _)]
  refine LW_istoren (ls' := [(0, .ref 217), (1, .int (nI (aM (sA S)))), (2, .int (nI (aF (sA S))))]) dX11_join_16 rfl (by decide) rfl ?_
  refine LW_aloadn 0 dX11_join_17 rfl rfl ?_
  refine LW_callV (As := []) (b := 217) (st := []) (ci := 11) (r := (RX11, TX11, 44)) (r_begins (I0 := I) (L0 := L) (n := sN S) (B := sB S) hY RFr.rf hW.2.2.2.2.2.1) YX11_begins rfl dX11_join_18 mlX11_270 (hY.lt (k := 217) (by decide)) (ly217 hY) ⟨rfl, rfl⟩ (by decide) ⟨Nat.le_of_ble_eq_true rfl, Nat.le_of_ble_eq_true rfl⟩ (Nat.le_of_ble_eq_true rfl) rfl (fun r18 Λc18 Ic18 Lc18 Rc18 hq18 => ?_)
  obtain ⟨rfl, rfl, rfl, hl18, hT⟩ := hq18
  refine LW_aloadn 0 dX11_join_21 rfl rfl ?_
  refine gX11_28 dX11_join_22 flX11_140 (hY.lt (k := 217) (by decide)) (ly217 hY) ?_
  refine LW_lstoren (ls' := [(0, .ref 217), (1, .int (nI (aM (sA S)))), (2, .int (nI (aF (sA S)))), (3, .long (Lc18 217 28))]) dX11_join_25 rfl (by decide) rfl ?_
  refine LW_aloadn 0 dX11_join_26 rfl rfl ?_
  refine LW_callV (As := []) (b := 217) (st := []) (ci := 11) (r := (RX11, TX11, 44)) (r_isName hT) YX11_isName rfl dX11_join_27 mlX11_243 (hY.lt (k := 217) (by decide)) (ly217 hY) ⟨rfl, rfl⟩ (by decide) ⟨Nat.le_of_ble_eq_true rfl, Nat.le_of_ble_eq_true rfl⟩ (Nat.le_of_ble_eq_true rfl) rfl (fun r27 Λc27 Ic27 Lc27 Rc27 hq27 => ?_)
  obtain ⟨rfl, rfl, rfl, rfl, rfl⟩ := hq27
  refine LW_bif_ne (tgt := 42) dX11_join_30 (by decide) (fun c30 => ?_) (fun c30 => ?_)
  · have hk := of_decide_eq_true c30
    rw [hT.wd hk]
    refine LW_aloadn 0 dX11_join_42 rfl rfl ?_
    refine LW_aloadn 0 dX11_join_43 rfl rfl ?_
    refine gX11_28 dX11_join_44 flX11_140 (hY.lt (k := 217) (by decide)) (ly217 hY) ?_
    rw [show Lc18 217 28 = lN (vl (sB S) (sN S) 0) from (hT.wd hk)]
    refine LW_iconst (v := 0) dX11_join_47 (by decide) ?_
    refine LW_iloadn 1 dX11_join_48 rfl rfl ?_
    refine LW_callV (As := [.long (lN (vl (sB S) (sN S) 0)), .int 0, .int (nI (aM (sA S)))]) (b := 217) (st := []) (ci := 11) (r := (RX11, TX11, 44)) (r_placeOf hY (lN (vl (sB S) (sN S) 0)) (a := 0) (c := aM (sA S)) (by omega)) YX11_placeOf rfl dX11_join_49 mlX11_246 (hY.lt (k := 217) (by decide)) (ly217 hY) ⟨rfl, rfl⟩ (by decide) ⟨Nat.le_of_ble_eq_true rfl, Nat.le_of_ble_eq_true rfl⟩ (Nat.le_of_ble_eq_true rfl) rfl (fun r49 Λc49 Ic49 Lc49 Rc49 hq49 => ?_)
    obtain ⟨rfl, rfl, rfl, rfl, rfl⟩ := hq49
    rw [hW.nmd (hl18.2.2 220 (by decide)) (lN (vl (sB S) (sN S) 0))]
    refine LW_iconst (v := -1) dX11_join_52 (by decide) ?_
    refine LW_icmp_eq (tgt := 65) dX11_join_53 (by decide) (fun c53 => ?_) (fun c53 => ?_)
    · refine LW_iloadn 1 dX11_join_65 rfl rfl ?_
      refine LW_bipush (v := 12) dX11_join_66 (by decide) ?_
      refine LW_icmp_ne (tgt := 77) dX11_join_68 (by decide) (fun c68 => ?_) (fun c68 => ?_)
      · have hM : aM (sA S) < 12 := Nat.lt_of_le_of_ne hm12 (fun e => c68 (by rw [e]; rfl))
        refine LW_iconst (v := 0) dX11_join_77 (by decide) ?_
        refine LW_istore (ls' := [(0, .ref 217), (1, .int (nI (aM (sA S)))), (2, .int (nI (aF (sA S)))), (3, .long (lN (vl (sB S) (sN S) 0))), (5, .int 0)]) dX11_join_78 (by decide) rfl ?_
        refine LW_aloadn 0 dX11_join_80 rfl rfl ?_
        refine gX11_23 dX11_join_81 flX11_161 (hY.lt (k := 217) (by decide)) (ly217 hY) ?_
        rw [show Ic18 217 23 = 0 from hT.2.2.2.2.1]
        refine LW_if_ne (tgt := 91) dX11_join_84 (by decide) (fun c84 => absurd c84 (by decide)) (fun c84 => ?_)
        refine LW_aloadn 0 dX11_join_87 rfl rfl ?_
        refine LW_callV (As := []) (b := 217) (st := []) (ci := 11) (r := (RX11, TX11, 44)) (r_nx hT) YX11_next rfl dX11_join_88 mlX11_234 (hY.lt (k := 217) (by decide)) (ly217 hY) ⟨rfl, rfl⟩ (by decide) ⟨Nat.le_of_ble_eq_true rfl, Nat.le_of_ble_eq_true rfl⟩ (Nat.le_of_ble_eq_true rfl) rfl (fun r88 Λc88 Ic88 Lc88 Rc88 hq88 => ?_)
        obtain ⟨rfl, rfl, rfl, hl88, hT, hr88⟩ := hq88
        have hxe : pJl (kd (sB S) (sN S)) (vl (sB S) (sN S)) 25 1 (aAddM (sA S) (lN (vl (sB S) (sN S) 0))) P = some x := by
          unfold jnR pJn at hx
          rw [show pName (kd (sB S) (sN S)) (vl (sB S) (sN S)) 0 (sA S) P = .inr (0 + 1, aAddM (sA S) (lN (vl (sB S) (sN S) 0)), P) by unfold pName; rw [if_pos hk, if_pos c53, if_pos hM]] at hx
          exact hx
        exact jn_mloop hW hM (hyes hM) 25 0 1 _ Ic88 Lc88 hT (Jn.s0 _ _) (by omega) (fun j hj => absurd hj (Nat.not_lt_zero j)) hxe
      · have hM : ¬ aM (sA S) < 12 := fun z => absurd ((hc_eq (a := aM (sA S)) (b := 12) (by omega) (by decide)).mp (Classical.not_not.mp c68)) (by omega)
        refine LW_aloadn 0 dX11_join_71 rfl rfl ?_
        refine LW_iconst (v := 5) dX11_join_72 (by decide) ?_
        refine LW_callV (As := [.int 5]) (b := 217) (st := []) (ci := 11) (r := (RX11, TX11, 44)) (r_fl hT (c := 5) (by decide) (by decide)) YX11_fails rfl dX11_join_73 mlX11_231 (hY.lt (k := 217) (by decide)) (ly217 hY) ⟨rfl, rfl⟩ (by decide) ⟨Nat.le_of_ble_eq_true rfl, Nat.le_of_ble_eq_true rfl⟩ (Nat.le_of_ble_eq_true rfl) rfl (fun r73 Λc73 Ic73 Lc73 Rc73 hq73 => ?_)
        obtain ⟨rfl, rfl, rfl, hl73, hF⟩ := hq73
        refine LW_pop dX11_join_76 rfl ?_
        refine LW_iconst (v := 0) dX11_join_77 (by decide) ?_
        refine LW_istore (ls' := [(0, .ref 217), (1, .int (nI (aM (sA S)))), (2, .int (nI (aF (sA S)))), (3, .long (lN (vl (sB S) (sN S) 0))), (5, .int 0)]) dX11_join_78 (by decide) rfl ?_
        refine LW_aloadn 0 dX11_join_80 rfl rfl ?_
        refine gX11_23 dX11_join_81 flX11_161 (hY.lt (k := 217) (by decide)) (ly217 hY) ?_
        rw [show Ic73 217 23 = 5 from hF.2.2.1.1]
        refine LW_if_ne (tgt := 91) dX11_join_84 (by decide) (fun c84 => ?_) (fun c84 => absurd (by decide) c84)
        have hxe : x = .inl (5, 0) := by
          unfold jnR pJn at hx
          rw [show pName (kd (sB S) (sN S)) (vl (sB S) (sN S)) 0 (sA S) P = .inl (5, 0) by unfold pName; rw [if_pos hk, if_pos c53, if_neg hM]] at hx
          exact (Option.some.inj hx).symm
        rw [hxe]
        exact jn_no hW hF _ _ _ _
    · refine LW_aloadn 0 dX11_join_56 rfl rfl ?_
      refine LW_iconst (v := 2) dX11_join_57 (by decide) ?_
      refine LW_callV (As := [.int 2]) (b := 217) (st := []) (ci := 11) (r := (RX11, TX11, 44)) (r_fl hT (c := 2) (by decide) (by decide)) YX11_fails rfl dX11_join_58 mlX11_231 (hY.lt (k := 217) (by decide)) (ly217 hY) ⟨rfl, rfl⟩ (by decide) ⟨Nat.le_of_ble_eq_true rfl, Nat.le_of_ble_eq_true rfl⟩ (Nat.le_of_ble_eq_true rfl) rfl (fun r58 Λc58 Ic58 Lc58 Rc58 hq58 => ?_)
      obtain ⟨rfl, rfl, rfl, hl58, hF⟩ := hq58
      refine LW_pop dX11_join_61 rfl ?_
      refine LW_goto (tgt := 77) dX11_join_62 (by decide) ?_
      refine LW_iconst (v := 0) dX11_join_77 (by decide) ?_
      refine LW_istore (ls' := [(0, .ref 217), (1, .int (nI (aM (sA S)))), (2, .int (nI (aF (sA S)))), (3, .long (lN (vl (sB S) (sN S) 0))), (5, .int 0)]) dX11_join_78 (by decide) rfl ?_
      refine LW_aloadn 0 dX11_join_80 rfl rfl ?_
      refine gX11_23 dX11_join_81 flX11_161 (hY.lt (k := 217) (by decide)) (ly217 hY) ?_
      rw [show Ic58 217 23 = 2 from hF.2.2.1.1]
      refine LW_if_ne (tgt := 91) dX11_join_84 (by decide) (fun c84 => ?_) (fun c84 => absurd (by decide) c84)
      have hxe : x = .inl (2, 0) := by
        unfold jnR pJn at hx
        rw [show pName (kd (sB S) (sN S)) (vl (sB S) (sN S)) 0 (sA S) P = .inl (2, 0) by unfold pName; rw [if_pos hk, if_neg c53]] at hx
        exact (Option.some.inj hx).symm
      rw [hxe]
      exact jn_no hW hF _ _ _ _
  · have hk := of_decide_eq_false c30
    refine LW_aloadn 0 dX11_join_33 rfl rfl ?_
    refine LW_iconst (v := 1) dX11_join_34 (by decide) ?_
    refine LW_callV (As := [.int 1]) (b := 217) (st := []) (ci := 11) (r := (RX11, TX11, 44)) (r_fl hT (c := 1) (by decide) (by decide)) YX11_fails rfl dX11_join_35 mlX11_231 (hY.lt (k := 217) (by decide)) (ly217 hY) ⟨rfl, rfl⟩ (by decide) ⟨Nat.le_of_ble_eq_true rfl, Nat.le_of_ble_eq_true rfl⟩ (Nat.le_of_ble_eq_true rfl) rfl (fun r35 Λc35 Ic35 Lc35 Rc35 hq35 => ?_)
    obtain ⟨rfl, rfl, rfl, hl35, hF⟩ := hq35
    refine LW_pop dX11_join_38 rfl ?_
    refine LW_goto (tgt := 77) dX11_join_39 (by decide) ?_
    refine LW_iconst (v := 0) dX11_join_77 (by decide) ?_
    refine LW_istore (ls' := [(0, .ref 217), (1, .int (nI (aM (sA S)))), (2, .int (nI (aF (sA S)))), (3, .long (Lc18 217 28)), (5, .int 0)]) dX11_join_78 (by decide) rfl ?_
    refine LW_aloadn 0 dX11_join_80 rfl rfl ?_
    refine gX11_23 dX11_join_81 flX11_161 (hY.lt (k := 217) (by decide)) (ly217 hY) ?_
    rw [show Ic35 217 23 = 1 from hF.2.2.1.1]
    refine LW_if_ne (tgt := 91) dX11_join_84 (by decide) (fun c84 => ?_) (fun c84 => absurd (by decide) c84)
    have hxe : x = .inl (1, 0) := by
      unfold jnR pJn at hx
      rw [show pName (kd (sB S) (sN S)) (vl (sB S) (sN S)) 0 (sA S) P = .inl (1, 0) by unfold pName; rw [if_neg hk]] at hx
      exact (Option.some.inj hx).symm
    rw [hxe]
    exact jn_no hW hF _ _ _ _
