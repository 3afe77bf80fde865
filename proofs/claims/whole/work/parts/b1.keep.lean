/-! the club's invariants, kept by every call -/
def rzM (A : AS) : Nat := 99999999 + 9999999 * aM A
/-- bounds of the rules, names, the latest END, who leaves is there; years by the number of calls -/
def Gd (c : Nat) (A : AS) : Prop := (∀ j, j < 7 → bd (if j = 1 then rzM A else rmN j) (aRu A j)) ∧ (∀ m, m < aM A → aNm A m ≠ 0) ∧ (∀ m, aM A ≤ m → m < 12 → aEt A m = false) ∧ (∀ m, m < aM A → aLv A m = true → aTh A m = true) ∧ aY A ≤ c ∧ ∀ m, m < aM A → aYs A m ≤ c
theorem Gd.rb {c : Nat} {A : AS} (h : Gd c A) (hA : wf A) : RB A := fun j hj => by
  have g := h.1 j hj
  have hm := hA.m
  unfold rbM
  by_cases e : j = 1
  · rw [if_pos e] at g ⊢; exact g.le (by unfold rzM; omega)
  · rw [if_neg e] at g ⊢; exact g
theorem Gd.mono {c d : Nat} {A : AS} (h : Gd c A) (hd : c ≤ d) : Gd d A := ⟨h.1, h.2.1, h.2.2.1, h.2.2.2.1, Nat.le_trans h.2.2.2.2.1 hd, fun m hm => Nat.le_trans (h.2.2.2.2.2 m hm) hd⟩
def PI (c : Nat) (S : HS) : Prop := Gd c (sA S) ∧ (∀ k, k < sC S → wf (sH S k) ∧ Gd c (sH S k)) ∧ (0 < sC S → Beg (sH S 0) (sA S)) ∧ ∀ k, k + 1 < sC S → Beg (sH S (k + 1)) (sH S k)
theorem PI.mono {c d : Nat} {S : HS} (h : PI c S) (hd : c ≤ d) : PI d S := ⟨h.1.mono hd, fun k hk => ⟨(h.2.1 k hk).1, (h.2.1 k hk).2.mono hd⟩, h.2.2.1, h.2.2.2⟩
theorem PI.put {c : Nat} {S : HS} {A' : AS} (h : PI c S) (hA : wf (sA S)) (g : Gd (c + 1) A') (b : Beg (sA S) A') : PI (c + 1) (sPut S A') := by
  obtain ⟨h1, h2, h3, h4⟩ := h
  refine ⟨g, fun k hk => ?_, fun _ => b, fun k hk => ?_⟩
  · have hk' : k < min 8 (sC S + 1) := hk
    cases k with
    | zero => exact ⟨hA, h1.mono (Nat.le_succ c)⟩
    | succ k => exact ⟨(h2 k (by omega)).1, (h2 k (by omega)).2.mono (Nat.le_succ c)⟩
  · have hk' : k + 1 < min 8 (sC S + 1) := hk
    cases k with
    | zero => exact h3 (by omega)
    | succ k => exact h4 k (by omega)
theorem PI.tape {c : Nat} {S : HS} (h : PI c S) (n : Nat) (B : Nat → Nat) : PI c (sTape S n B) := h
theorem PI.undo {c : Nat} {S : HS} (h : PI c S) : PI c (nUndo S) := by
  unfold nUndo
  split
  · exact h
  · rename_i c0
    obtain ⟨h1, h2, h3, h4⟩ := h
    exact ⟨(h2 0 (by omega)).2, fun k hk => h2 (k + 1) (by have : k < sC S - 1 := hk; omega), fun h0 => h4 0 (by have : 0 < sC S - 1 := h0; omega), fun k hk => h4 (k + 1) (by have : k + 1 < sC S - 1 := hk; omega)⟩
theorem PI.undo_wf {c : Nat} {S : HS} (h : PI c S) : ∀ k, k < sC S → wf (sH S k) := fun k hk => (h.2.1 k hk).1
theorem PI.leave {c : Nat} {S : HS} (h : PI c S) (hA : wf (sA S)) (x : Int32) : PI (c + 1) (nLeave S x) := by
  unfold nLeave
  by_cases q : qLeaveB S x = true
  · rw [if_pos q]
    unfold qLeaveB at q
    rw [Bool.and_eq_true] at q
    obtain ⟨k, hk, hk12, rfl, hs⟩ := aIsX_k hA q.1
    rw [hc_cl (by omega)]
    obtain ⟨g1, g2, g3, g4, g5, g6⟩ := h.1
    refine h.put hA ⟨g1, g2, g3, fun m hm hl => ?_, Nat.le_trans g5 (Nat.le_succ c), fun m hm => Nat.le_trans (g6 m hm) (Nat.le_succ c)⟩ ⟨Nat.le_refl _, Nat.le_refl _, fun _ _ => rfl, fun _ _ _ _ => rfl, fun _ _ => rfl, fun _ _ => rfl, rfl, rfl, rfl⟩
    have hl' : lpUp (aLv (sA S)) k true m = true := hl
    by_cases e : m = k
    · unfold aIs at hs
      rw [Bool.and_eq_true] at hs
      rw [e]; exact hs.2
    · unfold lpUp at hl'
      rw [if_neg e] at hl'
      exact g4 m hm hl'
  · rw [if_neg q]; exact h.mono (Nat.le_succ c)
theorem PI.set {c : Nat} {S : HS} (h : PI c S) (hA : wf (sA S)) (x v : Int32) : PI (c + 1) (nSet S x v) := by
  unfold nSet
  by_cases q : qSetB S x v = true
  · rw [if_pos q]
    unfold qSetB at q
    simp only [Bool.and_eq_true, Bool.or_eq_true, decide_eq_true_eq] at q
    obtain ⟨hx, hv0, hv1, -⟩ := q
    obtain ⟨g1, g2, g3, g4, g5, g6⟩ := h.1
    obtain ⟨n, hn, rfl⟩ := hc_nn hv0
    have main : ∀ j, (j = 0 ∨ j = 5 ∨ j = 6) → n ≤ rmN j → PI (c + 1) (sPut S (aSRu (sA S) j (nI n).toInt64)) := fun j hj hle => by
      refine h.put hA ⟨fun i hi => ?_, g2, g3, g4, Nat.le_trans g5 (Nat.le_succ c), fun m hm => Nat.le_trans (g6 m hm) (Nat.le_succ c)⟩ ⟨Nat.le_refl _, Nat.le_refl _, fun _ _ => rfl, fun _ _ _ _ => rfl, fun _ _ => rfl, fun _ _ => rfl, ?_, ?_, ?_⟩
      · show bd _ (lpUp (aRu (sA S)) j (nI n).toInt64 i)
        unfold lpUp
        by_cases e : i = j
        · rw [if_pos e, if_neg (by omega), e]
          exact ⟨n, nI_l (by omega), hle⟩
        · rw [if_neg e]; exact g1 i hi
      · show aRu (sA S) 2 = lpUp (aRu (sA S)) j _ 2; unfold lpUp; rw [if_neg (by omega)]
      · show aRu (sA S) 3 = lpUp (aRu (sA S)) j _ 3; unfold lpUp; rw [if_neg (by omega)]
      · show aRu (sA S) 4 = lpUp (aRu (sA S)) j _ 4; unfold lpUp; rw [if_neg (by omega)]
    rcases hx with rfl | rfl | rfl
    · exact main 0 (Or.inl rfl) ((hc_le (a := n) (b := 999) hn (by decide)).mp hv1)
    · exact main 5 (Or.inr (Or.inl rfl)) ((hc_le (a := n) (b := 99) hn (by decide)).mp hv1)
    · exact main 6 (Or.inr (Or.inr rfl)) ((hc_le (a := n) (b := 100) hn (by decide)).mp hv1)
  · rw [if_neg q]; exact h.mono (Nat.le_succ c)
theorem PI.storm {c : Nat} {S : HS} (h : PI c S) (hA : wf (sA S)) (x y tx ty s : Int32) : PI (c + 1) (nStorm S x y tx ty s) := by
  unfold nStorm
  split
  · exact h.put hA (h.1.mono (Nat.le_succ c)) ⟨Nat.le_refl _, Nat.le_refl _, fun _ _ => rfl, fun _ _ _ _ => rfl, fun _ _ => rfl, fun _ _ => rfl, rfl, rfl, rfl⟩
  · exact h.mono (Nat.le_succ c)
theorem PI.close {c : Nat} {S : HS} (h : PI c S) (hA : wf (sA S)) : PI (c + 1) (nClose S) := by
  unfold nClose
  split
  · exact h.mono (Nat.le_succ c)
  · obtain ⟨g1, g2, g3, g4, g5, g6⟩ := h.1
    have hR := h.1.rb hA
    have hm := hA.m
    obtain ⟨r, er, hr⟩ := g1 1 (by decide)
    rw [if_pos rfl] at hr
    obtain ⟨q, eq, hq⟩ := kT10_n (P := sP S) (w := -1) hA hR er (by unfold rzM at hr; omega)
    refine h.put hA ⟨fun i hi => ?_, g2, fun m h1 h2 => prX_no h1, fun m hm2 hl => ?_, Nat.succ_le_succ g5, fun m hm2 => ?_⟩ ⟨Nat.le_refl _, Nat.le_refl _, fun _ _ => rfl, fun _ _ _ _ => rfl, fun _ _ => rfl, fun _ _ => rfl, rfl, rfl, rfl⟩
    · show bd _ (lpUp (aRu (sA S)) 1 (kT (sA S) (sP S) (prX (sA S) (-1)) 10) i)
      unfold lpUp
      by_cases e : i = 1
      · rw [if_pos e, if_pos e]
        refine ⟨q, eq, ?_⟩
        show q ≤ rzM (sA S)
        unfold rzM at hr ⊢
        omega
      · rw [if_neg e, if_neg e]; have := g1 i hi; rw [if_neg e] at this; exact this
    · have hm' : m < aM (sA S) := hm2
      have hl' : (if (prX (sA S) (-1) m && aLv (sA S) m) = true then false else aLv (sA S) m) = true := hl
      show (if (prX (sA S) (-1) m && aLv (sA S) m) = true then false else aTh (sA S) m) = true
      by_cases e : (prX (sA S) (-1) m && aLv (sA S) m) = true
      · rw [if_pos e] at hl'; cases hl'
      · rw [if_neg e] at hl' ⊢; exact g4 m hm' hl'
    · have hm' : m < aM (sA S) := hm2
      show (if (prX (sA S) (-1) m && !aLv (sA S) m) = true then aYs (sA S) m + 1 else aYs (sA S) m) ≤ c + 1
      have := g6 m hm'
      split <;> omega
/-! a BOOK -/
def NB (A : AS) : Prop := (∀ j, j < 7 → bd (rmN j) (aRu A j)) ∧ (∀ m, m < aM A → aNm A m ≠ 0 ∧ aLv A m = false ∧ aYs A m = 0) ∧ aY A = 0 ∧ ∀ m, m < 12 → aEt A m = false
theorem NB.new (er : Nat → Nat → Int64) : NB (aNew er) := by
  refine ⟨fun j hj => ?_, fun m hm => absurd hm (Nat.not_lt_zero m), rfl, fun _ _ => rfl⟩
  rcases (show j = 0 ∨ j = 1 ∨ j = 2 ∨ j = 3 ∨ j = 4 ∨ j = 5 ∨ j = 6 by omega) with rfl | rfl | rfl | rfl | rfl | rfl | rfl
  · exact ⟨10, rfl, by decide⟩
  · exact ⟨0, rfl, by decide⟩
  · exact ⟨9999999, rfl, by decide⟩
  · exact ⟨0, rfl, by decide⟩
  · exact ⟨100, rfl, by decide⟩
  · exact ⟨4, rfl, by decide⟩
  · exact ⟨10, rfl, by decide⟩
theorem NB.gd {A : AS} (h : NB A) (c : Nat) : Gd c A := by
  obtain ⟨h1, h2, h3, h4⟩ := h
  refine ⟨fun j hj => ?_, fun m hm => (h2 m hm).1, fun m _ hm => h4 m hm, fun m hm hl => ?_, by rw [h3]; exact Nat.zero_le _, fun m hm => by rw [(h2 m hm).2.2]; exact Nat.zero_le _⟩
  · have g := h1 j hj
    by_cases e : j = 1
    · rw [if_pos e]; rw [e] at g ⊢; exact g.le (by show 99999999 ≤ rzM A; unfold rzM; omega)
    · rw [if_neg e]; exact g
  · rw [(h2 m hm).2.1] at hl; cases hl
theorem NB.ru {A : AS} (h : NB A) {j v : Nat} (hv : v ≤ rmN j) : NB (aSRu A j (lN v)) := by
  refine ⟨fun i hi => ?_, h.2⟩
  show bd _ (lpUp (aRu A) j (lN v) i)
  unfold lpUp
  by_cases e : i = j
  · rw [if_pos e, e]; exact ⟨v, rfl, hv⟩
  · rw [if_neg e]; exact h.1 i hi
theorem NB.addM {A : AS} (h : NB A) {w : Int64} (hw : w ≠ 0) : NB (aAddM A w) := by
  refine ⟨h.1, fun m hm => ?_, h.2.2.1, fun m hm => ?_⟩
  · have hm' : m < aM A + 1 := hm
    show lpUp (aNm A) (aM A) w m ≠ 0 ∧ lpUp (aLv A) (aM A) false m = false ∧ lpUp (aYs A) (aM A) 0 m = 0
    unfold lpUp
    by_cases e : m = aM A
    · rw [if_pos e, if_pos e, if_pos e]; exact ⟨hw, rfl, rfl⟩
    · rw [if_neg e, if_neg e, if_neg e]; exact h.2.1 m (by omega)
  · show lpUp (aEt A) (aM A) false m = false
    unfold lpUp
    split
    · rfl
    · exact h.2.2.2 m hm
theorem pDo_ok {K V : Nat → Nat} {qs : List (Nat × Nat)} {i : Nat} {A : AS} {P : LwP} {q : Nat × AS × LwP} (h : pDo K V qs i A P = .inr q) : q.2.1 = A ∧ pNums K V qs i = none := by
  unfold pDo at h
  cases hn : pNums K V qs i with
  | none => rw [hn] at h; cases h; exact ⟨rfl, rfl⟩
  | some e => rw [hn] at h; cases h
theorem pNums_1 {K V : Nat → Nat} {i lo hi : Nat} {qs : List (Nat × Nat)} (h : pNums K V ((lo, hi) :: qs) i = none) : V i ≤ hi ∧ pNums K V qs (i + 1) = none := by
  by_cases c : pNum K V i lo hi = 0
  · exact ⟨(pNum_0 c).2.2, by rw [← h]; exact (pNums_s c).symm⟩
  · rw [pNums_e c] at h; cases h
theorem pName_nb {K V : Nat → Nat} (hV : ∀ j, K j = 2000 → 0 < V j ∧ V j < 2 ^ 40) {i : Nat} {A : AS} {P : LwP} {q : Nat × AS × LwP} (hA : NB A) (h : pName K V i A P = .inr q) : NB q.2.1 := by
  unfold pName at h
  split at h
  · rename_i c
    split at h
    · split at h
      · cases h
        exact hA.addM (fun z => by have := (lN_eqb (a := V i) (b := 0) (by have := hV i c; omega) (by decide)).mp z; have := hV i c; omega)
      · cases h
    · cases h
  · cases h
theorem pLine_nb {K V : Nat → Nat} (hV : ∀ j, K j = 2000 → 0 < V j ∧ V j < 2 ^ 40) {i : Nat} {A : AS} {P : LwP} {q : Nat × AS × LwP} (hA : NB A) (h : pLine K V i A P = .inr q) : NB q.2.1 := by
  unfold pLine at h
  split at h
  · unfold pMember at h
    split at h
    · exact pName_nb hV hA h
    · cases h
  · split at h
    · unfold pField at h
      split at h
      · split at h
        · split at h
          · cases h
          · rw [(pDo_ok h).1]; exact hA
        · cases h
      · cases h
    · split at h
      · rw [(pDo_ok h).1]; exact hA
      · split at h
        · rw [(pDo_ok h).1]; exact hA
        · split at h
          · obtain ⟨e, n⟩ := pDo_ok h
            rw [e]
            obtain ⟨n1, n2⟩ := pNums_1 n
            obtain ⟨n3, -⟩ := pNums_1 n2
            exact (hA.ru (j := 3) n1).ru (j := 4) n3
          · split at h
            · unfold pPay at h
              split at h
              · cases h
              · split at h
                · cases h
                · cases h; exact hA
            · split at h
              · obtain ⟨e, n⟩ := pDo_ok h
                rw [e]
                exact hA.ru (pNums_1 n).1
              · cases h
theorem pBk_nb {K V : Nat → Nat} (hV : ∀ j, K j = 2000 → 0 < V j ∧ V j < 2 ^ 40) {q : Nat × AS × LwP} : ∀ f i A P, NB A → pBk K V f i A P = some (.inr q) → NB q.2.1
  | 0, _, _, _, _, h => by cases h
  | f + 1, i, A, P, hA, h => by
    unfold pBk at h
    split at h
    · cases h; exact hA
    · split at h
      · cases h
      · rename_i q' e
        have h2 := pLine_nb hV hA e
        split at h
        · exact pBk_nb hV f _ _ _ h2 h
        · cases h
theorem PI.book {c : Nat} {S : HS} {er : Nat → Nat → Int64} {x : Rs} (h : PI c S) (hB : ∀ j, j < sN S → sB S j < 256) (hx : bkR S er = some x) : PI (c + 1) (nBook S x) := by
  cases x with
  | inl e => exact h.mono (Nat.le_succ c)
  | inr q =>
    have hn := pBk_nb (K := kd (sB S) (sN S)) (V := vl (sB S) (sN S)) (fun j hj => wd_pos hB hj) 701 0 (aNew er) lp0 (NB.new er) hx
    exact ⟨hn.gd _, fun k hk => absurd hk (Nat.not_lt_zero k), fun h0 => absurd h0 (Nat.lt_irrefl 0), fun k hk => absurd hk (Nat.not_lt_zero _)⟩
/-! who JOINS -/
theorem pJl_jn {K V : Nat → Nat} {A : AS} {w : Int64} {q : Nat × AS × LwP} : ∀ f k i A1 P, Jn A w k A1 → pJl K V f i A1 P = some (.inr q) → ∃ k', Jn A w k' q.2.1
  | 0, _, _, _, _, _, h => by cases h
  | f + 1, k, i, A1, P, hJ, h => by
    unfold pJl at h
    split at h
    · cases h; exact ⟨k, hJ⟩
    · split at h
      · split at h
        · cases h
        · rename_i q' e
          have e2 : q'.2.1 = _ := (pDo_ok e).1
          refine pJl_jn f (k + 1) _ _ _ ?_ h
          rw [e2]
          exact hJ.s (by show aM A1 - 1 = aM A; have := hJ.m.1; omega)
      · cases h
theorem pJn_jn {K V : Nat → Nat} {A : AS} {P : LwP} {q : Nat × AS × LwP} (h : pJn K V A P = some (.inr q)) : K 0 = 2000 ∧ aM A < 12 ∧ ∃ k, Jn A (lN (V 0)) k q.2.1 := by
  unfold pJn at h
  split at h
  · cases h
  · rename_i q' e
    unfold pName at e
    split at e
    · rename_i c
      split at e
      · split at e
        · rename_i c2
          cases e
          exact ⟨c, c2, pJl_jn 25 0 _ _ _ (Jn.s0 _ _) h⟩
        · cases e
      · cases e
    · cases e
theorem bIn_n {A A1 : AS} {w : Int64} {k r : Nat} (hA : wf A) (hA1 : wf A1) (hJ : Jn A w k A1) (er : aRu A1 1 = lN r) (hr : r ≤ 219999987) : ∃ g, bIn A1 = lN g ∧ g ≤ 9999999 := by
  obtain ⟨o1, o2, o3⟩ := hJ.oth hA hA1
  have hb : bd (aM A * 21362616) (abAllP A (aF A)) := by rw [← allP_eq hA]; exact bd_sum (fun j _ => bd_P hA j)
  obtain ⟨o, eo, ho⟩ := hb
  have hp : bd 21362616 (abPts A1 (aM A1 - 1) (aF A1)) := by rw [← o2]; exact bd_P hA1 _
  obtain ⟨p, ep, hp2⟩ := hp
  have hm := hA.m
  unfold bIn
  by_cases c : bOth A1 ≤ 0
  · rw [if_pos c]; exact ⟨0, rfl, Nat.zero_le _⟩
  · rw [if_neg c, o1, eo, er, ep, lN_mul]
    have ho63 : o < 2 ^ 62 := by omega
    have hpos : 0 < o := by
      rcases Nat.eq_zero_or_pos o with z | z
      · exact absurd (o3.mpr (by rw [eo, z]; rfl)) c
      · exact z
    have hrp : r * p ≤ 219999987 * 21362616 := Nat.mul_le_mul hr hp2
    rw [pk_lDiv (by omega) hpos (by omega)]
    have hq : r * p / o ≤ r * p := Nat.div_le_self _ _
    rw [show (9999999 : Int64) = lN 9999999 from rfl, lN_min (by omega) (by decide)]
    exact ⟨_, rfl, by omega⟩
theorem PI.join {c : Nat} {S : HS} {P : LwP} {x : Rs} (h : PI c S) (hA : wf (sA S)) (hB : ∀ j, j < sN S → sB S j < 256) (hx : jnR S P = some x) (hok : ∀ q, x = .inr q → wf (aJoin q.2.1)) : PI (c + 1) (nJoin S x) := by
  cases x with
  | inl e => exact h.mono (Nat.le_succ c)
  | inr q =>
    obtain ⟨k0, h12, k, hJ⟩ := pJn_jn hx
    have hA1 : wf q.2.1 := hok q rfl
    have hw := wd_pos hB k0
    generalize hq1 : q.2.1 = A1 at hJ hA1
    have e : nJoin S (.inr q) = (aJoin A1, sP S, sB S, 0, hCons (sA S) (sH S), min 8 (sC S + 1), 0, -1) := by rw [← hq1]; rfl
    rw [e]
    obtain ⟨g1, g2, g3, g4, g5, g6⟩ := h.1
    obtain ⟨r, er, hr⟩ := g1 1 (by decide)
    rw [if_pos rfl] at hr
    have hRu : aRu A1 = aRu (sA S) := by obtain ⟨Fd, rfl, -, -⟩ := hJ; rfl
    obtain ⟨g, eg, hg⟩ := bIn_n hA hA1 hJ (by rw [hRu]; exact er) (by unfold rzM at hr; have := hA.m; omega)
    have hJm := hJ.m.1
    have G : Gd (c + 1) (aJoin A1) := by
      refine ⟨fun j hj => ?_, ?_, ?_, ?_, ?_, ?_⟩
      · show bd (if j = 1 then rzM A1 else rmN j) (lpUp (aRu A1) 1 (aRu A1 1 + bIn A1) j)
        unfold lpUp
        by_cases c1 : j = 1
        · rw [if_pos c1, if_pos c1, hRu, er, eg, lN_add]
          exact ⟨_, rfl, by unfold rzM at hr ⊢; omega⟩
        · rw [if_neg c1, if_neg c1, hRu]; have := g1 j hj; rw [if_neg c1] at this; exact this
      all_goals
        obtain ⟨Fd, rfl, -, -⟩ := hJ
      · intro m hm
        have hm' : m < aM (sA S) + 1 := hm
        show lpUp (aNm (sA S)) (aM (sA S)) _ m ≠ 0
        unfold lpUp
        by_cases c1 : m = aM (sA S)
        · rw [if_pos c1]
          intro z
          have := (lN_eqb (a := vl (sB S) (sN S) 0) (b := 0) (by omega) (by decide)).mp z
          omega
        · rw [if_neg c1]; exact g2 m (by omega)
      · intro m h1 h2
        have h1' : aM (sA S) + 1 ≤ m := h1
        show lpUp (aEt (sA S)) (aM (sA S)) false m = false
        unfold lpUp
        rw [if_neg (by omega)]
        exact g3 m (by omega) h2
      · intro m hm hl
        have hm' : m < aM (sA S) + 1 := hm
        have hl' : lpUp (aLv (sA S)) (aM (sA S)) false m = true := hl
        show lpUp (aTh (sA S)) (aM (sA S)) true m = true
        unfold lpUp at hl' ⊢
        by_cases c1 : m = aM (sA S)
        · rw [if_pos c1]
        · rw [if_neg c1] at hl' ⊢; exact g4 m (by omega) hl'
      · exact Nat.le_trans g5 (Nat.le_succ c)
      · intro m hm
        have hm' : m < aM (sA S) + 1 := hm
        show lpUp (aYs (sA S)) (aM (sA S)) 0 m ≤ c + 1
        unfold lpUp
        by_cases c1 : m = aM (sA S)
        · rw [if_pos c1]; exact Nat.zero_le _
        · rw [if_neg c1]; exact Nat.le_trans (g6 m (by omega)) (Nat.le_succ c)
    have B : Beg (sA S) (aJoin A1) := by
      obtain ⟨Fd, rfl, q1, q2⟩ := hJ
      refine ⟨Nat.le_succ _, Nat.le_add_right _ _, fun m hm => ?_, fun f hf a _ => ?_, fun _ _ => rfl, fun _ _ => rfl, rfl, rfl, rfl⟩
      · have hm' : m < aM (sA S) := hm
        show aNm (sA S) m = lpUp (aNm (sA S)) (aM (sA S)) _ m
        unfold lpUp
        rw [if_neg (by omega)]
      · show aFd (sA S) f a = Fd f a
        rw [q1 f hf]
    exact (PI.put h hA G B : PI (c + 1) (sPut S (aJoin A1)))
