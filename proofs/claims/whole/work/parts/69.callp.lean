/-! calls on members: class and reference call for the same -/
def anyB (f : Nat → Bool) : Nat → Bool
  | 0 => false
  | n + 1 => anyB f n || f n
theorem anyB_t {f : Nat → Bool} : ∀ {n : Nat}, anyB f n = true → ∃ m, m < n ∧ f m = true
  | 0, h => by cases h
  | n + 1, h => by
    have h' : (anyB f n || f n) = true := h
    rw [Bool.or_eq_true] at h'
    rcases h' with q | q
    · obtain ⟨m, a, b⟩ := anyB_t q
      exact ⟨m, by omega, b⟩
    · exact ⟨n, Nat.lt_succ_self n, q⟩
theorem anyB_f {f : Nat → Bool} : ∀ {n : Nat}, anyB f n = false → ∀ m, m < n → f m = false
  | 0, _, m, hm => absurd hm (Nat.not_lt_zero m)
  | n + 1, h, m, hm => by
    have h' : (anyB f n || f n) = false := h
    rw [Bool.or_eq_false_iff] at h'
    by_cases c : m = n
    · rw [c]; exact h'.2
    · exact anyB_f h'.1 m (by omega)
/-- so much less, one after another -/
def runW (x : Int64) (f : Nat → Int64) : Nat → Int64
  | 0 => x
  | n + 1 => runW x f n - f n
theorem runW_lN {X : Nat} {f : Nat → Int64} {g : Nat → Nat} : ∀ {n : Nat}, (∀ j, j < n → f j = lN (g j)) → sumN g n ≤ X → runW (lN X) f n = lN (X - sumN g n)
  | 0, _, _ => rfl
  | n + 1, h, hs => by
    have hs' : sumN g n + g n ≤ X := hs
    show runW (lN X) f n - f n = lN (X - (sumN g n + g n))
    rw [runW_lN (fun j hj => h j (by omega)) (by omega), h n (by omega), lN_sub (by omega), Nat.sub_sub]
def mcG (mo pts : Nat → Int64) : Nat → (Nat → Bool) → (Nat → Int64) → Int64 → (Nat → Int64) × Int64
  | 0, _, cl, x => (cl, x)
  | n + 1, am, cl, x =>
    if anyB (cfO am (mv x pts am) mo) 12 = true then
      (if 0 < mvX x pts am ∧ 0 < runW x (fun m => if cfO am (mv x pts am) mo m = true then mo m else 0) 12 then mcG mo pts n (fun m => am m && !cfO am (mv x pts am) mo m) (fun m => if cfO am (mv x pts am) mo m = true then mo m else cl m) (runW x (fun m => if cfO am (mv x pts am) mo m = true then mo m else 0) 12)
      else ((fun m => if cfO am (mv x pts am) mo m = true then mo m else cl m), runW x (fun m => if cfO am (mv x pts am) mo m = true then mo m else 0) 12))
    else ((fun m => if am m = true then mv x pts am m else cl m), runW x (fun m => if am m = true then mv x pts am m else 0) 12)
/-- the rounds come to their end -/
def mcFin (mo pts : Nat → Int64) : Nat → (Nat → Bool) → Int64 → Prop
  | 0, _, _ => False
  | n + 1, am, x => (¬ dvA pts am = 0 → ¬ 0 < (mvR x pts am 12).2.2) ∧ (anyB (cfO am (mv x pts am) mo) 12 = true → 0 < mvX x pts am ∧ 0 < runW x (fun m => if cfO am (mv x pts am) mo m = true then mo m else 0) 12 → mcFin mo pts n (fun m => am m && !cfO am (mv x pts am) mo m) (runW x (fun m => if cfO am (mv x pts am) mo m = true then mo m else 0) 12))
def cntB (f : Nat → Bool) : Nat → Nat := sumN (fun m => if f m = true then 1 else 0)
theorem cfH_none {q : Nat → Bool} {mo : Nat → Int64} : ∀ {n : Nat}, (∀ m, m < n → q m = false) → cfH q mo n = -1
  | 0, _ => rfl
  | n + 1, h => by
    unfold cfH
    rw [if_neg (by rw [h n (by omega)]; decide)]
    exact cfH_none (fun m hm => h m (by omega))
theorem cfH_some {q : Nat → Bool} {mo : Nat → Int64} {M : Nat → Nat} : ∀ {n : Nat}, n ≤ 12 → (∀ m, m < n → mo m = lN (M m) ∧ M m < 2 ^ 40) → cfH q mo n = (if anyB q n = true then lN (sumN (fun m => if q m = true then M m else 0) n) else -1)
  | 0, _, _ => rfl
  | n + 1, hn, h => by
    have ih := cfH_some (q := q) (n := n) (by omega) (fun m hm => h m (by omega))
    have hb := sumN_c (f := fun m => if q m = true then M m else 0) (c := 2 ^ 40) (n := n) (fun m hm => by
      by_cases c : q m = true
      · rw [if_pos c]; exact Nat.le_of_lt (h m (by omega)).2
      · rw [if_neg c]; exact Nat.zero_le _)
    have hb2 : n * 2 ^ 40 ≤ 12 * 2 ^ 40 := Nat.mul_le_mul_right _ (by omega)
    unfold cfH
    show _ = (if (anyB q n || q n) = true then lN (sumN _ n + (if q n = true then M n else 0)) else -1)
    rw [ih]
    by_cases c : q n = true
    · rw [if_pos c, if_pos c, c, Bool.or_true, if_pos rfl, (h n (by omega)).1]
      by_cases a : anyB q n = true
      · rw [if_pos a, if_neg (fun z => ?_), lN_add]
        have := pk_lLT (a := sumN (fun m => if q m = true then M m else 0) n) (b := 0) (by omega) (by decide)
        have := this.mp z
        omega
      · rw [if_neg a, if_pos (by decide)]
        have : sumN (fun m => if q m = true then M m else 0) n = 0 := sumN_0 (fun m hm => if_neg (by rw [anyB_f (eq_false_of_ne_true a) m hm]; decide))
        rw [this, show (0 : Int64) = lN 0 from rfl, lN_add]
    · rw [if_neg c, if_neg c, eq_false_of_ne_true c, Bool.or_false, Nat.add_zero]
theorem lN_ne1 {a : Nat} (h : a < 2 ^ 63) : ¬ lN a = -1 := fun q => by
  have := neg1_lt h
  rw [q] at this
  exact Int64.lt_irrefl this
/-- shares to whoever is among, or to nobody -/
theorem share2 {X : Nat} {W : Nat → Nat} {am : Nat → Bool} {pts : Nat → Int64} (hX : X ≤ 2 ^ 30) (hW : ∀ m, m < 12 → am m = true → pts m = lN (W m) ∧ W m ≤ 2 ^ 30) : (dvA pts am = lN (shT W am) ∧ shT W am < 2 ^ 63) ∧ (¬ dvA pts am = 0 → ¬ 0 < (mvR (lN X) pts am 12).2.2) ∧ ∃ g : Nat → Nat, (∀ m, m < 12 → dv (lN X) pts am m = lN (g m) ∧ mv (lN X) pts am m = lN (g m) ∧ (am m = false → g m = 0)) ∧ sumN g 12 = if shT W am = 0 then 0 else X := by
  have hT : shT W am ≤ 12 * 2 ^ 30 := sumN_c (fun m hm => by
    by_cases c : am m = true
    · rw [if_pos c]; exact (hW m hm c).2
    · rw [if_neg c]; exact Nat.zero_le _)
  have hA : dvA pts am = lN (shT W am) := sumJ_lN (fun m hm => by
    unfold dvW
    by_cases c : am m = true
    · rw [if_pos c, if_pos c]; exact (hW m hm c).1
    · rw [if_neg c, if_neg c]; rfl)
  refine ⟨⟨hA, by omega⟩, ?_⟩
  by_cases c : shT W am = 0
  · have h0 : dvA pts am = 0 := by rw [hA, c]; rfl
    refine ⟨fun q => absurd h0 q, fun _ => 0, fun m _ => ⟨(share0 h0 m).1, (share0 h0 m).2, fun _ => rfl⟩, ?_⟩
    rw [if_pos c]; rfl
  · have hs : shOk X W am pts := ⟨hX, hW, by omega⟩
    obtain ⟨⟨g, h1, h2⟩, h3⟩ := share hs
    exact ⟨fun _ => h3, g, h1, by rw [if_neg c]; exact h2⟩
theorem call_eq {mo pts : Nat → Int64} {M W : Nat → Nat} (hm : ∀ m, m < 12 → mo m = lN (M m) ∧ M m < 2 ^ 40) : ∀ (n : Nat) (am : Nat → Bool) (cl pa : Nat → Int64) (X : Nat), cntB am 12 < n → X ≤ 2 ^ 30 → (∀ m, m < 12 → am m = true → pts m = lN (W m) ∧ W m ≤ 2 ^ 30) →
    mcFin mo pts n am (lN X) ∧ ∃ c : Nat → Nat, (∀ m, m < 12 → am m = true → cfG mo pts n am cl (lN X) pa m = lN (c m) ∧ (mcG mo pts n am cl (lN X)).1 m = lN (c m)) ∧ (∀ m, m < 12 → am m = false → cfG mo pts n am cl (lN X) pa m = cl m ∧ (mcG mo pts n am cl (lN X)).1 m = cl m) ∧ sumN (fun m => if am m = true then c m else 0) 12 ≤ X ∧ (mcG mo pts n am cl (lN X)).2 = lN (X - sumN (fun m => if am m = true then c m else 0) 12)
  | 0, _, _, _, _, h, _, _ => absurd h (Nat.not_lt_zero _)
  | n + 1, am, cl, pa, X, hn, hX, hW => by
    obtain ⟨⟨hA, hT⟩, hfin, g, hg, hgs⟩ := share2 hX hW
    have hgX : sumN g 12 ≤ X := by rw [hgs]; split <;> omega
    have hgm : ∀ m, m < 12 → g m ≤ X := fun m hm' => Nat.le_trans (sumN_at hm') hgX
    have hoD : ∀ m, m < 12 → cfO am (dv (lN X) pts am) mo m = (am m && decide (M m < g m)) := fun m hm' => by
      unfold cfO
      rw [(hg m hm').1, (hm m hm').1]
      have := hgm m hm'
      have := (hm m hm').2
      rw [decide_eq_decide.mpr (pk_lLT (a := M m) (b := g m) (by omega) (by omega))]
    have hoM : ∀ m, m < 12 → cfO am (mv (lN X) pts am) mo m = (am m && decide (M m < g m)) := fun m hm' => by
      unfold cfO
      rw [(hg m hm').2.1, (hm m hm').1]
      have := hgm m hm'
      have := (hm m hm').2
      rw [decide_eq_decide.mpr (pk_lLT (a := M m) (b := g m) (by omega) (by omega))]
    have hanyD : ∀ k, k ≤ 12 → anyB (cfO am (dv (lN X) pts am) mo) k = anyB (cfO am (mv (lN X) pts am) mo) k := fun k => by
      induction k with
      | zero => intro _; show false = false; rfl
      | succ k ih =>
        intro hk
        show (anyB _ k || _) = (anyB _ k || _)
        rw [ih (by omega), hoD k (by omega), hoM k (by omega)]
    have hH := cfH_some (q := cfO am (dv (lN X) pts am) mo) (mo := mo) (M := M) (n := 12) (Nat.le_refl _) hm
    rw [hanyD 12 (Nat.le_refl _)] at hH
    by_cases a : anyB (cfO am (mv (lN X) pts am) mo) 12 = true
    · -- some are held
      rw [if_pos a] at hH
      obtain ⟨m0, hm0, hq0⟩ := anyB_t a
      rw [hoM m0 hm0, Bool.and_eq_true, decide_eq_true_eq] at hq0
      have hT0 : ¬ shT W am = 0 := fun z => by
        have := hgm m0 hm0
        rw [if_pos z] at hgs
        have := sumN_at (f := g) hm0
        omega
      rw [if_neg hT0] at hgs
      -- what they pay
      have hD : sumN (fun m => if cfO am (dv (lN X) pts am) mo m = true then M m else 0) 12 = sumN (fun m => if cfO am (mv (lN X) pts am) mo m = true then M m else 0) 12 := sumN_congr (fun m hm' => by rw [hoD m hm', hoM m hm'])
      rw [hD] at hH
      generalize hHd : sumN (fun m => if cfO am (mv (lN X) pts am) mo m = true then M m else 0) 12 = Hd at hH
      have hHlt : Hd < X := by
        have h1 : sumN (fun m => (if cfO am (mv (lN X) pts am) mo m = true then M m else 0) + (if m = m0 then 1 else 0)) 12 ≤ sumN g 12 := sumN_le (fun m hm' => by
          rw [hoM m hm']
          by_cases e : m = m0
          · rw [if_pos e, e, hq0.1, decide_eq_true hq0.2, if_pos (by decide)]
            omega
          · rw [if_neg e]
            by_cases q : (am m && decide (M m < g m)) = true
            · rw [if_pos q]
              rw [Bool.and_eq_true, decide_eq_true_eq] at q
              omega
            · rw [if_neg q]; exact Nat.zero_le _)
        rw [sumN_add, hHd] at h1
        have h2 : 1 ≤ sumN (fun m => if m = m0 then 1 else 0) 12 := by
          have := sumN_at (f := fun m => if m = m0 then 1 else 0) hm0
          simp only [if_pos] at this
          exact this
        omega
      have hrun : runW (lN X) (fun m => if cfO am (mv (lN X) pts am) mo m = true then mo m else 0) 12 = lN (X - Hd) := by
        rw [← hHd]
        refine runW_lN (fun m hm' => ?_) (by rw [hHd]; omega)
        by_cases q : cfO am (mv (lN X) pts am) mo m = true
        · rw [if_pos q, if_pos q]; exact (hm m hm').1
        · rw [if_neg q, if_neg q]; rfl
      have hgo : 0 < mvX (lN X) pts am ∧ 0 < runW (lN X) (fun m => if cfO am (mv (lN X) pts am) mo m = true then mo m else 0) 12 := by
        refine ⟨?_, by rw [hrun]; exact (lN_pos (by omega)).mpr (by omega)⟩
        unfold mvX
        rw [if_neg (show ¬ dvA pts am = 0 from fun z => hT0 ((pk_lEQ (b := 0) hT (by decide)).mp (hA.symm.trans z)))]
        exact (lN_pos (by omega)).mpr (by omega)
      have hne : ¬ cfH (cfO am (dv (lN X) pts am) mo) mo 12 = -1 := by rw [hH]; exact lN_ne1 (by omega)
      have hcnt : cntB (fun m => am m && !cfO am (mv (lN X) pts am) mo m) 12 < n := by
        have h1 : sumN (fun m => (if (am m && !cfO am (mv (lN X) pts am) mo m) = true then 1 else 0) + (if m = m0 then 1 else 0)) 12 ≤ cntB am 12 := sumN_le (fun m hm' => by
          by_cases e : m = m0
          · rw [if_pos e, e, hoM m0 hm0, hq0.1, decide_eq_true hq0.2]
            decide
          · rw [if_neg e]
            cases am m <;> cases cfO am (mv (lN X) pts am) mo m <;> decide)
        rw [sumN_add] at h1
        have h2 : 1 ≤ sumN (fun m => if m = m0 then 1 else 0) 12 := by
          have := sumN_at (f := fun m => if m = m0 then 1 else 0) hm0
          simp only [if_pos] at this
          exact this
        have h3 : cntB (fun m => am m && !cfO am (mv (lN X) pts am) mo m) 12 = sumN (fun m => if (am m && !cfO am (mv (lN X) pts am) mo m) = true then 1 else 0) 12 := rfl
        omega
      obtain ⟨f1, c, c1, c2, c3, c4⟩ := call_eq hm n (fun m => am m && !cfO am (mv (lN X) pts am) mo m) (fun m => if cfO am (mv (lN X) pts am) mo m = true then mo m else cl m) (dv (lN X) pts am) (X - Hd) hcnt (by omega) (fun m hm' q => hW m hm' (by rw [Bool.and_eq_true] at q; exact q.1))
      have eM : mcG mo pts (n + 1) am cl (lN X) = mcG mo pts n (fun m => am m && !cfO am (mv (lN X) pts am) mo m) (fun m => if cfO am (mv (lN X) pts am) mo m = true then mo m else cl m) (lN (X - Hd)) := by
        rw [mcG, if_pos a, if_pos hgo, hrun]
      have eC : ∀ m, m < 12 → cfG mo pts (n + 1) am cl (lN X) pa m = cfG mo pts n (fun m => am m && !cfO am (mv (lN X) pts am) mo m) (fun m => if cfO am (mv (lN X) pts am) mo m = true then mo m else cl m) (lN (X - Hd)) (dv (lN X) pts am) m := fun m hm' => by
        rw [cfG_go hne, hH, lN_sub (by omega)]
        have hpos : n ≠ 0 := by omega
        exact cfG_congr (fun _ _ => rfl) (fun _ _ => rfl) n _ _ _ _ _ _ _ (fun j hj => by rw [hoD j hj, hoM j hj]) (fun j hj => by rw [hoD j hj, hoM j hj]) (fun z => absurd z hpos) m hm'
      refine ⟨⟨hfin, fun _ _ => by rw [hrun]; exact f1⟩, fun m => if cfO am (mv (lN X) pts am) mo m = true then M m else c m, fun m hm' q => ?_, fun m hm' q => ?_, ?_, ?_⟩
      · rw [eC m hm', eM]
        show _ = lN (if cfO am (mv (lN X) pts am) mo m = true then M m else c m) ∧ _ = lN (if cfO am (mv (lN X) pts am) mo m = true then M m else c m)
        by_cases o : cfO am (mv (lN X) pts am) mo m = true
        · have := c2 m hm' (by rw [o]; exact Bool.and_false _)
          rw [if_pos o] at this
          rw [if_pos o, this.1, this.2, (hm m hm').1]
          exact ⟨rfl, rfl⟩
        · rw [if_neg o]
          exact c1 m hm' (by rw [q, eq_false_of_ne_true o]; rfl)
      · rw [eC m hm', eM]
        have ho : cfO am (mv (lN X) pts am) mo m = false := by rw [hoM m hm', q]; rfl
        have := c2 m hm' (by rw [q]; rfl)
        rw [if_neg (by rw [ho]; decide)] at this
        exact this
      · have e : sumN (fun m => if am m = true then (if cfO am (mv (lN X) pts am) mo m = true then M m else c m) else 0) 12 = Hd + sumN (fun m => if (am m && !cfO am (mv (lN X) pts am) mo m) = true then c m else 0) 12 := by
          rw [← hHd, ← sumN_add]
          refine sumN_congr (fun m hm' => ?_)
          have := hoM m hm'
          cases ha : am m <;> cases ho : cfO am (mv (lN X) pts am) mo m <;> simp_all
        rw [e]; omega
      · have e : sumN (fun m => if am m = true then (if cfO am (mv (lN X) pts am) mo m = true then M m else c m) else 0) 12 = Hd + sumN (fun m => if (am m && !cfO am (mv (lN X) pts am) mo m) = true then c m else 0) 12 := by
          rw [← hHd, ← sumN_add]
          refine sumN_congr (fun m hm' => ?_)
          have := hoM m hm'
          cases ha : am m <;> cases ho : cfO am (mv (lN X) pts am) mo m <;> simp_all
        rw [e, eM, c4, Nat.sub_sub]
    · -- nobody is held
      rw [if_neg a] at hH
      have hno : ∀ m, m < 12 → cfO am (dv (lN X) pts am) mo m = false := fun m hm' => by
        rw [hoD m hm', ← hoM m hm']
        exact anyB_f (eq_false_of_ne_true a) m hm'
      have eM : mcG mo pts (n + 1) am cl (lN X) = ((fun m => if am m = true then mv (lN X) pts am m else cl m), runW (lN X) (fun m => if am m = true then mv (lN X) pts am m else 0) 12) := by
        rw [mcG, if_neg a]
      have hsg : sumN (fun m => if am m = true then g m else 0) 12 = sumN g 12 := sumN_congr (fun m hm' => by
        cases ha : am m with
        | true => rw [if_pos rfl]
        | false => rw [if_neg (by decide), (hg m hm').2.2 ha])
      refine ⟨⟨hfin, fun q => absurd q a⟩, g, fun m hm' q => ?_, fun m hm' q => ?_, by rw [hsg]; exact hgX, ?_⟩
      · rw [cfG_stop hH, eM]
        show (if _ then _ else _) = _ ∧ (if _ then _ else _) = _
        rw [hno m hm', q, if_pos (by decide), if_pos rfl]
        exact ⟨(hg m hm').1, (hg m hm').2.1⟩
      · rw [cfG_stop hH, eM]
        show (if _ then _ else _) = _ ∧ (if _ then _ else _) = _
        rw [hno m hm', q, if_neg (by decide), if_neg (by decide)]
        exact ⟨rfl, if_neg (by decide)⟩
      · rw [eM]
        show runW _ _ 12 = _
        rw [← runW_lN (f := fun m => if am m = true then mv (lN X) pts am m else 0) (g := fun m => if am m = true then g m else 0) (n := 12) (fun m hm' => by
          by_cases q : am m = true
          · rw [if_pos q, if_pos q]; exact (hg m hm').2.1
          · rw [if_neg q, if_neg q]; rfl) (by rw [hsg]; exact hgX)]
