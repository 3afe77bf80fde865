/-! the sums as small numbers: nothing wraps -/
def bd (c : Nat) (x : Int64) : Prop := ∃ g, x = lN g ∧ g ≤ c
def nV (x : Int64) : Nat := x.toInt.toNat
theorem bd.v {c : Nat} {x : Int64} (h : bd c x) (hc : c < 2 ^ 63) : x = lN (nV x) ∧ nV x ≤ c := by
  obtain ⟨g, rfl, hg⟩ := h
  have : nV (lN g) = g := by unfold nV; rw [pk_lT (by omega)]; exact Int.toNat_natCast g
  rw [this]; exact ⟨rfl, hg⟩
theorem bd.le {c d : Nat} {x : Int64} (h : bd c x) (hc : c ≤ d) : bd d x := by
  obtain ⟨g, e, hg⟩ := h
  exact ⟨g, e, by omega⟩
theorem bd_0 (c : Nat) : bd c 0 := ⟨0, rfl, Nat.zero_le _⟩
theorem bd.nn {c : Nat} {x : Int64} (h : bd c x) (hc : c < 2 ^ 63) : ¬ x < 0 := by
  obtain ⟨g, rfl, hg⟩ := h
  intro q
  exact absurd ((pk_lLT (a := g) (b := 0) (by omega) (by decide)).mp q) (by omega)
theorem bd_sum {f : Nat → Int64} {c : Nat} : ∀ {n : Nat}, (∀ j, j < n → bd c (f j)) → bd (n * c) (sumJ f n)
  | 0, _ => bd_0 _
  | n + 1, h => by
    obtain ⟨g, e, hg⟩ := bd_sum (f := f) (c := c) (n := n) (fun j hj => h j (by omega))
    obtain ⟨k, e2, hk⟩ := h n (Nat.lt_succ_self n)
    refine ⟨g + k, ?_, by rw [Nat.succ_mul]; omega⟩
    show sumJ f n + f n = _
    rw [e, e2, lN_add]
theorem bd.mul {a b : Nat} {x y : Int64} (h : bd a x) (k : bd b y) : bd (a * b) (x * y) := by
  obtain ⟨g, rfl, hg⟩ := h
  obtain ⟨m, rfl, hm⟩ := k
  exact ⟨g * m, lN_mul g m, Nat.mul_le_mul hg hm⟩
theorem bd.div {a d : Nat} {x : Int64} (h : bd a x) (ha : a < 2 ^ 63) (hd : 0 < d) (hd2 : d < 2 ^ 63) : bd (a / d) (x / lN d) := by
  obtain ⟨g, rfl, hg⟩ := h
  exact ⟨g / d, pk_lDiv (by omega) hd hd2, Nat.div_le_div_right hg⟩
theorem lN_tsub {a b : Nat} (ha : a < 2 ^ 62) (hb : b < 2 ^ 62) : (if lN a - lN b < 0 then 0 else lN a - lN b) = lN (a - b) := by
  by_cases c : b ≤ a
  · rw [lN_sub c, if_neg (show ¬ lN (a - b) < 0 from fun q => absurd ((pk_lLT (a := a - b) (b := 0) (by omega) (by decide)).mp q) (by omega))]
  · have : lN a - lN b < 0 := by
      rw [Int64.lt_iff_toInt_lt, Int64.toInt_sub, pk_lT (by omega), pk_lT (by omega), show (0 : Int64).toInt = 0 from rfl, Int.bmod_eq_of_le (by omega) (by omega)]
      omega
    rw [if_pos this, show a - b = 0 by omega]; rfl
theorem lN_min {a b : Nat} (ha : a < 2 ^ 63) (hb : b < 2 ^ 63) : (if lN a < lN b then lN a else lN b) = lN (min a b) := by
  by_cases c : a < b
  · rw [if_pos ((pk_lLT ha hb).mpr c), Nat.min_eq_left (by omega)]
  · rw [if_neg (fun q => c ((pk_lLT ha hb).mp q)), Nat.min_eq_right (by omega)]
/-- the bounds of the club's numbers -/
def rbM (j : Nat) : Nat := if j = 1 then 219999987 else rmN j
def RB (A : AS) : Prop := ∀ j, j < 7 → bd (rbM j) (aRu A j)
section BOUNDS
variable {A : AS} {P : LwP} {pr : Nat → Bool}
theorem bd_nI {n c : Nat} (h : n ≤ c) (hc : c < 2 ^ 31) : bd c (nI n).toInt64 := ⟨n, nI_l (by omega), h⟩
theorem bd_co (hA : wf A) {i : Nat} (hi : i < aF A) : bd 98901 (aCo A i) := by
  obtain ⟨-, -, -, -, ⟨-, h4⟩, -, h5⟩ := hA.2.2.2.2.2.2.2.1 i hi
  exact (bd_nI h4 (by decide)).mul (bd_nI h5 (by decide))
theorem bd_pt (hA : wf A) {i : Nat} (hi : i < aF A) : bd 890109 (aPt A i) := by
  obtain ⟨-, h1, h2, -⟩ := hA.2.2.2.2.2.2.2.1 i hi
  exact (bd_co hA hi).mul (bd_nI (hA.2.2.2.2.1 _ (by omega)).2 (by decide))
theorem bd_S (hA : wf A) (m : Nat) : bd 2373624 (gS A pr m) := by
  unfold gS
  split
  · refine bd.le (c := aF A * 98901) (bd_sum (fun j hj => ?_)) (by have := hA.f; omega)
    split
    · exact bd_co hA hj
    · exact bd_0 _
  · exact bd_0 _
theorem bd_P (hA : wf A) (m : Nat) : bd 21362616 (gP A pr m) := by
  unfold gP
  split
  · refine bd.le (c := aF A * 890109) (bd_sum (fun j hj => ?_)) (by have := hA.f; omega)
    split
    · exact bd_pt hA hj
    · exact bd_0 _
  · exact bd_0 _
theorem bd_paid {i t : Nat} (ht : t ≤ 100) : bd 100 (aPaid A P i t) := by
  unfold aPaid
  rw [nI_l (n := t) (by omega)]
  by_cases c : P.1 = 0
  · rw [if_pos c]
    split
    · exact bd_0 _
    · exact ⟨t, rfl, ht⟩
  · rw [if_neg c]
    generalize lpVal P _ = v
    show bd 100 (if (if v < lN t then v else lN t) < 0 then 0 else if v < lN t then v else lN t)
    by_cases d : v < lN t
    · rw [if_pos d]
      by_cases e : v < 0
      · rw [if_pos e]; exact bd_0 _
      · rw [if_neg e]
        obtain ⟨k, hk, rfl⟩ := pk_lOf e
        exact ⟨k, rfl, by have := (pk_lLT hk (b := t) (by omega)).mp d; omega⟩
    · rw [if_neg d]
      split
      · exact bd_0 _
      · exact ⟨t, rfl, ht⟩
theorem bd_claim (hA : wf A) {i t : Nat} (hi : i < aF A) (ht : t ≤ 100) : bd 98901 (aClaim A P i t) :=
  ((bd_co hA hi).mul (bd_paid (A := A) (P := P) (i := i) ht)).div (d := 100) (by decide) (by decide) (by decide)
theorem bd_C (hA : wf A) (m : Nat) : bd 2373624 (gC A P pr m) := by
  unfold gC
  split
  · refine bd.le (c := aF A * 98901) (bd_sum (fun j hj => ?_)) (by have := hA.f; omega)
    split
    · exact bd_claim hA hj (Nat.min_le_left _ _)
    · exact bd_0 _
  · exact bd_0 _
theorem bd_A (hA : wf A) (hR : RB A) (m : Nat) : bd 21362616 (gA A pr m) :=
  (((bd_P hA m).mul (hR 0 (by decide))).div (d := 1000) (by decide) (by decide) (by decide)).le (by decide)
theorem bd_Lo (hA : wf A) : bd 28483488 (kLo A P pr) := bd_sum (fun m _ => bd_C hA m)
theorem bd_Av (hA : wf A) (hR : RB A) : bd 256351392 (kAv A pr) := bd_sum (fun m _ => bd_A hA hR m)
theorem again_n (hR : RB A) {lo : Nat} (h : lo ≤ 28483488) : ∃ ag, cAgain A (lN lo) = lN ag ∧ ag ≤ lo := by
  obtain ⟨r, er, hr⟩ := hR 2 (by decide)
  obtain ⟨c, ec, hc⟩ := hR 3 (by decide)
  obtain ⟨b, eb, hb⟩ := hR 4 (by decide)
  have hr' : r ≤ 9999999 := hr
  have hc' : c ≤ 9999999 := hc
  have hb' : b ≤ 100 := hb
  have e1 : cAbove A (lN lo) = lN (lo - r) := by unfold cAbove; rw [er, lN_tsub (by omega) (by omega)]
  have e2 : cAgain A (lN lo) = lN (min c (lo - r) * b / 100) := by
    unfold cAgain
    rw [e1, ec, eb, lN_min (by omega) (by omega), lN_mul]
    have : min c (lo - r) * b ≤ 9999999 * 100 := Nat.mul_le_mul (by omega) hb'
    exact pk_lDiv (b := 100) (by omega) (by decide) (by decide)
  have : min c (lo - r) * b ≤ lo * 100 := Nat.mul_le_mul (by omega) hb'
  exact ⟨_, e2, by omega⟩
theorem lack_n (hA : wf A) (hR : RB A) : ∃ l, cLack A (sumJ (gS A pr) 12) = lN l ∧ l ≤ 28483488 := by
  obtain ⟨g, eg, hg⟩ := hR 6 (by decide)
  obtain ⟨r, er, hr⟩ := hR 1 (by decide)
  obtain ⟨s, es, hs⟩ := bd_sum (f := gS A pr) (n := 12) (fun m _ => bd_S hA m)
  have hg' : g ≤ 100 := hg
  have hr' : r ≤ 219999987 := hr
  have : g * s ≤ 100 * 28483488 := Nat.mul_le_mul hg' hs
  refine ⟨g * s / 100 - r, ?_, by omega⟩
  unfold cLack
  rw [eg, er, es, lN_mul, show (100 : Int64) = lN 100 from rfl, pk_lDiv (by omega) (by decide) (by decide), lN_tsub (by omega) (by omega)]
theorem k_cases (hA : wf A) (hR : RB A) : (¬ kAv A pr < kNe A P pr ∧ 0 ≤ kBt A P pr ∧ ∃ X T, kBt A P pr = lN X ∧ X ≤ 2 ^ 30 ∧ T ≤ X ∧ kToR A P pr = lN T) ∨ (kAv A pr < kNe A P pr ∧ ¬ 0 ≤ kBt A P pr ∧ ∃ X B, - kBt A P pr = lN X ∧ kNe A P pr - kAv A pr = lN X ∧ X ≤ 2 ^ 30 ∧ B ≤ X ∧ kBo A P pr = lN B) := by
  obtain ⟨lo, e1, h1⟩ := bd_Lo (P := P) (pr := pr) hA
  obtain ⟨ag, e2, h2⟩ := again_n hR h1
  obtain ⟨av, e3, h3⟩ := bd_Av (pr := pr) hA hR
  have eN : kNe A P pr = lN (lo - ag) := by unfold kNe kAg; rw [e1, e2, lN_sub h2]
  have eB : kBt A P pr = lN av - lN (lo - ag) := by unfold kBt; rw [e3, eN]
  by_cases c : lo - ag ≤ av
  · left
    have eB' : kBt A P pr = lN (av - (lo - ag)) := by rw [eB, lN_sub c]
    obtain ⟨l, el, hl⟩ := lack_n (pr := pr) hA hR
    refine ⟨?_, ?_, av - (lo - ag), min l (av - (lo - ag)), eB', by omega, by omega, ?_⟩
    · rw [e3, eN]; exact fun q => absurd ((pk_lLT (by omega) (by omega)).mp q) (by omega)
    · rw [eB']; exact (pk_lLE (a := 0) (by decide) (by omega)).mpr (Nat.zero_le _)
    · unfold kToR cToR; rw [el, eB', lN_min (by omega) (by omega)]
  · right
    have eX : - kBt A P pr = lN (lo - ag - av) := by rw [eB, Int64.neg_sub, lN_sub (by omega)]
    have hlt : kAv A pr < kNe A P pr := by rw [e3, eN]; exact (pk_lLT (by omega) (by omega)).mpr (by omega)
    obtain ⟨r, er, hr⟩ := hR 1 (by decide)
    have hr' : r ≤ 219999987 := hr
    refine ⟨hlt, ?_, lo - ag - av, min (r / 2) (lo - ag - av), eX, by rw [e3, eN, lN_sub (by omega)], by omega, by omega, ?_⟩
    · rw [eB]
      intro q
      rw [Int64.le_iff_toInt_le, Int64.toInt_sub, pk_lT (by omega), pk_lT (by omega), show (0 : Int64).toInt = 0 from rfl, Int.bmod_eq_of_le (by omega) (by omega)] at q
      omega
    · unfold kBo cBorne
      rw [er, eX, show (2 : Int64) = lN 2 from rfl, pk_lDiv (by omega) (by decide) (by decide), lN_min (by omega) (by omega)]
theorem sh_giv (hA : wf A) (hR : RB A) {X : Nat} (hX : X ≤ 2 ^ 30) : (¬ dvA (gA A pr) pr = 0 → ¬ 0 < (mvR (lN X) (gA A pr) pr 12).2.2) ∧ ∀ m, m < 12 → mv (lN X) (gA A pr) pr m = dv (lN X) (gA A pr) pr m := by
  obtain ⟨-, h, g, hg, -⟩ := share2 (X := X) (W := fun m => nV (gA A pr m)) (am := pr) (pts := gA A pr) hX (fun m _ _ => ⟨((bd_A hA hR m).v (by decide)).1, by have := ((bd_A (pr := pr) hA hR m).v (by decide)).2; omega⟩)
  exact ⟨h, fun m hm => (hg m hm).2.1.trans (hg m hm).1.symm⟩
theorem sh_cut (hA : wf A) {X : Nat} (hX : X ≤ 2 ^ 30) : (¬ dvA (gC A P pr) pr = 0 → ¬ 0 < (mvR (lN X) (gC A P pr) pr 12).2.2) ∧ ∀ m, m < 12 → mv (lN X) (gC A P pr) pr m = dv (lN X) (gC A P pr) pr m := by
  obtain ⟨-, h, g, hg, -⟩ := share2 (X := X) (W := fun m => nV (gC A P pr m)) (am := pr) (pts := gC A P pr) hX (fun m _ _ => ⟨((bd_C hA m).v (by decide)).1, by have := ((bd_C (P := P) (pr := pr) hA m).v (by decide)).2; omega⟩)
  exact ⟨h, fun m hm => (hg m hm).2.1.trans (hg m hm).1.symm⟩
theorem mcG_cl {mo pts : Nat → Int64} : ∀ (n : Nat) (am : Nat → Bool) (cl cl' : Nat → Int64) (x : Int64), (∀ m, m < 12 → cl m = cl' m) → (∀ m, m < 12 → (mcG mo pts n am cl x).1 m = (mcG mo pts n am cl' x).1 m) ∧ (mcG mo pts n am cl x).2 = (mcG mo pts n am cl' x).2
  | 0, _, _, _, _, h => ⟨h, rfl⟩
  | n + 1, am, cl, cl', x, h => by
    have k : ∀ (q : Nat → Bool) (f : Nat → Int64) m, m < 12 → (if q m = true then f m else cl m) = if q m = true then f m else cl' m := fun q f m hm => by rw [h m hm]
    unfold mcG
    by_cases c : anyB (cfO am (mv x pts am) mo) 12 = true
    · rw [if_pos c, if_pos c]
      by_cases d : 0 < mvX x pts am ∧ 0 < runW x (fun m => if cfO am (mv x pts am) mo m = true then mo m else 0) 12
      · rw [if_pos d, if_pos d]
        exact mcG_cl n _ _ _ _ (fun m hm => k _ _ m hm)
      · rw [if_neg d, if_neg d]
        exact ⟨fun m hm => k _ _ m hm, rfl⟩
    · rw [if_neg c, if_neg c]
      exact ⟨fun m hm => k _ _ m hm, rfl⟩
/-- who is CALLED for what, and what is left then -/
theorem sh_cal (hA : wf A) (hR : RB A) {x : Int64} {X : Nat} (hx : x = lN X) (hX : X ≤ 2 ^ 30) {cl : Nat → Int64} (hcl : ∀ m, m < 12 → cl m = 0) :
    mcFin (fun m => aRu A 5 * gA A pr m) (gP A pr) 13 pr x ∧ (∃ Y, Y ≤ 2 ^ 30 ∧ x - sumJ (cfG (fun m => aRu A 5 * gA A pr m) (gP A pr) 13 pr (fun _ => 0) x (fun _ => 0)) 12 = lN Y) ∧
    (∀ m, m < 12 → (if 0 < x then mcG (fun m => aRu A 5 * gA A pr m) (gP A pr) 13 pr cl x else (cl, x)).1 m = cfG (fun m => aRu A 5 * gA A pr m) (gP A pr) 13 pr (fun _ => 0) x (fun _ => 0) m) ∧
    (if 0 < x then mcG (fun m => aRu A 5 * gA A pr m) (gP A pr) 13 pr cl x else (cl, x)).2 = x - sumJ (cfG (fun m => aRu A 5 * gA A pr m) (gP A pr) 13 pr (fun _ => 0) x (fun _ => 0)) 12 := by
  subst hx
  have hcap : bd 99 (aRu A 5) := hR 5 (by decide)
  have hmo : ∀ m, bd (99 * 21362616) (aRu A 5 * gA A pr m) := fun m => hcap.mul (bd_A hA hR m)
  have hn : cntB pr 12 < 13 := by
    have : cntB pr 12 ≤ 12 * 1 := sumN_c (fun j _ => by split <;> omega)
    omega
  obtain ⟨h1, c, h2, h3, h4, h5⟩ := call_eq (mo := fun m => aRu A 5 * gA A pr m) (pts := gP A pr) (M := fun m => nV (aRu A 5 * gA A pr m)) (W := fun m => nV (gP A pr m)) (fun m _ => ⟨((hmo m).v (by decide)).1, by have := ((hmo m).v (by decide)).2; omega⟩) 13 pr (fun _ => 0) (fun _ => 0) X hn hX (fun m _ _ => ⟨((bd_P hA m).v (by decide)).1, by have := ((bd_P (pr := pr) hA m).v (by decide)).2; omega⟩)
  have hs : sumJ (cfG (fun m => aRu A 5 * gA A pr m) (gP A pr) 13 pr (fun _ => 0) (lN X) (fun _ => 0)) 12 = lN (sumN (fun m => if pr m = true then c m else 0) 12) := sumJ_lN (fun m hm => by
    by_cases q : pr m = true
    · rw [if_pos q]; exact (h2 m hm q).1
    · rw [if_neg q]; exact (h3 m hm (by simpa using q)).1)
  refine ⟨h1, ⟨X - sumN (fun m => if pr m = true then c m else 0) 12, by omega, by rw [hs, lN_sub h4]⟩, ?_, ?_⟩
  · intro m hm
    by_cases x0 : 0 < lN X
    · rw [if_pos x0, (mcG_cl 13 pr cl (fun _ => 0) (lN X) hcl).1 m hm]
      by_cases q : pr m = true
      · rw [(h2 m hm q).1, (h2 m hm q).2]
      · rw [(h3 m hm (by simpa using q)).1, (h3 m hm (by simpa using q)).2]
    · rw [if_neg x0]
      have hX0 : X = 0 := by
        rcases Nat.eq_zero_or_pos X with e | e
        · exact e
        · exact absurd ((lN_pos (by omega)).mpr e) x0
      show cl m = _
      rw [hcl m hm]
      by_cases q : pr m = true
      · rw [(h2 m hm q).1]
        have : (if pr m = true then c m else 0) ≤ sumN (fun m => if pr m = true then c m else 0) 12 := sumN_at (f := fun m => if pr m = true then c m else 0) hm
        rw [if_pos q] at this
        rw [show c m = 0 by omega]; rfl
      · rw [(h3 m hm (by simpa using q)).1]
  · by_cases x0 : 0 < lN X
    · rw [if_pos x0, (mcG_cl 13 pr cl (fun _ => 0) (lN X) hcl).2, h5, hs, lN_sub h4]
    · rw [if_neg x0]
      have hX0 : X = 0 := by
        rcases Nat.eq_zero_or_pos X with e | e
        · exact e
        · exact absurd ((lN_pos (by omega)).mpr e) x0
      rw [hs, lN_sub h4, show X - sumN (fun m => if pr m = true then c m else 0) 12 = 0 by omega, hX0]
end BOUNDS
theorem td_pos {A : AS} {w : Int32} (hA : wf A) {du : Nat → Int64} {d r : Int64} {i : Nat} (hi : i ≤ aM A) : ¬ (td A (prX A w) (gS A (prX A w)) (gP A (prX A w)) du d r i).2.1 < 0 := by
  rw [(td_SP hA i hi).2]
  refine (bd_sum (c := 21362616) (n := aM A) (fun j hj => ?_)).nn (by have := hA.m; omega)
  split
  · exact bd_0 _
  · exact bd_P hA j
theorem sumJ_up {f : Nat → Int64} {m : Nat} {v : Int64} (h : f m = 0) : ∀ {n : Nat}, m < n → sumJ (lpUp f m v) n = sumJ f n + v
  | 0, q => absurd q (Nat.not_lt_zero _)
  | n + 1, q => by
    show sumJ (lpUp f m v) n + lpUp f m v n = sumJ f n + f n + v
    by_cases c : n = m
    · subst c
      rw [show lpUp f n v n = v from if_pos rfl, h, Int64.add_zero, sumJ_congr (f := lpUp f n v) (g := f) (fun j hj => if_neg (by omega))]
    · rw [sumJ_up h (n := n) (by omega), show lpUp f m v n = f n from if_neg c, Int64.add_assoc, Int64.add_assoc, Int64.add_comm v]
theorem td_sum {A : AS} {pr : Nat → Bool} {sm pt : Nat → Int64} {r : Int64} : ∀ i, i ≤ 12 → (td A pr sm pt (fun _ => 0) 0 r i).2.2.1 = sumJ (td A pr sm pt (fun _ => 0) 0 r i).2.2.2.2 12 ∧ ∀ m, i ≤ m → (td A pr sm pt (fun _ => 0) 0 r i).2.2.2.2 m = 0
  | 0, _ => ⟨rfl, fun _ _ => rfl⟩
  | i + 1, hi => by
    obtain ⟨h1, h2⟩ := td_sum (A := A) (pr := pr) (sm := sm) (pt := pt) (r := r) i (by omega)
    cases c : (pr i && aLv A i) with
    | true =>
      rw [td_y c]
      refine ⟨?_, fun m hm => ?_⟩
      · show _ + _ = sumJ (lpUp _ i _) 12
        rw [sumJ_up (h2 i (Nat.le_refl _)) (by omega), h1]
      · show lpUp _ i _ m = 0
        rw [show ∀ (f : Nat → Int64) v, lpUp f i v m = f m from fun f v => if_neg (by omega)]
        exact h2 m (by omega)
    | false => rw [td_n c]; exact ⟨h1, fun m hm => h2 m (by omega)⟩
theorem sumJ_z : ∀ n, sumJ (fun _ => (0 : Int64)) n = 0
  | 0 => rfl
  | n + 1 => by show sumJ (fun _ => (0 : Int64)) n + 0 = 0; rw [sumJ_z n]; rfl
