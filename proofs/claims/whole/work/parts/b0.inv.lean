/-! what stays true of the club from call to call -/
theorem lack2 {A : AS} {pr : Nat → Bool} {r : Nat} (hA : wf A) (hR : RB A) (er : aRu A 1 = lN r) (hr : r ≤ 219999987) : ∃ G, G ≤ 28483488 ∧ cLack A (sumJ (gS A pr) 12) = lN (G - r) := by
  obtain ⟨g, eg, hg⟩ := hR 6 (by decide)
  obtain ⟨s, es, hs⟩ := bd_sum (f := gS A pr) (n := 12) (fun m _ => bd_S hA m)
  have hg' : g ≤ 100 := hg
  have : g * s ≤ 100 * 28483488 := Nat.mul_le_mul hg' hs
  refine ⟨g * s / 100, by omega, ?_⟩
  unfold cLack
  rw [eg, er, es, lN_mul, show (100 : Int64) = lN 100 from rfl, pk_lDiv (by omega) (by decide) (by decide), lN_tsub (by omega) (by omega)]
theorem res_n {A : AS} {P : LwP} {pr : Nat → Bool} {r : Nat} (hA : wf A) (hR : RB A) (er : aRu A 1 = lN r) (hr : r ≤ 219999987) : ∃ q, kRes A P pr = lN q ∧ q ≤ max r 28483488 := by
  obtain ⟨G, hG, eG⟩ := lack2 (pr := pr) hA hR er hr
  rcases k_cases (P := P) (pr := pr) hA hR with ⟨-, c, X, T, eX, hX, -, -⟩ | ⟨-, c, X, B, eX, -, hX, -, -⟩
  · have e1 : kT4 A P pr = lN (min (G - r) X) := by
      unfold kT4 kToR cToR
      rw [if_pos c, eG, eX, lN_min (by omega) (by omega)]
    have e2 : kT6 A P pr = 0 := if_pos c
    refine ⟨r + min (G - r) X, ?_, by omega⟩
    unfold kRes
    rw [er, e1, e2, lN_add]
    exact Int64.sub_zero _
  · have e1 : kT4 A P pr = 0 := if_neg c
    have e2 : kT6 A P pr = lN (min (r / 2) X) := by
      unfold kT6 kBo cBorne
      rw [if_neg c, er, eX, show (2 : Int64) = lN 2 from rfl, pk_lDiv (by omega) (by decide) (by decide), lN_min (by omega) (by omega)]
    refine ⟨r - min (r / 2) X, ?_, by omega⟩
    unfold kRes
    rw [er, e1, e2, show lN r + (0 : Int64) = lN r from Int64.add_zero _, lN_sub (by omega)]
theorem sumJ_nV {f : Nat → Int64} {c n : Nat} (hc : c < 2 ^ 63) (h : ∀ j, j < n → bd c (f j)) : sumJ f n = lN (sumN (fun j => nV (f j)) n) := sumJ_lN (fun j hj => ((h j hj).v hc).1)
theorem td_res {A : AS} {w : Int32} {du : Nat → Int64} {d : Int64} {r0 : Nat} (hA : wf A) (hR : RB A) (h31 : r0 ≤ 2 ^ 31) : ∀ i, i ≤ 12 → ∃ q, (td A (prX A w) (gS A (prX A w)) (gP A (prX A w)) du d (lN r0) i).2.2.2.1 = lN q ∧ q ≤ max r0 28483488
  | 0, _ => ⟨r0, rfl, by omega⟩
  | i + 1, hi => by
    obtain ⟨q, eq, hq⟩ := td_res (du := du) (d := d) (r0 := r0) (w := w) hA hR h31 i (by omega)
    cases c : (prX A w i && aLv A i) with
    | false => rw [td_n c]; exact ⟨q, eq, hq⟩
    | true =>
      have hiM : i < aM A := by
        rcases Nat.lt_or_ge i (aM A) with z | z
        · exact z
        · rw [prX_no z] at c; cases c
      obtain ⟨s1, s2⟩ := td_SP hA (w := w) (du := du) (d := d) (r := lN r0) i (by omega)
      rw [td_y c]
      show ∃ q, _ + tdD A _ _ _ _ i = lN q ∧ _
      rw [eq, s1, s2]
      obtain ⟨g, eg, hg⟩ := hR 6 (by decide)
      have hg' : g ≤ 100 := hg
      have hm := hA.m
      obtain ⟨s, es, hs⟩ := bd_sum (f := fun o => if gnB A (prX A w) i o = true then 0 else gS A (prX A w) o) (n := aM A) (c := 2373624) (fun m _ => by
        show bd 2373624 (if _ then _ else _)
        split
        · exact bd_0 _
        · exact bd_S hA m)
      have hs' : s ≤ 28483488 := Nat.le_trans hs (by omega)
      have hgs : g * s ≤ 100 * 28483488 := Nat.mul_le_mul hg' hs'
      have hbp : ∀ j, j < aM A → bd 21362616 ((fun o => if gnB A (prX A w) i o = true then 0 else gP A (prX A w) o) j) := fun j _ => by
        show bd 21362616 (if _ then _ else _)
        split
        · exact bd_0 _
        · exact bd_P hA j
      have hQ := sumJ_nV (n := aM A) (by decide) hbp
      have hgi : gnB A (prX A w) i i = false := by unfold gnB; rw [decide_eq_false (Nat.lt_irrefl i), Bool.false_and]
      have hat := sumN_at (f := fun j => nV ((fun o => if gnB A (prX A w) i o = true then 0 else gP A (prX A w) o) j)) hiM
      have hbQ : sumN (fun j => nV ((fun o => if gnB A (prX A w) i o = true then 0 else gP A (prX A w) o) j)) (aM A) ≤ aM A * 21362616 := sumN_c (fun j hj => ((hbp j hj).v (by decide)).2)
      generalize hQn : sumN (fun j => nV ((fun o => if gnB A (prX A w) i o = true then 0 else gP A (prX A w) o) j)) (aM A) = Q at hQ hat hbQ
      have hat' : nV (gP A (prX A w) i) ≤ Q := by
        have e : (fun o => if gnB A (prX A w) i o = true then 0 else gP A (prX A w) o) i = gP A (prX A w) i := if_neg (by rw [hgi]; decide)
        have h2 : nV ((fun o => if gnB A (prX A w) i o = true then 0 else gP A (prX A w) o) i) ≤ Q := hat
        rw [e] at h2
        exact h2
      obtain ⟨ep, hp⟩ := (bd_P (pr := prX A w) hA i).v (by decide)
      generalize hpn : nV (gP A (prX A w) i) = pn at ep hp hat'
      have hy := hA.2.2.2.2.2.2.1 i hiM
      have eM : tdM A i = lN (4 - aYs A i) := by
        rw [tdM_n hy, show (4 : Int64) = lN 4 from rfl, lN_tsub (by decide) (by omega)]
      have eL : tdL A (lN s) (lN q) = lN (g * s / 100 - q) := by
        unfold tdL
        rw [eg, lN_mul, show (100 : Int64) = lN 100 from rfl, pk_lDiv (by omega) (by decide) (by decide), lN_tsub (by omega) (by omega)]
      rw [es, hQ, ep]
      have hl : g * s / 100 - q ≤ 28483488 := by omega
      have hlp : (g * s / 100 - q) * pn ≤ 28483488 * 21362616 := Nat.mul_le_mul hl hp
      have ex : ∃ x, (if 0 < lN Q then tdL A (lN s) (lN q) * lN pn / lN Q else 0) = lN x ∧ x ≤ g * s / 100 - q := by
        by_cases cq : 0 < Q
        · have hQ63 : Q < 2 ^ 63 := by omega
          rw [if_pos ((lN_pos hQ63).mpr cq), eL, lN_mul, pk_lDiv (by omega) cq hQ63]
          refine ⟨_, rfl, ?_⟩
          exact Nat.div_le_of_le_mul (by rw [Nat.mul_comm Q]; exact Nat.mul_le_mul_left _ hat')
        · have hQ63 : Q < 2 ^ 63 := by omega
          rw [if_neg (fun z => cq ((lN_pos hQ63).mp z))]
          exact ⟨0, rfl, Nat.zero_le _⟩
      obtain ⟨x, e9, hx⟩ := ex
      refine ⟨q + x * (4 - aYs A i) / 5, ?_, ?_⟩
      · unfold tdD
        have hx2 : x * (4 - aYs A i) ≤ 28483488 * 4 := Nat.mul_le_mul (by omega) (by omega)
        rw [e9, eM, lN_mul, show (5 : Int64) = lN 5 from rfl, pk_lDiv (by omega) (by decide) (by decide), lN_add]
      · have hx2 : x * (4 - aYs A i) ≤ x * 4 := Nat.mul_le_mul_left _ (by omega)
        omega
/-- the RESERVE behind the END -/
theorem kT10_n {A : AS} {P : LwP} {w : Int32} {r : Nat} (hA : wf A) (hR : RB A) (er : aRu A 1 = lN r) (hr : r ≤ 219999987) : ∃ q, kT A P (prX A w) 10 = lN q ∧ q ≤ max r 28483488 := by
  obtain ⟨q1, e1, h1⟩ := res_n (P := P) (pr := prX A w) hA hR er hr
  obtain ⟨q2, e2, h2⟩ := td_res (w := w) (du := fun _ => 0) (d := 0) (r0 := q1) hA hR (by omega) 12 (Nat.le_refl _)
  refine ⟨q2, ?_, by omega⟩
  show (kTd A P (prX A w)).2.2.2.1 = _
  unfold kTd
  rw [e1]
  exact e2
