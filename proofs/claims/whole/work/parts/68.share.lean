/-! dividing: class and reference give the same shares, and all of it -/
def sumN (f : Nat → Nat) : Nat → Nat
  | 0 => 0
  | n + 1 => sumN f n + f n
theorem sumN_congr {f g : Nat → Nat} : ∀ {n : Nat}, (∀ j, j < n → f j = g j) → sumN f n = sumN g n
  | 0, _ => rfl
  | n + 1, h => by
    show sumN f n + f n = sumN g n + g n
    rw [sumN_congr (fun j hj => h j (by omega)), h n (by omega)]
theorem sumN_le {f g : Nat → Nat} : ∀ {n : Nat}, (∀ j, j < n → f j ≤ g j) → sumN f n ≤ sumN g n
  | 0, _ => Nat.le_refl _
  | n + 1, h => by
    have := sumN_le (fun j hj => h j (by omega)) (n := n)
    have := h n (by omega)
    show sumN f n + f n ≤ sumN g n + g n
    omega
theorem sumN_c {f : Nat → Nat} {c : Nat} : ∀ {n : Nat}, (∀ j, j < n → f j ≤ c) → sumN f n ≤ n * c
  | 0, _ => Nat.zero_le _
  | n + 1, h => by
    have := sumN_c (fun j hj => h j (by omega)) (n := n)
    have := h n (by omega)
    show sumN f n + f n ≤ (n + 1) * c
    rw [Nat.succ_mul]
    omega
theorem sumN_at {f : Nat → Nat} : ∀ {n m : Nat}, m < n → f m ≤ sumN f n
  | 0, _, h => absurd h (Nat.not_lt_zero _)
  | n + 1, m, h => by
    show f m ≤ sumN f n + f n
    by_cases c : m = n
    · rw [c]; omega
    · have := sumN_at (f := f) (n := n) (m := m) (by omega)
      omega
theorem sumN_mono {f : Nat → Nat} {m : Nat} : ∀ {n : Nat}, m ≤ n → sumN f m ≤ sumN f n
  | 0, h => by rw [Nat.le_zero.mp h]; exact Nat.le_refl _
  | n + 1, h => by
    by_cases c : m = n + 1
    · rw [c]; exact Nat.le_refl _
    · have := sumN_mono (f := f) (m := m) (n := n) (by omega)
      show sumN f m ≤ sumN f n + f n
      omega
theorem sumN_add {f g : Nat → Nat} : ∀ n, sumN (fun j => f j + g j) n = sumN f n + sumN g n
  | 0 => rfl
  | n + 1 => by
    show sumN (fun j => f j + g j) n + (f n + g n) = sumN f n + f n + (sumN g n + g n)
    rw [sumN_add n]; omega
theorem sumN_mul {f : Nat → Nat} {c : Nat} : ∀ n, sumN (fun j => c * f j) n = c * sumN f n
  | 0 => rfl
  | n + 1 => by
    show sumN (fun j => c * f j) n + c * f n = c * (sumN f n + f n)
    rw [sumN_mul n, Nat.mul_add]
theorem sumN_0 {f : Nat → Nat} : ∀ {n : Nat}, (∀ j, j < n → f j = 0) → sumN f n = 0
  | 0, _ => rfl
  | n + 1, h => by
    show sumN f n + f n = 0
    rw [sumN_0 (fun j hj => h j (by omega)), h n (by omega)]
theorem sumN_up {f : Nat → Nat} {p v : Nat} : ∀ {n : Nat}, p < n → sumN (lpUp f p v) n + f p = sumN f n + v
  | 0, h => absurd h (Nat.not_lt_zero _)
  | n + 1, h => by
    show sumN (lpUp f p v) n + lpUp f p v n + f p = sumN f n + f n + v
    by_cases c : p = n
    · subst c
      have e : sumN (lpUp f p v) p = sumN f p := sumN_congr (fun j hj => if_neg (by omega))
      have e2 : lpUp f p v p = v := if_pos rfl
      rw [e, e2]; omega
    · have := sumN_up (f := f) (p := p) (v := v) (n := n) (by omega)
      have e2 : lpUp f p v n = f n := if_neg (fun q => c q.symm)
      rw [e2]; omega
theorem sumJ_lN {f : Nat → Int64} {g : Nat → Nat} : ∀ {n : Nat}, (∀ j, j < n → f j = lN (g j)) → sumJ f n = lN (sumN g n)
  | 0, _ => rfl
  | n + 1, h => by
    show sumJ f n + f n = lN (sumN g n + g n)
    rw [sumJ_lN (fun j hj => h j (by omega)), h n (by omega), lN_add]
/-! the first of the greatest -/
theorem pgr_spec (f : Nat → Int64) : ∀ n, (∀ j, j ≤ n → ¬ f (pgr f n) < f j) ∧ ∀ j, j < pgr f n → f j < f (pgr f n)
  | 0 => ⟨fun j hj => by rw [Nat.le_zero.mp hj]; exact Int64.lt_irrefl, fun j hj => absurd hj (Nat.not_lt_zero _)⟩
  | n + 1 => by
    obtain ⟨i1, i2⟩ := pgr_spec f n
    have hl := pgr_le f n
    by_cases c : f (pgr f n) < f (n + 1)
    · rw [pgr_up c]
      have key : ∀ j, j ≤ n → f j < f (n + 1) := fun j hj => by
        have := i1 j hj
        rcases Int64.lt_or_eq_of_le (Int64.not_lt.mp this) with q | q
        · exact Int64.lt_trans q c
        · rw [q]; exact c
      refine ⟨fun j hj => ?_, fun j hj => key j (by omega)⟩
      by_cases e : j = n + 1
      · rw [e]; exact Int64.lt_irrefl
      · exact fun q => Int64.lt_irrefl (Int64.lt_trans q (key j (by omega)))
    · rw [pgr_no c]
      refine ⟨fun j hj => ?_, i2⟩
      by_cases e : j = n + 1
      · rw [e]; exact c
      · exact i1 j (by omega)
theorem pgr_u {f : Nat → Int64} {n p : Nat} (hp : p ≤ n) (h1 : ∀ j, j ≤ n → ¬ f p < f j) (h2 : ∀ j, j < p → f j < f p) : pgr f n = p := by
  obtain ⟨i1, i2⟩ := pgr_spec f n
  have hl := pgr_le f n
  rcases Nat.lt_trichotomy (pgr f n) p with q | q | q
  · exact absurd (h2 _ q) (i1 p hp)
  · exact q
  · exact absurd (i2 _ q) (h1 _ hl)
theorem lN_pos {a : Nat} (h : a < 2 ^ 63) : (0 : Int64) < lN a ↔ 0 < a := pk_lLT (a := 0) (by decide) h
theorem neg1_lt {a : Nat} (h : a < 2 ^ 63) : (-1 : Int64) < lN a := by
  rw [Int64.lt_iff_toInt_lt, pk_lT h]
  have e : (-1 : Int64).toInt = -1 := rfl
  rw [e]; omega
/-- how many are above 0 -/
def cntP (f : Nat → Int64) : Nat → Nat := sumN (fun m => if 0 < f m then 1 else 0)
theorem cntP_up {f : Nat → Int64} {p n : Nat} (hp : p < n) (h : 0 < f p) : cntP (lpUp f p (-1)) n + 1 = cntP f n := by
  have := sumN_up (f := fun m => if 0 < f m then 1 else 0) (p := p) (v := 0) hp
  have e : cntP (lpUp f p (-1)) n = sumN (lpUp (fun m => if 0 < f m then 1 else 0) p 0) n := by
    refine sumN_congr (fun j hj => ?_)
    unfold lpUp
    by_cases c : j = p
    · rw [if_pos c, if_pos c, if_neg (by decide)]
    · rw [if_neg c, if_neg c]
  rw [e]
  simp only [if_pos h] at this
  exact this
theorem cntP_ex {f : Nat → Int64} : ∀ {n : Nat}, 0 < cntP f n → ∃ p, p < n ∧ 0 < f p
  | 0, h => absurd h (Nat.lt_irrefl 0)
  | n + 1, h => by
    by_cases c : 0 < f n
    · exact ⟨n, Nat.lt_succ_self n, c⟩
    · have e : cntP f (n + 1) = cntP f n + 0 := by show cntP f n + (if 0 < f n then 1 else 0) = _; rw [if_neg c]
      rw [e] at h
      obtain ⟨p, h1, h2⟩ := cntP_ex (n := n) h
      exact ⟨p, by omega, h2⟩
section SHARE
variable {X : Nat} {W : Nat → Nat} {am : Nat → Bool} {wt : Nat → Int64}
def shT (W : Nat → Nat) (am : Nat → Bool) : Nat := sumN (fun m => if am m = true then W m else 0) 12
def shS (X : Nat) (W : Nat → Nat) (am : Nat → Bool) (m : Nat) : Nat := if am m = true then X * W m / shT W am else 0
def shR (X : Nat) (W : Nat → Nat) (am : Nat → Bool) (m : Nat) : Nat := if am m = true then X * W m % shT W am else 0
/-- amounts and weights that are not too great -/
def shOk (X : Nat) (W : Nat → Nat) (am : Nat → Bool) (wt : Nat → Int64) : Prop := X ≤ 2 ^ 30 ∧ (∀ m, m < 12 → am m = true → wt m = lN (W m) ∧ W m ≤ 2 ^ 30) ∧ 0 < shT W am
theorem shOk.T (h : shOk X W am wt) : shT W am ≤ 12 * 2 ^ 30 := sumN_c (fun m hm => by
  by_cases c : am m = true
  · rw [if_pos c]; exact (h.2.1 m hm c).2
  · rw [if_neg c]; exact Nat.zero_le _)
theorem shOk.A (h : shOk X W am wt) : dvA wt am = lN (shT W am) := sumJ_lN (fun m hm => by
  unfold dvW
  by_cases c : am m = true
  · rw [if_pos c, if_pos c]; exact (h.2.1 m hm c).1
  · rw [if_neg c, if_neg c]; rfl)
theorem shOk.A0 (h : shOk X W am wt) : 0 < dvA wt am := by
  have := h.T
  rw [h.A, lN_pos (by omega)]
  exact h.2.2
theorem shOk.An (h : shOk X W am wt) : ¬ dvA wt am = 0 := fun q => by
  have := h.A0
  rw [q] at this
  exact Int64.lt_irrefl this
theorem shOk.X' (h : shOk X W am wt) {m : Nat} (hm : m < 12) (c : am m = true) : X * W m < 2 ^ 63 := by
  have := Nat.mul_le_mul h.1 (h.2.1 m hm c).2
  exact Nat.lt_of_le_of_lt this (by decide)
theorem shOk.s (h : shOk X W am wt) {m : Nat} (hm : m < 12) : mvS (lN X) wt am m = lN (shS X W am m) ∧ dvS (lN X) wt am m = lN (shS X W am m) := by
  have hT := h.T
  unfold mvS dvS dvP shS
  rw [if_pos h.A0, h.A]
  by_cases c : am m = true
  · rw [if_pos c, if_pos c, if_pos ⟨c, by rw [← h.A]; exact h.A0⟩, (h.2.1 m hm c).1, lN_mul, pk_lDiv (h.X' hm c) h.2.2 (by omega)]
    exact ⟨rfl, rfl⟩
  · rw [if_neg c, if_neg c, if_neg (fun q => c q.1)]
    have := pk_lDiv (a := 0) (b := shT W am) (by decide) h.2.2 (by omega)
    rw [Nat.zero_div] at this
    exact ⟨rfl, this⟩
theorem shOk.r (h : shOk X W am wt) {m : Nat} (hm : m < 12) : dvT (lN X) wt am m = lN (shR X W am m) ∧ (am m = true → mvT (lN X) wt am m = lN (shR X W am m)) ∧ (am m = false → mvT (lN X) wt am m = -1) := by
  have hT := h.T
  unfold mvT dvT dvP shR
  rw [if_pos h.A0, h.A]
  by_cases c : am m = true
  · rw [if_pos c, if_pos c, if_pos ⟨c, by rw [← h.A]; exact h.A0⟩, (h.2.1 m hm c).1, lN_mul, pk_lRem (h.X' hm c) h.2.2 (by omega)]
    exact ⟨rfl, fun _ => rfl, fun q => by rw [c] at q; cases q⟩
  · rw [if_neg c, if_neg c, if_neg (fun q => c q.1)]
    have := pk_lRem (a := 0) (b := shT W am) (by decide) h.2.2 (by omega)
    rw [Nat.zero_mod] at this
    exact ⟨this, fun q => absurd q c, fun _ => rfl⟩
theorem sh_all (X : Nat) (W : Nat → Nat) (am : Nat → Bool) : shT W am * sumN (shS X W am) 12 + sumN (shR X W am) 12 = X * shT W am := by
  rw [← sumN_mul, ← sumN_add]
  show _ = X * sumN _ 12
  rw [← sumN_mul]
  refine sumN_congr (fun m _ => ?_)
  unfold shS shR
  by_cases c : am m = true
  · rw [if_pos c, if_pos c, if_pos c]; exact Nat.div_add_mod _ _
  · rw [if_neg c, if_neg c, if_neg c, Nat.mul_zero, Nat.mul_zero]
theorem shR_lt (h : 0 < shT W am) (m : Nat) : shR X W am m < shT W am := by
  unfold shR
  split
  · exact Nat.mod_lt _ h
  · exact h
/-- what is left over -/
def shO (X : Nat) (W : Nat → Nat) (am : Nat → Bool) : Nat := X - sumN (shS X W am) 12
theorem shOk.sle (h : shOk X W am wt) : sumN (shS X W am) 12 ≤ X := by
  have := sh_all X W am
  have h0 := h.2.2
  refine Nat.le_of_mul_le_mul_left (c := shT W am) ?_ h0
  rw [Nat.mul_comm (shT W am) X]
  omega
theorem shOk.o (h : shOk X W am wt) : shT W am * shO X W am = sumN (shR X W am) 12 := by
  have e := sh_all X W am
  have hs := h.sle
  unfold shO
  rw [Nat.mul_sub, Nat.mul_comm (shT W am) X]
  omega
theorem shOk.cnt (h : shOk X W am wt) : shO X W am = 0 ∨ shO X W am < cntP (dvT (lN X) wt am) 12 := by
  have hT := h.T
  have h0 := h.2.2
  by_cases c : shO X W am = 0
  · exact Or.inl c
  · refine Or.inr ?_
    have e := h.o
    have e2 : sumN (shR X W am) 12 ≤ sumN (fun m => (shT W am - 1) * (if 0 < dvT (lN X) wt am m then 1 else 0)) 12 := sumN_le (fun m hm => by
      have hl := shR_lt (X := X) h0 m
      rw [(h.r hm).1, ]
      by_cases p : 0 < lN (shR X W am m)
      · rw [if_pos p]; omega
      · rw [if_neg p]
        have := mt (lN_pos (by omega)).mpr p
        omega)
    rw [sumN_mul] at e2
    rw [← e] at e2
    show shO X W am < cntP _ 12
    have e3 : shT W am * shO X W am ≤ (shT W am - 1) * cntP (dvT (lN X) wt am) 12 := e2
    rcases Nat.lt_or_ge (shO X W am) (cntP (dvT (lN X) wt am) 12) with q | q
    · exact q
    · exfalso
      have h5 : (shT W am - 1) * cntP (dvT (lN X) wt am) 12 ≤ (shT W am - 1) * shO X W am := Nat.mul_le_mul_left _ q
      have h6 : (shT W am - 1) * shO X W am < shT W am * shO X W am := by
        refine Nat.mul_lt_mul_of_pos_right (by omega) (by omega)
      omega
theorem cntP_le (f : Nat → Int64) (n : Nat) : cntP f n ≤ n := by
  have := sumN_c (f := fun m => if 0 < f m then 1 else 0) (c := 1) (n := n) (fun j _ => by show (if _ then 1 else 0) ≤ 1; split <;> decide)
  unfold cntP
  omega
theorem sh_dvL (h : shOk X W am wt) : ∀ m, m ≤ 12 → dvL (lN X) wt am m = lN (X - sumN (shS X W am) m) ∧ mvL (lN X) wt am m = lN (X - sumN (shS X W am) m)
  | 0, _ => by
    unfold dvL mvL
    rw [if_pos h.A0]
    exact ⟨rfl, rfl⟩
  | m + 1, hm => by
    obtain ⟨i1, i2⟩ := sh_dvL h m (by omega)
    have hs := h.sle
    have hmo : sumN (shS X W am) (m + 1) ≤ sumN (shS X W am) 12 := sumN_mono hm
    have e : sumN (shS X W am) (m + 1) = sumN (shS X W am) m + shS X W am m := rfl
    show dvL (lN X) wt am m - dvS (lN X) wt am m = _ ∧ mvL (lN X) wt am m - mvS (lN X) wt am m = _
    obtain ⟨j1, j2⟩ := h.s (m := m) (by omega)
    rw [i1, i2, j1, j2, lN_sub (by omega), e, show X - sumN (shS X W am) m - shS X W am m = X - (sumN (shS X W am) m + shS X W am m) by omega]
    exact ⟨rfl, rfl⟩
/-- after k coins of what is left -/
def shI (X : Nat) (W : Nat → Nat) (am : Nat → Bool) (wt : Nat → Int64) (k : Nat) : Prop := (∃ g : Nat → Nat, (∀ m, m < 12 → (dvR (lN X) wt am k).1 m = lN (g m) ∧ (mvR (lN X) wt am k).1 m = lN (g m) ∧ (am m = false → g m = 0)) ∧ sumN g 12 = sumN (shS X W am) 12 + k) ∧ ((dvR (lN X) wt am k).2.2 = lN (shO X W am - k) ∧ (mvR (lN X) wt am k).2.2 = lN (shO X W am - k)) ∧
  (∀ m, m < 12 → am m = true → (dvR (lN X) wt am k).2.1 m = (mvR (lN X) wt am k).2.1 m) ∧ (∀ m, m < 12 → am m = false → (dvR (lN X) wt am k).2.1 m = 0 ∧ (mvR (lN X) wt am k).2.1 m = -1) ∧ cntP (dvT (lN X) wt am) 12 ≤ cntP (dvR (lN X) wt am k).2.1 12 + k
theorem shI_all (h : shOk X W am wt) : ∀ k, k ≤ shO X W am → shI X W am wt k
  | 0, _ => by
    have hL := sh_dvL h 12 (Nat.le_refl _)
    refine ⟨⟨shS X W am, fun m hm => ⟨(h.s hm).2, (h.s hm).1, fun c => if_neg (by rw [c]; decide)⟩, rfl⟩, ⟨hL.1, hL.2⟩, fun m hm c => ?_, fun m hm c => ?_, Nat.le_refl _⟩
    · show dvT (lN X) wt am m = mvT (lN X) wt am m
      rw [(h.r hm).1, (h.r hm).2.1 c]
    · show dvT (lN X) wt am m = 0 ∧ mvT (lN X) wt am m = -1
      rw [(h.r hm).1, (h.r hm).2.2 c]
      refine ⟨?_, rfl⟩
      unfold shR
      rw [if_neg (by rw [c]; decide)]
      rfl
  | k + 1, hk => by
    obtain ⟨⟨g, i1, i1s⟩, ⟨i2, i2'⟩, i3, i4, i5⟩ := shI_all h k (by omega)
    have hX := h.1
    have hc := h.cnt.resolve_left (by omega)
    have hO : shO X W am ≤ X := Nat.sub_le _ _
    have hov : (0 : Int64) < lN (shO X W am - k) := (lN_pos (by omega)).mpr (by omega)
    obtain ⟨p0, hp0, hpos0⟩ := cntP_ex (f := (dvR (lN X) wt am k).2.1) (n := 12) (by omega)
    obtain ⟨s1, s2⟩ := pgr_spec (dvR (lN X) wt am k).2.1 11
    have hpl := pgr_le (dvR (lN X) wt am k).2.1 11
    generalize hp : pgr (dvR (lN X) wt am k).2.1 11 = p at s1 s2 hpl
    have hpos : 0 < (dvR (lN X) wt am k).2.1 p := by
      rcases Int64.lt_or_eq_of_le (Int64.not_lt.mp (s1 p0 (by omega))) with q | q
      · exact Int64.lt_trans hpos0 q
      · rw [← q]; exact hpos0
    have hpa : am p = true := by
      cases c : am p with
      | true => rfl
      | false => rw [(i4 p (by omega) c).1] at hpos; exact absurd hpos Int64.lt_irrefl
    have hpm : pgr (mvR (lN X) wt am k).2.1 11 = p := by
      refine pgr_u hpl (fun j hj => ?_) (fun j hj => ?_)
      · cases c : am j with
        | true => rw [← i3 p (by omega) hpa, ← i3 j (by omega) c]; exact s1 j hj
        | false =>
          rw [(i4 j (by omega) c).2, ← i3 p (by omega) hpa]
          intro q
          exact Int64.lt_irrefl (Int64.lt_trans (Int64.lt_trans hpos q) (by decide))
      · cases c : am j with
        | true => rw [← i3 p (by omega) hpa, ← i3 j (by omega) c]; exact s2 j hj
        | false =>
          rw [(i4 j (by omega) c).2, ← i3 p (by omega) hpa]
          exact Int64.lt_trans (by decide) hpos
    have e1 : dvR (lN X) wt am (k + 1) = (lpUp (dvR (lN X) wt am k).1 p ((dvR (lN X) wt am k).1 p + 1), lpUp (dvR (lN X) wt am k).2.1 p (-1), (dvR (lN X) wt am k).2.2 - 1) := by
      rw [← hp]; exact if_pos (by rw [i2]; exact hov)
    have e2 : mvR (lN X) wt am (k + 1) = (lpUp (mvR (lN X) wt am k).1 p ((mvR (lN X) wt am k).1 p + 1), lpUp (mvR (lN X) wt am k).2.1 p (-1), (mvR (lN X) wt am k).2.2 - 1) := by
      rw [← hpm]; exact if_pos (by rw [i2']; exact hov)
    have hsub : lN (shO X W am - k) - 1 = lN (shO X W am - (k + 1)) := by
      rw [show (1 : Int64) = lN 1 from rfl, lN_sub (by omega), Nat.sub_sub]
    unfold shI
    rw [e1, e2]
    refine ⟨⟨lpUp g p (g p + 1), fun m hm => ?_, ?_⟩, ⟨by show _ - 1 = _; rw [i2, hsub], by show _ - 1 = _; rw [i2', hsub]⟩, fun m hm c => ?_, fun m hm c => ?_, ?_⟩
    · show lpUp _ _ _ m = _ ∧ lpUp _ _ _ m = _ ∧ _
      unfold lpUp
      by_cases c : m = p
      · rw [if_pos c, if_pos c, if_pos c, (i1 p (by omega)).1, (i1 p (by omega)).2.1, lN_1]
        exact ⟨rfl, rfl, fun q => by rw [c, hpa] at q; cases q⟩
      · rw [if_neg c, if_neg c, if_neg c]
        exact i1 m hm
    · have := sumN_up (f := g) (p := p) (v := g p + 1) (n := 12) (by omega)
      omega
    · show lpUp _ _ _ m = lpUp _ _ _ m
      unfold lpUp
      rw [i3 m hm c]
    · show lpUp _ _ _ m = 0 ∧ lpUp _ _ _ m = -1
      unfold lpUp
      have hne : m ≠ p := fun q => by rw [q, hpa] at c; cases c
      rw [if_neg hne, if_neg hne]
      exact i4 m hm c
    · show _ ≤ cntP (lpUp _ _ _) 12 + (k + 1)
      have := cntP_up (f := (dvR (lN X) wt am k).2.1) (p := p) (n := 12) (by omega) hpos
      omega
/-- shares: the same, all of it, and the reference's loop ends -/
theorem share (h : shOk X W am wt) : (∃ g : Nat → Nat, (∀ m, m < 12 → dv (lN X) wt am m = lN (g m) ∧ mv (lN X) wt am m = lN (g m) ∧ (am m = false → g m = 0)) ∧ sumN g 12 = X) ∧ ¬ 0 < (mvR (lN X) wt am 12).2.2 := by
  obtain ⟨⟨g, i1, i1s⟩, ⟨i2, i2'⟩, -⟩ := shI_all h (shO X W am) (Nat.le_refl _)
  have hs := h.sle
  have hO : shO X W am ≤ 12 := by
    have := cntP_le (dvT (lN X) wt am) 12
    rcases h.cnt with q | q <;> omega
  obtain ⟨c, hc⟩ := Nat.exists_eq_add_of_le hO
  have z : ¬ (0 : Int64) < lN (shO X W am - shO X W am) := by rw [Nat.sub_self]; exact Int64.lt_irrefl
  have e1 : dvR (lN X) wt am 12 = dvR (lN X) wt am (shO X W am) := by rw [hc]; exact dvR_stop (by rw [i2]; exact z) c
  have e2 : mvR (lN X) wt am 12 = mvR (lN X) wt am (shO X W am) := by rw [hc]; exact mvR_stop (by rw [i2']; exact z) c
  refine ⟨⟨g, fun m hm => ⟨?_, ?_, (i1 m hm).2.2⟩, ?_⟩, by rw [e2, i2']; exact z⟩
  · unfold dv; rw [e1]; exact (i1 m hm).1
  · unfold mv; rw [if_neg h.An, e2]; exact (i1 m hm).2.1
  · rw [i1s]
    unfold shO
    omega
end SHARE
/-- nobody to divide among -/
theorem share0 {X : Int64} {wt : Nat → Int64} {am : Nat → Bool} (h : dvA wt am = 0) (m : Nat) : dv X wt am m = 0 ∧ mv X wt am m = 0 := by
  have h0 : ¬ 0 < dvA wt am := by rw [h]; exact Int64.lt_irrefl
  refine ⟨?_, if_pos h⟩
  have hS : ∀ j, dvS X wt am j = 0 := fun j => if_neg h0
  have hL : ∀ j, dvL X wt am j = 0 := fun j => by
    induction j with
    | zero => exact if_neg h0
    | succ j ih => show dvL X wt am j - dvS X wt am j = 0; rw [ih, hS]; rfl
  have e := dvR_stop (x := X) (wt := wt) (am := am) (r := 0) (by show ¬ 0 < dvL X wt am 12; rw [hL]; exact Int64.lt_irrefl) 12
  rw [Nat.zero_add] at e
  unfold dv
  rw [e]
  exact hS m
