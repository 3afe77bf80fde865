/-! what is reckoned depends on the first twelve alone -/
theorem dvA_congr {wt wt' : Nat → Int64} {am am' : Nat → Bool} (h : ∀ j, j < 12 → wt j = wt' j) (hm : ∀ j, j < 12 → am j = am' j) : dvA wt am = dvA wt' am' := by
  unfold dvA
  exact sumJ_congr (fun j hj => by unfold dvW; rw [h j hj, hm j hj])
theorem dvP_congr {x : Int64} {wt wt' : Nat → Int64} {am am' : Nat → Bool} (h : ∀ j, j < 12 → wt j = wt' j) (hm : ∀ j, j < 12 → am j = am' j) {j : Nat} (hj : j < 12) : dvP x wt am j = dvP x wt' am' j := by
  unfold dvP
  rw [dvA_congr h hm, h j hj, hm j hj]
theorem dvS_congr {x : Int64} {wt wt' : Nat → Int64} {am am' : Nat → Bool} (h : ∀ j, j < 12 → wt j = wt' j) (hm : ∀ j, j < 12 → am j = am' j) {j : Nat} (hj : j < 12) : dvS x wt am j = dvS x wt' am' j := by
  unfold dvS
  rw [dvA_congr h hm, dvP_congr h hm hj]
theorem dvT_congr {x : Int64} {wt wt' : Nat → Int64} {am am' : Nat → Bool} (h : ∀ j, j < 12 → wt j = wt' j) (hm : ∀ j, j < 12 → am j = am' j) {j : Nat} (hj : j < 12) : dvT x wt am j = dvT x wt' am' j := by
  unfold dvT
  rw [dvA_congr h hm, dvP_congr h hm hj]
theorem dvL_congr {x : Int64} {wt wt' : Nat → Int64} {am am' : Nat → Bool} (h : ∀ j, j < 12 → wt j = wt' j) (hm : ∀ j, j < 12 → am j = am' j) : ∀ n, n ≤ 12 → dvL x wt am n = dvL x wt' am' n
  | 0, _ => by unfold dvL; rw [dvA_congr h hm]
  | n + 1, hn => by
    show dvL x wt am n - dvS x wt am n = dvL x wt' am' n - dvS x wt' am' n
    rw [dvL_congr h hm n (by omega), dvS_congr h hm (by omega)]
theorem dvR_congr {x : Int64} {wt wt' : Nat → Int64} {am am' : Nat → Bool} (h : ∀ j, j < 12 → wt j = wt' j) (hm : ∀ j, j < 12 → am j = am' j) : ∀ r, (∀ j, j < 12 → (dvR x wt am r).1 j = (dvR x wt' am' r).1 j) ∧ (∀ j, j < 12 → (dvR x wt am r).2.1 j = (dvR x wt' am' r).2.1 j) ∧ (dvR x wt am r).2.2 = (dvR x wt' am' r).2.2
  | 0 => ⟨fun j hj => dvS_congr h hm hj, fun j hj => dvT_congr h hm hj, dvL_congr h hm 12 (Nat.le_refl _)⟩
  | r + 1 => by
    obtain ⟨i1, i2, i3⟩ := dvR_congr (x := x) h hm r
    have ig : pgr (dvR x wt am r).2.1 11 = pgr (dvR x wt' am' r).2.1 11 := pgr_congr (fun j hj => i2 j (by omega))
    have ib := pgr_le (dvR x wt' am' r).2.1 11
    by_cases c : 0 < (dvR x wt' am' r).2.2
    · have e1 : dvR x wt am (r + 1) = (lpUp (dvR x wt am r).1 (pgr (dvR x wt am r).2.1 11) ((dvR x wt am r).1 (pgr (dvR x wt am r).2.1 11) + 1), lpUp (dvR x wt am r).2.1 (pgr (dvR x wt am r).2.1 11) (-1), (dvR x wt am r).2.2 - 1) := if_pos (by rw [i3]; exact c)
      have e2 : dvR x wt' am' (r + 1) = (lpUp (dvR x wt' am' r).1 (pgr (dvR x wt' am' r).2.1 11) ((dvR x wt' am' r).1 (pgr (dvR x wt' am' r).2.1 11) + 1), lpUp (dvR x wt' am' r).2.1 (pgr (dvR x wt' am' r).2.1 11) (-1), (dvR x wt' am' r).2.2 - 1) := if_pos c
      rw [e1, e2, ig]
      refine ⟨fun j hj => ?_, fun j hj => ?_, by show _ - 1 = _ - 1; rw [i3]⟩
      · show lpUp _ _ _ j = lpUp _ _ _ j
        unfold lpUp
        rw [i1 _ (by omega), i1 j hj]
      · show lpUp _ _ _ j = lpUp _ _ _ j
        unfold lpUp
        rw [i2 j hj]
    · have e1 : dvR x wt am (r + 1) = dvR x wt am r := if_neg (by rw [i3]; exact c)
      have e2 : dvR x wt' am' (r + 1) = dvR x wt' am' r := if_neg c
      rw [e1, e2]
      exact ⟨i1, i2, i3⟩
theorem dv_congr {x : Int64} {wt wt' : Nat → Int64} {am am' : Nat → Bool} (h : ∀ j, j < 12 → wt j = wt' j) (hm : ∀ j, j < 12 → am j = am' j) {j : Nat} (hj : j < 12) : dv x wt am j = dv x wt' am' j := (dvR_congr h hm 12).1 j hj
theorem cfH_congr {q q' : Nat → Bool} {mo mo' : Nat → Int64} (h : ∀ j, j < 12 → q j = q' j) (hm : ∀ j, j < 12 → mo j = mo' j) : ∀ n, n ≤ 12 → cfH q mo n = cfH q' mo' n
  | 0, _ => rfl
  | n + 1, hn => by
    unfold cfH
    rw [cfH_congr h hm n (by omega), h n (by omega), hm n (by omega)]
theorem cfO_congr {un un' : Nat → Bool} {p p' mo mo' : Nat → Int64} {j : Nat} (h1 : un j = un' j) (h2 : p j = p' j) (h3 : mo j = mo' j) : cfO un p mo j = cfO un' p' mo' j := by
  unfold cfO
  rw [h1, h2, h3]
theorem cfG_congr {mo mo' pts pts' : Nat → Int64} (h1 : ∀ j, j < 12 → mo j = mo' j) (h2 : ∀ j, j < 12 → pts j = pts' j) : ∀ (n : Nat) (un un' : Nat → Bool) (cl cl' : Nat → Int64) (left : Int64) (pa pa' : Nat → Int64), (∀ j, j < 12 → un j = un' j) → (∀ j, j < 12 → cl j = cl' j) → (n = 0 → ∀ j, j < 12 → pa j = pa' j) → ∀ j, j < 12 → cfG mo pts n un cl left pa j = cfG mo' pts' n un' cl' left pa' j
  | 0, un, un', cl, cl', left, pa, pa', hu, hc, hp, j, hj => by
    unfold cfG
    rw [hu j hj, hc j hj, hp rfl j hj]
  | n + 1, un, un', cl, cl', left, pa, pa', hu, hc, hp, j, hj => by
    have hd : ∀ j, j < 12 → dv left pts un j = dv left pts' un' j := fun j hj => dv_congr h2 hu hj
    have ho : ∀ j, j < 12 → cfO un (dv left pts un) mo j = cfO un' (dv left pts' un') mo' j := fun j hj => cfO_congr (hu j hj) (hd j hj) (h1 j hj)
    have hh : cfH (cfO un (dv left pts un) mo) mo 12 = cfH (cfO un' (dv left pts' un') mo') mo' 12 := cfH_congr ho h1 12 (Nat.le_refl _)
    by_cases c : cfH (cfO un' (dv left pts' un') mo') mo' 12 = -1
    · rw [cfG_stop c, cfG_stop (hh.trans c)]
      show (if _ then _ else _) = (if _ then _ else _)
      rw [hu j hj, ho j hj, hd j hj, hc j hj, h1 j hj]
    · rw [cfG_go c, cfG_go (fun q => c (hh.symm.trans q)), hh]
      exact cfG_congr h1 h2 n _ _ _ _ _ _ _ (fun j hj => by show (_ && !_) = (_ && !_); rw [hu j hj, ho j hj]) (fun j hj => by show (if _ then _ else _) = (if _ then _ else _); rw [ho j hj, h1 j hj, hc j hj]) (fun _ j hj => hd j hj) j hj
theorem td_congr {A : AS} {pr pr' : Nat → Bool} {sm sm' pt pt' du du' : Nat → Int64} {d r : Int64} (h0 : ∀ j, j < 12 → pr j = pr' j) (h1 : ∀ j, j < 12 → sm j = sm' j) (h2 : ∀ j, j < 12 → pt j = pt' j) (h3 : ∀ j, j < 12 → du j = du' j) : ∀ n, n ≤ 12 → (td A pr sm pt du d r n).1 = (td A pr' sm' pt' du' d r n).1 ∧ (td A pr sm pt du d r n).2.1 = (td A pr' sm' pt' du' d r n).2.1 ∧ (td A pr sm pt du d r n).2.2.1 = (td A pr' sm' pt' du' d r n).2.2.1 ∧ (td A pr sm pt du d r n).2.2.2.1 = (td A pr' sm' pt' du' d r n).2.2.2.1 ∧ ∀ j, j < 12 → (td A pr sm pt du d r n).2.2.2.2 j = (td A pr' sm' pt' du' d r n).2.2.2.2 j
  | 0, _ => ⟨sumJ_congr h1, sumJ_congr h2, rfl, rfl, h3⟩
  | n + 1, hn => by
    obtain ⟨i1, i2, i3, i4, i5⟩ := td_congr (A := A) (d := d) (r := r) h0 h1 h2 h3 n (by omega)
    cases c : (pr' n && aLv A n) with
    | false =>
      rw [td_n c, td_n (by rw [h0 n (by omega)]; exact c)]
      exact ⟨i1, i2, i3, i4, i5⟩
    | true =>
      rw [td_y c, td_y (by rw [h0 n (by omega)]; exact c), i1, i2, i3, i4, h1 n (by omega), h2 n (by omega)]
      refine ⟨rfl, rfl, rfl, rfl, fun j hj => ?_⟩
      show lpUp _ _ _ j = lpUp _ _ _ j
      unfold lpUp
      rw [i5 j hj]
