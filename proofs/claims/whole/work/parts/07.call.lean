/-! Calls, statics, texts, Math, arraycopy. -/
theorem hc_catsum (E : hc_E) (st : List Value) : ((hc_st E st).map Value.category).sum = (st.map Value.category).sum := by
  unfold hc_st
  rw [List.map_map]
  congr 2
  funext v
  exact hc_cat E v
/-- what a call needs of a method: its code, its class ready, its number of parameters -/
def hc_Y (cx : hc_X) (n : Nat) : Prop := Cond.code (xY cx) (xC cx) (xN cx) (xT cx) ∈ hc_T ∧ Cond.initialized (xY cx).cls ∈ hc_T ∧ ((xY cx).cls ≠ "java/lang/invoke/MethodHandle" ∧ (xY cx).cls ≠ "java/lang/invoke/VarHandle" ∧ (parseMethodDescriptor (xY cx).desc).map (fun d => d.parameters.length) = some n) ∧ xN cx ≤ 45
def hc_YV (cx : hc_X) (n : Nat) : Prop := hc_Y cx n ∧ Cond.instanceMethod (xY cx) ∈ hc_T ∧ Cond.selects (xY cx).cls (xY cx) (xY cx) ∈ hc_T
def hc_YS (cx : hc_X) (n : Nat) : Prop := hc_Y cx n ∧ Cond.static (xY cx) ∈ hc_T
def hc_YI (cx : hc_X) (n : Nat) : Prop := hc_Y cx n ∧ Cond.instanceMethod (xY cx) ∈ hc_T ∧ (xY cx).name = "<init>" ∧ xT cx = none
theorem hc_goodY {cx : hc_X} {n : Nat} (h : hc_Y cx n) : GoodIn hc_T (hc_ws cx) := fun w hw => by
  rcases List.mem_cons.mp hw with rfl | hw
  · exact ⟨h.1, hc_good _ h.1⟩
  · exact ⟨hw, hc_good _ hw⟩
theorem hc_goodV {cx : hc_X} {n idx : Nat} {own : String} (h : hc_YV cx n) (hl : Cond.methodLink own idx (xY cx) ∈ hc_T) : GoodIn hc_T (wsV own idx (xY cx).cls (xY cx) (hc_ws cx)) := fun w hw => by
  unfold wsV at hw
  rcases List.mem_append.mp hw with hw | hw
  · simp only [List.mem_cons, List.not_mem_nil, or_false] at hw
    rcases hw with rfl | rfl | rfl | rfl
    · exact ⟨hl, hc_good _ hl⟩
    · exact ⟨h.2.1, hc_good _ h.2.1⟩
    · exact ⟨h.2.2, hc_good _ h.2.2⟩
    · exact ⟨h.1.2.1, hc_good _ h.1.2.1⟩
  · exact hc_goodY h.1 w hw
theorem hc_goodS {cx : hc_X} {n idx : Nat} {own : String} (h : hc_YS cx n) (hl : Cond.methodLink own idx (xY cx) ∈ hc_T) : GoodIn hc_T (va_wsS own idx (xY cx) (hc_ws cx)) := fun w hw => by
  unfold va_wsS at hw
  rcases List.mem_append.mp hw with hw | hw
  · simp only [List.mem_cons, List.not_mem_nil, or_false] at hw
    rcases hw with rfl | rfl | rfl
    · exact ⟨hl, hc_good _ hl⟩
    · exact ⟨h.2, hc_good _ h.2⟩
    · exact ⟨h.1.2.1, hc_good _ h.1.2.1⟩
  · exact hc_goodY h.1 w hw
section HCC
variable {cx : hc_X} {ac : Nat × Nat} {pc : Nat} {ls : List (Nat × Value)} {st stk : List Value} {Λ : hc_L} {I : hc_I} {L : hc_J} {R : hc_R} {Q Q' : hc_Q}
theorem hc_goes {cx' : hc_X} {p : Program} {l : Launch} {e : Env} {E : hc_E} {s : State} {m : MethodId} {args : Array Value} {below : List Frame} {meth : Method} {c : Code} {H : Heap} {locs : List Loc} {la : Array Slot} {a : Array Value} {st0 : List Value} (B : hc_B cx E p s m args meth c) (hl : lv_has la (xN cx) (hc_ls E ls))
    (hr : va_Run p l e (hc_rm cx) s m args below meth c H locs ac.1 ac.2 (xM cx') (xS cx') (F0 m pc la st0) (hc_st E st) (hc_Qc E Q' a) (eA E)) (hS : va_S (eA E) s.heap H locs)
    (kk : ∀ r Λ' I' L' R', Q' r Λ' I' L' R' → LW cx (ac.1 + xM cx', ac.2 + xS cx') (pc + 3) ls (r.toList ++ st) Λ' I' L' R' Q) : W p l e (hc_rm cx) s m args below meth c H locs ac.1 ac.2 (MQ below (hc_Qc E Q) args s (xM cx) (xS cx) (eA E)) (F0 m pc la st0) := by
  intro T hT X
  obtain ⟨v, st₀, t, T', L', h0, X', hL, e1, e2, ⟨r, Λ', I', L'', R', hv, hq, hW', hz, hk⟩, stp⟩ := hr T hT X
  cases hv
  rw [h0] at hz hk
  have hS' : va_S (eA E) s.heap T'.heap (locs ++ L') := ⟨Nat.le_trans hS.1 (by rw [e1]; exact hz), fun q h1 h2 => by rw [e1, hk q (Nat.lt_of_lt_of_le h1 hS.1) h2]; exact hS.2.1 q h1 h2, fun q hq => by
      rcases List.mem_append.mp hq with h | h
      · exact hS.2.2 q h
      · exact hL q h⟩
  obtain ⟨t2, a1, b1⟩ := kk r Λ' I' L'' R' hq l E p e s m args below meth c T'.heap (locs ++ L') la B (by rw [e1]; exact hW') hS' hl T' rfl X'
  refine ⟨t2, stp t2 ?_, b1⟩
  have e3 : hc_st E (r.toList ++ st) = (r.map (hc_v E)).toList ++ hc_st E st := by cases r <;> rfl
  rw [e3] at a1
  exact a1
theorem hc_preOk {E : hc_E} {s U : State} {H : Heap} {locs : List Loc} {as : List Value} (hK : hc_K E s) (hS : va_S (eA E) s.heap H locs) (hW : hc_W E Λ I L R H) (hU : U.heap = H) (hw : s.WarmedH U.vm) : hc_Pc E as Λ I L R (hc_st E as).toArray U :=
  ⟨rfl, by rw [hU]; exact hW, hc_K.to hw (fun a h1 h2 => by rw [hU]; exact hS.2.1 a h1 h2) hK⟩
theorem LW_callV {cx' : hc_X} {As : List Value} {b ci w n idx : Nat} {r : vw_C} (hrun : Run cx' (.ref b :: As) Λ I L R Q') (hY : hc_YV cx' n) (hn : As.length = n) (hd : decode (xC cx) pc = .ok (.invokevirtual idx, 3)) (hl : Cond.methodLink (xY cx).cls idx (xY cx') ∈ hc_T) (hk : b < Λ.1) (hy : Λ.2.1 b = (100 + ci, w)) (hc : vwCl[ci]? = some r ∧ r.1 = (xY cx').cls) (hD : xD cx' + 1 ≤ xD cx) (hm : ac.1 + xM cx' ≤ xM cx ∧ ac.2 + xS cx' ≤ xS cx) (hst : (st.map Value.category).sum ≤ 8) (hs : stk = As.reverse ++ .ref b :: st)
    (kk : ∀ r Λ' I' L' R', Q' r Λ' I' L' R' → LW cx (ac.1 + xM cx', ac.2 + xS cx') (pc + 3) ls (r.toList ++ st) Λ' I' L' R' Q) : LW cx ac pc ls stk Λ I L R Q := by
  subst hs
  intro l E p e s m args below meth c H locs la B hW hS hl2
  have B0 := B
  obtain ⟨b1, b2, b3, b4, b5, b6, b7, b8, b9, b10⟩ := B
  have hws := hW.obj hk hy hc.1
  obtain ⟨cell, g1, g2, g3, -⟩ := hws
  refine hc_goes (cx' := cx') B0 hl2 (va_runV (C := (xY cx').cls) (As := hc_st E As) (rest := hc_st E st) (b := eB E + b) ⟨b1, b2, b4, b5, b6⟩ (hrun l E) (cwV n b6 (hc_goodV hY hl) rfl rfl rfl ⟨rfl, hY.1.2.2.1⟩ ⟨hD, by show 8 + (xN cx' + 11) + 64 * xD cx' ≤ 64 * xD cx; have := hY.1.2.2.2; omega⟩) ⟨hc_blind E _ Λ I L R, ⟨cell, g1, by rw [g3]; rfl, by rw [g2, ← hc.2]; exact (b9.1.1 ci _ hc.1).2.1⟩, fun U hU hw => ?_⟩ rfl (by rw [← hn]; exact List.length_map ..) hl2.1 ?_ (lv_room (by rw [hc_catsum]; exact hst)) hd hm) hS kk
  · have h := hc_preOk (as := .ref b :: As) b9 hS hW hU hw
    rw [show hc_st E (.ref b :: As) = .ref (eB E + b) :: hc_st E As from hc_st2 (vs := []) hW hk] at h
    exact h
  · show hc_st E (As.reverse ++ .ref b :: st) = (hc_st E As).reverse ++ .ref (eB E + b) :: hc_st E st
    rw [hc_st2 hW hk]
    unfold hc_st
    rw [List.map_reverse]
theorem LW_callS {cx' : hc_X} {As : List Value} {n idx : Nat} (hrun : Run cx' As Λ I L R Q') (hY : hc_YS cx' n) (hn : As.length = n) (hd : decode (xC cx) pc = .ok (.invokestatic idx, 3)) (hl : Cond.methodLink (xY cx).cls idx (xY cx') ∈ hc_T) (hD : xD cx' + 1 ≤ xD cx) (hm : ac.1 + xM cx' ≤ xM cx ∧ ac.2 + xS cx' ≤ xS cx) (hst : (st.map Value.category).sum ≤ 8) (hs : stk = As.reverse ++ st)
    (kk : ∀ r Λ' I' L' R', Q' r Λ' I' L' R' → LW cx (ac.1 + xM cx', ac.2 + xS cx') (pc + 3) ls (r.toList ++ st) Λ' I' L' R' Q) : LW cx ac pc ls stk Λ I L R Q := by
  subst hs
  intro l E p e s m args below meth c H locs la B hW hS hl2
  have B0 := B
  obtain ⟨b1, b2, b3, b4, b5, b6, b7, b8, b9, b10⟩ := B
  refine hc_goes (cx' := cx') B0 hl2 (va_runS (As := hc_st E As) (rest := hc_st E st) ⟨b1, b2, b4, b5, b6⟩ (hrun l E) (va_cwS n b6 (hc_goodS hY hl) rfl rfl rfl hY.1.2.2.1 ⟨hD, by show 8 + (xN cx' + 11) + 64 * xD cx' ≤ 64 * xD cx; have := hY.1.2.2.2; omega⟩) ⟨hc_blind E _ Λ I L R, fun U hU hw => hc_preOk b9 hS hW hU hw⟩ rfl (by rw [← hn]; exact List.length_map ..) hl2.1 ?_ (lv_room (by rw [hc_catsum]; exact hst)) hd hm) hS kk
  show hc_st E (As.reverse ++ st) = (hc_st E As).reverse ++ hc_st E st
  unfold hc_st
  rw [List.map_append, List.map_reverse]
theorem LW_callSN {cx' : hc_X} {As : List Value} {n idx : Nat} {host : String} (hrun : Run cx' As Λ I L R Q') (hY : hc_YS cx' n) (hn : As.length = n) (hd : decode (xC cx) pc = .ok (.invokestatic idx, 3)) (hl : Cond.methodLinkNest (xY cx).cls idx (xY cx') host ∈ hc_N) (hD : xD cx' + 1 ≤ xD cx) (hm : ac.1 + xM cx' ≤ xM cx ∧ ac.2 + xS cx' ≤ xS cx) (hst : (st.map Value.category).sum ≤ 8) (hs : stk = As.reverse ++ st)
    (kk : ∀ r Λ' I' L' R', Q' r Λ' I' L' R' → LW cx (ac.1 + xM cx', ac.2 + xS cx') (pc + 3) ls (r.toList ++ st) Λ' I' L' R' Q) : LW cx ac pc ls stk Λ I L R Q := by
  subst hs
  intro l E p e s m args below meth c H locs la B hW hS hl2
  have B0 := B
  obtain ⟨b1, b2, b3, b4, b5, b6, b7, b8, b9, b10⟩ := B
  refine hc_goes (cx' := cx') B0 hl2 (va_runSN (host := host) (As := hc_st E As) (rest := hc_st E st) ⟨b1, b2, b4, b5, b6⟩ (hrun l E) ⟨va_cnB n b6 (hc_goodY hY.1) rfl rfl rfl (b9.2.2.1 _ hl) (b6 _ hY.1.2.1) hY.1.2.2.1 ⟨hD, by show 8 + (xN cx' + 11) + 64 * xD cx' ≤ 64 * xD cx; have := hY.1.2.2.2; omega⟩, b6 _ hY.2, trivial⟩ ⟨hc_blind E _ Λ I L R, fun U hU hw => hc_preOk b9 hS hW hU hw⟩ rfl (by rw [← hn]; exact List.length_map ..) hl2.1 ?_ (lv_room (by rw [hc_catsum]; exact hst)) hd hm) hS kk
  show hc_st E (As.reverse ++ st) = (hc_st E As).reverse ++ hc_st E st
  unfold hc_st
  rw [List.map_append, List.map_reverse]
theorem LW_callI {cx' : hc_X} {As : List Value} {b n idx : Nat} (hrun : Run cx' (.ref b :: As) Λ I L R Q') (hY : hc_YI cx' n) (hn : As.length = n) (hd : decode (xC cx) pc = .ok (.invokespecial idx, 3)) (hl : Cond.methodLink (xY cx).cls idx (xY cx') ∈ hc_T) (hk : b < Λ.1) (hD : xD cx' + 1 ≤ xD cx) (hm : ac.1 + xM cx' ≤ xM cx ∧ ac.2 + xS cx' ≤ xS cx) (hst : (st.map Value.category).sum ≤ 8) (hs : stk = As.reverse ++ .ref b :: st)
    (kk : ∀ r Λ' I' L' R', Q' r Λ' I' L' R' → LW cx (ac.1 + xM cx', ac.2 + xS cx') (pc + 3) ls (r.toList ++ st) Λ' I' L' R' Q) : LW cx ac pc ls stk Λ I L R Q := by
  subst hs
  intro l E p e s m args below meth c H locs la B hW hS hl2
  have B0 := B
  obtain ⟨b1, b2, b3, b4, b5, b6, b7, b8, b9, b10⟩ := B
  refine hc_goes (cx' := cx') B0 hl2 (va_runI (As := hc_st E As) (rest := hc_st E st) (b := eB E + b) (bytes := xC cx') (maxL := xN cx') (ws := hc_ws cx') ⟨b1, b2, b4, b5, b6⟩ (hrun l E) (cwI (ws' := hc_T) n b6 (hc_goodY hY.1) (by unfold hc_ws; rw [hY.2.2.2]) rfl rfl (b6 _ hY.1.2.1) (b6 _ hl) (b6 _ hY.2.1) hY.2.2.1 hY.1.2.2.1 ⟨hD, by show 8 + (xN cx' + 11) + 64 * xD cx' ≤ 64 * xD cx; have := hY.1.2.2.2; omega⟩) ⟨hc_blind E _ Λ I L R, fun U hU hw => ?_⟩ rfl (by rw [← hn]; exact List.length_map ..) hl2.1 ?_ (lv_room (by rw [hc_catsum]; exact hst)) hd hm) hS kk
  · have h := hc_preOk (as := .ref b :: As) b9 hS hW hU hw
    rw [show hc_st E (.ref b :: As) = .ref (eB E + b) :: hc_st E As from hc_st2 (vs := []) hW hk] at h
    exact h
  · show hc_st E (As.reverse ++ .ref b :: st) = (hc_st E As).reverse ++ .ref (eB E + b) :: hc_st E st
    rw [hc_st2 hW hk]
    unfold hc_st
    rw [List.map_reverse]
theorem LW_callIN {cx' : hc_X} {As : List Value} {b n idx : Nat} {host : String} (hrun : Run cx' (.ref b :: As) Λ I L R Q') (hY : hc_YI cx' n) (hn : As.length = n) (hd : decode (xC cx) pc = .ok (.invokespecial idx, 3)) (hl : Cond.methodLinkNest (xY cx).cls idx (xY cx') host ∈ hc_N) (hk : b < Λ.1) (hD : xD cx' + 1 ≤ xD cx) (hm : ac.1 + xM cx' ≤ xM cx ∧ ac.2 + xS cx' ≤ xS cx) (hst : (st.map Value.category).sum ≤ 8) (hs : stk = As.reverse ++ .ref b :: st)
    (kk : ∀ r Λ' I' L' R', Q' r Λ' I' L' R' → LW cx (ac.1 + xM cx', ac.2 + xS cx') (pc + 3) ls (r.toList ++ st) Λ' I' L' R' Q) : LW cx ac pc ls stk Λ I L R Q := by
  subst hs
  intro l E p e s m args below meth c H locs la B hW hS hl2
  have B0 := B
  obtain ⟨b1, b2, b3, b4, b5, b6, b7, b8, b9, b10⟩ := B
  refine hc_goes (cx' := cx') B0 hl2 (va_runIN (host := host) (As := hc_st E As) (rest := hc_st E st) (b := eB E + b) (bytes := xC cx') (maxL := xN cx') (ws := hc_ws cx') ⟨b1, b2, b4, b5, b6⟩ (hrun l E) ⟨va_cnB (ws' := hc_T) n b6 (hc_goodY hY.1) (by unfold hc_ws; rw [hY.2.2.2]) rfl rfl (b9.2.2.1 _ hl) (b6 _ hY.1.2.1) hY.1.2.2.1 ⟨hD, by show 8 + (xN cx' + 11) + 64 * xD cx' ≤ 64 * xD cx; have := hY.1.2.2.2; omega⟩, hY.2.2.1, b6 _ hY.2.1⟩ ⟨hc_blind E _ Λ I L R, fun U hU hw => ?_⟩ rfl (by rw [← hn]; exact List.length_map ..) hl2.1 ?_ (lv_room (by rw [hc_catsum]; exact hst)) hd hm) hS kk
  · have h := hc_preOk (as := .ref b :: As) b9 hS hW hU hw
    rw [show hc_st E (.ref b :: As) = .ref (eB E + b) :: hc_st E As from hc_st2 (vs := []) hW hk] at h
    exact h
  · show hc_st E (As.reverse ++ .ref b :: st) = (hc_st E As).reverse ++ .ref (eB E + b) :: hc_st E st
    rw [hc_st2 hW hk]
    unfold hc_st
    rw [List.map_reverse]
theorem LW_dup2c {v : Value} (hd : decode (xC cx) pc = .ok (.dup2, 1)) (hv : v.category = 2) (k : LW cx ac (pc + 1) ls (v :: v :: st) Λ I L R Q) : LW cx ac pc ls (v :: st) Λ I L R Q := by
  intro l E p e s m args below meth c H locs la B hW hS hl
  exact lv_dup2_2 B.1 B.2.1 hd ((hc_cat E v).trans hv) (k l E p e s m args below meth c H locs la B hW hS hl)
theorem LW_dup2 {v w : Value} (hd : decode (xC cx) pc = .ok (.dup2, 1)) (hv : v.category = 1) (hw : w.category = 1) (k : LW cx ac (pc + 1) ls (v :: w :: v :: w :: st) Λ I L R Q) : LW cx ac pc ls (v :: w :: st) Λ I L R Q := by
  intro l E p e s m args below meth c H locs la B hW hS hl
  exact lv_dup2_11 B.1 B.2.1 hd ((hc_cat E v).trans hv) ((hc_cat E w).trans hw) (k l E p e s m args below meth c H locs la B hW hS hl)
theorem LW_pop2c {v : Value} (hd : decode (xC cx) pc = .ok (.pop2, 1)) (hv : v.category = 2) (k : LW cx ac (pc + 1) ls st Λ I L R Q) : LW cx ac pc ls (v :: st) Λ I L R Q := by
  intro l E p e s m args below meth c H locs la B hW hS hl
  exact lv_pop2_2 B.1 B.2.1 hd ((hc_cat E v).trans hv) (k l E p e s m args below meth c H locs la B hW hS hl)
end HCC
