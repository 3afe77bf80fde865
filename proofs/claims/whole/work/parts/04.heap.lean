/-! Cells, fields, arrays, new cells, calls. -/
def hc_u {α : Type} (f : Nat → Nat → α) (k j : Nat) (v : α) : Nat → Nat → α := fun a b => if a = k ∧ b = j then v else f a b
/-- a whole row set -/
def hc_r {α : Type} (f : Nat → Nat → α) (k : Nat) (g : Nat → α) : Nat → Nat → α := fun a => if a = k then g else f a
theorem hc_u_row {α : Type} (f : Nat → Nat → α) (k j : Nat) (v : α) {a : Nat} (h : a ≠ k) : hc_u f k j v a = f a := by
  funext b
  simp [hc_u, h]
theorem hc_u_at {α : Type} (f : Nat → Nat → α) (k j : Nat) (v : α) (b : Nat) : hc_u f k j v k b = if b = j then v else f k b := by simp [hc_u]
theorem hc_r_ne {α : Type} (f : Nat → Nat → α) (k : Nat) (g : Nat → α) {a : Nat} (h : a ≠ k) : hc_r f k g a = f a := if_neg h
theorem hc_r_eq {α : Type} (f : Nat → Nat → α) (k : Nat) (g : Nat → α) : hc_r f k g k = g := if_pos rfl
theorem hc_adk {E : hc_E} {k : Nat} (h : k < 1000000) : hc_ad E k = eB E + k := if_pos h
theorem hc_c.congr {E : hc_E} {Λ Λ' : hc_L} {I I' : hc_I} {L L' : hc_J} {R R' : hc_R} {k : Nat} {H H' : Heap} (h : hc_c E Λ I L R k H) (e1 : Λ'.2.1 k = Λ.2.1 k) (e2 : Λ'.2.2 k = Λ.2.2 k) (e3 : I' k = I k) (e4 : L' k = L k) (e5 : R' k = R k) (e6 : H'[eB E + k]? = H[eB E + k]?) : hc_c E Λ' I' L' R' k H' := by
  unfold hc_c at h ⊢
  rw [e1, e2, e3, e4, e5]
  split at h
  · rename_i hh
    rw [if_pos hh, e6]
    exact h
  · rename_i hh
    rw [if_neg hh]
    obtain ⟨r, h1, h2⟩ := h
    exact ⟨r, h1, h2.kept e6⟩
theorem hc_W.set {E : hc_E} {Λ Λ' : hc_L} {I I' : hc_I} {L L' : hc_J} {R R' : hc_R} {k : Nat} {H H' : Heap} (hW : hc_W E Λ I L R H) (z : H'.size = H.size) (oq : ∀ q, q ≠ eB E + k → H'[q]? = H[q]?) (e1 : Λ'.1 = Λ.1) (e2 : Λ'.2.1 = Λ.2.1) (hne : ∀ a, a ≠ k → Λ'.2.2 a = Λ.2.2 a ∧ I' a = I a ∧ L' a = L a ∧ R' a = R a) (hc : hc_c E Λ' I' L' R' k H') : hc_W E Λ' I' L' R' H' := by
  obtain ⟨w1, w2, w3⟩ := hW
  refine ⟨by rw [z, w1, e1], by rw [e1]; exact w2, fun a ha => ?_⟩
  rw [e1] at ha
  by_cases hak : a = k
  · rw [hak]; exact hc
  · obtain ⟨n1, n2, n3, n4⟩ := hne a hak
    exact (w3 a ha).congr (by rw [e2]) n1 n2 n3 n4 (oq _ (by omega))
theorem hc_W.arr {E : hc_E} {Λ : hc_L} {I : hc_I} {L : hc_J} {R : hc_R} {k t n : Nat} {H : Heap} (hW : hc_W E Λ I L R H) (hk : k < Λ.1) (hy : Λ.2.1 k = (t, n)) (ht : t < 100) : H[eB E + k]? = some (arrV (eT E t) n (fun j => hc_av E t (I k j) (L k j) (R k j) (Λ.2.2 k j))) := by
  have h := hW.2.2 k hk
  unfold hc_c at h
  rw [hy] at h
  rw [if_pos ht] at h
  exact h
theorem hc_W.obj {E : hc_E} {Λ : hc_L} {I : hc_I} {L : hc_J} {R : hc_R} {k ci w : Nat} {r : vw_C} {H : Heap} (hW : hc_W E Λ I L R H) (hk : k < Λ.1) (hy : Λ.2.1 k = (100 + ci, w)) (hr : vwCl[ci]? = some r) : t_OB (eB E + k) ((eD E).1 ci) r.2.2 ((eD E).2 ci) H (fun j => hc_fv E (hc_ty ci j) (I k j) (L k j) (Λ.2.2 k j)) := by
  have h := hW.2.2 k hk
  unfold hc_c at h
  rw [hy] at h
  rw [if_neg (by omega), Nat.add_sub_cancel_left] at h
  obtain ⟨r', h1, h2⟩ := h
  cases h1.symm.trans hr
  exact h2
theorem hc_W.adk {E : hc_E} {Λ : hc_L} {I : hc_I} {L : hc_J} {R : hc_R} {k : Nat} {H : Heap} (hW : hc_W E Λ I L R H) (hk : k < Λ.1) : hc_ad E k = eB E + k := hc_adk (Nat.lt_of_lt_of_le hk hW.2.1)
/-- a new cell behind all others -/
theorem hc_W.push {E : hc_E} {Λ Λ' : hc_L} {I I' : hc_I} {L L' : hc_J} {R R' : hc_R} {H H' : Heap} (hW : hc_W E Λ I L R H) (hn : Λ.1 < 1000000) (z : H'.size = H.size + 1) (oq : ∀ q, q < H.size → H'[q]? = H[q]?) (e1 : Λ'.1 = Λ.1 + 1) (hne : ∀ a, a ≠ Λ.1 → Λ'.2.1 a = Λ.2.1 a ∧ Λ'.2.2 a = Λ.2.2 a ∧ I' a = I a ∧ L' a = L a ∧ R' a = R a) (hc : hc_c E Λ' I' L' R' Λ.1 H') : hc_W E Λ' I' L' R' H' := by
  obtain ⟨w1, w2, w3⟩ := hW
  refine ⟨by rw [z, w1, e1]; rfl, by rw [e1]; omega, fun a ha => ?_⟩
  rw [e1] at ha
  by_cases hak : a = Λ.1
  · rw [hak]; exact hc
  · obtain ⟨n0, n1, n2, n3, n4⟩ := hne a hak
    exact (w3 a (by omega)).congr n0 n1 n2 n3 n4 (oq _ (by rw [w1]; show eB E + a < eB E + Λ.1; omega))
theorem hc_AO.to {ty : FieldType} {s U : State} (h : s.vm.Alike U.vm) (k : hc_AO ty s) : hc_AO ty U := by
  have h1 := Cond.arrayOver_setVmC (args := #[]) (s := s) h ty
  have h2 : (Cond.arrayOver ty).before #[] (s.setVm U.vm) = (Cond.arrayOver ty).before #[] U := by
    simp only [Cond.before, Cond.holds, Cond.value, State.vm_setVm]
    rfl
  unfold hc_AO at k ⊢
  rw [← h2, h1]
  exact k
/-- what is fixed goes with the machine -/
theorem hc_S.to {E : hc_E} {s U : State} {H : Heap} (hm : s.vm.Alike U.vm) (hq : ∀ a : Nat, a < s.heap.size → ¬ eA E a → H[a]? = s.heap[a]?) (h : hc_S E s s.heap) : hc_S E U H := by
  obtain ⟨h1, h2, h3, h4, h5⟩ := h
  exact ⟨(h1.moved hm).kept hq, (h2.moved hm).kept hq, h3.imp (fun z => (z.moved hm).kept hq) (fun z => (z.moved hm).kept hq), (h4.moved hm).kept hq, (h5.moved hm).kept hq⟩
theorem hc_K.to {E : hc_E} {s U : State} (hW : s.WarmedH U.vm) (hq : ∀ a : Nat, a < s.heap.size → ¬ eA E a → U.heap[a]? = s.heap[a]?) (h : hc_K E s) : hc_K E U := by
  obtain ⟨h1, h2, h3, h4, h5⟩ := h
  refine ⟨va_K.moved hW.alike h1, fun ty ht => hc_AO.to hW.alike (h2 ty ht), fun w hw => ?_, fun i q hi => vk_R.warm hW (h4 i q hi), hc_S.to hW.alike hq h5⟩
  have hw2 := h3 w hw
  simp only [hc_N, List.mem_cons, List.not_mem_nil, or_false] at hw
  rcases hw with rfl | rfl | rfl | rfl | rfl | rfl <;> first | exact va_Nw.warmM hW hw2 | exact va_Nw.warmF hW hw2
theorem hc_K.same {E : hc_E} {u U : State} (hv : U.vm = u.vm) (hh : U.heap = u.heap) (h : hc_K E u) : hc_K E U := by
  obtain ⟨h1, h2, h3, h4, h5⟩ := h
  have hal : u.vm.Alike U.vm := by rw [hv]; exact Vm.Alike.refl _
  refine ⟨va_K.moved hal h1, fun ty ht => hc_AO.to hal (h2 ty ht), fun w hw => ?_, fun i q hi => vk_R.same hv (h4 i q hi), hc_S.to hal (fun a _ _ => by rw [hh]) h5⟩
  have hw2 := h3 w hw
  simp only [hc_N, List.mem_cons, List.not_mem_nil, or_false] at hw
  rcases hw with rfl | rfl | rfl | rfl | rfl | rfl <;> exact va_Nw.same rfl hv.symm hw2
theorem hc_blind (E : hc_E) (as : List Value) (Λ : hc_L) (I : hc_I) (L : hc_J) (R : hc_R) : FrameBlind (hc_Pc E as Λ I L R) := fun a U g mk h =>
  ⟨h.1, h.2.1, hc_K.same (u := U) rfl rfl h.2.2⟩
section HCH
variable {cx : hc_X} {ac : Nat × Nat} {pc : Nat} {ls : List (Nat × Value)} {st : List Value} {Λ : hc_L} {I : hc_I} {L : hc_J} {R : hc_R} {Q : hc_Q}
/-- a field read -/
theorem LW_get {ci j k w idx N : Nat} {C : String} {T : u_T} {v : Value} (hc : vwCl[ci]? = some (C, T, N)) (hin : ∀ w ∈ u_ws C T N, w ∈ hc_T) (hj : j < N) (hd : decode (xC cx) pc = .ok (.getfield idx, 3)) (hl : Cond.fieldLink (xY cx).cls idx (T j).1 (T j).2.1 (T j).2.2.1 ∈ hc_T) (hk : k < Λ.1) (hy : Λ.2.1 k = (100 + ci, w))
    (hv : ∀ E : hc_E, hc_fv E (hc_ty ci j) (I k j) (L k j) (Λ.2.2 k j) = hc_v E v) (kk : LW cx ac (pc + 3) ls (v :: st) Λ I L R Q) : LW cx ac pc ls (.ref k :: st) Λ I L R Q := by
  intro l E p e s m args below meth c H locs la B hW hS hl2
  have hob := hW.obj hk hy hc
  have e0 : hc_st E (.ref k :: st) = .ref (eB E + k) :: hc_st E st := by show Value.ref (hc_ad E k) :: _ = _; rw [hW.adk hk]; rfl
  rw [e0]
  obtain ⟨b1, b2, b3, b4, b5, b6, b7, b8, b9, b10⟩ := B
  refine va_get (D := eD E) (cl := vwCl) (tys := hc_tys (eT E)) (ws := [(eB E + k, .inr (ci, (List.range N).map (fun j => hc_fv E (hc_ty ci j) (I k j) (L k j) (Λ.2.2 k j))))]) (ref := (T j).1) (v := hc_v E v) b1 b2 b6 hin b5 b9.1 (fun n q hq => ?_) 0 rfl hc j hj (b6 _ hl) (fun _ h => h) ?_ hd (kk l E p e s m args below meth c H locs la ⟨b1, b2, b3, b4, b5, b6, b7, b8, b9, b10⟩ hW hS hl2)
  · have hz : n < 1 := (List.getElem?_eq_some_iff.mp hq).1
    rw [show n = 0 by omega] at hq
    cases hq
    exact ⟨_, hc, hob.to (fun i hi => by simp only [vp_V, List.getD_eq_getElem?_getD]; rw [List.getElem?_map, List.getElem?_range (show i < N from hi)]; rfl)⟩
  · rw [← hv E, List.getElem?_map, List.getElem?_range hj]
    rfl
/-- a field written: new rows at k -/
theorem LW_put {ci j k w idx N : Nat} {C : String} {T : u_T} {ty0 : Nat → FieldType} {v : Value} {Λ' : hc_L} {I' : hc_I} {L' : hc_J} (hc : vwCl[ci]? = some (C, T, N)) (hin : ∀ w ∈ u_ws C T N, w ∈ hc_T) (hty : ∀ k, k < N → parseFieldDescriptor (T k).2.2.1 = some (ty0 k)) (hnm : ∀ a, a < N → ∀ b, b < N → a ≠ b → (T a).2.1 ≠ (T b).2.1) (hj : j < N) (hd : decode (xC cx) pc = .ok (.putfield idx, 3)) (hl : Cond.fieldLink (xY cx).cls idx (T j).1 (T j).2.1 (T j).2.2.1 ∈ hc_T) (hk : k < Λ.1) (hy : Λ.2.1 k = (100 + ci, w))
    (hfin : (T j).2.2.2 = false ∨ ((T j).2.2.2 = true ∧ (xY cx).name = "<init>" ∧ (T j).1 = (xY cx).cls)) (hv : ∀ E : hc_E, (∀ q, v = .ref q → hc_ad E q = hc_ad E q) → narrow (ty0 j) (hc_v E v) = hc_v E v ∧ fits (ty0 j) (hc_v E v) = true)
    (e1 : Λ'.1 = Λ.1) (e2 : Λ'.2.1 = Λ.2.1) (hne : ∀ a, a ≠ k → Λ'.2.2 a = Λ.2.2 a ∧ I' a = I a ∧ L' a = L a) (hat : ∀ (E : hc_E) (i : Nat), i < N → hc_fv E (hc_ty ci i) (I' k i) (L' k i) (Λ'.2.2 k i) = if i = j then hc_v E v else hc_fv E (hc_ty ci i) (I k i) (L k i) (Λ.2.2 k i))
    (kk : LW cx ac (pc + 3) ls st Λ' I' L' R Q) : LW cx ac pc ls (v :: .ref k :: st) Λ I L R Q := by
  intro l E p e s m args below meth c H locs la B hW hS hl2
  obtain ⟨cell, q1, q2, q3, q4⟩ := hW.obj hk hy hc
  have e0 : hc_st E (v :: .ref k :: st) = hc_v E v :: .ref (eB E + k) :: hc_st E st := by show _ :: Value.ref (hc_ad E k) :: _ = _; rw [hW.adk hk]; rfl
  rw [e0]
  obtain ⟨b1, b2, b3, b4, b5, b6, b7, b8, b9, b10⟩ := B
  have hap := va_apart (own := (xY cx).cls) b6 hin ty0 hty hnm b9.1 hc
  obtain ⟨hSl, hfc, kC, hkC, hkind⟩ := b9.1.1 ci _ hc
  obtain ⟨cf, kf, fi, f, hi, hsl⟩ := hSl j hj
  have hlay := b6 _ (hin _ (u_in_lay hj))
  have hst := (u_facts hfc hkC (u_lays b6 hin hj) hi).1
  obtain ⟨hn, hfit⟩ := hv E (fun _ _ => rfl)
  have main : ∀ (H' : Heap), H'[eB E + k]? = some (cell.setSlot f.slot (hc_v E v)) → H'.size = H.size → (∀ q, q ≠ eB E + k → H'[q]? = H[q]?) → W p l e (hc_rm cx) s m args below meth c H' (locs ++ [⟨eB E + k, f.slot⟩]) ac.1 ac.2 (MQ below (hc_Qc E Q) args s (xM cx) (xS cx) (eA E)) (F0 m (pc + 3) la (hc_st E st)) := by
    intro H' f1 f2 f3
    refine kk l E p e s m args below meth c H' _ la ⟨b1, b2, b3, b4, b5, b6, b7, b8, b9, b10⟩ (hW.set (k := k) f2 f3 e1 e2 (fun a ha => ⟨(hne a ha).1, (hne a ha).2.1, (hne a ha).2.2, rfl⟩) ?_) (hS.put f2 f3 (Nat.le_add_right _ _)) hl2
    unfold hc_c
    rw [e2, hy]
    rw [if_neg (by omega), Nat.add_sub_cancel_left]
    refine ⟨_, hc, _, f1, q2, q3, fun i hiN => ?_⟩
    have h9 := t_set q4 hap hj (hc_v E v) i hiN
    rw [hsl, h9]
    show _ = some (hc_fv E (hc_ty ci i) (I' k i) (L' k i) (Λ'.2.2 k i))
    rw [hat E i hiN]
    rfl
  unfold u_lay at hlay
  rcases hfin with hfin | ⟨hfin, hin2, hdecl⟩
  · rw [if_neg (by rw [hfin]; decide)] at hlay
    have h6 := u_store hfc hkC hkind hlay hi (hty j hj) hn hfit
    exact W.putK b1 b2 (f := f) ⟨b5, b6 _ hl, ⟨_, _, _, hi⟩, hst⟩ (by rw [q2]; exact h6) q1 q3 (by rw [hsl]; exact k2_hasslot (q4 j hj)) rfl rfl hd main
  · rw [if_pos hfin] at hlay
    have hcf : m.cls = cf := by
      obtain ⟨_, _, c', _, _, _, -, -, hf', -, -, -, hown2, -⟩ := Cond.laysFinal_spec hlay
      have e1 : c' = cf := by have := hi.symm.trans hf'; simp at this; exact this.1.symm
      rw [hdecl] at hown2
      rw [← e1]; exact Option.some.inj (b5.symm.trans hown2)
    have h6 := u_fits hfc hkC hkind (Or.inr hlay) hi (hty j hj) hn hfit
    exact W.putFinK b1 b2 b5 (b6 _ hl) hi hst hcf (b8.trans hin2) (by rw [q2]; exact h6) q1 q3 (by rw [hsl]; exact k2_hasslot (q4 j hj)) rfl rfl hd main
end HCH
