/-! Arrays, new cells, calls. -/
def hc_nw (Λ : hc_L) (t n : Nat) : hc_L := (Λ.1 + 1, (fun a => if a = Λ.1 then (t, n) else Λ.2.1 a), hc_r Λ.2.2 Λ.1 (fun _ => none))
section HCA
variable {cx : hc_X} {ac : Nat × Nat} {pc : Nat} {ls : List (Nat × Value)} {st : List Value} {Λ : hc_L} {I : hc_I} {L : hc_J} {R : hc_R} {Q : hc_Q}
theorem hc_st2 {E : hc_E} {Λ : hc_L} {I : hc_I} {L : hc_J} {R : hc_R} {k : Nat} {H : Heap} {vs st : List Value} (hW : hc_W E Λ I L R H) (hk : k < Λ.1) : hc_st E (vs ++ .ref k :: st) = hc_st E vs ++ .ref (eB E + k) :: hc_st E st := by
  simp only [hc_st, List.map_append, List.map_cons]
  show _ ++ Value.ref (hc_ad E k) :: _ = _
  rw [hW.adk hk]
theorem hc_vin {i : Int32} {n N : Nat} (hi : i = nI n) (hn : n < N) (hN : N < 2 ^ 31) : ¬ (i < 0 ∨ N ≤ i.toNatClampNeg) ∧ i.toNatClampNeg = n := by
  subst hi
  have e := nI_clamp (n := n) (by omega)
  refine ⟨?_, e⟩
  exact vp_in_nI hn (by omega)
theorem LW_alen {k t n idx : Nat} (hd : decode (xC cx) pc = .ok (.arraylength, 1)) (hk : k < Λ.1) (hy : Λ.2.1 k = (t, n)) (ht : t < 8) (kk : LW cx ac (pc + 1) ls (.int (nI n) :: st) Λ I L R Q) : LW cx ac pc ls (.ref k :: st) Λ I L R Q := by
  intro l E p e s m args below meth c H locs la B hW hS hl
  have ha := hW.arr hk hy (by omega)
  rw [show hc_st E (.ref k :: st) = .ref (eB E + k) :: hc_st E st from hc_st2 (vs := []) hW hk]
  obtain ⟨b1, b2, b3, b4, b5, b6, b7, b8, b9, b10⟩ := B
  have main : ∀ ty : FieldType, (hc_tys (eT E))[t]? = some (eT E t, ty) → W p l e (hc_rm cx) s m args below meth c H locs ac.1 ac.2 (MQ below (hc_Qc E Q) args s (xM cx) (xS cx) (eA E)) (F0 m pc la (.ref (eB E + k) :: hc_st E st)) := fun ty h =>
    W.alen (n := nI n) b1 b2 ha ((b9.1.2 t _ h).1 n _) (by rw [arrV_size]; rfl) rfl rfl hd (kk l E p e s m args below meth c H locs la ⟨b1, b2, b3, b4, b5, b6, b7, b8, b9, b10⟩ hW hS hl)
  rcases (show t = 0 ∨ t = 1 ∨ t = 2 ∨ t = 3 ∨ t = 4 ∨ t = 5 ∨ t = 6 ∨ t = 7 by omega) with rfl | rfl | rfl | rfl | rfl | rfl | rfl | rfl <;> exact main _ rfl
theorem LW_iald {k n N : Nat} {i : Int32} (hd : decode (xC cx) pc = .ok (.iaload, 1)) (hk : k < Λ.1) (hy : Λ.2.1 k = (2, N)) (hi : i = nI n) (hn : n < N) (hN : N < 2 ^ 31) (kk : LW cx ac (pc + 1) ls (.int (I k n) :: st) Λ I L R Q) : LW cx ac pc ls (.int i :: .ref k :: st) Λ I L R Q := by
  intro l E p e s m args below meth c H locs la B hW hS hl
  have ha := hW.arr hk hy (by omega)
  rw [show hc_st E (.int i :: .ref k :: st) = .int i :: .ref (eB E + k) :: hc_st E st from hc_st2 (vs := [.int i]) hW hk]
  obtain ⟨b1, b2, b3, b4, b5, b6, b7, b8, b9, b10⟩ := B
  obtain ⟨v1, v2⟩ := hc_vin hi hn hN
  refine W.iald (v := .int (I k n)) b1 b2 ha ((b9.1.2 2 _ rfl).1 N _) (fun q => by cases q) (by rw [arrV_size]; exact v1) (by rw [v2, arrV_read _ _ hn]; rfl) rfl rfl hd (kk l E p e s m args below meth c H locs la ⟨b1, b2, b3, b4, b5, b6, b7, b8, b9, b10⟩ hW hS hl)
theorem LW_bald {k n N : Nat} {i : Int32} (hd : decode (xC cx) pc = .ok (.baload, 1)) (hk : k < Λ.1) (hy : Λ.2.1 k = (1, N)) (hi : i = nI n) (hn : n < N) (hN : N < 2 ^ 31) (kk : LW cx ac (pc + 1) ls (.int (I k n) :: st) Λ I L R Q) : LW cx ac pc ls (.int i :: .ref k :: st) Λ I L R Q := by
  intro l E p e s m args below meth c H locs la B hW hS hl
  have ha := hW.arr hk hy (by omega)
  rw [show hc_st E (.int i :: .ref k :: st) = .int i :: .ref (eB E + k) :: hc_st E st from hc_st2 (vs := [.int i]) hW hk]
  obtain ⟨b1, b2, b3, b4, b5, b6, b7, b8, b9, b10⟩ := B
  obtain ⟨v1, v2⟩ := hc_vin hi hn hN
  refine W.bald (v := .int (I k n)) b1 b2 ha ((b9.1.2 1 _ rfl).1 N _) (fun q => by cases q) (by rw [arrV_size]; exact v1) (by rw [v2, arrV_read _ _ hn]; rfl) rfl rfl hd (kk l E p e s m args below meth c H locs la ⟨b1, b2, b3, b4, b5, b6, b7, b8, b9, b10⟩ hW hS hl)
theorem LW_zald {k n N : Nat} {i : Int32} (hd : decode (xC cx) pc = .ok (.baload, 1)) (hk : k < Λ.1) (hy : Λ.2.1 k = (0, N)) (hi : i = nI n) (hn : n < N) (hN : N < 2 ^ 31) (kk : LW cx ac (pc + 1) ls (.int (I k n) :: st) Λ I L R Q) : LW cx ac pc ls (.int i :: .ref k :: st) Λ I L R Q := by
  intro l E p e s m args below meth c H locs la B hW hS hl
  have ha := hW.arr hk hy (by omega)
  rw [show hc_st E (.int i :: .ref k :: st) = .int i :: .ref (eB E + k) :: hc_st E st from hc_st2 (vs := [.int i]) hW hk]
  obtain ⟨b1, b2, b3, b4, b5, b6, b7, b8, b9, b10⟩ := B
  obtain ⟨v1, v2⟩ := hc_vin hi hn hN
  refine W.zald (v := .int (I k n)) b1 b2 ha ((b9.1.2 0 _ rfl).1 N _) (fun q => by cases q) (by rw [arrV_size]; exact v1) (by rw [v2, arrV_read _ _ hn]; rfl) rfl rfl hd (kk l E p e s m args below meth c H locs la ⟨b1, b2, b3, b4, b5, b6, b7, b8, b9, b10⟩ hW hS hl)
theorem LW_lald {k n N : Nat} {i : Int32} (hd : decode (xC cx) pc = .ok (.laload, 1)) (hk : k < Λ.1) (hy : Λ.2.1 k = (3, N)) (hi : i = nI n) (hn : n < N) (hN : N < 2 ^ 31) (kk : LW cx ac (pc + 1) ls (.long (L k n) :: st) Λ I L R Q) : LW cx ac pc ls (.int i :: .ref k :: st) Λ I L R Q := by
  intro l E p e s m args below meth c H locs la B hW hS hl
  have ha := hW.arr hk hy (by omega)
  rw [show hc_st E (.int i :: .ref k :: st) = .int i :: .ref (eB E + k) :: hc_st E st from hc_st2 (vs := [.int i]) hW hk]
  obtain ⟨b1, b2, b3, b4, b5, b6, b7, b8, b9, b10⟩ := B
  obtain ⟨v1, v2⟩ := hc_vin hi hn hN
  refine W.lald (v := .long (L k n)) b1 b2 ha ((b9.1.2 3 _ rfl).1 N _) (fun q => by cases q) (by rw [arrV_size]; exact v1) (by rw [v2, arrV_read _ _ hn]; rfl) rfl rfl hd (kk l E p e s m args below meth c H locs la ⟨b1, b2, b3, b4, b5, b6, b7, b8, b9, b10⟩ hW hS hl)
theorem LW_aald4 {k n N : Nat} {i : Int32} (hd : decode (xC cx) pc = .ok (.aaload, 1)) (hk : k < Λ.1) (hy : Λ.2.1 k = (4, N)) (hi : i = nI n) (hn : n < N) (hN : N < 2 ^ 31) (kk : LW cx ac (pc + 1) ls (va_rf (R k n) :: st) Λ I L R Q) : LW cx ac pc ls (.int i :: .ref k :: st) Λ I L R Q := by
  intro l E p e s m args below meth c H locs la B hW hS hl
  have ha := hW.arr hk hy (by omega)
  rw [show hc_st E (.int i :: .ref k :: st) = .int i :: .ref (eB E + k) :: hc_st E st from hc_st2 (vs := [.int i]) hW hk]
  obtain ⟨b1, b2, b3, b4, b5, b6, b7, b8, b9, b10⟩ := B
  obtain ⟨v1, v2⟩ := hc_vin hi hn hN
  refine W.aald (v := hc_v E (va_rf (R k n))) (ty := .object "HailClub$Field") b1 b2 ha ((b9.1.2 4 _ rfl).1 N _) rfl (fun q => by cases q) (by rw [arrV_size]; exact v1) (by rw [v2, arrV_read _ _ hn]; cases hR : R k n <;> simp only [hc_av, hR] <;> rfl) rfl rfl hd (kk l E p e s m args below meth c H locs la ⟨b1, b2, b3, b4, b5, b6, b7, b8, b9, b10⟩ hW hS hl)
theorem LW_aald5 {k n N : Nat} {i : Int32} (hd : decode (xC cx) pc = .ok (.aaload, 1)) (hk : k < Λ.1) (hy : Λ.2.1 k = (5, N)) (hi : i = nI n) (hn : n < N) (hN : N < 2 ^ 31) (kk : LW cx ac (pc + 1) ls (va_rf (R k n) :: st) Λ I L R Q) : LW cx ac pc ls (.int i :: .ref k :: st) Λ I L R Q := by
  intro l E p e s m args below meth c H locs la B hW hS hl
  have ha := hW.arr hk hy (by omega)
  rw [show hc_st E (.int i :: .ref k :: st) = .int i :: .ref (eB E + k) :: hc_st E st from hc_st2 (vs := [.int i]) hW hk]
  obtain ⟨b1, b2, b3, b4, b5, b6, b7, b8, b9, b10⟩ := B
  obtain ⟨v1, v2⟩ := hc_vin hi hn hN
  refine W.aald (v := hc_v E (va_rf (R k n))) (ty := .object "HailClub$Storm") b1 b2 ha ((b9.1.2 5 _ rfl).1 N _) rfl (fun q => by cases q) (by rw [arrV_size]; exact v1) (by rw [v2, arrV_read _ _ hn]; cases hR : R k n <;> simp only [hc_av, hR] <;> rfl) rfl rfl hd (kk l E p e s m args below meth c H locs la ⟨b1, b2, b3, b4, b5, b6, b7, b8, b9, b10⟩ hW hS hl)
theorem LW_aald6 {k n N r : Nat} {i : Int32} (hd : decode (xC cx) pc = .ok (.aaload, 1)) (hk : k < Λ.1) (hy : Λ.2.1 k = (6, N)) (hi : i = nI n) (hn : n < N) (hN : N < 2 ^ 31) (hF : Λ.2.2 k n = some r) (kk : LW cx ac (pc + 1) ls (.ref r :: st) Λ I L R Q) : LW cx ac pc ls (.int i :: .ref k :: st) Λ I L R Q := by
  intro l E p e s m args below meth c H locs la B hW hS hl
  have ha := hW.arr hk hy (by omega)
  rw [show hc_st E (.int i :: .ref k :: st) = .int i :: .ref (eB E + k) :: hc_st E st from hc_st2 (vs := [.int i]) hW hk]
  obtain ⟨b1, b2, b3, b4, b5, b6, b7, b8, b9, b10⟩ := B
  obtain ⟨v1, v2⟩ := hc_vin hi hn hN
  refine W.aald (v := hc_v E (.ref r)) (ty := .object "HailClub$State") b1 b2 ha ((b9.1.2 6 _ rfl).1 N _) rfl (fun q => by cases q) (by rw [arrV_size]; exact v1) (by rw [v2, arrV_read _ _ hn]; simp only [hc_av, hF]; rfl) rfl rfl hd (kk l E p e s m args below meth c H locs la ⟨b1, b2, b3, b4, b5, b6, b7, b8, b9, b10⟩ hW hS hl)
theorem LW_aald7 {k n N r : Nat} {i : Int32} (hd : decode (xC cx) pc = .ok (.aaload, 1)) (hk : k < Λ.1) (hy : Λ.2.1 k = (7, N)) (hi : i = nI n) (hn : n < N) (hN : N < 2 ^ 31) (hF : Λ.2.2 k n = some r) (kk : LW cx ac (pc + 1) ls (.ref r :: st) Λ I L R Q) : LW cx ac pc ls (.int i :: .ref k :: st) Λ I L R Q := by
  intro l E p e s m args below meth c H locs la B hW hS hl
  have ha := hW.arr hk hy (by omega)
  rw [show hc_st E (.int i :: .ref k :: st) = .int i :: .ref (eB E + k) :: hc_st E st from hc_st2 (vs := [.int i]) hW hk]
  obtain ⟨b1, b2, b3, b4, b5, b6, b7, b8, b9, b10⟩ := B
  obtain ⟨v1, v2⟩ := hc_vin hi hn hN
  refine W.aald (v := hc_v E (.ref r)) (ty := .array .long) b1 b2 ha ((b9.1.2 7 _ rfl).1 N _) rfl (fun q => by cases q) (by rw [arrV_size]; exact v1) (by rw [v2, arrV_read _ _ hn]; simp only [hc_av, hF]; rfl) rfl rfl hd (kk l E p e s m args below meth c H locs la ⟨b1, b2, b3, b4, b5, b6, b7, b8, b9, b10⟩ hW hS hl)
theorem LW_iast {k n N : Nat} {i : Int32} {x : Int32} (hd : decode (xC cx) pc = .ok (.iastore, 1)) (hk : k < Λ.1) (hy : Λ.2.1 k = (2, N)) (hi : i = nI n) (hn : n < N) (hN : N < 2 ^ 31) (kk : LW cx ac (pc + 1) ls st Λ (hc_u I k n (x)) L R Q) : LW cx ac pc ls (.int x :: .int i :: .ref k :: st) Λ I L R Q := by
  intro l E p e s m args below meth c H locs la B hW hS hl
  have ha := hW.arr hk hy (by omega)
  rw [show hc_st E (.int x :: .int i :: .ref k :: st) = .int x :: .int i :: .ref (eB E + k) :: hc_st E st from hc_st2 (vs := [.int x, .int i]) hW hk]
  obtain ⟨b1, b2, b3, b4, b5, b6, b7, b8, b9, b10⟩ := B
  obtain ⟨v1, v2⟩ := hc_vin hi hn hN
  refine W.iast b1 b2 ha ((b9.1.2 2 _ rfl).1 N _) (fun q => by cases q) (by rw [arrV_size]; exact v1) rfl rfl hd (fun H1 f1 f2 f3 => ?_)
  refine kk l E p e s m args below meth c H1 _ la ⟨b1, b2, b3, b4, b5, b6, b7, b8, b9, b10⟩ (hW.set (k := k) f2 f3 rfl rfl (fun a ha => ⟨rfl, hc_u_row _ _ _ _ ha, rfl, rfl⟩) ?_) (hS.put f2 f3 (Nat.le_add_right _ _)) hl
  unfold hc_c
  rw [hy, if_pos (by omega), f1, arrV_store]
  congr 2
  funext q
  rw [v2]
  by_cases hq : q = n
  · subst hq
    simp [updV, hc_av, hc_u_at]
  · simp [updV, hc_av, hc_u_at, hq]
theorem LW_bast {k n N : Nat} {i : Int32} {x : Int32} (hd : decode (xC cx) pc = .ok (.bastore, 1)) (hk : k < Λ.1) (hy : Λ.2.1 k = (1, N)) (hi : i = nI n) (hn : n < N) (hN : N < 2 ^ 31) (kk : LW cx ac (pc + 1) ls st Λ (hc_u I k n (vp_nar .byte x)) L R Q) : LW cx ac pc ls (.int x :: .int i :: .ref k :: st) Λ I L R Q := by
  intro l E p e s m args below meth c H locs la B hW hS hl
  have ha := hW.arr hk hy (by omega)
  rw [show hc_st E (.int x :: .int i :: .ref k :: st) = .int x :: .int i :: .ref (eB E + k) :: hc_st E st from hc_st2 (vs := [.int x, .int i]) hW hk]
  obtain ⟨b1, b2, b3, b4, b5, b6, b7, b8, b9, b10⟩ := B
  obtain ⟨v1, v2⟩ := hc_vin hi hn hN
  refine W.bast b1 b2 ha ((b9.1.2 1 _ rfl).1 N _) (fun q => by cases q) (by rw [arrV_size]; exact v1) rfl rfl hd (fun H1 f1 f2 f3 => ?_)
  refine kk l E p e s m args below meth c H1 _ la ⟨b1, b2, b3, b4, b5, b6, b7, b8, b9, b10⟩ (hW.set (k := k) f2 f3 rfl rfl (fun a ha => ⟨rfl, hc_u_row _ _ _ _ ha, rfl, rfl⟩) ?_) (hS.put f2 f3 (Nat.le_add_right _ _)) hl
  unfold hc_c
  rw [hy, if_pos (by omega), f1, arrV_store]
  congr 2
  funext q
  rw [v2]
  by_cases hq : q = n
  · subst hq
    simp [updV, hc_av, hc_u_at, vp_nar, narrow]
  · simp [updV, hc_av, hc_u_at, hq]
theorem LW_zast {k n N : Nat} {i : Int32} {x : Int32} (hd : decode (xC cx) pc = .ok (.bastore, 1)) (hk : k < Λ.1) (hy : Λ.2.1 k = (0, N)) (hi : i = nI n) (hn : n < N) (hN : N < 2 ^ 31) (kk : LW cx ac (pc + 1) ls st Λ (hc_u I k n (vp_nar .boolean x)) L R Q) : LW cx ac pc ls (.int x :: .int i :: .ref k :: st) Λ I L R Q := by
  intro l E p e s m args below meth c H locs la B hW hS hl
  have ha := hW.arr hk hy (by omega)
  rw [show hc_st E (.int x :: .int i :: .ref k :: st) = .int x :: .int i :: .ref (eB E + k) :: hc_st E st from hc_st2 (vs := [.int x, .int i]) hW hk]
  obtain ⟨b1, b2, b3, b4, b5, b6, b7, b8, b9, b10⟩ := B
  obtain ⟨v1, v2⟩ := hc_vin hi hn hN
  refine W.zast b1 b2 ha ((b9.1.2 0 _ rfl).1 N _) (fun q => by cases q) (by rw [arrV_size]; exact v1) rfl rfl hd (fun H1 f1 f2 f3 => ?_)
  refine kk l E p e s m args below meth c H1 _ la ⟨b1, b2, b3, b4, b5, b6, b7, b8, b9, b10⟩ (hW.set (k := k) f2 f3 rfl rfl (fun a ha => ⟨rfl, hc_u_row _ _ _ _ ha, rfl, rfl⟩) ?_) (hS.put f2 f3 (Nat.le_add_right _ _)) hl
  unfold hc_c
  rw [hy, if_pos (by omega), f1, arrV_store]
  congr 2
  funext q
  rw [v2]
  by_cases hq : q = n
  · subst hq
    simp [updV, hc_av, hc_u_at, vp_nar, narrow]
  · simp [updV, hc_av, hc_u_at, hq]
theorem LW_last {k n N : Nat} {i : Int32} {x : Int64} (hd : decode (xC cx) pc = .ok (.lastore, 1)) (hk : k < Λ.1) (hy : Λ.2.1 k = (3, N)) (hi : i = nI n) (hn : n < N) (hN : N < 2 ^ 31) (kk : LW cx ac (pc + 1) ls st Λ I (hc_u L k n (x)) R Q) : LW cx ac pc ls (.long x :: .int i :: .ref k :: st) Λ I L R Q := by
  intro l E p e s m args below meth c H locs la B hW hS hl
  have ha := hW.arr hk hy (by omega)
  rw [show hc_st E (.long x :: .int i :: .ref k :: st) = .long x :: .int i :: .ref (eB E + k) :: hc_st E st from hc_st2 (vs := [.long x, .int i]) hW hk]
  obtain ⟨b1, b2, b3, b4, b5, b6, b7, b8, b9, b10⟩ := B
  obtain ⟨v1, v2⟩ := hc_vin hi hn hN
  refine W.last b1 b2 ha ((b9.1.2 3 _ rfl).1 N _) (fun q => by cases q) (by rw [arrV_size]; exact v1) rfl rfl hd (fun H1 f1 f2 f3 => ?_)
  refine kk l E p e s m args below meth c H1 _ la ⟨b1, b2, b3, b4, b5, b6, b7, b8, b9, b10⟩ (hW.set (k := k) f2 f3 rfl rfl (fun a ha => ⟨rfl, rfl, hc_u_row _ _ _ _ ha, rfl⟩) ?_) (hS.put f2 f3 (Nat.le_add_right _ _)) hl
  unfold hc_c
  rw [hy, if_pos (by omega), f1, arrV_store]
  congr 2
  funext q
  rw [v2]
  by_cases hq : q = n
  · subst hq
    simp [updV, hc_av, hc_u_at]
  · simp [updV, hc_av, hc_u_at, hq]
theorem LW_aast4 {k n N r w : Nat} {i : Int32} (hd : decode (xC cx) pc = .ok (.aastore, 1)) (hk : k < Λ.1) (hy : Λ.2.1 k = (4, N)) (hi : i = nI n) (hn : n < N) (hN : N < 2 ^ 31) (hr : r < Λ.1) (hry : Λ.2.1 r = (100 + 2, w)) (kk : LW cx ac (pc + 1) ls st Λ I L (hc_u R k n (some r)) Q) : LW cx ac pc ls (.ref r :: .int i :: .ref k :: st) Λ I L R Q := by
  intro l E p e s m args below meth c H locs la B hW hS hl
  have ha := hW.arr hk hy (by omega)
  have e0 : hc_st E (.ref r :: .int i :: .ref k :: st) = .ref (eB E + r) :: .int i :: .ref (eB E + k) :: hc_st E st := by
    show Value.ref (hc_ad E r) :: _ :: Value.ref (hc_ad E k) :: _ = _
    rw [hW.adk hk, hW.adk hr]
    rfl
  rw [e0]
  obtain ⟨b1, b2, b3, b4, b5, b6, b7, b8, b9, b10⟩ := B
  obtain ⟨v1, v2⟩ := hc_vin hi hn hN
  obtain ⟨cellV, g1, g2, g3, -⟩ := hW.obj (r := (RX2, TX2, 6)) hr hry rfl
  have hcls := (b9.1.1 2 _ rfl).2
  obtain ⟨kA, comp, k1, k2, k3, -⟩ := (b9.1.2 4 _ rfl).2
  obtain ⟨hfc, kC, hkC, hkind⟩ := hcls
  have ec : comp = (eD E).1 2 := Option.some.inj (k3.symm.trans hfc)
  have hin : ¬ i < 0 ∧ i.toNatClampNeg < (arrV (eT E 4) N (fun j => hc_av E 4 (I k j) (L k j) (R k j) (Λ.2.2 k j))).slots.size := by
    rw [arrV_size]
    exact ⟨fun q => v1 (Or.inl q), Nat.not_le.mp fun q => v1 (Or.inr q)⟩
  refine W.aast b1 b2 ha (fun q h => by cases h) (fun q => by cases q) k1 k2 rfl (by rw [ec]; exact hkC) hin g1 (fun q h => by rw [g3] at h; cases h) (by rw [g2]; exact hkC) (by rw [g2, ec]; exact va_assign ⟨hfc, kC, hkC, hkind⟩) rfl rfl hd (fun H1 f1 f2 f3 => ?_)
  refine kk l E p e s m args below meth c H1 _ la ⟨b1, b2, b3, b4, b5, b6, b7, b8, b9, b10⟩ (hW.set (k := k) f2 f3 rfl rfl (fun a ha => ⟨rfl, rfl, rfl, hc_u_row _ _ _ _ ha⟩) ?_) (hS.put f2 f3 (Nat.le_add_right _ _)) hl
  unfold hc_c
  rw [hy, if_pos (by omega), f1, arrV_store]
  congr 2
  funext q
  rw [v2]
  by_cases hq : q = n
  · subst hq
    simp only [updV, hc_av, hc_u_at, if_pos, Option.map_some]
    rw [hW.adk hr]
    rfl
  · simp [updV, hc_av, hc_u_at, hq]
theorem LW_aast4N {k n N : Nat} {i : Int32} (hd : decode (xC cx) pc = .ok (.aastore, 1)) (hk : k < Λ.1) (hy : Λ.2.1 k = (4, N)) (hi : i = nI n) (hn : n < N) (hN : N < 2 ^ 31) (kk : LW cx ac (pc + 1) ls st Λ I L (hc_u R k n none) Q) : LW cx ac pc ls (.null :: .int i :: .ref k :: st) Λ I L R Q := by
  intro l E p e s m args below meth c H locs la B hW hS hl
  have ha := hW.arr hk hy (by omega)
  rw [show hc_st E (.null :: .int i :: .ref k :: st) = .null :: .int i :: .ref (eB E + k) :: hc_st E st from hc_st2 (vs := [.null, .int i]) hW hk]
  obtain ⟨b1, b2, b3, b4, b5, b6, b7, b8, b9, b10⟩ := B
  obtain ⟨v1, v2⟩ := hc_vin hi hn hN
  refine va_WaastN (C := "HailClub$Field") b1 b2 ha ((b9.1.2 4 _ rfl).1 N _) (fun q => by cases q) (by rw [arrV_size]; exact v1) rfl rfl hd (fun H1 f1 f2 f3 => ?_)
  refine kk l E p e s m args below meth c H1 _ la ⟨b1, b2, b3, b4, b5, b6, b7, b8, b9, b10⟩ (hW.set (k := k) f2 f3 rfl rfl (fun a ha => ⟨rfl, rfl, rfl, hc_u_row _ _ _ _ ha⟩) ?_) (hS.put f2 f3 (Nat.le_add_right _ _)) hl
  unfold hc_c
  rw [hy, if_pos (by omega), f1, arrV_store]
  congr 2
  funext q
  rw [v2]
  by_cases hq : q = n
  · subst hq
    simp [updV, hc_av, hc_u_at, va_rf]
  · simp [updV, hc_av, hc_u_at, hq]
theorem LW_aast5 {k n N r w : Nat} {i : Int32} (hd : decode (xC cx) pc = .ok (.aastore, 1)) (hk : k < Λ.1) (hy : Λ.2.1 k = (5, N)) (hi : i = nI n) (hn : n < N) (hN : N < 2 ^ 31) (hr : r < Λ.1) (hry : Λ.2.1 r = (100 + 7, w)) (kk : LW cx ac (pc + 1) ls st Λ I L (hc_u R k n (some r)) Q) : LW cx ac pc ls (.ref r :: .int i :: .ref k :: st) Λ I L R Q := by
  intro l E p e s m args below meth c H locs la B hW hS hl
  have ha := hW.arr hk hy (by omega)
  have e0 : hc_st E (.ref r :: .int i :: .ref k :: st) = .ref (eB E + r) :: .int i :: .ref (eB E + k) :: hc_st E st := by
    show Value.ref (hc_ad E r) :: _ :: Value.ref (hc_ad E k) :: _ = _
    rw [hW.adk hk, hW.adk hr]
    rfl
  rw [e0]
  obtain ⟨b1, b2, b3, b4, b5, b6, b7, b8, b9, b10⟩ := B
  obtain ⟨v1, v2⟩ := hc_vin hi hn hN
  obtain ⟨cellV, g1, g2, g3, -⟩ := hW.obj (r := (RX7, TX7, 5)) hr hry rfl
  have hcls := (b9.1.1 7 _ rfl).2
  obtain ⟨kA, comp, k1, k2, k3, -⟩ := (b9.1.2 5 _ rfl).2
  obtain ⟨hfc, kC, hkC, hkind⟩ := hcls
  have ec : comp = (eD E).1 7 := Option.some.inj (k3.symm.trans hfc)
  have hin : ¬ i < 0 ∧ i.toNatClampNeg < (arrV (eT E 5) N (fun j => hc_av E 5 (I k j) (L k j) (R k j) (Λ.2.2 k j))).slots.size := by
    rw [arrV_size]
    exact ⟨fun q => v1 (Or.inl q), Nat.not_le.mp fun q => v1 (Or.inr q)⟩
  refine W.aast b1 b2 ha (fun q h => by cases h) (fun q => by cases q) k1 k2 rfl (by rw [ec]; exact hkC) hin g1 (fun q h => by rw [g3] at h; cases h) (by rw [g2]; exact hkC) (by rw [g2, ec]; exact va_assign ⟨hfc, kC, hkC, hkind⟩) rfl rfl hd (fun H1 f1 f2 f3 => ?_)
  refine kk l E p e s m args below meth c H1 _ la ⟨b1, b2, b3, b4, b5, b6, b7, b8, b9, b10⟩ (hW.set (k := k) f2 f3 rfl rfl (fun a ha => ⟨rfl, rfl, rfl, hc_u_row _ _ _ _ ha⟩) ?_) (hS.put f2 f3 (Nat.le_add_right _ _)) hl
  unfold hc_c
  rw [hy, if_pos (by omega), f1, arrV_store]
  congr 2
  funext q
  rw [v2]
  by_cases hq : q = n
  · subst hq
    simp only [updV, hc_av, hc_u_at, if_pos, Option.map_some]
    rw [hW.adk hr]
    rfl
  · simp [updV, hc_av, hc_u_at, hq]
theorem LW_aast5N {k n N : Nat} {i : Int32} (hd : decode (xC cx) pc = .ok (.aastore, 1)) (hk : k < Λ.1) (hy : Λ.2.1 k = (5, N)) (hi : i = nI n) (hn : n < N) (hN : N < 2 ^ 31) (kk : LW cx ac (pc + 1) ls st Λ I L (hc_u R k n none) Q) : LW cx ac pc ls (.null :: .int i :: .ref k :: st) Λ I L R Q := by
  intro l E p e s m args below meth c H locs la B hW hS hl
  have ha := hW.arr hk hy (by omega)
  rw [show hc_st E (.null :: .int i :: .ref k :: st) = .null :: .int i :: .ref (eB E + k) :: hc_st E st from hc_st2 (vs := [.null, .int i]) hW hk]
  obtain ⟨b1, b2, b3, b4, b5, b6, b7, b8, b9, b10⟩ := B
  obtain ⟨v1, v2⟩ := hc_vin hi hn hN
  refine va_WaastN (C := "HailClub$Storm") b1 b2 ha ((b9.1.2 5 _ rfl).1 N _) (fun q => by cases q) (by rw [arrV_size]; exact v1) rfl rfl hd (fun H1 f1 f2 f3 => ?_)
  refine kk l E p e s m args below meth c H1 _ la ⟨b1, b2, b3, b4, b5, b6, b7, b8, b9, b10⟩ (hW.set (k := k) f2 f3 rfl rfl (fun a ha => ⟨rfl, rfl, rfl, hc_u_row _ _ _ _ ha⟩) ?_) (hS.put f2 f3 (Nat.le_add_right _ _)) hl
  unfold hc_c
  rw [hy, if_pos (by omega), f1, arrV_store]
  congr 2
  funext q
  rw [v2]
  by_cases hq : q = n
  · subst hq
    simp [updV, hc_av, hc_u_at, va_rf]
  · simp [updV, hc_av, hc_u_at, hq]
end HCA
