/-! Statics, texts, Math, arraycopy. -/
section HCX
variable {cx : hc_X} {ac : Nat × Nat} {pc : Nat} {ls : List (Nat × Value)} {st stk : List Value} {Λ : hc_L} {I : hc_I} {L : hc_J} {R : hc_R} {Q Q' : hc_Q}
set_option maxRecDepth 100000 in
theorem mw_iniMath : Cond.initialized "java/lang/Math" ∈ hc_T := hc_in1 (i := 15) (w := Cond.initialized "java/lang/Math") rfl rfl
set_option maxRecDepth 100000 in
theorem mw_imins : Cond.static Lib.Math.min.name ∈ hc_T := hc_in3 (i := 205) (w := Cond.static Lib.Math.min.name) rfl rfl
set_option maxRecDepth 100000 in
theorem mw_iminc : Cond.code Lib.Math.min.name Lib.Math.min.code 2 (some .int) ∈ hc_T := hc_in3 (i := 206) (w := Cond.code Lib.Math.min.name Lib.Math.min.code 2 (some .int)) rfl rfl
theorem LW_imin {x y : Int32} {idx : Nat} (hd : decode (xC cx) pc = .ok (.invokestatic idx, 3)) (hl : Cond.methodLink (xY cx).cls idx Lib.Math.min.name ∈ hc_T) (hD : 1 ≤ xD cx) (hm : ac.1 ≤ xM cx ∧ ac.2 ≤ xS cx) (hst : (st.map Value.category).sum ≤ 8) (kk : LW cx ac (pc + 3) ls (.int (if y < x then y else x) :: st) Λ I L R Q) : LW cx ac pc ls (.int y :: .int x :: st) Λ I L R Q := by
  intro l E p e s m args below meth c H locs la B hW hS hl2
  have k1 := kk l E p e s m args below meth c H locs la B hW hS hl2
  obtain ⟨b1, b2, b3, b4, b5, b6, b7, b8, b9, b10⟩ := B
  exact va_mmin b1 b2 (b4.trans hl2.1.symm) b5 (b6 _ hl) (b6 _ mw_imins) (b6 _ mw_iniMath) (b6 _ mw_iminc) hD (by show ((hc_st E st).map Value.category).sum + _ ≤ 64 * xD cx; rw [hc_catsum]; omega) hm.1 hm.2 hd k1
set_option maxRecDepth 100000 in
theorem mw_imaxs : Cond.static Lib.Math.max.name ∈ hc_T := hc_in2 (i := 227) (w := Cond.static Lib.Math.max.name) rfl rfl
set_option maxRecDepth 100000 in
theorem mw_imaxc : Cond.code Lib.Math.max.name Lib.Math.max.code 2 (some .int) ∈ hc_T := hc_in2 (i := 228) (w := Cond.code Lib.Math.max.name Lib.Math.max.code 2 (some .int)) rfl rfl
theorem LW_imax {x y : Int32} {idx : Nat} (hd : decode (xC cx) pc = .ok (.invokestatic idx, 3)) (hl : Cond.methodLink (xY cx).cls idx Lib.Math.max.name ∈ hc_T) (hD : 1 ≤ xD cx) (hm : ac.1 ≤ xM cx ∧ ac.2 ≤ xS cx) (hst : (st.map Value.category).sum ≤ 8) (kk : LW cx ac (pc + 3) ls (.int (if x < y then y else x) :: st) Λ I L R Q) : LW cx ac pc ls (.int y :: .int x :: st) Λ I L R Q := by
  intro l E p e s m args below meth c H locs la B hW hS hl2
  have k1 := kk l E p e s m args below meth c H locs la B hW hS hl2
  obtain ⟨b1, b2, b3, b4, b5, b6, b7, b8, b9, b10⟩ := B
  exact va_mmax b1 b2 (b4.trans hl2.1.symm) b5 (b6 _ hl) (b6 _ mw_imaxs) (b6 _ mw_iniMath) (b6 _ mw_imaxc) hD (by show ((hc_st E st).map Value.category).sum + _ ≤ 64 * xD cx; rw [hc_catsum]; omega) hm.1 hm.2 hd k1
set_option maxRecDepth 100000 in
theorem mw_lmins : Cond.static Lib.MathLoose.min_long.x ∈ hc_T := hc_in3 (i := 197) (w := Cond.static Lib.MathLoose.min_long.x) rfl rfl
set_option maxRecDepth 100000 in
theorem mw_lminc : Cond.code Lib.MathLoose.min_long.x Lib.MathLoose.min_long.code 4 (some .long) ∈ hc_T := hc_in3 (i := 198) (w := Cond.code Lib.MathLoose.min_long.x Lib.MathLoose.min_long.code 4 (some .long)) rfl rfl
theorem LW_lmin {x y : Int64} {idx : Nat} (hd : decode (xC cx) pc = .ok (.invokestatic idx, 3)) (hl : Cond.methodLink (xY cx).cls idx Lib.MathLoose.min_long.x ∈ hc_T) (hD : 1 ≤ xD cx) (hm : ac.1 ≤ xM cx ∧ ac.2 ≤ xS cx) (hst : (st.map Value.category).sum ≤ 8) (kk : LW cx ac (pc + 3) ls (.long (if y < x then y else x) :: st) Λ I L R Q) : LW cx ac pc ls (.long y :: .long x :: st) Λ I L R Q := by
  intro l E p e s m args below meth c H locs la B hW hS hl2
  have k1 := kk l E p e s m args below meth c H locs la B hW hS hl2
  obtain ⟨b1, b2, b3, b4, b5, b6, b7, b8, b9, b10⟩ := B
  exact va_mmin_long b1 b2 (b4.trans hl2.1.symm) b5 (b6 _ hl) (b6 _ mw_lmins) (b6 _ mw_iniMath) (b6 _ mw_lminc) hD (by show ((hc_st E st).map Value.category).sum + _ ≤ 64 * xD cx; rw [hc_catsum]; omega) hm.1 hm.2 hd k1
set_option maxRecDepth 100000 in
theorem mw_lmaxs : Cond.static Lib.MathLoose.max_long.x ∈ hc_T := hc_in4 (i := 107) (w := Cond.static Lib.MathLoose.max_long.x) rfl rfl
set_option maxRecDepth 100000 in
theorem mw_lmaxc : Cond.code Lib.MathLoose.max_long.x Lib.MathLoose.max_long.code 4 (some .long) ∈ hc_T := hc_in4 (i := 108) (w := Cond.code Lib.MathLoose.max_long.x Lib.MathLoose.max_long.code 4 (some .long)) rfl rfl
theorem LW_lmax {x y : Int64} {idx : Nat} (hd : decode (xC cx) pc = .ok (.invokestatic idx, 3)) (hl : Cond.methodLink (xY cx).cls idx Lib.MathLoose.max_long.x ∈ hc_T) (hD : 1 ≤ xD cx) (hm : ac.1 ≤ xM cx ∧ ac.2 ≤ xS cx) (hst : (st.map Value.category).sum ≤ 8) (kk : LW cx ac (pc + 3) ls (.long (if y < x then x else y) :: st) Λ I L R Q) : LW cx ac pc ls (.long y :: .long x :: st) Λ I L R Q := by
  intro l E p e s m args below meth c H locs la B hW hS hl2
  have k1 := kk l E p e s m args below meth c H locs la B hW hS hl2
  obtain ⟨b1, b2, b3, b4, b5, b6, b7, b8, b9, b10⟩ := B
  exact va_mmax_long b1 b2 (b4.trans hl2.1.symm) b5 (b6 _ hl) (b6 _ mw_lmaxs) (b6 _ mw_iniMath) (b6 _ mw_lmaxc) hD (by show ((hc_st E st).map Value.category).sum + _ ≤ 64 * xD cx; rw [hc_catsum]; omega) hm.1 hm.2 hd k1
set_option maxRecDepth 100000 in
theorem mw_iabss : Cond.static Lib.Math.abs.name ∈ hc_T := hc_in5 (i := 33) (w := Cond.static Lib.Math.abs.name) rfl rfl
set_option maxRecDepth 100000 in
theorem mw_iabsc : Cond.code Lib.Math.abs.name Lib.Math.abs.code 1 (some .int) ∈ hc_T := hc_in5 (i := 34) (w := Cond.code Lib.Math.abs.name Lib.Math.abs.code 1 (some .int)) rfl rfl
theorem LW_iabs {x : Int32} {idx : Nat} (hd : decode (xC cx) pc = .ok (.invokestatic idx, 3)) (hl : Cond.methodLink (xY cx).cls idx Lib.Math.abs.name ∈ hc_T) (hD : 1 ≤ xD cx) (hm : ac.1 ≤ xM cx ∧ ac.2 ≤ xS cx) (hst : (st.map Value.category).sum ≤ 8) (kk : LW cx ac (pc + 3) ls (.int (if 0 ≤ x then x else 0 - x) :: st) Λ I L R Q) : LW cx ac pc ls (.int x :: st) Λ I L R Q := by
  intro l E p e s m args below meth c H locs la B hW hS hl2
  have k1 := kk l E p e s m args below meth c H locs la B hW hS hl2
  obtain ⟨b1, b2, b3, b4, b5, b6, b7, b8, b9, b10⟩ := B
  exact va_mabs b1 b2 (b4.trans hl2.1.symm) b5 (b6 _ hl) (b6 _ mw_iabss) (b6 _ mw_iniMath) (b6 _ mw_iabsc) hD (by show ((hc_st E st).map Value.category).sum + _ ≤ 64 * xD cx; rw [hc_catsum]; omega) hm.1 hm.2 hd k1
set_option maxRecDepth 100000 in
theorem mw_iniSys : Cond.initialized "java/lang/System" ∈ hc_T := hc_in1 (i := 17) (w := Cond.initialized "java/lang/System") rfl rfl
set_option maxRecDepth 100000 in
theorem mw_acn : Cond.native arraycopyName ∈ hc_T := hc_in3 (i := 129) (w := Cond.native arraycopyName) rfl rfl
set_option maxRecDepth 100000 in
theorem mw_acs : Cond.static arraycopyName ∈ hc_T := hc_in3 (i := 128) (w := Cond.static arraycopyName) rfl rfl
theorem LW_copyi {k0 k1 N idx : Nat} {n : Int32} (hd : decode (xC cx) pc = .ok (.invokestatic idx, 3)) (hl : Cond.methodLink (xY cx).cls idx arraycopyName ∈ hc_T) (hk0 : k0 < Λ.1) (hy0 : Λ.2.1 k0 = (2, N)) (hk1 : k1 < Λ.1) (hy1 : Λ.2.1 k1 = (2, N)) (hn : n = nI N) (hN : N < 2 ^ 31 - 1) (hD : 2 ≤ xD cx) (hst : (st.map Value.category).sum ≤ 8) (kk : LW cx ac (pc + 3) ls st Λ (hc_r I k1 (I k0)) L R Q) : LW cx ac pc ls (.int n :: .int 0 :: .ref k1 :: .int 0 :: .ref k0 :: st) Λ I L R Q := by
  intro l E p e s m args below meth c H locs la B hW hS hl2
  have ha0 := hW.arr hk0 hy0 (by omega)
  have ha1 := hW.arr hk1 hy1 (by omega)
  have e0 : hc_st E (.int n :: .int 0 :: .ref k1 :: .int 0 :: .ref k0 :: st) = .int n :: .int 0 :: .ref (eB E + k1) :: .int 0 :: .ref (eB E + k0) :: hc_st E st := by
    show _ :: _ :: Value.ref (hc_ad E k1) :: _ :: Value.ref (hc_ad E k0) :: _ = _
    rw [hW.adk hk1, hW.adk hk0]
    rfl
  rw [e0]
  obtain ⟨b1, b2, b3, b4, b5, b6, b7, b8, b9, b10⟩ := B
  obtain ⟨v1, v2⟩ := hc_vin (N := N + 1) hn (by omega) (by omega)
  have h3 : ¬ n < 0 := fun q => v1 (Or.inl q)
  have nn : n.toInt = (N : Int) := by
    have hz0 : (0 : Int) ≤ n.toInt := by
      have := Int32.not_lt.mp h3
      simpa using Int32.le_iff_toInt_le.mp this
    have : ((n.toInt.toNat : Nat) : Int) = (N : Int) := congrArg _ v2
    omega
  have hprim : refKind .int = false := rfl
  have hnf : nativeFrameWords "java/lang/System" "arraycopy" 5 ≤ 100 := by decide +kernel
  intro T hT X
  obtain ⟨-, q0, hq0, cm0, hkk0⟩ := (b9.1.2 2 _ rfl).1 N (fun j => hc_av E 2 (I k0 j) (L k0 j) (R k0 j) (Λ.2.2 k0 j))
  obtain ⟨-, q1, hq1, cm1, hkk1⟩ := (b9.1.2 2 _ rfl).1 N (fun j => hc_av E 2 (I k1 j) (L k1 j) (R k1 j) (Λ.2.2 k1 j))
  obtain ⟨vm', X', step⟩ := X.arraycopy b1 b5 (b6 _ hl) (b6 _ mw_acn) (b6 _ mw_acs) (b6 _ mw_iniSys) (src := eB E + k0) (dst := eB E + k1) (cs := arrV (eT E 2) N (fun j => hc_av E 2 (I k0 j) (L k0 j) (R k0 j) (Λ.2.2 k0 j))) (cd := arrV (eT E 2) N (fun j => hc_av E 2 (I k1 j) (L k1 j) (R k1 j) (Λ.2.2 k1 j))) (srcPos := 0) (destPos := 0) (n := n) (by rw [hT]; exact ha0) (by rw [hT]; exact ha1)
    (fun _ h => by cases h) (fun _ h => by cases h) (fun h => by cases h) (fun h => by cases h) hq0 hq1 hkk0 hkk1 (by simp [hprim]) (by decide) (by decide) h3
    (by rw [nn, arrV_size]; simp)
    (by rw [nn, arrV_size]; simp)
    (fun vm₁ _ i hi => by
      have e : (arrV (eT E 2) N (fun j => hc_av E 2 (I k0 j) (L k0 j) (R k0 j) (Λ.2.2 k0 j))).slots.getD ((0 : Int32).toNatClampNeg + i) .null = .int (I k0 i) := by
        rw [v2] at hi
        rw [Array.getD_eq_getD_getElem?, show (0 : Int32).toNatClampNeg + i = i from Nat.zero_add i, arrV_read _ _ hi]
        rfl
      refine ⟨?_, ?_⟩
      · rw [e]
        rfl
      · rw [e]
        exact trivial)
    (g := F0 m pc la (.int n :: .int 0 :: .ref (eB E + k1) :: .int 0 :: .ref (eB E + k0) :: hc_st E st)) rfl (by rw [b4]; exact hl2.1) (rest := hc_st E st) rfl (by rw [b2]; exact hd) (by show 1 ≤ xD cx; omega) (by show 2 * 0 + ((hc_st E st).map Value.category).sum + (nativeFrameWords "java/lang/System" "arraycopy" 5 + 11) ≤ 64 * xD cx; rw [hc_catsum]; omega)
  have e1 : copied (arrV (eT E 2) N (fun j => hc_av E 2 (I k0 j) (L k0 j) (R k0 j) (Λ.2.2 k0 j))) (arrV (eT E 2) N (fun j => hc_av E 2 (I k1 j) (L k1 j) (R k1 j) (Λ.2.2 k1 j))) 0 0 n = arrV (eT E 2) N (fun j => .int (va_cpy (I k0) (I k1) 0 0 N j)) := by
    have h : copied (arrV (eT E 2) N (fun j => hc_av E 2 (I k0 j) (L k0 j) (R k0 j) (Λ.2.2 k0 j))) (arrV (eT E 2) N (fun j => hc_av E 2 (I k1 j) (L k1 j) (R k1 j) (Λ.2.2 k1 j))) 0 0 n = arrV (eT E 2) N (fun j => .int (va_cpy (I k0) (I k1) (0 : Int32).toNatClampNeg (0 : Int32).toNatClampNeg n.toNatClampNeg j)) := va_copied (fun z => Value.int z) (eT E 2) (eT E 2) (I k0) (I k1) (by rw [v2]; exact Nat.le_of_eq (Nat.zero_add N))
    rw [v2] at h
    exact h
  have e2 : arrV (eT E 2) N (fun j => .int (va_cpy (I k0) (I k1) 0 0 N j)) = arrV (eT E 2) N (fun j => .int (I k0 j)) := by
    unfold arrV
    congr 2
    funext j
    simp only [va_cpy, Nat.zero_le, true_and, Nat.zero_add, Nat.sub_zero]
    rw [if_pos j.isLt]
  rw [e1, e2] at X' step
  have hl : eB E + k1 < H.size := (Array.getElem?_eq_some_iff.mp ha1).1
  have hheap : ((T.setVm vm').setCell (eB E + k1) (arrV (eT E 2) N (fun j => .int (I k0 j)))).heap = H.setIfInBounds (eB E + k1) (arrV (eT E 2) N (fun j => .int (I k0 j))) := by rw [← hT]; rfl
  have oq : ∀ q : Nat, q ≠ eB E + k1 → (H.setIfInBounds (eB E + k1) (arrV (eT E 2) N (fun j => .int (I k0 j))))[q]? = H[q]? := fun q hq => by simp [Array.getElem?_setIfInBounds, Ne.symm hq]
  obtain ⟨t, a1, b1'⟩ := kk l E p e s m args below meth c (H.setIfInBounds (eB E + k1) (arrV (eT E 2) N (fun j => .int (I k0 j)))) _ la ⟨b1, b2, b3, b4, b5, b6, b7, b8, b9, b10⟩ (hW.set (k := k1) (by simp) oq rfl rfl (fun a ha => ⟨rfl, hc_r_ne _ _ _ ha, rfl, rfl⟩) (by
      unfold hc_c
      rw [hy1, if_pos (by omega)]
      rw [show (H.setIfInBounds (eB E + k1) (arrV (eT E 2) N (fun j => .int (I k0 j))))[eB E + k1]? = some (arrV (eT E 2) N (fun j => .int (I k0 j))) by simp [Array.getElem?_setIfInBounds, hl]]
      congr 2
      funext j
      simp only [hc_av, hc_r_eq])) ⟨by simp; exact hS.1, fun q g1 g2 => by
      rw [oq q (fun e => g2 (by rw [e]; exact Nat.le_add_right _ _))]
      exact hS.2.1 q g1 g2, fun q hq => by
      rcases List.mem_append.mp hq with h | h
      · exact hS.2.2 q h
      · obtain ⟨z, -, hz⟩ := List.mem_map.mp h
        rw [← hz]
        exact Nat.le_add_right _ _⟩ hl2 _ hheap X'
  exact ⟨t, step t a1, b1'⟩
theorem LW_copyl {k0 k1 N idx : Nat} {n : Int32} (hd : decode (xC cx) pc = .ok (.invokestatic idx, 3)) (hl : Cond.methodLink (xY cx).cls idx arraycopyName ∈ hc_T) (hk0 : k0 < Λ.1) (hy0 : Λ.2.1 k0 = (3, N)) (hk1 : k1 < Λ.1) (hy1 : Λ.2.1 k1 = (3, N)) (hn : n = nI N) (hN : N < 2 ^ 31 - 1) (hD : 2 ≤ xD cx) (hst : (st.map Value.category).sum ≤ 8) (kk : LW cx ac (pc + 3) ls st Λ I (hc_r L k1 (L k0)) R Q) : LW cx ac pc ls (.int n :: .int 0 :: .ref k1 :: .int 0 :: .ref k0 :: st) Λ I L R Q := by
  intro l E p e s m args below meth c H locs la B hW hS hl2
  have ha0 := hW.arr hk0 hy0 (by omega)
  have ha1 := hW.arr hk1 hy1 (by omega)
  have e0 : hc_st E (.int n :: .int 0 :: .ref k1 :: .int 0 :: .ref k0 :: st) = .int n :: .int 0 :: .ref (eB E + k1) :: .int 0 :: .ref (eB E + k0) :: hc_st E st := by
    show _ :: _ :: Value.ref (hc_ad E k1) :: _ :: Value.ref (hc_ad E k0) :: _ = _
    rw [hW.adk hk1, hW.adk hk0]
    rfl
  rw [e0]
  obtain ⟨b1, b2, b3, b4, b5, b6, b7, b8, b9, b10⟩ := B
  obtain ⟨v1, v2⟩ := hc_vin (N := N + 1) hn (by omega) (by omega)
  have h3 : ¬ n < 0 := fun q => v1 (Or.inl q)
  have nn : n.toInt = (N : Int) := by
    have hz0 : (0 : Int) ≤ n.toInt := by
      have := Int32.not_lt.mp h3
      simpa using Int32.le_iff_toInt_le.mp this
    have : ((n.toInt.toNat : Nat) : Int) = (N : Int) := congrArg _ v2
    omega
  have hprim : refKind .long = false := rfl
  have hnf : nativeFrameWords "java/lang/System" "arraycopy" 5 ≤ 100 := by decide +kernel
  intro T hT X
  obtain ⟨-, q0, hq0, cm0, hkk0⟩ := (b9.1.2 3 _ rfl).1 N (fun j => hc_av E 3 (I k0 j) (L k0 j) (R k0 j) (Λ.2.2 k0 j))
  obtain ⟨-, q1, hq1, cm1, hkk1⟩ := (b9.1.2 3 _ rfl).1 N (fun j => hc_av E 3 (I k1 j) (L k1 j) (R k1 j) (Λ.2.2 k1 j))
  obtain ⟨vm', X', step⟩ := X.arraycopy b1 b5 (b6 _ hl) (b6 _ mw_acn) (b6 _ mw_acs) (b6 _ mw_iniSys) (src := eB E + k0) (dst := eB E + k1) (cs := arrV (eT E 3) N (fun j => hc_av E 3 (I k0 j) (L k0 j) (R k0 j) (Λ.2.2 k0 j))) (cd := arrV (eT E 3) N (fun j => hc_av E 3 (I k1 j) (L k1 j) (R k1 j) (Λ.2.2 k1 j))) (srcPos := 0) (destPos := 0) (n := n) (by rw [hT]; exact ha0) (by rw [hT]; exact ha1)
    (fun _ h => by cases h) (fun _ h => by cases h) (fun h => by cases h) (fun h => by cases h) hq0 hq1 hkk0 hkk1 (by simp [hprim]) (by decide) (by decide) h3
    (by rw [nn, arrV_size]; simp)
    (by rw [nn, arrV_size]; simp)
    (fun vm₁ _ i hi => by
      have e : (arrV (eT E 3) N (fun j => hc_av E 3 (I k0 j) (L k0 j) (R k0 j) (Λ.2.2 k0 j))).slots.getD ((0 : Int32).toNatClampNeg + i) .null = .long (L k0 i) := by
        rw [v2] at hi
        rw [Array.getD_eq_getD_getElem?, show (0 : Int32).toNatClampNeg + i = i from Nat.zero_add i, arrV_read _ _ hi]
        rfl
      refine ⟨?_, ?_⟩
      · rw [e]
        rfl
      · rw [e]
        exact trivial)
    (g := F0 m pc la (.int n :: .int 0 :: .ref (eB E + k1) :: .int 0 :: .ref (eB E + k0) :: hc_st E st)) rfl (by rw [b4]; exact hl2.1) (rest := hc_st E st) rfl (by rw [b2]; exact hd) (by show 1 ≤ xD cx; omega) (by show 2 * 0 + ((hc_st E st).map Value.category).sum + (nativeFrameWords "java/lang/System" "arraycopy" 5 + 11) ≤ 64 * xD cx; rw [hc_catsum]; omega)
  have e1 : copied (arrV (eT E 3) N (fun j => hc_av E 3 (I k0 j) (L k0 j) (R k0 j) (Λ.2.2 k0 j))) (arrV (eT E 3) N (fun j => hc_av E 3 (I k1 j) (L k1 j) (R k1 j) (Λ.2.2 k1 j))) 0 0 n = arrV (eT E 3) N (fun j => .long (va_cpy (L k0) (L k1) 0 0 N j)) := by
    have h : copied (arrV (eT E 3) N (fun j => hc_av E 3 (I k0 j) (L k0 j) (R k0 j) (Λ.2.2 k0 j))) (arrV (eT E 3) N (fun j => hc_av E 3 (I k1 j) (L k1 j) (R k1 j) (Λ.2.2 k1 j))) 0 0 n = arrV (eT E 3) N (fun j => .long (va_cpy (L k0) (L k1) (0 : Int32).toNatClampNeg (0 : Int32).toNatClampNeg n.toNatClampNeg j)) := va_copied (fun z => Value.long z) (eT E 3) (eT E 3) (L k0) (L k1) (by rw [v2]; exact Nat.le_of_eq (Nat.zero_add N))
    rw [v2] at h
    exact h
  have e2 : arrV (eT E 3) N (fun j => .long (va_cpy (L k0) (L k1) 0 0 N j)) = arrV (eT E 3) N (fun j => .long (L k0 j)) := by
    unfold arrV
    congr 2
    funext j
    simp only [va_cpy, Nat.zero_le, true_and, Nat.zero_add, Nat.sub_zero]
    rw [if_pos j.isLt]
  rw [e1, e2] at X' step
  have hl : eB E + k1 < H.size := (Array.getElem?_eq_some_iff.mp ha1).1
  have hheap : ((T.setVm vm').setCell (eB E + k1) (arrV (eT E 3) N (fun j => .long (L k0 j)))).heap = H.setIfInBounds (eB E + k1) (arrV (eT E 3) N (fun j => .long (L k0 j))) := by rw [← hT]; rfl
  have oq : ∀ q : Nat, q ≠ eB E + k1 → (H.setIfInBounds (eB E + k1) (arrV (eT E 3) N (fun j => .long (L k0 j))))[q]? = H[q]? := fun q hq => by simp [Array.getElem?_setIfInBounds, Ne.symm hq]
  obtain ⟨t, a1, b1'⟩ := kk l E p e s m args below meth c (H.setIfInBounds (eB E + k1) (arrV (eT E 3) N (fun j => .long (L k0 j)))) _ la ⟨b1, b2, b3, b4, b5, b6, b7, b8, b9, b10⟩ (hW.set (k := k1) (by simp) oq rfl rfl (fun a ha => ⟨rfl, rfl, hc_r_ne _ _ _ ha, rfl⟩) (by
      unfold hc_c
      rw [hy1, if_pos (by omega)]
      rw [show (H.setIfInBounds (eB E + k1) (arrV (eT E 3) N (fun j => .long (L k0 j))))[eB E + k1]? = some (arrV (eT E 3) N (fun j => .long (L k0 j))) by simp [Array.getElem?_setIfInBounds, hl]]
      congr 2
      funext j
      simp only [hc_av, hc_r_eq])) ⟨by simp; exact hS.1, fun q g1 g2 => by
      rw [oq q (fun e => g2 (by rw [e]; exact Nat.le_add_right _ _))]
      exact hS.2.1 q g1 g2, fun q hq => by
      rcases List.mem_append.mp hq with h | h
      · exact hS.2.2 q h
      · obtain ⟨z, -, hz⟩ := List.mem_map.mp h
        rw [← hz]
        exact Nat.le_add_right _ _⟩ hl2 _ hheap X'
  exact ⟨t, step t a1, b1'⟩
end HCX
