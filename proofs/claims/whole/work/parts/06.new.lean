/-! New cells, calls, statics, texts, Math, arraycopy. -/
section HCN
variable {cx : hc_X} {ac : Nat × Nat} {pc : Nat} {ls : List (Nat × Value)} {st : List Value} {Λ : hc_L} {I : hc_I} {L : hc_J} {R : hc_R} {Q : hc_Q}
theorem LW_aast6 {k n N r w : Nat} {i : Int32} (hd : decode (xC cx) pc = .ok (.aastore, 1)) (hk : k < Λ.1) (hy : Λ.2.1 k = (6, N)) (hi : i = nI n) (hn : n < N) (hN : N < 2 ^ 31) (hr : r < Λ.1) (hry : Λ.2.1 r = (100 + 6, w)) (kk : LW cx ac (pc + 1) ls st (Λ.1, Λ.2.1, hc_u Λ.2.2 k n (some r)) I L R Q) : LW cx ac pc ls (.ref r :: .int i :: .ref k :: st) Λ I L R Q := by
  intro l E p e s m args below meth c H locs la B hW hS hl
  have ha := hW.arr hk hy (by omega)
  have e0 : hc_st E (.ref r :: .int i :: .ref k :: st) = .ref (eB E + r) :: .int i :: .ref (eB E + k) :: hc_st E st := by
    show Value.ref (hc_ad E r) :: _ :: Value.ref (hc_ad E k) :: _ = _
    rw [hW.adk hk, hW.adk hr]
    rfl
  rw [e0]
  obtain ⟨b1, b2, b3, b4, b5, b6, b7, b8, b9, b10⟩ := B
  obtain ⟨v1, v2⟩ := hc_vin hi hn hN
  obtain ⟨cellV, g1, g2, g3, -⟩ := hW.obj (r := (RX6, TX6, 15)) hr hry rfl
  have hcls := (b9.1.1 6 _ rfl).2
  obtain ⟨kA, comp, k1, k2, k3, -⟩ := (b9.1.2 6 _ rfl).2
  obtain ⟨hfc, kC, hkC, hkind⟩ := hcls
  have ec : comp = (eD E).1 6 := Option.some.inj (k3.symm.trans hfc)
  have hin : ¬ i < 0 ∧ i.toNatClampNeg < (arrV (eT E 6) N (fun j => hc_av E 6 (I k j) (L k j) (R k j) (Λ.2.2 k j))).slots.size := by
    rw [arrV_size]
    exact ⟨fun q => v1 (Or.inl q), Nat.not_le.mp fun q => v1 (Or.inr q)⟩
  refine W.aast b1 b2 ha (fun q h => by cases h) (fun q => by cases q) k1 k2 rfl (by rw [ec]; exact hkC) hin g1 (fun q h => by rw [g3] at h; cases h) (by rw [g2]; exact hkC) (by rw [g2, ec]; exact va_assign ⟨hfc, kC, hkC, hkind⟩) rfl rfl hd (fun H1 f1 f2 f3 => ?_)
  refine kk l E p e s m args below meth c H1 _ la ⟨b1, b2, b3, b4, b5, b6, b7, b8, b9, b10⟩ (hW.set (k := k) f2 f3 rfl rfl (fun a ha => ⟨hc_u_row _ _ _ _ ha, rfl, rfl, rfl⟩) ?_) (hS.put f2 f3 (Nat.le_add_right _ _)) hl
  unfold hc_c
  show (if (Λ.2.1 k).1 < 100 then _ else _)
  rw [hy, if_pos (by omega), f1, arrV_store]
  congr 2
  funext q
  rw [v2]
  by_cases hq : q = n
  · subst hq
    simp only [updV, hc_av, hc_u_at, if_pos, Option.map_some]
    rw [hW.adk hr]
    rfl
  · simp [updV, hc_av, hc_u_at, hq]
theorem hc_nwl (Λ : hc_L) (t n : Nat) : (hc_nw Λ t n).2.1 Λ.1 = (t, n) := if_pos rfl
theorem hc_nwf (Λ : hc_L) (t n : Nat) : (hc_nw Λ t n).2.2 Λ.1 = fun _ => none := hc_r_eq _ _ _
theorem hc_adn {E : hc_E} {Λ : hc_L} {I : hc_I} {L : hc_J} {R : hc_R} {H : Heap} (hW : hc_W E Λ I L R H) (hn : Λ.1 < 1000000) : hc_ad E Λ.1 = H.size := by rw [hc_adk hn, hW.1]
/-- new C -/
theorem LW_new {ci idx N : Nat} {C : String} {T : u_T} (hc : vwCl[ci]? = some (C, T, N)) (hin : ∀ w ∈ u_ws C T N, w ∈ hc_T) (hty : ∀ k, k < N → parseFieldDescriptor (T k).2.2.1 = some (hc_ty ci k)) (hdv : ∀ (E : hc_E) (k : Nat), k < N → defaultValue (hc_ty ci k) = hc_fv E (hc_ty ci k) 0 0 none) (hd : decode (xC cx) pc = .ok (.new idx, 3)) (hl : Cond.classLink (xY cx).cls idx C ∈ hc_T) (hi : Cond.instantiable C N ∈ hc_T) (hini : Cond.initialized C ∈ hc_T) (hn : Λ.1 < 1000000) (hm : ac.1 + 1 ≤ xM cx ∧ ac.2 + N ≤ xS cx)
    (kk : LW cx (ac.1 + 1, ac.2 + N) (pc + 3) ls (.ref Λ.1 :: st) (hc_nw Λ (100 + ci) 0) (hc_r I Λ.1 (fun _ => 0)) (hc_r L Λ.1 (fun _ => 0)) (hc_r R Λ.1 (fun _ => none)) Q) : LW cx ac pc ls st Λ I L R Q := by
  intro l E p e s m args below meth c H locs la B hW hS hl2
  obtain ⟨b1, b2, b3, b4, b5, b6, b7, b8, b9, b10⟩ := B
  have hKn := b9.1.1 ci _ hc
  refine W.newcK b1 b2 b5 (b6 _ hl) (b6 _ hi) (b6 _ hini) rfl hd hm.1 hm.2 hKn.2.1 rfl fun H1 kC hkC e1 z1 o1 => ?_
  have h0 := kk l E p e s m args below meth c H1 locs la ⟨b1, b2, b3, b4, b5, b6, b7, b8, b9, b10⟩ (hW.push hn z1 o1 rfl (fun a ha => ⟨if_neg ha, hc_r_ne _ _ _ ha, hc_r_ne _ _ _ ha, hc_r_ne _ _ _ ha, hc_r_ne _ _ _ ha⟩) ?_) ⟨Nat.le_trans hS.1 (by omega), fun x h1 h2 => (o1 x (Nat.lt_of_lt_of_le h1 hS.1)).trans (hS.2.1 x h1 h2), hS.2.2⟩ hl2
  · have e9 : hc_st E (.ref Λ.1 :: st) = .ref H.size :: hc_st E st := by show Value.ref (hc_ad E Λ.1) :: _ = _; rw [hc_adn hW hn]; rfl
    rw [e9] at h0
    exact h0
  · unfold hc_c
    rw [hc_nwl, hc_nwf, hc_r_eq, hc_r_eq, if_neg (by omega), Nat.add_sub_cancel_left]
    refine ⟨_, hc, ?_⟩
    rw [← hW.1]
    refine (u_born (hc_ty ci) b6 hin hKn hkC e1 hty).to (fun k hk => ?_)
    exact hdv E k hk
theorem LW_newz {n : Nat} {x : Int32} (hd : decode (xC cx) pc = .ok (.newarray .boolean, 2)) (hw : Cond.arrayClass .boolean ∈ hc_T) (hx : x = nI n) (hn2 : n ≤ 10000) (hn : Λ.1 < 1000000) (hm : ac.1 + 1 ≤ xM cx ∧ ac.2 + n ≤ xS cx)
    (kk : LW cx (ac.1 + 1, ac.2 + n) (pc + 2) ls (.ref Λ.1 :: st) (hc_nw Λ 0 n) (hc_r I Λ.1 (fun _ => 0)) (hc_r L Λ.1 (fun _ => 0)) (hc_r R Λ.1 (fun _ => none)) Q) : LW cx ac pc ls (.int x :: st) Λ I L R Q := by
  intro l E p e s m args below meth c H locs la B hW hS hl2
  obtain ⟨b1, b2, b3, b4, b5, b6, b7, b8, b9, b10⟩ := B
  obtain ⟨v1, v2⟩ := hc_vin (N := n + 1) hx (by omega) (by omega)
  refine va_newaK b1 b2 (atype := .boolean) (b6 _ hw) rfl hd rfl (fun q => v1 (Or.inl q)) v2 (by show n * _ ≤ _; simp only [newarray.typeOf, componentBytes]; omega) hm.1 hm.2 rfl fun H1 cA e1 z1 o1 hAr hNm => ?_
  have ecA : cA = eT E 0 := Option.some.inj (hNm.symm.trans (b9.1.2 0 _ rfl).2)
  have h0 := kk l E p e s m args below meth c H1 locs la ⟨b1, b2, b3, b4, b5, b6, b7, b8, b9, b10⟩ (hW.push hn z1 o1 rfl (fun a ha => ⟨if_neg ha, hc_r_ne _ _ _ ha, hc_r_ne _ _ _ ha, hc_r_ne _ _ _ ha, hc_r_ne _ _ _ ha⟩) ?_) ⟨Nat.le_trans hS.1 (by omega), fun x h1 h2 => (o1 x (Nat.lt_of_lt_of_le h1 hS.1)).trans (hS.2.1 x h1 h2), hS.2.2⟩ hl2
  · have e9 : hc_st E (.ref Λ.1 :: st) = .ref H.size :: hc_st E st := by show Value.ref (hc_ad E Λ.1) :: _ = _; rw [hc_adn hW hn]; rfl
    rw [e9] at h0
    exact h0
  · unfold hc_c
    rw [hc_nwl, hc_nwf, hc_r_eq, hc_r_eq, hc_r_eq, if_pos (by omega), ← hW.1, e1, ecA]
    rfl
theorem LW_newb {n : Nat} {x : Int32} (hd : decode (xC cx) pc = .ok (.newarray .byte, 2)) (hw : Cond.arrayClass .byte ∈ hc_T) (hx : x = nI n) (hn2 : n ≤ 10000) (hn : Λ.1 < 1000000) (hm : ac.1 + 1 ≤ xM cx ∧ ac.2 + n ≤ xS cx)
    (kk : LW cx (ac.1 + 1, ac.2 + n) (pc + 2) ls (.ref Λ.1 :: st) (hc_nw Λ 1 n) (hc_r I Λ.1 (fun _ => 0)) (hc_r L Λ.1 (fun _ => 0)) (hc_r R Λ.1 (fun _ => none)) Q) : LW cx ac pc ls (.int x :: st) Λ I L R Q := by
  intro l E p e s m args below meth c H locs la B hW hS hl2
  obtain ⟨b1, b2, b3, b4, b5, b6, b7, b8, b9, b10⟩ := B
  obtain ⟨v1, v2⟩ := hc_vin (N := n + 1) hx (by omega) (by omega)
  refine va_newaK b1 b2 (atype := .byte) (b6 _ hw) rfl hd rfl (fun q => v1 (Or.inl q)) v2 (by show n * _ ≤ _; simp only [newarray.typeOf, componentBytes]; omega) hm.1 hm.2 rfl fun H1 cA e1 z1 o1 hAr hNm => ?_
  have ecA : cA = eT E 1 := Option.some.inj (hNm.symm.trans (b9.1.2 1 _ rfl).2)
  have h0 := kk l E p e s m args below meth c H1 locs la ⟨b1, b2, b3, b4, b5, b6, b7, b8, b9, b10⟩ (hW.push hn z1 o1 rfl (fun a ha => ⟨if_neg ha, hc_r_ne _ _ _ ha, hc_r_ne _ _ _ ha, hc_r_ne _ _ _ ha, hc_r_ne _ _ _ ha⟩) ?_) ⟨Nat.le_trans hS.1 (by omega), fun x h1 h2 => (o1 x (Nat.lt_of_lt_of_le h1 hS.1)).trans (hS.2.1 x h1 h2), hS.2.2⟩ hl2
  · have e9 : hc_st E (.ref Λ.1 :: st) = .ref H.size :: hc_st E st := by show Value.ref (hc_ad E Λ.1) :: _ = _; rw [hc_adn hW hn]; rfl
    rw [e9] at h0
    exact h0
  · unfold hc_c
    rw [hc_nwl, hc_nwf, hc_r_eq, hc_r_eq, hc_r_eq, if_pos (by omega), ← hW.1, e1, ecA]
    rfl
theorem LW_newi {n : Nat} {x : Int32} (hd : decode (xC cx) pc = .ok (.newarray .int, 2)) (hw : Cond.arrayClass .int ∈ hc_T) (hx : x = nI n) (hn2 : n ≤ 10000) (hn : Λ.1 < 1000000) (hm : ac.1 + 1 ≤ xM cx ∧ ac.2 + n ≤ xS cx)
    (kk : LW cx (ac.1 + 1, ac.2 + n) (pc + 2) ls (.ref Λ.1 :: st) (hc_nw Λ 2 n) (hc_r I Λ.1 (fun _ => 0)) (hc_r L Λ.1 (fun _ => 0)) (hc_r R Λ.1 (fun _ => none)) Q) : LW cx ac pc ls (.int x :: st) Λ I L R Q := by
  intro l E p e s m args below meth c H locs la B hW hS hl2
  obtain ⟨b1, b2, b3, b4, b5, b6, b7, b8, b9, b10⟩ := B
  obtain ⟨v1, v2⟩ := hc_vin (N := n + 1) hx (by omega) (by omega)
  refine va_newaK b1 b2 (atype := .int) (b6 _ hw) rfl hd rfl (fun q => v1 (Or.inl q)) v2 (by show n * _ ≤ _; simp only [newarray.typeOf, componentBytes]; omega) hm.1 hm.2 rfl fun H1 cA e1 z1 o1 hAr hNm => ?_
  have ecA : cA = eT E 2 := Option.some.inj (hNm.symm.trans (b9.1.2 2 _ rfl).2)
  have h0 := kk l E p e s m args below meth c H1 locs la ⟨b1, b2, b3, b4, b5, b6, b7, b8, b9, b10⟩ (hW.push hn z1 o1 rfl (fun a ha => ⟨if_neg ha, hc_r_ne _ _ _ ha, hc_r_ne _ _ _ ha, hc_r_ne _ _ _ ha, hc_r_ne _ _ _ ha⟩) ?_) ⟨Nat.le_trans hS.1 (by omega), fun x h1 h2 => (o1 x (Nat.lt_of_lt_of_le h1 hS.1)).trans (hS.2.1 x h1 h2), hS.2.2⟩ hl2
  · have e9 : hc_st E (.ref Λ.1 :: st) = .ref H.size :: hc_st E st := by show Value.ref (hc_ad E Λ.1) :: _ = _; rw [hc_adn hW hn]; rfl
    rw [e9] at h0
    exact h0
  · unfold hc_c
    rw [hc_nwl, hc_nwf, hc_r_eq, hc_r_eq, hc_r_eq, if_pos (by omega), ← hW.1, e1, ecA]
    rfl
theorem LW_newl {n : Nat} {x : Int32} (hd : decode (xC cx) pc = .ok (.newarray .long, 2)) (hw : Cond.arrayClass .long ∈ hc_T) (hx : x = nI n) (hn2 : n ≤ 10000) (hn : Λ.1 < 1000000) (hm : ac.1 + 1 ≤ xM cx ∧ ac.2 + n ≤ xS cx)
    (kk : LW cx (ac.1 + 1, ac.2 + n) (pc + 2) ls (.ref Λ.1 :: st) (hc_nw Λ 3 n) (hc_r I Λ.1 (fun _ => 0)) (hc_r L Λ.1 (fun _ => 0)) (hc_r R Λ.1 (fun _ => none)) Q) : LW cx ac pc ls (.int x :: st) Λ I L R Q := by
  intro l E p e s m args below meth c H locs la B hW hS hl2
  obtain ⟨b1, b2, b3, b4, b5, b6, b7, b8, b9, b10⟩ := B
  obtain ⟨v1, v2⟩ := hc_vin (N := n + 1) hx (by omega) (by omega)
  refine va_newaK b1 b2 (atype := .long) (b6 _ hw) rfl hd rfl (fun q => v1 (Or.inl q)) v2 (by show n * _ ≤ _; simp only [newarray.typeOf, componentBytes]; omega) hm.1 hm.2 rfl fun H1 cA e1 z1 o1 hAr hNm => ?_
  have ecA : cA = eT E 3 := Option.some.inj (hNm.symm.trans (b9.1.2 3 _ rfl).2)
  have h0 := kk l E p e s m args below meth c H1 locs la ⟨b1, b2, b3, b4, b5, b6, b7, b8, b9, b10⟩ (hW.push hn z1 o1 rfl (fun a ha => ⟨if_neg ha, hc_r_ne _ _ _ ha, hc_r_ne _ _ _ ha, hc_r_ne _ _ _ ha, hc_r_ne _ _ _ ha⟩) ?_) ⟨Nat.le_trans hS.1 (by omega), fun x h1 h2 => (o1 x (Nat.lt_of_lt_of_le h1 hS.1)).trans (hS.2.1 x h1 h2), hS.2.2⟩ hl2
  · have e9 : hc_st E (.ref Λ.1 :: st) = .ref H.size :: hc_st E st := by show Value.ref (hc_ad E Λ.1) :: _ = _; rw [hc_adn hW hn]; rfl
    rw [e9] at h0
    exact h0
  · unfold hc_c
    rw [hc_nwl, hc_nwf, hc_r_eq, hc_r_eq, hc_r_eq, if_pos (by omega), ← hW.1, e1, ecA]
    rfl
theorem LW_anew4 {n idx : Nat} {x : Int32} (hd : decode (xC cx) pc = .ok (.anewarray idx, 3)) (hl : Cond.classLink (xY cx).cls idx "HailClub$Field" ∈ hc_T) (hx : x = nI n) (hn2 : n ≤ 10000) (hn : Λ.1 < 1000000) (hm : ac.1 + 1 ≤ xM cx ∧ ac.2 + n ≤ xS cx)
    (kk : LW cx (ac.1 + 1, ac.2 + n) (pc + 3) ls (.ref Λ.1 :: st) (hc_nw Λ 4 n) (hc_r I Λ.1 (fun _ => 0)) (hc_r L Λ.1 (fun _ => 0)) (hc_r R Λ.1 (fun _ => none)) Q) : LW cx ac pc ls (.int x :: st) Λ I L R Q := by
  intro l E p e s m args below meth c H locs la B hW hS hl2
  obtain ⟨b1, b2, b3, b4, b5, b6, b7, b8, b9, b10⟩ := B
  obtain ⟨v1, v2⟩ := hc_vin (N := n + 1) hx (by omega) (by omega)
  refine W.anew b1 b2 b5 (b6 _ hl) (b9.2.1 _ (List.mem_of_getElem? (i := 0) rfl)) rfl hd rfl (fun q => v1 (Or.inl q)) (by rw [v2]; omega) hm.1 (by rw [v2]; exact hm.2) fun cA kA comp f1 f2 f3 f4 => ?_
  rw [v2]
  generalize hH1 : H.push ({ cls := cA, slots := Array.replicate n .null, vm := .none } : Cell) = H1
  have z1 : H1.size = H.size + 1 := by rw [← hH1, Array.size_push]
  have e1 : H1[H.size]? = some (arrV cA n (fun _ => .null)) := by rw [← hH1, Array.getElem?_push_size, ← arrV_new]
  have o1 : ∀ q : Nat, q < H.size → H1[q]? = H[q]? := fun q hq => by rw [← hH1, Array.getElem?_push, if_neg (Nat.ne_of_lt hq)]
  obtain ⟨kA2, comp2, k1, k2, k3, k4⟩ := (b9.1.2 4 _ rfl).2
  have ecA : cA = eT E 4 := Option.some.inj (f1.symm.trans k4)
  have h0 := kk l E p e s m args below meth c H1 locs la ⟨b1, b2, b3, b4, b5, b6, b7, b8, b9, b10⟩ (hW.push hn z1 o1 rfl (fun a ha => ⟨if_neg ha, hc_r_ne _ _ _ ha, hc_r_ne _ _ _ ha, hc_r_ne _ _ _ ha, hc_r_ne _ _ _ ha⟩) ?_) ⟨Nat.le_trans hS.1 (by omega), fun x h1 h2 => (o1 x (Nat.lt_of_lt_of_le h1 hS.1)).trans (hS.2.1 x h1 h2), hS.2.2⟩ hl2
  · have e9 : hc_st E (.ref Λ.1 :: st) = .ref H.size :: hc_st E st := by show Value.ref (hc_ad E Λ.1) :: _ = _; rw [hc_adn hW hn]; rfl
    rw [e9] at h0
    exact h0
  · unfold hc_c
    rw [hc_nwl, hc_nwf, hc_r_eq, hc_r_eq, hc_r_eq, if_pos (by omega), ← hW.1, e1, ecA]
    rfl
theorem LW_anew5 {n idx : Nat} {x : Int32} (hd : decode (xC cx) pc = .ok (.anewarray idx, 3)) (hl : Cond.classLink (xY cx).cls idx "HailClub$Storm" ∈ hc_T) (hx : x = nI n) (hn2 : n ≤ 10000) (hn : Λ.1 < 1000000) (hm : ac.1 + 1 ≤ xM cx ∧ ac.2 + n ≤ xS cx)
    (kk : LW cx (ac.1 + 1, ac.2 + n) (pc + 3) ls (.ref Λ.1 :: st) (hc_nw Λ 5 n) (hc_r I Λ.1 (fun _ => 0)) (hc_r L Λ.1 (fun _ => 0)) (hc_r R Λ.1 (fun _ => none)) Q) : LW cx ac pc ls (.int x :: st) Λ I L R Q := by
  intro l E p e s m args below meth c H locs la B hW hS hl2
  obtain ⟨b1, b2, b3, b4, b5, b6, b7, b8, b9, b10⟩ := B
  obtain ⟨v1, v2⟩ := hc_vin (N := n + 1) hx (by omega) (by omega)
  refine W.anew b1 b2 b5 (b6 _ hl) (b9.2.1 _ (List.mem_of_getElem? (i := 1) rfl)) rfl hd rfl (fun q => v1 (Or.inl q)) (by rw [v2]; omega) hm.1 (by rw [v2]; exact hm.2) fun cA kA comp f1 f2 f3 f4 => ?_
  rw [v2]
  generalize hH1 : H.push ({ cls := cA, slots := Array.replicate n .null, vm := .none } : Cell) = H1
  have z1 : H1.size = H.size + 1 := by rw [← hH1, Array.size_push]
  have e1 : H1[H.size]? = some (arrV cA n (fun _ => .null)) := by rw [← hH1, Array.getElem?_push_size, ← arrV_new]
  have o1 : ∀ q : Nat, q < H.size → H1[q]? = H[q]? := fun q hq => by rw [← hH1, Array.getElem?_push, if_neg (Nat.ne_of_lt hq)]
  obtain ⟨kA2, comp2, k1, k2, k3, k4⟩ := (b9.1.2 5 _ rfl).2
  have ecA : cA = eT E 5 := Option.some.inj (f1.symm.trans k4)
  have h0 := kk l E p e s m args below meth c H1 locs la ⟨b1, b2, b3, b4, b5, b6, b7, b8, b9, b10⟩ (hW.push hn z1 o1 rfl (fun a ha => ⟨if_neg ha, hc_r_ne _ _ _ ha, hc_r_ne _ _ _ ha, hc_r_ne _ _ _ ha, hc_r_ne _ _ _ ha⟩) ?_) ⟨Nat.le_trans hS.1 (by omega), fun x h1 h2 => (o1 x (Nat.lt_of_lt_of_le h1 hS.1)).trans (hS.2.1 x h1 h2), hS.2.2⟩ hl2
  · have e9 : hc_st E (.ref Λ.1 :: st) = .ref H.size :: hc_st E st := by show Value.ref (hc_ad E Λ.1) :: _ = _; rw [hc_adn hW hn]; rfl
    rw [e9] at h0
    exact h0
  · unfold hc_c
    rw [hc_nwl, hc_nwf, hc_r_eq, hc_r_eq, hc_r_eq, if_pos (by omega), ← hW.1, e1, ecA]
    rfl
theorem LW_anew6 {n idx : Nat} {x : Int32} (hd : decode (xC cx) pc = .ok (.anewarray idx, 3)) (hl : Cond.classLink (xY cx).cls idx "HailClub$State" ∈ hc_T) (hx : x = nI n) (hn2 : n ≤ 10000) (hn : Λ.1 < 1000000) (hm : ac.1 + 1 ≤ xM cx ∧ ac.2 + n ≤ xS cx)
    (kk : LW cx (ac.1 + 1, ac.2 + n) (pc + 3) ls (.ref Λ.1 :: st) (hc_nw Λ 6 n) (hc_r I Λ.1 (fun _ => 0)) (hc_r L Λ.1 (fun _ => 0)) (hc_r R Λ.1 (fun _ => none)) Q) : LW cx ac pc ls (.int x :: st) Λ I L R Q := by
  intro l E p e s m args below meth c H locs la B hW hS hl2
  obtain ⟨b1, b2, b3, b4, b5, b6, b7, b8, b9, b10⟩ := B
  obtain ⟨v1, v2⟩ := hc_vin (N := n + 1) hx (by omega) (by omega)
  refine W.anew b1 b2 b5 (b6 _ hl) (b9.2.1 _ (List.mem_of_getElem? (i := 2) rfl)) rfl hd rfl (fun q => v1 (Or.inl q)) (by rw [v2]; omega) hm.1 (by rw [v2]; exact hm.2) fun cA kA comp f1 f2 f3 f4 => ?_
  rw [v2]
  generalize hH1 : H.push ({ cls := cA, slots := Array.replicate n .null, vm := .none } : Cell) = H1
  have z1 : H1.size = H.size + 1 := by rw [← hH1, Array.size_push]
  have e1 : H1[H.size]? = some (arrV cA n (fun _ => .null)) := by rw [← hH1, Array.getElem?_push_size, ← arrV_new]
  have o1 : ∀ q : Nat, q < H.size → H1[q]? = H[q]? := fun q hq => by rw [← hH1, Array.getElem?_push, if_neg (Nat.ne_of_lt hq)]
  obtain ⟨kA2, comp2, k1, k2, k3, k4⟩ := (b9.1.2 6 _ rfl).2
  have ecA : cA = eT E 6 := Option.some.inj (f1.symm.trans k4)
  have h0 := kk l E p e s m args below meth c H1 locs la ⟨b1, b2, b3, b4, b5, b6, b7, b8, b9, b10⟩ (hW.push hn z1 o1 rfl (fun a ha => ⟨if_neg ha, hc_r_ne _ _ _ ha, hc_r_ne _ _ _ ha, hc_r_ne _ _ _ ha, hc_r_ne _ _ _ ha⟩) ?_) ⟨Nat.le_trans hS.1 (by omega), fun x h1 h2 => (o1 x (Nat.lt_of_lt_of_le h1 hS.1)).trans (hS.2.1 x h1 h2), hS.2.2⟩ hl2
  · have e9 : hc_st E (.ref Λ.1 :: st) = .ref H.size :: hc_st E st := by show Value.ref (hc_ad E Λ.1) :: _ = _; rw [hc_adn hW hn]; rfl
    rw [e9] at h0
    exact h0
  · unfold hc_c
    rw [hc_nwl, hc_nwf, hc_r_eq, hc_r_eq, hc_r_eq, if_pos (by omega), ← hW.1, e1, ecA]
    rfl
theorem LW_objInit {idx k : Nat} (hd : decode (xC cx) pc = .ok (.invokespecial idx, 3)) (hl : Cond.methodLink (xY cx).cls idx objectInit ∈ hc_T) (hi : Cond.instanceMethod objectInit ∈ hc_T) (hcd : Cond.code objectInit ⟨#[0xb1]⟩ 1 none ∈ hc_T) (hD : 1 ≤ xD cx) (hst : (st.map Value.category).sum ≤ 8) (kk : LW cx ac (pc + 3) ls st Λ I L R Q) : LW cx ac pc ls (.ref k :: st) Λ I L R Q := by
  intro l E p e s m args below meth c H locs la B hW hS hl2
  have k1 := kk l E p e s m args below meth c H locs la B hW hS hl2
  obtain ⟨b1, b2, b3, b4, b5, b6, b7, b8, b9, b10⟩ := B
  have hcat : ((hc_st E st).map Value.category).sum = (st.map Value.category).sum := by
    unfold hc_st
    rw [List.map_map]
    congr 2
    funext v
    exact hc_cat E v
  refine W.objInit b1 b2 b5 (b6 _ hl) (b6 _ hi) (b6 _ hcd) rfl (by rw [b4]; exact hl2.1) rfl hd hD ?_ ?_
  · show 2 * 0 + ((hc_st E st).map Value.category).sum + 12 ≤ 64 * xD cx
    rw [hcat]; omega
  · exact k1
end HCN
