/-! new T[n][m]: the outer row first, the inner ones behind it -/
theorem hm_outer (c N h0 : Nat) : ∀ i : Nat, Jvm.Free.Multi.outerC c N h0 i = arrV c N (fun j => va_rf (if j < i then some (h0 + 1 + j) else none))
  | 0 => by
    show ({ cls := c, slots := Array.replicate N .null, vm := .none } : Cell) = _
    rw [arrV_new]
    refine congrArg (arrV c N) (funext fun j => ?_)
    simp [va_rf]
  | i + 1 => by
    show (Jvm.Free.Multi.outerC c N h0 i).setSlot i (.ref (h0 + 1 + i)) = _
    rw [hm_outer c N h0 i, arrV_store]
    refine congrArg (arrV c N) (funext fun j => ?_)
    by_cases e : j = i
    · subst e
      simp [updV, va_rf]
    · by_cases h : j < i
      · simp [updV, e, h, Nat.lt_succ_of_lt h]
      · simp [updV, e, h, show ¬ j < i + 1 by omega]
def hc_mn (Λ : hc_L) (n k : Nat) : hc_L := (Λ.1 + 1 + n, (fun a => if a = Λ.1 then (7, n) else if Λ.1 < a ∧ a ≤ Λ.1 + n then (3, k) else Λ.2.1 a), fun a => if a = Λ.1 then (fun j => if j < n then some (Λ.1 + 1 + j) else none) else if Λ.1 < a ∧ a ≤ Λ.1 + n then (fun _ => none) else Λ.2.2 a)
def hc_mz {α : Type} (f : Nat → Nat → α) (o n : Nat) (z : α) : Nat → Nat → α := fun a => if o ≤ a ∧ a ≤ o + n then (fun _ => z) else f a
theorem LW_mna {cx : hc_X} {ac : Nat × Nat} {pc : Nat} {ls : List (Nat × Value)} {st : List Value} {Λ : hc_L} {I : hc_I} {L : hc_J} {R : hc_R} {Q : hc_Q} {n k idx : Nat} {x y : Int32} (hd : decode (xC cx) pc = .ok (.multianewarray idx 2, 4)) (hl : Cond.classLink (xY cx).cls idx "[[J" ∈ hc_T) (hw : Cond.arrayClass .long ∈ hc_T) (hx : x = nI n) (hy : y = nI k) (hn2 : n ≤ 10000) (hk2 : k ≤ 10000) (hN : Λ.1 + 1 + n ≤ 1000000) (hm : ac.1 + (1 + n) ≤ xM cx ∧ ac.2 + (n + n * k) ≤ xS cx)
    (kk : LW cx (ac.1 + 1 + n, ac.2 + n + n * k) (pc + 4) ls (.ref Λ.1 :: st) (hc_mn Λ n k) (hc_mz I Λ.1 n 0) (hc_mz L Λ.1 n 0) (hc_mz R Λ.1 n none) Q) : LW cx ac pc ls (.int y :: .int x :: st) Λ I L R Q := by
  intro l E p e s m args below meth c H locs la B hW hS hl2
  have B0 := B
  obtain ⟨b1, b2, b3, b4, b5, b6, b7, b8, b9, b10⟩ := B
  obtain ⟨v1, v2⟩ := hc_vin (N := n + 1) hx (by omega) (by omega)
  obtain ⟨u1, u2⟩ := hc_vin (N := k + 1) hy (by omega) (by omega)
  intro T hT X
  obtain ⟨vm₁, cA, comp, -, fA, fC, -, -, X', step⟩ := X.multianewarray2F b1 (own := (xY cx).cls) (index := idx) (ty := .long) b5 (b6 _ hl) (b9.2.1 _ (List.mem_of_getElem? (i := 3) rfl)) (b6 _ hw) (g := F0 m pc la (.int y :: .int x :: hc_st E st)) rfl (by rw [b2]; exact hd) rfl (fun q => v1 (Or.inl q)) (fun q => u1 (Or.inl q)) (by rw [v2]; omega) (by rw [u2]; simp only [componentBytes]; omega) (by rw [u2]; omega) rfl rfl (by rw [v2]; exact hm.1) (by rw [v2, u2]; exact hm.2)
  rw [v2, u2] at X' step
  have ecA : cA = eT E 7 := Option.some.inj (fA.symm.trans (b9.1.2 7 _ rfl).2)
  have ecC : comp = eT E 3 := Option.some.inj (fC.symm.trans (b9.1.2 3 _ rfl).2)
  subst ecA; subst ecC
  generalize hF : Jvm.Free.Multi.fill (T.setVm vm₁) (eT E 7) (eT E 3) n k (defaultValue .long) n = F at X' step
  have hTh : (T.setVm vm₁).heap = H := hT
  obtain ⟨f1, f2, -, -⟩ := Jvm.Free.Multi.fill_facts (T.setVm vm₁) (eT E 7) (eT E 3) n k (defaultValue .long) n
  rw [hF, hTh] at f1 f2
  have hold : ∀ q : Nat, q < H.size → F.heap[q]? = H[q]? := fun q hq => by
    have := Jvm.Free.Multi.fill_old (T.setVm vm₁) (eT E 7) (eT E 3) n k (defaultValue .long) (a := q) (by rw [hTh]; exact hq) n
    rw [hF, hTh] at this
    exact this
  have hrow : ∀ j : Nat, j < n → F.heap[H.size + 1 + j]? = some (arrV (eT E 3) k (fun _ => .long 0)) := fun j hj => by
    have := Jvm.Free.Multi.fill_inner (T.setVm vm₁) (eT E 7) (eT E 3) n k (defaultValue .long) n j hj
    rw [hF, hTh] at this
    rw [this]
    show some ({ cls := eT E 3, slots := Array.replicate k (.long 0), vm := .none } : Cell) = _
    rw [arrV_new]
  rw [hm_outer] at f2
  have hWs := hW.1
  have hn0 : Λ.1 < 1000000 := by omega
  have h0 := kk l E p e s m args below meth c F.heap locs la B0 ⟨by rw [f1, hWs]; show _ = eB E + (Λ.1 + 1 + n); omega, hN, fun a ha => ?_⟩ ⟨Nat.le_trans hS.1 (by rw [f1]; omega), fun q h1 h2 => (hold q (Nat.lt_of_lt_of_le h1 hS.1)).trans (hS.2.1 q h1 h2), hS.2.2⟩ hl2
  · obtain ⟨t, a1, a2⟩ := h0 F rfl X'
    refine ⟨t, step t ?_, a2⟩
    have e9 : hc_st E (.ref Λ.1 :: st) = .ref H.size :: hc_st E st := by show Value.ref (hc_ad E Λ.1) :: _ = _; rw [hc_adn hW hn0]; rfl
    rw [e9] at a1
    rw [hT]
    exact a1
  · have ha' : a < Λ.1 + 1 + n := ha
    by_cases e1 : a = Λ.1
    · subst e1
      unfold hc_c
      rw [show (hc_mn Λ n k).2.1 Λ.1 = (7, n) from if_pos rfl, if_pos (by omega), ← hWs, f2]
      show some (arrV _ n _) = some (arrV _ n _)
      congr 2
      funext j
      show va_rf _ = va_rf (Option.map (hc_ad E) ((hc_mn Λ n k).2.2 Λ.1 j))
      rw [show (hc_mn Λ n k).2.2 Λ.1 = (fun j => if j < n then some (Λ.1 + 1 + j) else none) from if_pos rfl]
      by_cases hj : j < n
      · simp only [if_pos hj, Option.map_some]
        rw [hc_adk (show Λ.1 + 1 + j < 1000000 by omega)]
        exact congrArg (fun z => va_rf (some z)) (by rw [hWs]; show eB E + Λ.1 + 1 + j = eB E + (Λ.1 + 1 + j); omega)
      · simp only [if_neg hj]
        rfl
    · by_cases e2 : Λ.1 < a
      · obtain ⟨j, rfl⟩ : ∃ j, a = Λ.1 + 1 + j := ⟨a - (Λ.1 + 1), by omega⟩
        have hj : j < n := by omega
        have hc1 : Λ.1 < Λ.1 + 1 + j ∧ Λ.1 + 1 + j ≤ Λ.1 + n := by omega
        have hc2 : Λ.1 ≤ Λ.1 + 1 + j ∧ Λ.1 + 1 + j ≤ Λ.1 + n := by omega
        unfold hc_c
        rw [show (hc_mn Λ n k).2.1 (Λ.1 + 1 + j) = (3, k) from (if_neg e1).trans (if_pos hc1), if_pos (by omega)]
        rw [show eB E + (Λ.1 + 1 + j) = H.size + 1 + j by rw [hWs]; show _ = eB E + Λ.1 + 1 + j; omega, hrow j hj]
        show some (arrV _ k _) = some (arrV _ k _)
        congr 2
        funext i
        show _ = Value.long (hc_mz L Λ.1 n 0 (Λ.1 + 1 + j) i)
        rw [show hc_mz L Λ.1 n 0 (Λ.1 + 1 + j) = (fun _ => 0) from if_pos hc2]
      · have hn1 : ¬ (Λ.1 < a ∧ a ≤ Λ.1 + n) := fun h => e2 h.1
        have hn2 : ¬ (Λ.1 ≤ a ∧ a ≤ Λ.1 + n) := by omega
        exact (hW.2.2 a (by omega)).congr ((if_neg e1).trans (if_neg hn1)) ((if_neg e1).trans (if_neg hn1)) (if_neg hn2) (if_neg hn2) (if_neg hn2) (hold _ (by rw [hWs]; show eB E + a < eB E + Λ.1; omega))
