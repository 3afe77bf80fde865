/-! THE START: what the Statement gives at the law's entry is what the layer asks (hc_K) -/
def nwS : List Cond := flatC (Jvm.Cond.and given_1 narrow_1)
def spS : List Nat := [55, 156, 167, 177, 190, 203, 216, 231, 246, 265, 284, 303, 321, 341, 361, 382, 404, 426, 451]
def siS : List Nat := [260, 1308, 1338, 1339, 1340, 1341, 1342, 1343, 1344, 1345, 1346, 1347, 1348, 1349, 1350, 1351, 1352, 1353, 1354]
def qsS (i : Nat) : String × Nat × String := hc_strs.getD i ("", 0, "")
def tmS (i : Nat) : Term := Term.string (qsS i).1 (qsS i).2.1
def fvS (i : Nat) : Term := Term.field (tmS i) "java/lang/String" "value" "[B"
set_option maxRecDepth 100000 in
theorem nwS1 : ∀ i, i < 19 → nwS[spS.getD i 0]? = some (Cond.exactly (tmS i) "java/lang/String") ∧ nwS[spS.getD i 0 + 1]? = some (Cond.eq (Term.field (tmS i) "java/lang/String" "coder" "B") (Term.int 0)) ∧ nwS[spS.getD i 0 + 2]? = some (Cond.arrayOf (fvS i) .byte) ∧ nwS[spS.getD i 0 + 3]? = some (Cond.eq (Term.length (fvS i)) (Term.int (Int32.ofNat (hc_len.getD i 0)))) := by decide +kernel
set_option maxRecDepth 100000 in
theorem nwS2 : ∀ i, i < 19 → ∀ j, j < hc_len.getD i 0 → nwS[spS.getD i 0 + 4 + j]? = some (Cond.eq (Term.elem (fvS i) (Term.int (Int32.ofNat j))) (Term.int ((hc_byt.getD i []).getD j 0))) := by decide +kernel
set_option maxRecDepth 100000 in
theorem nwS3 : ∀ i, i < 19 → ∀ j, j < i → nwS[spS.getD i 0 + 4 + hc_len.getD i 0 + j]? = some (Cond.not (Cond.eq (tmS j) (tmS i))) := by decide +kernel
theorem nwS4 : ∀ i, i < 19 → hc_len.getD i 0 < 2 ^ 31 := by decide +kernel
set_option maxRecDepth 100000 in
theorem nwS5 : ∀ i, i < 19 → lw_tbl[siS.getD i 0]? = some (Cond.stringRef (qsS i).1 (qsS i).2.1 (qsS i).2.2) := by decide +kernel
abbrev tRM : Term := Term.static "HailClub" "RULE_MOST" "[I"
set_option maxRecDepth 100000 in
theorem nwS6 : nwS[10]? = some (Cond.arrayOf tRM .int) ∧ nwS[11]? = some (Cond.eq (Term.length tRM) (Term.int 7)) ∧ (∀ j, j < 7 → nwS[12 + j]? = some (Cond.eq (Term.elem tRM (Term.int (Int32.ofNat j))) (Term.int (hc_rm7 j)))) ∧ nwS[4]? = some (Cond.eq (Term.static "java/lang/String" "COMPACT_STRINGS" "Z") (Term.int 1)) ∧ nwS[5]? = some (Cond.isRef (Term.static "jdk/internal/util/Preconditions" "SIOOBE_FORMATTER" "Ljava/util/function/BiFunction;")) := by decide +kernel
set_option maxRecDepth 100000 in
theorem nwS7 : lw_tbl[270]? = some (Cond.laysStatic "java/lang/String" "COMPACT_STRINGS" "Z") ∧ lw_tbl[286]? = some (Cond.laysStatic "jdk/internal/util/Preconditions" "SIOOBE_FORMATTER" "Ljava/util/function/BiFunction;") ∧ lw_tbl[672]? = some (Cond.laysStatic "HailClub" "RULE_MOST" "[I") ∧ lw_tbl[101]? = some (Cond.initialized "java/lang/String") ∧ lw_tbl[103]? = some (Cond.initialized "jdk/internal/util/Preconditions") ∧ lw_tbl[95]? = some (Cond.initialized "HailClub") := by decide +kernel
set_option maxRecDepth 100000 in
theorem nwS8 : lw_tbl[145]? = some (Cond.arrayOver (.object "HailClub$Field")) ∧ lw_tbl[147]? = some (Cond.arrayOver (.object "HailClub$Storm")) ∧ lw_tbl[379]? = some (Cond.arrayOver (.object "HailClub$State")) ∧ lw_tbl[149]? = some (Cond.arrayOver (.array .long)) := by decide +kernel
set_option maxRecDepth 100000 in
theorem nwS9 : hc_N = [123, 232, 656, 671, 872, 938].filterMap (fun i => lw_tbl[i]?) ∧ hc_N.all Cond.onTables = true := by decide +kernel
theorem mS {i : Nat} {w : Cond} {A : Array Value} {s : State} (h : ∀ w ∈ lw_tbl, w.before A s = true) (e : lw_tbl[i]? = some w) : w.before A s = true := h w (List.mem_of_getElem? e)
/-- the classes -/
theorem clS {s : State} {A : Array Value} (hts : ∀ w ∈ lw_tbl, w.before A s = true) : ∃ D : va_G, ∀ (c : Nat) (q : vw_C), vwCl[c]? = some q → u_Kn s q.1 q.2.1 q.2.2 (D.1 c) (D.2 c) := by
  have hT : ∀ w ∈ hc_T, w.before A s = true := fun w h => hts w (hc_sub w h)
  have h0 : ∀ c : Nat, ∃ d : ClassId × (Nat → Nat), ∀ q, vwCl[c]? = some q → u_Kn s q.1 q.2.1 q.2.2 d.1 d.2 := by
    intro c
    match c with
    | 0 => obtain ⟨x, y, h⟩ := u_known (n := 7) hT inX0 (hT _ insX0); exact ⟨(x, y), fun q hq => by cases hq; exact h⟩
    | 1 => obtain ⟨x, y, h⟩ := u_known (n := 11) hT inX1 (hT _ insX1); exact ⟨(x, y), fun q hq => by cases hq; exact h⟩
    | 2 => obtain ⟨x, y, h⟩ := u_known (n := 6) hT inX2 (hT _ insX2); exact ⟨(x, y), fun q hq => by cases hq; exact h⟩
    | 3 => obtain ⟨x, y, h⟩ := u_known (n := 3) hT inX3 (hT _ insX3); exact ⟨(x, y), fun q hq => by cases hq; exact h⟩
    | 4 => obtain ⟨x, y, h⟩ := u_known (n := 3) hT inX4 (hT _ insX4); exact ⟨(x, y), fun q hq => by cases hq; exact h⟩
    | 5 => obtain ⟨x, y, h⟩ := u_known (n := 11) hT inX5 (hT _ insX5); exact ⟨(x, y), fun q hq => by cases hq; exact h⟩
    | 6 => obtain ⟨x, y, h⟩ := u_known (n := 15) hT inX6 (hT _ insX6); exact ⟨(x, y), fun q hq => by cases hq; exact h⟩
    | 7 => obtain ⟨x, y, h⟩ := u_known (n := 5) hT inX7 (hT _ insX7); exact ⟨(x, y), fun q hq => by cases hq; exact h⟩
    | 8 => obtain ⟨x, y, h⟩ := u_known (n := 2) hT inX8 (hT _ insX8); exact ⟨(x, y), fun q hq => by cases hq; exact h⟩
    | 9 => obtain ⟨x, y, h⟩ := u_known (n := 6) hT inX9 (hT _ insX9); exact ⟨(x, y), fun q hq => by cases hq; exact h⟩
    | 10 => obtain ⟨x, y, h⟩ := u_known (n := 9) hT inX10 (hT _ insX10); exact ⟨(x, y), fun q hq => by cases hq; exact h⟩
    | 11 => obtain ⟨x, y, h⟩ := u_known (n := 44) hT inX11 (hT _ insX11); exact ⟨(x, y), fun q hq => by cases hq; exact h⟩
    | c + 12 =>
      obtain ⟨x, y, h⟩ := u_known (n := 7) hT inX0 (hT _ insX0)
      refine ⟨(x, y), fun q hq => ?_⟩
      have h2 : c + 12 < 12 := (List.getElem?_eq_some_iff.mp hq).1
      omega
  obtain ⟨d, hd⟩ := Classical.axiomOfChoice h0
  exact ⟨(fun c => (d c).1, fun c => (d c).2), hd⟩
theorem arS {s : State} {c comp : ClassId} {k : Class} {ty : FieldType} (h2 : s.vm.classes[c]? = some k) (h3 : k.kind = .array comp ty) : ArrOfT s c ty := fun n z => ⟨(fun k h => by cases h), k, h2, comp, h3⟩
theorem arP {s : State} {A : Array Value} {ty : FieldType} (h : (Cond.arrayClass ty).before A s = true) : ∃ c, ArrOfT s c ty ∧ s.vm.findClass ("[" ++ ty.toString) = some c := by
  obtain ⟨c, k, comp, h1, h2, h3⟩ := Cond.arrayClass_spec h
  exact ⟨c, arS h2 h3, h1⟩
theorem arO {s : State} {A : Array Value} {C : String} (h : (Cond.arrayOver (.object C)).before A s = true) : ∃ c, ArrOfT s c (.object C) ∧ va_RA s c (.object C) := by
  obtain ⟨comp, c, k, h1, -, h3, h4, h5⟩ := Cond.arrayOver_spec h
  exact ⟨c, arS h3 h4, k, comp, h3, h4, h1, h5⟩
theorem arA {s : State} {A : Array Value} {t : FieldType} (h : (Cond.arrayOver (.array t)).before A s = true) : ∃ c, ArrOfT s c (.array t) ∧ va_RA s c (.array t) := by
  obtain ⟨comp, c, k, h1, h3, h4, h5⟩ := Cond.arrayOver_specA h
  exact ⟨c, arS h3 h4, h5⟩
/-- the classes of arrays -/
theorem tyS {s : State} {A : Array Value} (hts : ∀ w ∈ lw_tbl, w.before A s = true) : ∃ tc : Nat → ClassId, ∀ (k : Nat) (q : ClassId × FieldType), (hc_tys tc)[k]? = some q → ArrOfT s q.1 q.2 ∧ va_RA s q.1 q.2 := by
  have hT : ∀ w ∈ hc_T, w.before A s = true := fun w h => hts w (hc_sub w h)
  obtain ⟨c0, a0, b0⟩ := arP (hT _ hc_acz)
  obtain ⟨c1, a1, b1⟩ := arP (hT _ hc_acb)
  obtain ⟨c2, a2, b2⟩ := arP (hT _ hc_aci)
  obtain ⟨c3, a3, b3⟩ := arP (hT _ hc_acl)
  obtain ⟨n0, n1, n2, n3⟩ := nwS8
  obtain ⟨c4, a4, b4⟩ := arO (mS hts n0)
  obtain ⟨c5, a5, b5⟩ := arO (mS hts n1)
  obtain ⟨c6, a6, b6⟩ := arO (mS hts n2)
  obtain ⟨c7, a7, b7⟩ := arA (mS hts n3)
  refine ⟨fun k => match k with
    | 0 => c0
    | 1 => c1
    | 2 => c2
    | 3 => c3
    | 4 => c4
    | 5 => c5
    | 6 => c6
    | _ => c7, fun k q hq => ?_⟩
  match k, hq with
  | 0, hq => cases hq; exact ⟨a0, b0⟩
  | 1, hq => cases hq; exact ⟨a1, b1⟩
  | 2, hq => cases hq; exact ⟨a2, b2⟩
  | 3, hq => cases hq; exact ⟨a3, b3⟩
  | 4, hq => cases hq; exact ⟨a4, b4⟩
  | 5, hq => cases hq; exact ⟨a5, b5⟩
  | 6, hq => cases hq; exact ⟨a6, b6⟩
  | 7, hq => cases hq; exact ⟨a7, b7⟩
  | k + 8, hq =>
    have h2 : k + 8 < 8 := (List.getElem?_eq_some_iff.mp hq).1
    omega
theorem hcK_start {s : State} {b : Nat} (hts : ∀ w ∈ lw_tbl, w.before #[Value.ref b] s = true) (hg : (Jvm.Cond.and given_1 narrow_1).before #[Value.ref b] s = true) : ∃ E : hc_E, hc_K E s ∧ eB E = s.heap.size ∧ eS E 200 = b := by
  have hn : ∀ {i : Nat} {w : Cond}, nwS[i]? = some w → w.before #[Value.ref b] s = true := fun {i w} e => flat_of_before _ hg w (List.mem_of_getElem? e)
  have hA : ∀ a : Nat, a < s.heap.size → ¬ (fun q : Nat => s.heap.size ≤ q) a := fun a h => Nat.not_le.mpr h
  obtain ⟨D, hD⟩ := clS hts
  obtain ⟨tc, htc⟩ := tyS hts
  obtain ⟨adK, adV, hSt, hEv⟩ := vk_Sof (args := #[Value.ref b]) (s := s) (N := 19) (tm := tmS) (len := hc_len) (byt := hc_byt) (A := fun q : Nat => s.heap.size ≤ q) nwS4 (fun i hi => hn (nwS1 i hi).1) (fun i hi => hn (nwS1 i hi).2.1) (fun i hi => hn (nwS1 i hi).2.2.1) (fun i hi => hn (nwS1 i hi).2.2.2) (fun i hi j hj => hn (nwS2 i hi j hj)) (fun i j hi hj hij => by
    rcases Nat.lt_or_ge i j with h | h
    · exact Or.inl (hn (nwS3 j hj i h))
    · exact Or.inr (hn (nwS3 i hi j (by omega)))) hA
  obtain ⟨r1, r2, r3, r4, r5⟩ := nwS6
  obtain ⟨l1, l2, l3, l4, l5, l6⟩ := nwS7
  obtain ⟨tR, eR, hR⟩ := va_Tof (args := #[Value.ref b]) (s := s) (tm := tRM) (ty := .int) (N := 7) (f := fun j => .int (hc_rm7 j)) (A := fun q : Nat => s.heap.size ≤ q) (by decide) (hn r1) (va_eqt (hn r2)) (fun j hj => va_eqt (hn (r3 j hj))) hA
  have hZR := va_Zref (A := fun q : Nat => s.heap.size ≤ q) (mS hts l3) (mS hts l6) eR hA
  have hZC := va_Zof (A := fun q : Nat => s.heap.size ≤ q) (mS hts l1) (mS hts l4) (va_eqi (hn r4)) hA
  have hZq := va_Zqof (A := fun q : Nat => s.heap.size ≤ q) (mS hts l2) (mS hts l5) (hn r5) hA
  obtain ⟨f, hf⟩ : ∃ f : Nat, va_Z "jdk/internal/util/Preconditions" "SIOOBE_FORMATTER" "Ljava/util/function/BiFunction;" .null (fun q : Nat => s.heap.size ≤ q) s s.heap ∨ va_Z "jdk/internal/util/Preconditions" "SIOOBE_FORMATTER" "Ljava/util/function/BiFunction;" (.ref f) (fun q : Nat => s.heap.size ≤ q) s s.heap := by
    rcases hZq with h | ⟨t, h⟩
    · exact ⟨0, Or.inl h⟩
    · exact ⟨t, Or.inr h⟩
  have eK : ∀ i, i < 19 → (if i < 50 then adK i else if i < 100 then adV (i - 50) else if i = 100 then tR else if i = 101 then f else b) = adK i := fun i hi => if_pos (by omega)
  have eV : ∀ i, i < 19 → (if 50 + i < 50 then adK (50 + i) else if 50 + i < 100 then adV (50 + i - 50) else if 50 + i = 100 then tR else if 50 + i = 101 then f else b) = adV i := fun i hi => by
    rw [if_neg (by omega), if_pos (by omega), Nat.add_sub_cancel_left]
  refine ⟨(D, tc, s.heap.size, fun i => if i < 50 then adK i else if i < 100 then adV (i - 50) else if i = 100 then tR else if i = 101 then f else b), ⟨⟨hD, htc⟩, fun ty ht => ?_, fun w hw => ?_, fun i q hq => ?_, ⟨fun i hi => ?_, fun i j hi hj e => ?_⟩, hZC, hf, hZR, hR⟩, rfl, rfl⟩
  · obtain ⟨n0, n1, n2, n3⟩ := nwS8
    simp only [hc_aos, List.mem_cons, List.not_mem_nil, or_false] at ht
    rcases ht with rfl | rfl | rfl | rfl
    · have h := mS hts n0; exact h
    · have h := mS hts n1; exact h
    · have h := mS hts n2; exact h
    · have h := mS hts n3; exact h
  · obtain ⟨e1, e2⟩ := nwS9
    refine va_Nw.of (A := #[Value.ref b]) (List.all_eq_true.mp e2 w hw) (hts w ?_)
    rw [e1] at hw
    obtain ⟨i, -, hi⟩ := List.mem_filterMap.mp hw
    exact List.mem_of_getElem? hi
  · have hi : i < 19 := (List.getElem?_eq_some_iff.mp hq).1
    have eq : qsS i = q := by unfold qsS; rw [List.getD_eq_getElem?_getD, hq]; rfl
    have h1 := mS hts (nwS5 i hi)
    have h2 := hEv i hi
    unfold tmS at h2
    rw [eq] at h1 h2
    show vk_R q.1 q.2.1 q.2.2 (if i < 50 then adK i else if i < 100 then adV (i - 50) else if i = 100 then tR else if i = 101 then f else b) s
    rw [eK i hi]
    exact vk_R.of h1 h2
  · have h := hSt.1 i hi
    rw [← eK i hi, ← eV i hi] at h
    exact h
  · refine hSt.2 i j hi hj ?_
    rw [← eK i hi, ← eK j hj]
    exact e
