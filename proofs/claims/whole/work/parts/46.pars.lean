/-! THE GRAMMAR, as numbers: what both readers tell of a tape cut into tokens (kinds K, values V) -/
abbrev Rs : Type := (Nat × Nat) ⊕ (Nat × AS × LwP)
abbrev Ls : Type := (Nat × Nat) ⊕ (Nat × LwP)
def okS {α β : Type} (x : α ⊕ β) : Bool := match x with
  | .inl _ => false
  | .inr _ => true
theorem okS_t {α β : Type} {x : α ⊕ β} (h : okS x = true) : ∃ y, x = .inr y := by
  cases x with
  | inl e => cases h
  | inr y => exact ⟨y, rfl⟩
theorem okS_f {α β : Type} {x : α ⊕ β} (h : okS x = false) : ∃ y, x = .inl y := by
  cases x with
  | inl e => exact ⟨e, rfl⟩
  | inr y => cases h
def pNum (K V : Nat → Nat) (i lo hi : Nat) : Nat := if K i = 2001 then (if lo ≤ V i ∧ V i ≤ hi then 0 else 4) else 1
def pNums (K V : Nat → Nat) : List (Nat × Nat) → Nat → Option (Nat × Nat)
  | [], _ => none
  | q :: qs, i => if pNum K V i q.1 q.2 = 0 then pNums K V qs (i + 1) else some (pNum K V i q.1 q.2, i)
def pDo (K V : Nat → Nat) (qs : List (Nat × Nat)) (i : Nat) (A : AS) (P : LwP) : Rs := match pNums K V qs i with
  | some e => .inl e
  | none => .inr (i + qs.length, A, P)
def fdRow (V : Nat → Nat) (o i : Nat) : Nat → Nat
  | 0 => o
  | a + 1 => V (i + a)
def pLand (K V : Nat → Nat) (o i : Nat) (A : AS) (P : LwP) : Rs := pDo K V [(0, 7), (0, 7), (0, 3), (1, 99), (1, 999)] i (aAddF A (fdRow V o i)) P
def pName (K V : Nat → Nat) (i : Nat) (A : AS) (P : LwP) : Rs :=
  if K i = 2000 then (if abNamed A (lN (V i)) = -1 then (if aM A < 12 then .inr (i + 1, aAddM A (lN (V i)), P) else .inl (5, i)) else .inl (2, i)) else .inl (1, i)
/-! the law "pay" -/
def pl0 (P : LwP) (pl : Nat) : LwP := if pl = 0 then P else lpPush P pl 0
def smK (K : Nat → Nat) (part : Nat → LwP → Ls) : Nat → Nat → LwP → Nat → Option Ls
  | 0, _, _, _ => none
  | f + 1, i, P, pl =>
    if K i = 42 ∨ K i = 47 then (match part (i + 1) P with
      | .inl e => some (.inl e)
      | .inr q => smK K part f q.1 (lpPush q.2 (K i) 0) pl)
    else if K i = 43 ∨ K i = 45 then (match part (i + 1) (pl0 P pl) with
      | .inl e => some (.inl e)
      | .inr q => smK K part f q.1 q.2 (K i))
    else some (.inr (i, pl0 P pl))
def smW (K : Nat → Nat) (part : Nat → LwP → Ls) (i : Nat) (P : LwP) : Ls := match part i P with
  | .inl e => .inl e
  | .inr q => (smK K part 701 q.1 q.2 0).getD (.inl (1, q.1))
/-- k sums are still to come -/
def brK (K : Nat → Nat) (sum : Nat → LwP → Ls) : Nat → Nat → LwP → Ls
  | 0, i, P => .inr (i, P)
  | k + 1, i, P => match sum i P with
    | .inl e => .inl e
    | .inr q => if K q.1 = (if k = 0 then 41 else 44) then brK K sum k (q.1 + 1) q.2 else .inl (1, q.1)
def ptG (K V : Nat → Nat) (br : Nat → Nat → LwP → Ls) (i : Nat) (P : LwP) : Ls :=
  if K i = 2001 then .inr (i + 1, lpPush P 0 (V i))
  else if K i = 1011 then .inr (i + 1, lpPush P 1 0)
  else if K i = 1002 then .inr (i + 1, lpPush P 1 1)
  else if K i = 1012 then .inr (i + 1, lpPush P 1 2)
  else if K i = 1003 then .inr (i + 1, lpPush P 1 3)
  else if K i = 1013 ∨ K i = 1014 ∨ K i = 1015 then (match br (if K i = 1015 then 3 else 2) (i + 1) P with
    | .inl e => .inl e
    | .inr q => .inr (q.1, lpPush q.2 (K i - 1011) 0))
  else br 1 i P
def brB (K : Nat → Nat) (d : Nat) (sum : Nat → LwP → Ls) (k i : Nat) (P : LwP) : Ls := if K i = 40 then (if d = 0 then .inl (5, i) else brK K sum k (i + 1) P) else .inl (1, i)
def ptD (K V : Nat → Nat) : Nat → Nat → LwP → Ls
  | 0 => ptG K V (brB K 0 (fun i _ => .inl (5, i)))
  | d + 1 => ptG K V (brB K (d + 1) (smW K (ptD K V d)))
def pPay (K V : Nat → Nat) (i : Nat) (A : AS) (P : LwP) : Rs := if 0 < P.1 then .inl (5, i) else match smW K (ptD K V 8) (i + 1) P with
  | .inl e => .inl e
  | .inr q => .inr (q.1, A, q.2)
/-! a LINE, a BOOK, who JOINS -/
def pRul (k : Nat) : Nat := if k = 1004 then 0 else if k = 1005 then 1 else if k = 1006 then 2 else if k = 1008 then 5 else 6
def rmN (j : Nat) : Nat := match j with
  | 0 => 999
  | 1 => 99999999
  | 2 => 9999999
  | 3 => 9999999
  | 4 => 100
  | 5 => 99
  | _ => 100
def pRule (K V : Nat → Nat) (j i : Nat) (A : AS) (P : LwP) : Rs := pDo K V [(0, rmN j)] (i + 1) (aSRu A j (lN (V (i + 1)))) P
def pField (K V : Nat → Nat) (i : Nat) (A : AS) (P : LwP) : Rs :=
  if aF A < 24 then (if K (i + 1) = 2000 then (if abNamed A (lN (V (i + 1))) = -1 then .inl (3, i + 1) else pLand K V (abNamed A (lN (V (i + 1)))).toNatClampNeg (i + 1 + 1) A P) else .inl (1, i + 1)) else .inl (5, i)
def pMember (K V : Nat → Nat) (i : Nat) (A : AS) (P : LwP) : Rs := if aM A < 12 then pName K V (i + 1) A P else .inl (5, i)
def pHazard (K V : Nat → Nat) (i : Nat) (A : AS) (P : LwP) : Rs := pDo K V [(0, 7), (0, 7), (V (i + 1), 7), (V (i + 1 + 1), 7), (1, 9)] (i + 1) (aSHz A (V (i + 1)) (V (i + 1 + 1)) (V (i + 1 + 1 + 1)) (V (i + 1 + 1 + 1 + 1)) (V (i + 1 + 1 + 1 + 1 + 1))) P
def pCrop (K V : Nat → Nat) (i : Nat) (A : AS) (P : LwP) : Rs := pDo K V [(0, 3), (0, 200)] (i + 1) (aSSo A (V (i + 1)) (V (i + 1 + 1))) P
def pCover (K V : Nat → Nat) (i : Nat) (A : AS) (P : LwP) : Rs := pDo K V [(0, 9999999), (0, 100)] (i + 1) (aSRu (aSRu A 3 (lN (V (i + 1)))) 4 (lN (V (i + 1 + 1)))) P
def pLine (K V : Nat → Nat) (i : Nat) (A : AS) (P : LwP) : Rs :=
  if K i = 1000 then pMember K V i A P
  else if K i = 1001 then pField K V i A P
  else if K i = 1002 then pHazard K V i A P
  else if K i = 1003 then pCrop K V i A P
  else if K i = 1007 then pCover K V i A P
  else if K i = 1010 then pPay K V i A P
  else if K i = 1004 ∨ K i = 1005 ∨ K i = 1006 ∨ K i = 1008 ∨ K i = 1009 then pRule K V (pRul (K i)) i A P
  else .inl (1, i)
def pBk (K V : Nat → Nat) : Nat → Nat → AS → LwP → Option Rs
  | 0, _, _, _ => none
  | f + 1, i, A, P => if K i = 2003 then some (.inr (i, A, P)) else match pLine K V i A P with
    | .inl e => some (.inl e)
    | .inr q => if K q.1 = 59 then pBk K V f (q.1 + 1) q.2.1 q.2.2 else some (.inl (1, q.1))
def pFull (K V : Nat → Nat) (i : Nat) : Nat := if K i = 2001 then (if 8 ≤ V i then 4 else 5) else 1
def pJl (K V : Nat → Nat) : Nat → Nat → AS → LwP → Option Rs
  | 0, _, _, _ => none
  | f + 1, i, A, P => if K i = 2003 then some (.inr (i, A, P)) else if aF A < 24 then (match pLand K V (aM A - 1) i A P with
    | .inl e => some (.inl e)
    | .inr q => pJl K V f q.1 q.2.1 q.2.2) else some (.inl (pFull K V i, i))
def pJn (K V : Nat → Nat) (A : AS) (P : LwP) : Option Rs := match pName K V 0 A P with
  | .inl e => some (.inl e)
  | .inr q => pJl K V 25 q.1 q.2.1 q.2.2
/-! how far they come -/
theorem pDo_r {K V : Nat → Nat} {qs : List (Nat × Nat)} {i : Nat} {A : AS} {P : LwP} {q : Nat × AS × LwP} (h : pDo K V qs i A P = .inr q) : q = (i + qs.length, A, P) := by
  unfold pDo at h
  split at h
  · cases h
  · cases h; rfl
def Adv (part : Nat → LwP → Ls) : Prop := ∀ i P q, part i P = .inr q → i < q.1
theorem smK_adv {K : Nat → Nat} {part : Nat → LwP → Ls} (hp : Adv part) : ∀ f i P pl q, smK K part f i P pl = some (.inr q) → i ≤ q.1
  | 0, _, _, _, _, h => by cases h
  | f + 1, i, P, pl, q, h => by
    unfold smK at h
    split at h
    · split at h
      · cases h
      · rename_i q' e
        have := hp _ _ _ e
        have := smK_adv hp f _ _ _ _ h
        omega
    · split at h
      · split at h
        · cases h
        · rename_i q' e
          have := hp _ _ _ e
          have := smK_adv hp f _ _ _ _ h
          omega
      · cases h; exact Nat.le_refl _
theorem smW_adv {K : Nat → Nat} {part : Nat → LwP → Ls} (hp : Adv part) : Adv (smW K part) := by
  intro i P q h
  unfold smW at h
  split at h
  · cases h
  · rename_i q' e
    have := hp _ _ _ e
    cases hs : smK K part 701 q'.1 q'.2 0 with
    | none => rw [hs] at h; cases h
    | some r =>
      rw [hs] at h
      cases h
      have := smK_adv hp _ _ _ _ _ hs
      omega
theorem brK_adv {K : Nat → Nat} {sum : Nat → LwP → Ls} (hs : Adv sum) : ∀ k i P q, brK K sum k i P = .inr q → i ≤ q.1
  | 0, i, P, q, h => by cases h; exact Nat.le_refl _
  | k + 1, i, P, q, h => by
    unfold brK at h
    split at h
    · cases h
    · rename_i q' e
      by_cases c : K q'.1 = (if k = 0 then 41 else 44)
      · rw [if_pos c] at h
        have := hs _ _ _ e
        have := brK_adv hs k _ _ _ h
        omega
      · rw [if_neg c] at h; cases h
theorem brB_adv {K : Nat → Nat} {d : Nat} {sum : Nat → LwP → Ls} (hs : d = 0 ∨ Adv sum) {k i : Nat} {P : LwP} {q : Nat × LwP} (h : brB K d sum k i P = .inr q) : i < q.1 := by
  unfold brB at h
  split at h
  · split at h
    · cases h
    · rcases hs with hs | hs
      · contradiction
      · have := brK_adv hs _ _ _ _ h
        omega
  · cases h
theorem ptG_adv {K V : Nat → Nat} {br : Nat → Nat → LwP → Ls} (hb : ∀ k i P q, br k i P = .inr q → i < q.1) : Adv (ptG K V br) := by
  intro i P q h
  unfold ptG at h
  split at h
  · cases h; exact Nat.lt_succ_self _
  · split at h
    · cases h; exact Nat.lt_succ_self _
    · split at h
      · cases h; exact Nat.lt_succ_self _
      · split at h
        · cases h; exact Nat.lt_succ_self _
        · split at h
          · cases h; exact Nat.lt_succ_self _
          · split at h
            · split at h
              · cases h
              · rename_i q' e
                cases h
                have := hb _ _ _ _ e
                exact Nat.lt_of_succ_lt this
            · exact hb _ _ _ _ h
theorem ptD_adv (K V : Nat → Nat) : ∀ d, Adv (ptD K V d)
  | 0 => ptG_adv (fun _ _ _ _ h => brB_adv (Or.inl rfl) h)
  | d + 1 => ptG_adv (fun _ _ _ _ h => brB_adv (Or.inr (smW_adv (ptD_adv K V d))) h)
theorem smK_some {K : Nat → Nat} {part : Nat → LwP → Ls} (hp : Adv part) {n : Nat} (hn : ∀ j, n ≤ j → K j = 2003) : ∀ f i P pl, n ≤ i + f → ∃ r, smK K part (f + 1) i P pl = some r
  | f, i, P, pl, h => by
    unfold smK
    split
    · rename_i c
      split
      · exact ⟨_, rfl⟩
      · rename_i q e
        have := hp _ _ _ e
        have : ¬ n ≤ i := fun z => by rw [hn i z] at c; omega
        cases f with
        | zero => omega
        | succ f => exact smK_some hp hn f _ _ _ (by omega)
    · split
      · rename_i c
        split
        · exact ⟨_, rfl⟩
        · rename_i q e
          have := hp _ _ _ e
          have : ¬ n ≤ i := fun z => by rw [hn i z] at c; omega
          cases f with
          | zero => omega
          | succ f => exact smK_some hp hn f _ _ _ (by omega)
      · exact ⟨_, rfl⟩
theorem pPay_adv {K V : Nat → Nat} {i : Nat} {A : AS} {P : LwP} {q : Nat × AS × LwP} (h : pPay K V i A P = .inr q) : i < q.1 := by
  unfold pPay at h
  split at h
  · cases h
  · split at h
    · cases h
    · rename_i q' e
      cases h
      exact Nat.lt_of_succ_lt (smW_adv (ptD_adv K V 8) _ _ _ e)
theorem pLand_adv {K V : Nat → Nat} {o i : Nat} {A : AS} {P : LwP} {q : Nat × AS × LwP} (h : pLand K V o i A P = .inr q) : i < q.1 := by
  rw [pDo_r h]
  exact Nat.lt_add_of_pos_right (by show 0 < 5; decide)
theorem pLine_adv {K V : Nat → Nat} {i : Nat} {A : AS} {P : LwP} {q : Nat × AS × LwP} (h : pLine K V i A P = .inr q) : i < q.1 := by
  unfold pLine at h
  split at h
  · unfold pMember pName at h
    repeat (split at h)
    all_goals first | cases h | skip
    exact Nat.lt_of_succ_lt (Nat.lt_succ_self (i + 1))
  · split at h
    · unfold pField at h
      repeat (split at h)
      all_goals first | cases h | skip
      exact Nat.lt_of_succ_lt (Nat.lt_of_succ_lt (pLand_adv h))
    · split at h
      · rw [pDo_r h]; show i < i + 1 + 5; omega
      · split at h
        · rw [pDo_r h]; show i < i + 1 + 2; omega
        · split at h
          · rw [pDo_r h]; show i < i + 1 + 2; omega
          · split at h
            · exact pPay_adv h
            · split at h
              · rw [pDo_r h]; show i < i + 1 + 1; omega
              · cases h
theorem pBk_some {K V : Nat → Nat} {n : Nat} (hn : ∀ j, n ≤ j → K j = 2003) : ∀ f i A P, n ≤ i + f → ∃ r, pBk K V (f + 1) i A P = some r
  | f, i, A, P, h => by
    unfold pBk
    split
    · exact ⟨_, rfl⟩
    · rename_i c
      split
      · exact ⟨_, rfl⟩
      · rename_i q e
        have := pLine_adv e
        have : ¬ n ≤ i := fun z => c (hn i z)
        split
        · cases f with
          | zero => omega
          | succ f => exact pBk_some hn f _ _ _ (by omega)
        · exact ⟨_, rfl⟩
theorem pJl_some {K V : Nat → Nat} : ∀ f i A P, 24 ≤ aF A + f → ∃ r, pJl K V (f + 1) i A P = some r
  | f, i, A, P, h => by
    unfold pJl
    split
    · exact ⟨_, rfl⟩
    · split
      · rename_i c
        split
        · exact ⟨_, rfl⟩
        · rename_i q e
          have e2 := pDo_r e
          cases f with
          | zero => omega
          | succ f =>
            refine pJl_some f _ _ _ ?_
            rw [e2]
            show 24 ≤ aF A + 1 + f
            omega
      · exact ⟨_, rfl⟩
theorem kd_far {B : Nat → Nat} {n : Nat} (hB : ∀ j, j < n → B j < 256) {j : Nat} (h : n ≤ j) : kd B n j = 2003 := by
  rw [kd_end hB]
  rcases Nat.lt_or_ge (tp B n j) n with z | z
  · have := tp_ge B n j z
    omega
  · exact Nat.le_antisymm (tp_le B n j) z
/-! the law read keeps to its bounds -/
def okP (P : LwP) (h : Nat) : Prop := (∀ i, i < P.1 → lpK (P.2.1 i) = true ∧ lpAr (P.2.1 i) ≤ lpT P i ∧ lpT P i - lpAr (P.2.1 i) + 2 < 40 ∧ P.2.2 i < 100000000 ∧ (P.2.1 i = 1 → P.2.2 i < 4)) ∧ lpT P P.1 = h
theorem lpT_push {P : LwP} {k v : Nat} : ∀ i, i ≤ P.1 → lpT (lpPush P k v) i = lpT P i
  | 0, _ => rfl
  | i + 1, h => by
    show lpT (lpPush P k v) i - lpAr (lpUp P.2.1 P.1 k i) + 1 = lpT P i - lpAr (P.2.1 i) + 1
    rw [lpT_push i (by omega)]
    unfold lpUp
    rw [if_neg (by omega)]
theorem okP.push {P : LwP} {h k v : Nat} (hP : okP P h) (hk : lpK k = true) (ha : lpAr k ≤ h) (hh : h - lpAr k + 2 < 40) (hv : v < 100000000) (hq : k = 1 → v < 4) : okP (lpPush P k v) (h - lpAr k + 1) := by
  have e : lpUp P.2.1 P.1 k P.1 = k := if_pos rfl
  have e2 : lpUp P.2.2 P.1 v P.1 = v := if_pos rfl
  refine ⟨fun i hi => ?_, ?_⟩
  · have hi' : i < P.1 + 1 := hi
    rw [lpT_push i (by omega)]
    show lpK (lpUp P.2.1 P.1 k i) = true ∧ lpAr (lpUp P.2.1 P.1 k i) ≤ lpT P i ∧ lpT P i - lpAr (lpUp P.2.1 P.1 k i) + 2 < 40 ∧ lpUp P.2.2 P.1 v i < 100000000 ∧ (lpUp P.2.1 P.1 k i = 1 → lpUp P.2.2 P.1 v i < 4)
    by_cases c : i = P.1
    · rw [c, e, e2, hP.2]
      exact ⟨hk, ha, hh, hv, hq⟩
    · have f1 : lpUp P.2.1 P.1 k i = P.2.1 i := if_neg c
      have f2 : lpUp P.2.2 P.1 v i = P.2.2 i := if_neg c
      rw [f1, f2]
      exact hP.1 i (by omega)
  · show lpT (lpPush P k v) P.1 - lpAr (lpUp P.2.1 P.1 k P.1) + 1 = _
    rw [lpT_push _ (Nat.le_refl _), e, hP.2]
def PtOk (part : Nat → LwP → Ls) (H : Nat) : Prop := ∀ h, h ≤ H → ∀ i P q, okP P h → part i P = .inr q → okP q.2 (h + 1) ∧ P.1 < q.2.1 ∧ q.2.1 + i ≤ P.1 + q.1
theorem smK_ok {K : Nat → Nat} {part : Nat → LwP → Ls} {H h : Nat} (hp : PtOk part H) (hH : h + 2 ≤ H) (h40 : H ≤ 36) : ∀ f i P pl q, okP P (h + 1 + (if pl = 0 then 0 else 1)) → (pl = 0 ∨ pl = 43 ∨ pl = 45) → smK K part f i P pl = some (.inr q) → okP q.2 (h + 1) ∧ P.1 ≤ q.2.1 ∧ q.2.1 + i ≤ P.1 + q.1 + (if pl = 0 then 0 else 1)
  | 0, _, _, _, _, _, _, h => by cases h
  | f + 1, i, P, pl, q, hP, hpl, hq => by
    have hpl0 : okP (pl0 P pl) (h + 1) ∧ (pl0 P pl).1 = P.1 + (if pl = 0 then 0 else 1) := by
      unfold pl0
      by_cases c : pl = 0
      · rw [if_pos c, if_pos c]
        rw [if_pos c] at hP
        exact ⟨hP, rfl⟩
      · rw [if_neg c, if_neg c]
        rw [if_neg c] at hP
        have := hP.push (k := pl) (v := 0) (by rcases hpl with rfl | rfl | rfl <;> first | contradiction | rfl) (by rcases hpl with rfl | rfl | rfl <;> first | contradiction | (show 2 ≤ _; omega)) (by rcases hpl with rfl | rfl | rfl <;> first | contradiction | (show h + 1 + 1 - 2 + 2 < 40; omega)) (by decide) (by omega)
        rw [show h + 1 + 1 - lpAr pl + 1 = h + 1 by rcases hpl with rfl | rfl | rfl <;> first | contradiction | rfl] at this
        exact ⟨this, rfl⟩
    unfold smK at hq
    split at hq
    · rename_i c
      split at hq
      · cases hq
      · rename_i q' e
        obtain ⟨a1, a2, a3⟩ := hp _ (by split <;> omega) _ _ _ hP e
        have a4 := a1.push (k := K i) (v := 0) (by rcases c with c | c <;> rw [c] <;> rfl) (by rcases c with c | c <;> rw [c] <;> (show 2 ≤ _; omega)) (by rcases c with c | c <;> rw [c] <;> (show _ - 2 + 2 < 40; split <;> omega)) (by decide) (by omega)
        rw [show h + 1 + (if pl = 0 then 0 else 1) + 1 - lpAr (K i) + 1 = h + 1 + (if pl = 0 then 0 else 1) by rcases c with c | c <;> rw [c] <;> (show _ - 2 + 1 = _; omega)] at a4
        obtain ⟨b1, b2, b3⟩ := smK_ok hp hH h40 f _ _ _ _ a4 hpl hq
        have b2' : q'.2.1 + 1 ≤ q.2.1 := b2
        have b3' : q.2.1 + q'.1 ≤ q'.2.1 + 1 + q.1 + (if pl = 0 then 0 else 1) := b3
        exact ⟨b1, by omega, by omega⟩
    · split at hq
      · rename_i c
        split at hq
        · cases hq
        · rename_i q' e
          obtain ⟨a1, a2, a3⟩ := hp _ (by omega) _ _ _ hpl0.1 e
          have hne : K i ≠ 0 := by omega
          obtain ⟨b1, b2, b3⟩ := smK_ok hp hH h40 f _ _ (K i) _ (by rw [if_neg hne]; exact a1) (Or.inr c) hq
          rw [if_neg hne] at b3
          have := hpl0.2
          exact ⟨b1, by omega, by omega⟩
      · cases hq
        have := hpl0.2
        exact ⟨hpl0.1, by show P.1 ≤ (pl0 P pl).1; omega, by show (pl0 P pl).1 + i ≤ P.1 + i + _; omega⟩
theorem smW_ok {K : Nat → Nat} {part : Nat → LwP → Ls} {H : Nat} (hp : PtOk part (H + 2)) (h40 : H + 2 ≤ 36) : PtOk (smW K part) H := by
  intro h hh i P q hP hq
  unfold smW at hq
  split at hq
  · cases hq
  · rename_i q' e
    obtain ⟨a1, a2, a3⟩ := hp h (by omega) _ _ _ hP e
    cases hs : smK K part 701 q'.1 q'.2 0 with
    | none => rw [hs] at hq; cases hq
    | some r =>
      rw [hs] at hq
      cases hq
      obtain ⟨b1, b2, b3⟩ := smK_ok (h := h) hp (by omega) h40 _ _ _ _ _ a1 (Or.inl rfl) hs
      rw [if_pos rfl] at b3
      exact ⟨b1, by omega, by omega⟩
theorem brK_ok {K : Nat → Nat} {sum : Nat → LwP → Ls} {H : Nat} (hs : PtOk sum H) : ∀ k h i P q, h + k ≤ H + 1 → okP P h → brK K sum k i P = .inr q → okP q.2 (h + k) ∧ P.1 ≤ q.2.1 ∧ (0 < k → P.1 < q.2.1) ∧ q.2.1 + i ≤ P.1 + q.1
  | 0, h, i, P, q, _, hP, hq => by cases hq; exact ⟨hP, Nat.le_refl _, fun z => absurd z (by decide), Nat.le_refl _⟩
  | k + 1, h, i, P, q, hH, hP, hq => by
    unfold brK at hq
    split at hq
    · cases hq
    · rename_i q' e
      by_cases c : K q'.1 = (if k = 0 then 41 else 44)
      · rw [if_pos c] at hq
        obtain ⟨a1, a2, a3⟩ := hs h (by omega) _ _ _ hP e
        obtain ⟨b1, b2, b3, b4⟩ := brK_ok hs k (h + 1) _ _ _ (by omega) a1 hq
        exact ⟨by rw [show h + (k + 1) = h + 1 + k by omega]; exact b1, by omega, fun _ => by omega, by omega⟩
      · rw [if_neg c] at hq; cases hq
theorem ptG_ok {K V : Nat → Nat} (hV : ∀ j, K j = 2001 → V j < 100000000) {br : Nat → Nat → LwP → Ls} {H : Nat} (h40 : H ≤ 36) (hb : ∀ h, h ≤ H → ∀ k i P q, 1 ≤ k → k ≤ 3 → okP P h → br k i P = .inr q → okP q.2 (h + k) ∧ P.1 < q.2.1 ∧ q.2.1 + i + 1 ≤ P.1 + q.1) : PtOk (ptG K V br) H := by
  intro h hh i P q hP hq
  have leaf : ∀ k v, (k = 0 ∨ k = 1) → v < 100000000 → (k = 1 → v < 4) → okP (lpPush P k v) (h + 1) ∧ P.1 < (lpPush P k v).1 ∧ (lpPush P k v).1 + i ≤ P.1 + (i + 1) := by
    intro k v hk hv hq
    have := hP.push (k := k) (v := v) (by rcases hk with rfl | rfl <;> rfl) (by rcases hk with rfl | rfl <;> exact Nat.zero_le _) (by rcases hk with rfl | rfl <;> (show h - 0 + 2 < 40; omega)) hv hq
    rw [show h - lpAr k + 1 = h + 1 by rcases hk with rfl | rfl <;> rfl] at this
    exact ⟨this, Nat.lt_succ_self _, by show P.1 + 1 + i ≤ _; omega⟩
  unfold ptG at hq
  split at hq
  · rename_i c
    cases hq
    exact leaf 0 _ (Or.inl rfl) (hV i c) (by omega)
  · split at hq
    · cases hq; exact leaf 1 0 (Or.inr rfl) (by decide) (by omega)
    · split at hq
      · cases hq; exact leaf 1 1 (Or.inr rfl) (by decide) (by omega)
      · split at hq
        · cases hq; exact leaf 1 2 (Or.inr rfl) (by decide) (by omega)
        · split at hq
          · cases hq; exact leaf 1 3 (Or.inr rfl) (by decide) (by omega)
          · split at hq
            · rename_i c
              split at hq
              · cases hq
              · rename_i q' e
                cases hq
                obtain ⟨a1, a2, a3⟩ := hb h hh _ _ _ _ (by split <;> decide) (by split <;> decide) hP e
                have a4 := a1.push (k := K i - 1011) (v := 0) (by rcases c with c | c | c <;> rw [c] <;> rfl) (by rcases c with c | c | c <;> rw [c] <;> first | (show 2 ≤ h + 2; omega) | (show 3 ≤ h + 3; omega)) (by rcases c with c | c | c <;> rw [c] <;> first | (show h + 2 - 2 + 2 < 40; omega) | (show h + 3 - 3 + 2 < 40; omega)) (by decide) (by omega)
                refine ⟨?_, by show P.1 < q'.2.1 + 1; omega, by show q'.2.1 + 1 + i ≤ _; omega⟩
                rcases c with c | c | c
                all_goals
                  rw [c] at a4 ⊢
                  exact a4
            · obtain ⟨a1, a2, a3⟩ := hb h hh _ _ _ _ (by decide) (by decide) hP hq
              exact ⟨a1, a2, by omega⟩
theorem ptD_ok {K V : Nat → Nat} (hV : ∀ j, K j = 2001 → V j < 100000000) : ∀ d, d ≤ 8 → PtOk (ptD K V d) (36 - 4 * d)
  | 0, _ => ptG_ok hV (by omega) (fun h hh k i P q _ _ hP hq => by
    unfold brB at hq
    split at hq <;> cases hq)
  | d + 1, hd => ptG_ok hV (by omega) (fun h hh k i P q h1 h3 hP hq => by
    unfold brB at hq
    split at hq
    · rw [if_neg (by omega)] at hq
      have ih := ptD_ok hV d (by omega)
      obtain ⟨a1, a2, a3, a4⟩ := brK_ok (smW_ok (H := 36 - 4 * d - 2) (by rw [show 36 - 4 * d - 2 + 2 = 36 - 4 * d by omega]; exact ih) (by omega)) k h _ _ _ (by omega) hP hq
      exact ⟨a1, a3 h1, by omega⟩
    · cases hq)
theorem pay_ok {K V : Nat → Nat} (hV : ∀ j, K j = 2001 → V j < 100000000) {i : Nat} {P : LwP} {q : Nat × LwP} (h0 : P.1 = 0) (h : smW K (ptD K V 8) i P = .inr q) : okP q.2 1 ∧ 0 < q.2.1 ∧ q.2.1 + i ≤ q.1 := by
  have e := ptD_ok hV 8 (by decide)
  have := (smW_ok (K := K) (H := 2) e (by decide)) 0 (by decide) i P q ⟨fun j hj => by omega, by rw [h0]; rfl⟩ h
  exact ⟨this.1, by omega, by omega⟩
