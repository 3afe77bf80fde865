/-! THE LAYER. A method's world is said in logical ids: the cell of id k lies at base + k. Its shape (class or kind of array and length, references that stay) is Λ;
what may change is I (int slots), L (long slots), R (slots of the arrays of fields and storms). LW cx ac pc ls st Λ I L R Q: from there the method cx comes to an end that Q says. -/
abbrev hc_L : Type := Nat × (Nat → Nat × Nat) × (Nat → Nat → Option Nat)
abbrev hc_I : Type := Nat → Nat → Int32
abbrev hc_J : Type := Nat → Nat → Int64
abbrev hc_R : Type := Nat → Nat → Option Nat
abbrev hc_X : Type := MethodName × ByteArray × Nat × Option FieldType × Nat × Nat × Nat
abbrev hc_E : Type := va_G × (Nat → ClassId) × Nat × (Nat → Nat)
abbrev hc_Q : Type := Option Value → hc_L → hc_I → hc_J → hc_R → Prop
abbrev xY (cx : hc_X) : MethodName := cx.1
abbrev xC (cx : hc_X) : ByteArray := cx.2.1
abbrev xN (cx : hc_X) : Nat := cx.2.2.1
abbrev xT (cx : hc_X) : Option FieldType := cx.2.2.2.1
abbrev xD (cx : hc_X) : Nat := cx.2.2.2.2.1
abbrev xM (cx : hc_X) : Nat := cx.2.2.2.2.2.1
abbrev xS (cx : hc_X) : Nat := cx.2.2.2.2.2.2
abbrev eD (E : hc_E) : va_G := E.1
abbrev eT (E : hc_E) : Nat → ClassId := E.2.1
abbrev eB (E : hc_E) : Nat := E.2.2.1
abbrev eS (E : hc_E) : Nat → Nat := E.2.2.2
abbrev eA (E : hc_E) : Nat → Prop := fun q => E.2.2.1 ≤ q
def hc_ad (E : hc_E) (k : Nat) : Nat := if k < 1000000 then eB E + k else eS E (k - 1000000)
def hc_v (E : hc_E) : Value → Value
  | .ref k => .ref (hc_ad E k)
  | v => v
theorem hc_cat (E : hc_E) (v : Value) : (hc_v E v).category = v.category := by cases v <;> rfl
def hc_ls (E : hc_E) (ls : List (Nat × Value)) : List (Nat × Value) := ls.map (fun q => (q.1, hc_v E q.2))
def hc_st (E : hc_E) (st : List Value) : List Value := st.map (hc_v E)
def hc_ty (ci j : Nat) : FieldType := match ci with
  | 0 => tyX0 j
  | 1 => tyX1 j
  | 2 => tyX2 j
  | 3 => tyX3 j
  | 4 => tyX4 j
  | 5 => tyX5 j
  | 6 => tyX6 j
  | 7 => tyX7 j
  | 8 => tyX8 j
  | 9 => tyX9 j
  | 10 => tyX10 j
  | _ => tyX11 j
def hc_fv (E : hc_E) (ty : FieldType) (i : Int32) (l : Int64) (f : Option Nat) : Value := match ty with
  | .long => .long l
  | .object _ => va_rf (f.map (hc_ad E))
  | .array _ => va_rf (f.map (hc_ad E))
  | _ => .int i
def hc_av (E : hc_E) (t : Nat) (i : Int32) (l : Int64) (r f : Option Nat) : Value := match t with
  | 0 => .int i
  | 1 => .int i
  | 2 => .int i
  | 3 => .long l
  | 4 => va_rf (r.map (hc_ad E))
  | 5 => va_rf (r.map (hc_ad E))
  | _ => va_rf (f.map (hc_ad E))
def hc_c (E : hc_E) (Λ : hc_L) (I : hc_I) (L : hc_J) (R : hc_R) (k : Nat) (H : Heap) : Prop :=
  if (Λ.2.1 k).1 < 100 then H[eB E + k]? = some (arrV (eT E (Λ.2.1 k).1) (Λ.2.1 k).2 (fun j => hc_av E (Λ.2.1 k).1 (I k j) (L k j) (R k j) (Λ.2.2 k j)))
  else ∃ r : vw_C, vwCl[(Λ.2.1 k).1 - 100]? = some r ∧ t_OB (eB E + k) ((eD E).1 ((Λ.2.1 k).1 - 100)) r.2.2 ((eD E).2 ((Λ.2.1 k).1 - 100)) H (fun j => hc_fv E (hc_ty ((Λ.2.1 k).1 - 100) j) (I k j) (L k j) (Λ.2.2 k j))
def hc_W (E : hc_E) (Λ : hc_L) (I : hc_I) (L : hc_J) (R : hc_R) (H : Heap) : Prop := H.size = eB E + Λ.1 ∧ Λ.1 ≤ 1000000 ∧ ∀ k, k < Λ.1 → hc_c E Λ I L R k H
def hc_tys (tc : Nat → ClassId) : List (ClassId × FieldType) := [(tc 0, .boolean), (tc 1, .byte), (tc 2, .int), (tc 3, .long), (tc 4, .object "HailClub$Field"), (tc 5, .object "HailClub$Storm"), (tc 6, .object "HailClub$State"), (tc 7, .array .long)]
/-- words of nest mates -/
def hc_N : List Cond := [.methodLinkNest "HailClub" 11 ⟨"HailClub$Tape", "<init>", "()V"⟩ "HailClub", .methodLinkNest "HailClub" 28 ⟨"HailClub$Law", "<init>", "()V"⟩ "HailClub", .methodLinkNest "HailClub$State" 116 ⟨"HailClub", "isCell", "(II)Z"⟩ "HailClub", .fieldLinkNest "HailClub$Reader" 162 "HailClub" "RULE_MOST" "[I" "HailClub", .methodLinkNest "HailClub$Ending" 89 ⟨"HailClub", "advance", "(JJ)J"⟩ "HailClub", .methodLinkNest "HailClub$Ending" 112 ⟨"HailClub", "goalCoins", "(JJ)J"⟩ "HailClub"]
/-- the String constants: class, entry, text -/
def hc_strs : List (String × Nat × String) := [("HailClub$Tokens", 29, "member field hazard crop rate reserve retain cover cap goal pay loss years min max if join leave "), ("HailClubModel", 196, "member"), ("HailClubModel", 181, "loss"), ("HailClubModel", 187, "hazard"), ("HailClubModel", 189, "years"), ("HailClubModel", 191, "crop"), ("HailClubModel", 198, "field"), ("HailClubModel", 199, "rate"), ("HailClubModel", 201, "reserve"), ("HailClubModel", 203, "retain"), ("HailClubModel", 205, "cover"), ("HailClubModel", 207, "cap"), ("HailClubModel", 209, "goal"), ("HailClubModel", 211, "pay"), ("HailClubModel", 213, "min"), ("HailClubModel", 215, "max"), ("HailClubModel", 217, "if"), ("HailClubModel", 219, "join"), ("HailClubModel", 221, "leave")]
def hc_len : List Nat := [97, 6, 4, 6, 5, 4, 5, 4, 7, 6, 5, 3, 4, 3, 3, 3, 2, 4, 5]
def hc_byt : List (List Int32) := [[109, 101, 109, 98, 101, 114, 32, 102, 105, 101, 108, 100, 32, 104, 97, 122, 97, 114, 100, 32, 99, 114, 111, 112, 32, 114, 97, 116, 101, 32, 114, 101, 115, 101, 114, 118, 101, 32, 114, 101, 116, 97, 105, 110, 32, 99, 111, 118, 101, 114, 32, 99, 97, 112, 32, 103, 111, 97, 108, 32, 112, 97, 121, 32, 108, 111, 115, 115, 32, 121, 101, 97, 114, 115, 32, 109, 105, 110, 32, 109, 97, 120, 32, 105, 102, 32, 106, 111, 105, 110, 32, 108, 101, 97, 118, 101, 32], [109, 101, 109, 98, 101, 114], [108, 111, 115, 115], [104, 97, 122, 97, 114, 100], [121, 101, 97, 114, 115], [99, 114, 111, 112], [102, 105, 101, 108, 100], [114, 97, 116, 101], [114, 101, 115, 101, 114, 118, 101], [114, 101, 116, 97, 105, 110], [99, 111, 118, 101, 114], [99, 97, 112], [103, 111, 97, 108], [112, 97, 121], [109, 105, 110], [109, 97, 120], [105, 102], [106, 111, 105, 110], [108, 101, 97, 118, 101]]
def hc_rm7 (j : Nat) : Int32 := match j with
  | 0 => 999
  | 1 => 99999999
  | 2 => 9999999
  | 3 => 9999999
  | 4 => 100
  | 5 => 99
  | _ => 100
def hc_S (E : hc_E) (U : State) (H : Heap) : Prop :=
  vk_S 19 hc_len hc_byt (fun i => eS E i) (fun i => eS E (50 + i)) (eA E) U H ∧ va_Z "java/lang/String" "COMPACT_STRINGS" "Z" (.int 1) (eA E) U H ∧
  (va_Z "jdk/internal/util/Preconditions" "SIOOBE_FORMATTER" "Ljava/util/function/BiFunction;" .null (eA E) U H ∨ va_Z "jdk/internal/util/Preconditions" "SIOOBE_FORMATTER" "Ljava/util/function/BiFunction;" (.ref (eS E 101)) (eA E) U H) ∧ va_Z "HailClub" "RULE_MOST" "[I" (.ref (eS E 100)) (eA E) U H ∧ va_T .int (eS E 100) 7 (fun j => .int (hc_rm7 j)) (eA E) U H
def hc_AO (ty : FieldType) (U : State) : Prop := (Cond.arrayOver ty).before #[] U = true
def hc_aos : List FieldType := [.object "HailClub$Field", .object "HailClub$Storm", .object "HailClub$State", .array .long]
def hc_K (E : hc_E) (U : State) : Prop :=
  va_K (eD E) vwCl (hc_tys (eT E)) U ∧ (∀ ty ∈ hc_aos, hc_AO ty U) ∧ (∀ w ∈ hc_N, va_Nw w U) ∧ (∀ (i : Nat) (q : String × Nat × String), hc_strs[i]? = some q → vk_R q.1 q.2.1 q.2.2 (eS E i) U) ∧ hc_S E U U.heap
def hc_B (cx : hc_X) (E : hc_E) (p : Program) (s : State) (m : MethodId) (args : Array Value) (meth : Method) (c : Code) : Prop :=
  p.tables.exec = Jvm.exec ∧ c.code = xC cx ∧ meth.sig.returnType = xT cx ∧ c.maxLocals = xN cx ∧ s.vm.findClass (xY cx).cls = some m.cls ∧ (∀ w ∈ hc_T, w.before args s = true) ∧ meth.locks = false ∧ meth.name = (xY cx).name ∧ hc_K E s ∧ eB E ≤ s.heap.size
abbrev hc_rm (cx : hc_X) : Room := { frames := xD cx, cells := xM cx, slots := xS cx, locals := 64 * xD cx }
def hc_ws (cx : hc_X) : List Cond := Cond.code (xY cx) (xC cx) (xN cx) (xT cx) :: hc_T
def hc_Qc (E : hc_E) (Q : hc_Q) : Array Value → State → Outcome → State → Prop := fun _ st oc t =>
  ∃ (r : Option Value) (Λ : hc_L) (I : hc_I) (L : hc_J) (R : hc_R), oc = .returned (r.map (hc_v E)) ∧ Q r Λ I L R ∧ hc_W E Λ I L R t.heap ∧ va_F (eA E) st t
def hc_Pc (E : hc_E) (as : List Value) (Λ : hc_L) (I : hc_I) (L : hc_J) (R : hc_R) : Array Value → State → Prop := fun a U =>
  a = (hc_st E as).toArray ∧ hc_W E Λ I L R U.heap ∧ hc_K E U
def Run (cx : hc_X) (as : List Value) (Λ : hc_L) (I : hc_I) (L : hc_J) (R : hc_R) (Q : hc_Q) : Prop :=
  ∀ (l : Launch) (E : hc_E), Met l (xY cx) (hc_ws cx) (hc_rm cx) (hc_Pc E as Λ I L R) (hc_Qc E Q) (xM cx) (xS cx) (eA E)
def LW (cx : hc_X) (ac : Nat × Nat) (pc : Nat) (ls : List (Nat × Value)) (st : List Value) (Λ : hc_L) (I : hc_I) (L : hc_J) (R : hc_R) (Q : hc_Q) : Prop :=
  ∀ (l : Launch) (E : hc_E) (p : Program) (e : Env) (s : State) (m : MethodId) (args : Array Value) (below : List Frame) (meth : Method) (c : Code) (H : Heap) (locs : List Loc) (la : Array Slot),
    hc_B cx E p s m args meth c → hc_W E Λ I L R H → va_S (eA E) s.heap H locs → lv_has la (xN cx) (hc_ls E ls) →
    W p l e (hc_rm cx) s m args below meth c H locs ac.1 ac.2 (MQ below (hc_Qc E Q) args s (xM cx) (xS cx) (eA E)) (F0 m pc la (hc_st E st))
theorem hc_lvargs (E : hc_E) : ∀ (as : List Value) (i : Nat), lv_args i (hc_st E as) = hc_ls E (lv_args i as)
  | [], _ => rfl
  | v :: vs, i => by
    show (i, hc_v E v) :: lv_args (if (hc_v E v).category = 2 then i + 2 else i + 1) (hc_st E vs) = (i, hc_v E v) :: hc_ls E (lv_args (if v.category = 2 then i + 2 else i + 1) vs)
    rw [hc_cat, hc_lvargs E vs]
theorem hc_lgsl (E : hc_E) : ∀ (as : List Value), (lg_sl (hc_st E as)).length = (lg_sl as).length
  | [] => rfl
  | v :: vs => by
    have ih := hc_lgsl E vs
    have e1 : lg_sl (hc_st E (v :: vs)) = (if (hc_v E v).category = 2 then [Slot.val (hc_v E v), .second] else [.val (hc_v E v)]) ++ lg_sl (hc_st E vs) := rfl
    have e2 : lg_sl (v :: vs) = (if v.category = 2 then [Slot.val v, .second] else [.val v]) ++ lg_sl vs := rfl
    rw [e1, e2, List.length_append, List.length_append, ih, hc_cat]
    split <;> rfl
theorem Run.of {cx : hc_X} (hy : plainName (xY cx).cls = true) {as : List Value} {Λ : hc_L} {I : hc_I} {L : hc_J} {R : hc_R} {Q : hc_Q} (hn : (lg_sl as).length ≤ xN cx) (h : LW cx (0, 0) 0 (lv_args 0 as) [] Λ I L R Q) : Run cx as Λ I L R Q := by
  intro l E
  refine Met.ofW (cc := xC cx) (maxL := xN cx) (ret := xT cx) hy rfl ?_
  intro p e s m args below meth c s₁ B hml hv
  obtain ⟨rfl, hW, hK⟩ := hv
  have hts := atoms_spec (ws := hc_ws cx) B.pre
  rw [lg_entry_eq]
  refine h l E p e s m _ below meth c s.heap [] _ ⟨B.exec, B.bytes, B.returns, hml, findClass_of_methodNamed B.named, fun w hw => hts w (List.mem_cons_of_mem _ hw), B.notSynchronized, (name_of_methodNamed B.named B.method).1, hK, by rw [hW.1]; exact Nat.le_add_right _ _⟩ hW va_S.rf ?_
  rw [← hc_lvargs]
  exact lv_entry (hc_st E as) (by rw [hc_lgsl]; exact hn)
theorem Run.mono {cx : hc_X} {as : List Value} {Λ : hc_L} {I : hc_I} {L : hc_J} {R : hc_R} {Q Q' : hc_Q} (h : Run cx as Λ I L R Q) (hq : ∀ r Λ' I' L' R', Q r Λ' I' L' R' → Q' r Λ' I' L' R') : Run cx as Λ I L R Q' := by
  intro l E
  intro p e ha hc hk s m args below hf hfit hp hk2
  obtain ⟨t, o, h1, h2, h3, ⟨r, Λ', I', L', R', q1, q2, q3, q4⟩, h5⟩ := h l E p e ha hc hk s m args below hf hfit hp hk2
  exact ⟨t, o, h1, h2, h3, ⟨r, Λ', I', L', R', q1, hq _ _ _ _ _ q2, q3, q4⟩, h5⟩
theorem LW.mono {cx : hc_X} {ac : Nat × Nat} {pc : Nat} {ls : List (Nat × Value)} {st : List Value} {Λ : hc_L} {I : hc_I} {L : hc_J} {R : hc_R} {Q Q' : hc_Q} (h : LW cx ac pc ls st Λ I L R Q) (hq : ∀ r Λ' I' L' R', Q r Λ' I' L' R' → Q' r Λ' I' L' R') : LW cx ac pc ls st Λ I L R Q' := by
  intro l E p e s m args below meth c H locs la B hW hS hl T hT X
  obtain ⟨t, a, o, h1, h2, ⟨r, Λ', I', L', R', q1, q2, q3, q4⟩, h4⟩ := h l E p e s m args below meth c H locs la B hW hS hl T hT X
  exact ⟨t, a, o, h1, h2, ⟨r, Λ', I', L', R', q1, hq _ _ _ _ _ q2, q3, q4⟩, h4⟩
section HCR
variable {cx : hc_X} {ac : Nat × Nat} {pc : Nat} {ls : List (Nat × Value)} {st : List Value} {Λ : hc_L} {I : hc_I} {L : hc_J} {R : hc_R} {Q : hc_Q}
theorem hc_at {E : hc_E} {la : Array Slot} {n k i : Nat} {v : Value} (hl : lv_has la n (hc_ls E ls)) (hk : ls[k]? = some (i, v)) : la[i]? = some (.val (hc_v E v)) :=
  lv_at hl k (by simp only [hc_ls, List.getElem?_map, hk]; rfl)
/-- fewer locals, in another order -/
theorem LW_ls {ls' : List (Nat × Value)} (ks : List Nat) (h : lv_pick ls ks = ls') (k : LW cx ac pc ls' st Λ I L R Q) : LW cx ac pc ls st Λ I L R Q := by
  intro l E p e s m args below meth c H locs la B hW hS hl
  refine k l E p e s m args below meth c H locs la B hW hS (lv_sub hl ks ?_)
  rw [← h]
  simp only [lv_pick, hc_ls, List.map_filterMap, List.getElem?_map]
def hc_kp (i w : Nat) (q : Nat × Value) : Bool := !(q.1 == i) && (!(w == 2 && q.1 == i + 1) && !(q.1 + 1 == i && q.2.category == 2))
def hc_set (ls : List (Nat × Value)) (i : Nat) (v : Value) : List (Nat × Value) :=
  if ls.any (fun q => q.1 == i) then ls.filterMap (fun q => if q.1 == i then some (i, v) else if hc_kp i v.category q then some q else none)
  else ls.filter (hc_kp i v.category) ++ [(i, v)]
theorem hc_set_in {i : Nat} {v : Value} : ∀ q ∈ hc_set ls i v, q = (i, v) ∨ (q ∈ ls ∧ hc_kp i v.category q = true) := by
  intro q hq
  unfold hc_set at hq
  split at hq
  · obtain ⟨x, hx, he⟩ := List.mem_filterMap.mp hq
    split at he
    · exact Or.inl (Option.some.inj he).symm
    · split at he
      · rename_i h
        cases he
        exact Or.inr ⟨hx, h⟩
      · cases he
  · rcases List.mem_append.mp hq with h | h
    · exact Or.inr (List.mem_filter.mp h)
    · exact Or.inl (List.mem_singleton.mp h)
/-- what a store's row gives, in our order -/
theorem hc_setl {E : hc_E} {la : Array Slot} {n i : Nat} {v : Value} {lv : List (Nat × Value)} (hs : ∀ q ∈ hc_ls E ls, hc_kp i v.category q = true → q ∈ lv) (h : lv_has la n ((i, hc_v E v) :: lv)) : lv_has la n (hc_ls E (hc_set ls i v)) := by
  refine ⟨h.1, h.2.1, fun q hq => ?_⟩
  obtain ⟨x, hx, rfl⟩ := List.mem_map.mp hq
  rcases hc_set_in x hx with rfl | ⟨h1, h2⟩
  · exact h.2.2 _ List.mem_cons_self
  · refine h.2.2 _ (List.mem_cons_of_mem _ (hs _ (List.mem_map.mpr ⟨x, h1, rfl⟩) ?_))
    simpa only [hc_kp, hc_cat] using h2
theorem LW_iload {i : Nat} {x : Int32} (n : Nat) (hd : decode (xC cx) pc = .ok (.iload i, 2)) (hk : ls[n]? = some (i, .int x)) (k : LW cx ac (pc + 2) ls (.int x :: st) Λ I L R Q) : LW cx ac pc ls (st) Λ I L R Q := by
  intro l E p e s m args below meth c H locs la B hW hS hl
  exact lv_iload B.1 B.2.1 hd (hc_at hl hk) (k l E p e s m args below meth c H locs la B hW hS hl)
theorem LW_iloadn {i : Fin 4} {j : Nat} {x : Int32} (n : Nat) (hd : decode (xC cx) pc = .ok (.iload_n i, 1)) (hi : (i : Nat) = j) (hk : ls[n]? = some (j, .int x)) (k : LW cx ac (pc + 1) ls (.int x :: st) Λ I L R Q) : LW cx ac pc ls (st) Λ I L R Q := by
  intro l E p e s m args below meth c H locs la B hW hS hl
  exact lv_iload_n B.1 B.2.1 hd hi (hc_at hl hk) (k l E p e s m args below meth c H locs la B hW hS hl)
theorem LW_lload {i : Nat} {x : Int64} (n : Nat) (hd : decode (xC cx) pc = .ok (.lload i, 2)) (hk : ls[n]? = some (i, .long x)) (k : LW cx ac (pc + 2) ls (.long x :: st) Λ I L R Q) : LW cx ac pc ls (st) Λ I L R Q := by
  intro l E p e s m args below meth c H locs la B hW hS hl
  exact lv_lload B.1 B.2.1 hd (hc_at hl hk) (k l E p e s m args below meth c H locs la B hW hS hl)
theorem LW_lloadn {i : Fin 4} {j : Nat} {x : Int64} (n : Nat) (hd : decode (xC cx) pc = .ok (.lload_n i, 1)) (hi : (i : Nat) = j) (hk : ls[n]? = some (j, .long x)) (k : LW cx ac (pc + 1) ls (.long x :: st) Λ I L R Q) : LW cx ac pc ls (st) Λ I L R Q := by
  intro l E p e s m args below meth c H locs la B hW hS hl
  exact lv_lload_n B.1 B.2.1 hd hi (hc_at hl hk) (k l E p e s m args below meth c H locs la B hW hS hl)
theorem LW_aload {i : Nat} {x : Nat} (n : Nat) (hd : decode (xC cx) pc = .ok (.aload i, 2)) (hk : ls[n]? = some (i, .ref x)) (k : LW cx ac (pc + 2) ls (.ref x :: st) Λ I L R Q) : LW cx ac pc ls (st) Λ I L R Q := by
  intro l E p e s m args below meth c H locs la B hW hS hl
  exact lv_aload B.1 B.2.1 hd (hc_at hl hk) (k l E p e s m args below meth c H locs la B hW hS hl)
theorem LW_aloadn {i : Fin 4} {j : Nat} {x : Nat} (n : Nat) (hd : decode (xC cx) pc = .ok (.aload_n i, 1)) (hi : (i : Nat) = j) (hk : ls[n]? = some (j, .ref x)) (k : LW cx ac (pc + 1) ls (.ref x :: st) Λ I L R Q) : LW cx ac pc ls (st) Λ I L R Q := by
  intro l E p e s m args below meth c H locs la B hW hS hl
  exact lv_aload_n B.1 B.2.1 hd hi (hc_at hl hk) (k l E p e s m args below meth c H locs la B hW hS hl)
theorem LW_istore {i : Nat} {x : Int32} {ls' : List (Nat × Value)} (hd : decode (xC cx) pc = .ok (.istore i, 2)) (hx : i < xN cx) (hs : hc_set ls i (.int x) = ls') (k : LW cx ac (pc + 2) ls' st Λ I L R Q) : LW cx ac pc ls (.int x :: st) Λ I L R Q := by
  intro l E p e s m args below meth c H locs la B hW hS hl
  refine lv_istore B.1 B.2.1 hd hl hx rfl (fun la' hl' => ?_)
  exact k l E p e s m args below meth c H locs la' B hW hS (hs ▸ hc_setl (v := .int x) (fun q hq hp => List.mem_filter.mpr ⟨hq, by simpa [hc_kp, Value.category] using hp⟩) hl')
theorem LW_istoren {f : Fin 4} {i : Nat} {x : Int32} {ls' : List (Nat × Value)} (hd : decode (xC cx) pc = .ok (.istore_n f, 1)) (hi : (f : Nat) = i) (hx : i < xN cx) (hs : hc_set ls i (.int x) = ls') (k : LW cx ac (pc + 1) ls' st Λ I L R Q) : LW cx ac pc ls (.int x :: st) Λ I L R Q := by
  intro l E p e s m args below meth c H locs la B hW hS hl
  refine lv_istore_n B.1 B.2.1 hd hi hl hx rfl (fun la' hl' => ?_)
  exact k l E p e s m args below meth c H locs la' B hW hS (hs ▸ hc_setl (v := .int x) (fun q hq hp => List.mem_filter.mpr ⟨hq, by simpa [hc_kp, Value.category] using hp⟩) hl')
theorem LW_lstore {i : Nat} {x : Int64} {ls' : List (Nat × Value)} (hd : decode (xC cx) pc = .ok (.lstore i, 2)) (hx : i + 1 < xN cx) (hs : hc_set ls i (.long x) = ls') (k : LW cx ac (pc + 2) ls' st Λ I L R Q) : LW cx ac pc ls (.long x :: st) Λ I L R Q := by
  intro l E p e s m args below meth c H locs la B hW hS hl
  refine lv_lstore B.1 B.2.1 hd hl hx rfl (fun la' hl' => ?_)
  exact k l E p e s m args below meth c H locs la' B hW hS (hs ▸ hc_setl (v := .long x) (fun q hq hp => List.mem_filter.mpr ⟨hq, by simpa [hc_kp, Value.category] using hp⟩) hl')
theorem LW_lstoren {f : Fin 4} {i : Nat} {x : Int64} {ls' : List (Nat × Value)} (hd : decode (xC cx) pc = .ok (.lstore_n f, 1)) (hi : (f : Nat) = i) (hx : i + 1 < xN cx) (hs : hc_set ls i (.long x) = ls') (k : LW cx ac (pc + 1) ls' st Λ I L R Q) : LW cx ac pc ls (.long x :: st) Λ I L R Q := by
  intro l E p e s m args below meth c H locs la B hW hS hl
  refine lv_lstore_n B.1 B.2.1 hd hi hl hx rfl (fun la' hl' => ?_)
  exact k l E p e s m args below meth c H locs la' B hW hS (hs ▸ hc_setl (v := .long x) (fun q hq hp => List.mem_filter.mpr ⟨hq, by simpa [hc_kp, Value.category] using hp⟩) hl')
theorem LW_astore {i : Nat} {x : Nat} {ls' : List (Nat × Value)} (hd : decode (xC cx) pc = .ok (.astore i, 2)) (hx : i < xN cx) (hs : hc_set ls i (.ref x) = ls') (k : LW cx ac (pc + 2) ls' st Λ I L R Q) : LW cx ac pc ls (.ref x :: st) Λ I L R Q := by
  intro l E p e s m args below meth c H locs la B hW hS hl
  refine lv_astore B.1 B.2.1 hd hl hx rfl (fun la' hl' => ?_)
  exact k l E p e s m args below meth c H locs la' B hW hS (hs ▸ hc_setl (v := .ref x) (fun q hq hp => List.mem_filter.mpr ⟨hq, by simpa [hc_kp, Value.category] using hp⟩) hl')
theorem LW_astoren {f : Fin 4} {i : Nat} {x : Nat} {ls' : List (Nat × Value)} (hd : decode (xC cx) pc = .ok (.astore_n f, 1)) (hi : (f : Nat) = i) (hx : i < xN cx) (hs : hc_set ls i (.ref x) = ls') (k : LW cx ac (pc + 1) ls' st Λ I L R Q) : LW cx ac pc ls (.ref x :: st) Λ I L R Q := by
  intro l E p e s m args below meth c H locs la B hW hS hl
  refine lv_astore_n B.1 B.2.1 hd hi hl hx rfl (fun la' hl' => ?_)
  exact k l E p e s m args below meth c H locs la' B hW hS (hs ▸ hc_setl (v := .ref x) (fun q hq hp => List.mem_filter.mpr ⟨hq, by simpa [hc_kp, Value.category] using hp⟩) hl')
theorem LW_iinc {i n : Nat} {a : Int} {x v : Int32} {ls' : List (Nat × Value)} (hd : decode (xC cx) pc = .ok (.iinc i a, 3)) (hk : ls[n]? = some (i, .int x)) (hv : x + Int32.ofInt a = v) (hx : i < xN cx) (hs : hc_set ls i (.int v) = ls') (k : LW cx ac (pc + 3) ls' st Λ I L R Q) : LW cx ac pc ls st Λ I L R Q := by
  intro l E p e s m args below meth c H locs la B hW hS hl
  refine lv_iinc B.1 B.2.1 hd hl (k := n) (by simp only [hc_ls, List.getElem?_map, hk]; rfl) hv hx rfl (fun la' hl' => ?_)
  exact k l E p e s m args below meth c H locs la' B hW hS (hs ▸ hc_setl (v := .int v) (fun q hq hp => List.mem_filter.mpr ⟨hq, by simpa [hc_kp, Value.category] using hp⟩) hl')
theorem LW_iconst {n : Int} {v : Int32} (hd : decode (xC cx) pc = .ok (.iconst n, 1)) (hv : Int32.ofInt n = v) (k : LW cx ac (pc + 1) ls (.int v :: st) Λ I L R Q) : LW cx ac pc ls (st) Λ I L R Q := by
  intro l E p e s m args below meth c H locs la B hW hS hl
  exact lv_iconst B.1 B.2.1 hd hv (k l E p e s m args below meth c H locs la B hW hS hl)
theorem LW_bipush {n : Int} {v : Int32} (hd : decode (xC cx) pc = .ok (.bipush n, 2)) (hv : (Int8.ofInt n).toInt32 = v) (k : LW cx ac (pc + 2) ls (.int v :: st) Λ I L R Q) : LW cx ac pc ls (st) Λ I L R Q := by
  intro l E p e s m args below meth c H locs la B hW hS hl
  exact lv_bipush B.1 B.2.1 hd hv (k l E p e s m args below meth c H locs la B hW hS hl)
theorem LW_sipush {n : Int} {v : Int32} (hd : decode (xC cx) pc = .ok (.sipush n, 3)) (hv : (Int16.ofInt n).toInt32 = v) (k : LW cx ac (pc + 3) ls (.int v :: st) Λ I L R Q) : LW cx ac pc ls (st) Λ I L R Q := by
  intro l E p e s m args below meth c H locs la B hW hS hl
  exact lv_sipush B.1 B.2.1 hd hv (k l E p e s m args below meth c H locs la B hW hS hl)
theorem LW_lconst {n : Fin 2} {v : Int64} (hd : decode (xC cx) pc = .ok (.lconst n, 1)) (hv : Int64.ofNat (n : Nat) = v) (k : LW cx ac (pc + 1) ls (.long v :: st) Λ I L R Q) : LW cx ac pc ls (st) Λ I L R Q := by
  intro l E p e s m args below meth c H locs la B hW hS hl
  exact lv_lconst B.1 B.2.1 hd hv (k l E p e s m args below meth c H locs la B hW hS hl)
theorem LW_ldc {n : Nat} {v : Int32} (hd : decode (xC cx) pc = .ok (.ldc n, 2)) (hw : Cond.constant (xY cx).cls n v ∈ hc_T) (k : LW cx ac (pc + 2) ls (.int v :: st) Λ I L R Q) : LW cx ac pc ls (st) Λ I L R Q := by
  intro l E p e s m args below meth c H locs la B hW hS hl
  exact lv_ldc B.1 B.2.1 B.2.2.2.2.1 (B.2.2.2.2.2.1 _ hw) hd (k l E p e s m args below meth c H locs la B hW hS hl)
theorem LW_ldcw {n : Nat} {v : Int32} (hd : decode (xC cx) pc = .ok (.ldc_w n, 3)) (hw : Cond.constant (xY cx).cls n v ∈ hc_T) (k : LW cx ac (pc + 3) ls (.int v :: st) Λ I L R Q) : LW cx ac pc ls (st) Λ I L R Q := by
  intro l E p e s m args below meth c H locs la B hW hS hl
  exact lv_ldcw B.1 B.2.1 B.2.2.2.2.1 (B.2.2.2.2.2.1 _ hw) hd (k l E p e s m args below meth c H locs la B hW hS hl)
theorem LW_ldc2 {n : Nat} {v : Int64} (hd : decode (xC cx) pc = .ok (.ldc2_w n, 3)) (hw : Cond.constantLong (xY cx).cls n v ∈ hc_T) (k : LW cx ac (pc + 3) ls (.long v :: st) Λ I L R Q) : LW cx ac pc ls (st) Λ I L R Q := by
  intro l E p e s m args below meth c H locs la B hW hS hl
  exact lv_ldc2 B.1 B.2.1 B.2.2.2.2.1 (B.2.2.2.2.2.1 _ hw) hd (k l E p e s m args below meth c H locs la B hW hS hl)
theorem LW_iadd {x y : Int32} (hd : decode (xC cx) pc = .ok (.iadd, 1)) (k : LW cx ac (pc + 1) ls (.int (x + y) :: st) Λ I L R Q) : LW cx ac pc ls (.int y :: .int x :: st) Λ I L R Q := by
  intro l E p e s m args below meth c H locs la B hW hS hl
  exact lv_iadd B.1 B.2.1 hd (k l E p e s m args below meth c H locs la B hW hS hl)
theorem LW_isub {x y : Int32} (hd : decode (xC cx) pc = .ok (.isub, 1)) (k : LW cx ac (pc + 1) ls (.int (x - y) :: st) Λ I L R Q) : LW cx ac pc ls (.int y :: .int x :: st) Λ I L R Q := by
  intro l E p e s m args below meth c H locs la B hW hS hl
  exact lv_isub B.1 B.2.1 hd (k l E p e s m args below meth c H locs la B hW hS hl)
theorem LW_imul {x y : Int32} (hd : decode (xC cx) pc = .ok (.imul, 1)) (k : LW cx ac (pc + 1) ls (.int (x * y) :: st) Λ I L R Q) : LW cx ac pc ls (.int y :: .int x :: st) Λ I L R Q := by
  intro l E p e s m args below meth c H locs la B hW hS hl
  exact lv_imul B.1 B.2.1 hd (k l E p e s m args below meth c H locs la B hW hS hl)
theorem LW_iand {x y : Int32} (hd : decode (xC cx) pc = .ok (.iand, 1)) (k : LW cx ac (pc + 1) ls (.int (x &&& y) :: st) Λ I L R Q) : LW cx ac pc ls (.int y :: .int x :: st) Λ I L R Q := by
  intro l E p e s m args below meth c H locs la B hW hS hl
  exact lv_iand B.1 B.2.1 hd (k l E p e s m args below meth c H locs la B hW hS hl)
theorem LW_ior {x y : Int32} (hd : decode (xC cx) pc = .ok (.ior, 1)) (k : LW cx ac (pc + 1) ls (.int (x ||| y) :: st) Λ I L R Q) : LW cx ac pc ls (.int y :: .int x :: st) Λ I L R Q := by
  intro l E p e s m args below meth c H locs la B hW hS hl
  exact lv_ior B.1 B.2.1 hd (k l E p e s m args below meth c H locs la B hW hS hl)
theorem LW_ixor {x y : Int32} (hd : decode (xC cx) pc = .ok (.ixor, 1)) (k : LW cx ac (pc + 1) ls (.int (x ^^^ y) :: st) Λ I L R Q) : LW cx ac pc ls (.int y :: .int x :: st) Λ I L R Q := by
  intro l E p e s m args below meth c H locs la B hW hS hl
  exact lv_ixor B.1 B.2.1 hd (k l E p e s m args below meth c H locs la B hW hS hl)
theorem LW_ishl {x y : Int32} (hd : decode (xC cx) pc = .ok (.ishl, 1)) (k : LW cx ac (pc + 1) ls (.int (x <<< (y &&& 31)) :: st) Λ I L R Q) : LW cx ac pc ls (.int y :: .int x :: st) Λ I L R Q := by
  intro l E p e s m args below meth c H locs la B hW hS hl
  exact lv_ishl B.1 B.2.1 hd (k l E p e s m args below meth c H locs la B hW hS hl)
theorem LW_ishr {x y : Int32} (hd : decode (xC cx) pc = .ok (.ishr, 1)) (k : LW cx ac (pc + 1) ls (.int (x >>> (y &&& 31)) :: st) Λ I L R Q) : LW cx ac pc ls (.int y :: .int x :: st) Λ I L R Q := by
  intro l E p e s m args below meth c H locs la B hW hS hl
  exact lv_ishr B.1 B.2.1 hd (k l E p e s m args below meth c H locs la B hW hS hl)
theorem LW_idiv {x y : Int32} (hd : decode (xC cx) pc = .ok (.idiv, 1)) (hz : ¬ y = 0) (k : LW cx ac (pc + 1) ls (.int (x / y) :: st) Λ I L R Q) : LW cx ac pc ls (.int y :: .int x :: st) Λ I L R Q := by
  intro l E p e s m args below meth c H locs la B hW hS hl
  exact lv_idiv B.1 B.2.1 hd hz (k l E p e s m args below meth c H locs la B hW hS hl)
theorem LW_irem {x y : Int32} (hd : decode (xC cx) pc = .ok (.irem, 1)) (hz : ¬ y = 0) (k : LW cx ac (pc + 1) ls (.int (x - x / y * y) :: st) Λ I L R Q) : LW cx ac pc ls (.int y :: .int x :: st) Λ I L R Q := by
  intro l E p e s m args below meth c H locs la B hW hS hl
  exact lv_irem B.1 B.2.1 hd hz (k l E p e s m args below meth c H locs la B hW hS hl)
theorem LW_ladd {x y : Int64} (hd : decode (xC cx) pc = .ok (.ladd, 1)) (k : LW cx ac (pc + 1) ls (.long (x + y) :: st) Λ I L R Q) : LW cx ac pc ls (.long y :: .long x :: st) Λ I L R Q := by
  intro l E p e s m args below meth c H locs la B hW hS hl
  exact lv_ladd B.1 B.2.1 hd (k l E p e s m args below meth c H locs la B hW hS hl)
theorem LW_lsub {x y : Int64} (hd : decode (xC cx) pc = .ok (.lsub, 1)) (k : LW cx ac (pc + 1) ls (.long (x - y) :: st) Λ I L R Q) : LW cx ac pc ls (.long y :: .long x :: st) Λ I L R Q := by
  intro l E p e s m args below meth c H locs la B hW hS hl
  exact lv_lsub B.1 B.2.1 hd (k l E p e s m args below meth c H locs la B hW hS hl)
theorem LW_lmul {x y : Int64} (hd : decode (xC cx) pc = .ok (.lmul, 1)) (k : LW cx ac (pc + 1) ls (.long (x * y) :: st) Λ I L R Q) : LW cx ac pc ls (.long y :: .long x :: st) Λ I L R Q := by
  intro l E p e s m args below meth c H locs la B hW hS hl
  exact lv_lmul B.1 B.2.1 hd (k l E p e s m args below meth c H locs la B hW hS hl)
theorem LW_lor {x y : Int64} (hd : decode (xC cx) pc = .ok (.lor, 1)) (k : LW cx ac (pc + 1) ls (.long (x ||| y) :: st) Λ I L R Q) : LW cx ac pc ls (.long y :: .long x :: st) Λ I L R Q := by
  intro l E p e s m args below meth c H locs la B hW hS hl
  exact lv_lor B.1 B.2.1 hd (k l E p e s m args below meth c H locs la B hW hS hl)
theorem LW_land {x y : Int64} (hd : decode (xC cx) pc = .ok (.land, 1)) (k : LW cx ac (pc + 1) ls (.long (x &&& y) :: st) Λ I L R Q) : LW cx ac pc ls (.long y :: .long x :: st) Λ I L R Q := by
  intro l E p e s m args below meth c H locs la B hW hS hl
  exact lv_land B.1 B.2.1 hd (k l E p e s m args below meth c H locs la B hW hS hl)
theorem LW_ldiv {x y : Int64} (hd : decode (xC cx) pc = .ok (.ldiv, 1)) (hz : ¬ y = 0) (k : LW cx ac (pc + 1) ls (.long (x / y) :: st) Λ I L R Q) : LW cx ac pc ls (.long y :: .long x :: st) Λ I L R Q := by
  intro l E p e s m args below meth c H locs la B hW hS hl
  exact lv_ldiv B.1 B.2.1 hd hz (k l E p e s m args below meth c H locs la B hW hS hl)
theorem LW_lrem {x y : Int64} (hd : decode (xC cx) pc = .ok (.lrem, 1)) (hz : ¬ y = 0) (k : LW cx ac (pc + 1) ls (.long (x - x / y * y) :: st) Λ I L R Q) : LW cx ac pc ls (.long y :: .long x :: st) Λ I L R Q := by
  intro l E p e s m args below meth c H locs la B hW hS hl
  exact lv_lrem B.1 B.2.1 hd hz (k l E p e s m args below meth c H locs la B hW hS hl)
theorem LW_lshl {x : Int64} {y : Int32} (hd : decode (xC cx) pc = .ok (.lshl, 1)) (k : LW cx ac (pc + 1) ls (.long (x <<< (y.toInt64 &&& 63)) :: st) Λ I L R Q) : LW cx ac pc ls (.int y :: .long x :: st) Λ I L R Q := by
  intro l E p e s m args below meth c H locs la B hW hS hl
  exact lv_lshl B.1 B.2.1 hd rfl (k l E p e s m args below meth c H locs la B hW hS hl)
theorem LW_ineg {x : Int32} (hd : decode (xC cx) pc = .ok (.ineg, 1)) (k : LW cx ac (pc + 1) ls (.int (-x) :: st) Λ I L R Q) : LW cx ac pc ls (.int x :: st) Λ I L R Q := by
  intro l E p e s m args below meth c H locs la B hW hS hl
  exact lv_ineg B.1 B.2.1 hd (k l E p e s m args below meth c H locs la B hW hS hl)
theorem LW_lneg {x : Int64} (hd : decode (xC cx) pc = .ok (.lneg, 1)) (k : LW cx ac (pc + 1) ls (.long (-x) :: st) Λ I L R Q) : LW cx ac pc ls (.long x :: st) Λ I L R Q := by
  intro l E p e s m args below meth c H locs la B hW hS hl
  exact lv_lneg B.1 B.2.1 hd (k l E p e s m args below meth c H locs la B hW hS hl)
theorem LW_i2l {x : Int32} (hd : decode (xC cx) pc = .ok (.i2l, 1)) (k : LW cx ac (pc + 1) ls (.long x.toInt64 :: st) Λ I L R Q) : LW cx ac pc ls (.int x :: st) Λ I L R Q := by
  intro l E p e s m args below meth c H locs la B hW hS hl
  exact lv_i2l B.1 B.2.1 hd rfl (k l E p e s m args below meth c H locs la B hW hS hl)
theorem LW_l2i {x : Int64} (hd : decode (xC cx) pc = .ok (.l2i, 1)) (k : LW cx ac (pc + 1) ls (.int x.toInt32 :: st) Λ I L R Q) : LW cx ac pc ls (.long x :: st) Λ I L R Q := by
  intro l E p e s m args below meth c H locs la B hW hS hl
  exact lv_l2i B.1 B.2.1 hd rfl (k l E p e s m args below meth c H locs la B hW hS hl)
theorem LW_i2b {x : Int32} (hd : decode (xC cx) pc = .ok (.i2b, 1)) (k : LW cx ac (pc + 1) ls (.int x.toInt8.toInt32 :: st) Λ I L R Q) : LW cx ac pc ls (.int x :: st) Λ I L R Q := by
  intro l E p e s m args below meth c H locs la B hW hS hl
  exact lv_i2b B.1 B.2.1 hd rfl (k l E p e s m args below meth c H locs la B hW hS hl)
theorem LW_lcmp {x y : Int64} (hd : decode (xC cx) pc = .ok (.lcmp, 1)) (k : LW cx ac (pc + 1) ls (.int (lg_cmp x y) :: st) Λ I L R Q) : LW cx ac pc ls (.long y :: .long x :: st) Λ I L R Q := by
  intro l E p e s m args below meth c H locs la B hW hS hl
  exact W.lcmp B.1 B.2.1 hd (k l E p e s m args below meth c H locs la B hW hS hl)
theorem LW_dup {v : Value} (hd : decode (xC cx) pc = .ok (.dup, 1)) (hv : v.category = 1) (k : LW cx ac (pc + 1) ls (v :: v :: st) Λ I L R Q) : LW cx ac pc ls (v :: st) Λ I L R Q := by
  intro l E p e s m args below meth c H locs la B hW hS hl
  exact lv_dup B.1 B.2.1 hd ((hc_cat E v).trans hv) (k l E p e s m args below meth c H locs la B hW hS hl)
theorem LW_pop {v : Value} (hd : decode (xC cx) pc = .ok (.pop, 1)) (hv : v.category = 1) (k : LW cx ac (pc + 1) ls (st) Λ I L R Q) : LW cx ac pc ls (v :: st) Λ I L R Q := by
  intro l E p e s m args below meth c H locs la B hW hS hl
  exact lv_pop B.1 B.2.1 hd ((hc_cat E v).trans hv) (k l E p e s m args below meth c H locs la B hW hS hl)
theorem LW_goto {off : Int} {tgt : Nat} (hd : decode (xC cx) pc = .ok (.goto off, 3)) (ht : (pc : Int) + off = (tgt : Int)) (k : LW cx ac (tgt) ls (st) Λ I L R Q) : LW cx ac pc ls (st) Λ I L R Q := by
  intro l E p e s m args below meth c H locs la B hW hS hl
  exact lv_goto B.1 B.2.1 hd ht (k l E p e s m args below meth c H locs la B hW hS hl)
theorem LW_icmp_eq {x y : Int32} {off : Int} {tgt : Nat} (hd : decode (xC cx) pc = .ok (.if_icmp .eq off, 3)) (ht : (pc : Int) + off = (tgt : Int)) (kt : x = y → LW cx ac tgt ls st Λ I L R Q) (kf : ¬ (x = y) → LW cx ac (pc + 3) ls st Λ I L R Q) : LW cx ac pc ls (.int y :: .int x :: st) Λ I L R Q := by
  intro l E p e s m args below meth c H locs la B hW hS hl
  exact lv_icmp_eq B.1 B.2.1 hd ht (fun q => kt (by simpa using q) l E p e s m args below meth c H locs la B hW hS hl) (fun q => kf (by simpa using q) l E p e s m args below meth c H locs la B hW hS hl)
theorem LW_icmp_ne {x y : Int32} {off : Int} {tgt : Nat} (hd : decode (xC cx) pc = .ok (.if_icmp .ne off, 3)) (ht : (pc : Int) + off = (tgt : Int)) (kt : ¬ x = y → LW cx ac tgt ls st Λ I L R Q) (kf : ¬ (¬ x = y) → LW cx ac (pc + 3) ls st Λ I L R Q) : LW cx ac pc ls (.int y :: .int x :: st) Λ I L R Q := by
  intro l E p e s m args below meth c H locs la B hW hS hl
  exact lv_icmp_ne B.1 B.2.1 hd ht (fun q => kt (by simpa using q) l E p e s m args below meth c H locs la B hW hS hl) (fun q => kf (by simpa using q) l E p e s m args below meth c H locs la B hW hS hl)
theorem LW_icmp_lt {x y : Int32} {off : Int} {tgt : Nat} (hd : decode (xC cx) pc = .ok (.if_icmp .lt off, 3)) (ht : (pc : Int) + off = (tgt : Int)) (kt : x < y → LW cx ac tgt ls st Λ I L R Q) (kf : ¬ (x < y) → LW cx ac (pc + 3) ls st Λ I L R Q) : LW cx ac pc ls (.int y :: .int x :: st) Λ I L R Q := by
  intro l E p e s m args below meth c H locs la B hW hS hl
  exact lv_icmp_lt B.1 B.2.1 hd ht (fun q => kt (by simpa using q) l E p e s m args below meth c H locs la B hW hS hl) (fun q => kf (by simpa using q) l E p e s m args below meth c H locs la B hW hS hl)
theorem LW_icmp_ge {x y : Int32} {off : Int} {tgt : Nat} (hd : decode (xC cx) pc = .ok (.if_icmp .ge off, 3)) (ht : (pc : Int) + off = (tgt : Int)) (kt : y ≤ x → LW cx ac tgt ls st Λ I L R Q) (kf : ¬ (y ≤ x) → LW cx ac (pc + 3) ls st Λ I L R Q) : LW cx ac pc ls (.int y :: .int x :: st) Λ I L R Q := by
  intro l E p e s m args below meth c H locs la B hW hS hl
  exact lv_icmp_ge B.1 B.2.1 hd ht (fun q => kt (by simpa using q) l E p e s m args below meth c H locs la B hW hS hl) (fun q => kf (by simpa using q) l E p e s m args below meth c H locs la B hW hS hl)
theorem LW_icmp_gt {x y : Int32} {off : Int} {tgt : Nat} (hd : decode (xC cx) pc = .ok (.if_icmp .gt off, 3)) (ht : (pc : Int) + off = (tgt : Int)) (kt : y < x → LW cx ac tgt ls st Λ I L R Q) (kf : ¬ (y < x) → LW cx ac (pc + 3) ls st Λ I L R Q) : LW cx ac pc ls (.int y :: .int x :: st) Λ I L R Q := by
  intro l E p e s m args below meth c H locs la B hW hS hl
  exact lv_icmp_gt B.1 B.2.1 hd ht (fun q => kt (by simpa using q) l E p e s m args below meth c H locs la B hW hS hl) (fun q => kf (by simpa using q) l E p e s m args below meth c H locs la B hW hS hl)
theorem LW_icmp_le {x y : Int32} {off : Int} {tgt : Nat} (hd : decode (xC cx) pc = .ok (.if_icmp .le off, 3)) (ht : (pc : Int) + off = (tgt : Int)) (kt : x ≤ y → LW cx ac tgt ls st Λ I L R Q) (kf : ¬ (x ≤ y) → LW cx ac (pc + 3) ls st Λ I L R Q) : LW cx ac pc ls (.int y :: .int x :: st) Λ I L R Q := by
  intro l E p e s m args below meth c H locs la B hW hS hl
  exact lv_icmp_le B.1 B.2.1 hd ht (fun q => kt (by simpa using q) l E p e s m args below meth c H locs la B hW hS hl) (fun q => kf (by simpa using q) l E p e s m args below meth c H locs la B hW hS hl)
theorem LW_if_eq {x : Int32} {off : Int} {tgt : Nat} (hd : decode (xC cx) pc = .ok (.ifCond .eq off, 3)) (ht : (pc : Int) + off = (tgt : Int)) (kt : x = 0 → LW cx ac tgt ls st Λ I L R Q) (kf : ¬ (x = 0) → LW cx ac (pc + 3) ls st Λ I L R Q) : LW cx ac pc ls (.int x :: st) Λ I L R Q := by
  intro l E p e s m args below meth c H locs la B hW hS hl
  exact lv_if_eq B.1 B.2.1 hd ht (fun q => kt (by simpa using q) l E p e s m args below meth c H locs la B hW hS hl) (fun q => kf (by simpa using q) l E p e s m args below meth c H locs la B hW hS hl)
theorem LW_if_ne {x : Int32} {off : Int} {tgt : Nat} (hd : decode (xC cx) pc = .ok (.ifCond .ne off, 3)) (ht : (pc : Int) + off = (tgt : Int)) (kt : ¬ x = 0 → LW cx ac tgt ls st Λ I L R Q) (kf : ¬ (¬ x = 0) → LW cx ac (pc + 3) ls st Λ I L R Q) : LW cx ac pc ls (.int x :: st) Λ I L R Q := by
  intro l E p e s m args below meth c H locs la B hW hS hl
  exact lv_if_ne B.1 B.2.1 hd ht (fun q => kt (by simpa using q) l E p e s m args below meth c H locs la B hW hS hl) (fun q => kf (by simpa using q) l E p e s m args below meth c H locs la B hW hS hl)
theorem LW_if_lt {x : Int32} {off : Int} {tgt : Nat} (hd : decode (xC cx) pc = .ok (.ifCond .lt off, 3)) (ht : (pc : Int) + off = (tgt : Int)) (kt : x < 0 → LW cx ac tgt ls st Λ I L R Q) (kf : ¬ (x < 0) → LW cx ac (pc + 3) ls st Λ I L R Q) : LW cx ac pc ls (.int x :: st) Λ I L R Q := by
  intro l E p e s m args below meth c H locs la B hW hS hl
  exact lv_if_lt B.1 B.2.1 hd ht (fun q => kt (by simpa using q) l E p e s m args below meth c H locs la B hW hS hl) (fun q => kf (by simpa using q) l E p e s m args below meth c H locs la B hW hS hl)
theorem LW_if_ge {x : Int32} {off : Int} {tgt : Nat} (hd : decode (xC cx) pc = .ok (.ifCond .ge off, 3)) (ht : (pc : Int) + off = (tgt : Int)) (kt : 0 ≤ x → LW cx ac tgt ls st Λ I L R Q) (kf : ¬ (0 ≤ x) → LW cx ac (pc + 3) ls st Λ I L R Q) : LW cx ac pc ls (.int x :: st) Λ I L R Q := by
  intro l E p e s m args below meth c H locs la B hW hS hl
  exact lv_if_ge B.1 B.2.1 hd ht (fun q => kt (by simpa using q) l E p e s m args below meth c H locs la B hW hS hl) (fun q => kf (by simpa using q) l E p e s m args below meth c H locs la B hW hS hl)
theorem LW_if_gt {x : Int32} {off : Int} {tgt : Nat} (hd : decode (xC cx) pc = .ok (.ifCond .gt off, 3)) (ht : (pc : Int) + off = (tgt : Int)) (kt : 0 < x → LW cx ac tgt ls st Λ I L R Q) (kf : ¬ (0 < x) → LW cx ac (pc + 3) ls st Λ I L R Q) : LW cx ac pc ls (.int x :: st) Λ I L R Q := by
  intro l E p e s m args below meth c H locs la B hW hS hl
  exact lv_if_gt B.1 B.2.1 hd ht (fun q => kt (by simpa using q) l E p e s m args below meth c H locs la B hW hS hl) (fun q => kf (by simpa using q) l E p e s m args below meth c H locs la B hW hS hl)
theorem LW_if_le {x : Int32} {off : Int} {tgt : Nat} (hd : decode (xC cx) pc = .ok (.ifCond .le off, 3)) (ht : (pc : Int) + off = (tgt : Int)) (kt : x ≤ 0 → LW cx ac tgt ls st Λ I L R Q) (kf : ¬ (x ≤ 0) → LW cx ac (pc + 3) ls st Λ I L R Q) : LW cx ac pc ls (.int x :: st) Λ I L R Q := by
  intro l E p e s m args below meth c H locs la B hW hS hl
  exact lv_if_le B.1 B.2.1 hd ht (fun q => kt (by simpa using q) l E p e s m args below meth c H locs la B hW hS hl) (fun q => kf (by simpa using q) l E p e s m args below meth c H locs la B hW hS hl)
theorem LW_ifnonnull {x : Nat} {off : Int} {tgt : Nat} (hd : decode (xC cx) pc = .ok (.ifnonnull off, 3)) (ht : (pc : Int) + off = (tgt : Int)) (k : LW cx ac (tgt) ls (st) Λ I L R Q) : LW cx ac pc ls (.ref x :: st) Λ I L R Q := by
  intro l E p e s m args below meth c H locs la B hW hS hl
  exact lv_ifnonnull B.1 B.2.1 hd ht (k l E p e s m args below meth c H locs la B hW hS hl)
theorem LW_ifnonnullN {off : Int} (hd : decode (xC cx) pc = .ok (.ifnonnull off, 3)) (k : LW cx ac (pc + 3) ls (st) Λ I L R Q) : LW cx ac pc ls (.null :: st) Λ I L R Q := by
  intro l E p e s m args below meth c H locs la B hW hS hl
  exact lv_ifnonnullN B.1 B.2.1 hd (k l E p e s m args below meth c H locs la B hW hS hl)
theorem LW_ifnull {x : Nat} {off : Int} (hd : decode (xC cx) pc = .ok (.ifnull off, 3)) (k : LW cx ac (pc + 3) ls (st) Λ I L R Q) : LW cx ac pc ls (.ref x :: st) Λ I L R Q := by
  intro l E p e s m args below meth c H locs la B hW hS hl
  exact lv_ifnull B.1 B.2.1 hd (k l E p e s m args below meth c H locs la B hW hS hl)
theorem LW_ifnullN {off : Int} {tgt : Nat} (hd : decode (xC cx) pc = .ok (.ifnull off, 3)) (ht : (pc : Int) + off = (tgt : Int)) (k : LW cx ac (tgt) ls (st) Λ I L R Q) : LW cx ac pc ls (.null :: st) Λ I L R Q := by
  intro l E p e s m args below meth c H locs la B hW hS hl
  exact lv_ifnullN B.1 B.2.1 hd ht (k l E p e s m args below meth c H locs la B hW hS hl)
theorem LW_tableIn {dflt lo hi : Int} {offs : Array Int} {len : Nat} {x : Int32} {off : Int} {tgt : Nat} (hd : decode (xC cx) pc = .ok (.tableswitch dflt lo hi offs, len)) (h1 : ¬ x.toInt < lo) (h2 : ¬ hi < x.toInt) (ho : offs[(x.toInt - lo).toNat]? = some off) (ht : (pc : Int) + off = (tgt : Int)) (k : LW cx ac (tgt) ls (st) Λ I L R Q) : LW cx ac pc ls (.int x :: st) Λ I L R Q := by
  intro l E p e s m args below meth c H locs la B hW hS hl
  exact lv_tableIn B.1 B.2.1 hd h1 h2 ho ht (k l E p e s m args below meth c H locs la B hW hS hl)
theorem LW_tableOut {dflt lo hi : Int} {offs : Array Int} {len : Nat} {x : Int32} {tgt : Nat} (hd : decode (xC cx) pc = .ok (.tableswitch dflt lo hi offs, len)) (h : x.toInt < lo ∨ hi < x.toInt) (ht : (pc : Int) + dflt = (tgt : Int)) (k : LW cx ac (tgt) ls (st) Λ I L R Q) : LW cx ac pc ls (.int x :: st) Λ I L R Q := by
  intro l E p e s m args below meth c H locs la B hW hS hl
  exact lv_tableOut B.1 B.2.1 hd h ht (k l E p e s m args below meth c H locs la B hW hS hl)
theorem LW_lookup {dflt : Int} {ps : Array (Int × Int)} {len : Nat} {x : Int32} {off : Int} {tgt : Nat} (hd : decode (xC cx) pc = .ok (.lookupswitch dflt ps, len)) (hp : (ps.toList.zip (ps.toList.drop 1)).all (fun (a, next) => a.1 < next.1) = true) (ho : Op.lookupswitch.offset ps.toList dflt x.toInt = off) (ht : (pc : Int) + off = (tgt : Int)) (k : LW cx ac (tgt) ls (st) Λ I L R Q) : LW cx ac pc ls (.int x :: st) Λ I L R Q := by
  intro l E p e s m args below meth c H locs la B hW hS hl
  exact lv_lookup B.1 B.2.1 hd hp ho ht (k l E p e s m args below meth c H locs la B hW hS hl)
theorem LW_iret {x : Int32} (hd : decode (xC cx) pc = .ok (.ireturn, 1)) (hr : xT cx = some .int) (h1 : ac.1 ≤ xM cx) (h2 : ac.2 ≤ xS cx) (hQ : Q (some (.int x)) Λ I L R) : LW cx ac pc ls [.int x] Λ I L R Q := by
  intro l E p e s m args below meth c H locs la B hW hS hl
  refine W.widen h1 h2 ?_
  exact W.iret B.1 B.2.1 (B.2.2.1.trans hr) (fun t ht _ => ⟨some (.int x), Λ, I, L, R, rfl, hQ, by rw [ht]; exact hW, hS.F ht⟩) hS.2.2 hd B.2.2.2.2.2.2.1
theorem LW_lret {x : Int64} (hd : decode (xC cx) pc = .ok (.lreturn, 1)) (hr : xT cx = some .long) (h1 : ac.1 ≤ xM cx) (h2 : ac.2 ≤ xS cx) (hQ : Q (some (.long x)) Λ I L R) : LW cx ac pc ls [.long x] Λ I L R Q := by
  intro l E p e s m args below meth c H locs la B hW hS hl
  refine W.widen h1 h2 ?_
  exact W.lret B.1 B.2.1 (B.2.2.1.trans hr) (fun t ht _ => ⟨some (.long x), Λ, I, L, R, rfl, hQ, by rw [ht]; exact hW, hS.F ht⟩) hS.2.2 hd B.2.2.2.2.2.2.1
theorem LW_zret {x : Int32} (hd : decode (xC cx) pc = .ok (.ireturn, 1)) (hr : xT cx = some .boolean) (h1 : ac.1 ≤ xM cx) (h2 : ac.2 ≤ xS cx) (hb : x = 0 ∨ x = 1) (hQ : Q (some (.int x)) Λ I L R) : LW cx ac pc ls [.int x] Λ I L R Q := by
  intro l E p e s m args below meth c H locs la B hW hS hl
  refine W.widen h1 h2 ?_
  exact W.zret (ty := .boolean) B.1 B.2.1 (B.2.2.1.trans hr) (by rcases hb with rfl | rfl <;> rfl) (fun t ht _ => ⟨some (.int x), Λ, I, L, R, rfl, hQ, by rw [ht]; exact hW, hS.F ht⟩) hS.2.2 hd B.2.2.2.2.2.2.1
theorem LW_vret (hd : decode (xC cx) pc = .ok (.return_, 1)) (hr : xT cx = none) (h1 : ac.1 ≤ xM cx) (h2 : ac.2 ≤ xS cx) (hQ : Q none Λ I L R) : LW cx ac pc ls [] Λ I L R Q := by
  intro l E p e s m args below meth c H locs la B hW hS hl
  refine W.widen h1 h2 ?_
  exact W.vret B.1 B.2.1 (B.2.2.1.trans hr) (fun t ht _ => ⟨none, Λ, I, L, R, rfl, hQ, by rw [ht]; exact hW, hS.F ht⟩) hS.2.2 hd B.2.2.2.2.2.2.1
end HCR
