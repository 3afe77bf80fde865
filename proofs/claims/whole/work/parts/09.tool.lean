/-! Tools of the walks: truth values, counters, readers' ends, loops. -/
def hc_b (c : Bool) : Int32 := if c then 1 else 0
theorem hc_b01 (c : Bool) : hc_b c = 0 ∨ hc_b c = 1 := by cases c <;> simp [hc_b]
theorem hc_b0 (c : Bool) : hc_b c = 0 ↔ c = false := by cases c <;> simp [hc_b]
theorem hc_bt : hc_b true = 1 := rfl
theorem hc_bf : hc_b false = 0 := rfl
/-- a reader's end: the answer, nothing changed -/
def Qr (v : Option Value) (Λ : hc_L) (I : hc_I) (L : hc_J) (R : hc_R) : hc_Q := fun r Λ' I' L' R' => r = v ∧ Λ = Λ' ∧ I = I' ∧ L = L' ∧ R = R'
theorem Qr.mk {v v' : Option Value} {Λ : hc_L} {I : hc_I} {L : hc_J} {R : hc_R} (h : v' = v) : Qr v Λ I L R v' Λ I L R := ⟨h, rfl, rfl, rfl, rfl⟩
theorem hc_inc (n : Nat) : nI n + Int32.ofInt 1 = nI (n + 1) := (inc_ofNat n).symm
theorem hc_down {N : Nat} {P : Nat → Prop} (h0 : P N) (hs : ∀ i, i < N → P (i + 1) → P i) : ∀ i, i ≤ N → P i := by
  intro i hi
  obtain ⟨k, rfl⟩ : ∃ k, N = i + k := ⟨N - i, by omega⟩
  clear hi
  induction k generalizing i with
  | zero => exact h0
  | succ k ih => exact hs i (by omega) (ih (i + 1) (by rw [show i + 1 + k = i + (k + 1) by omega]; exact h0) (fun j hj => hs j (by omega)))
theorem hc_lt {a b : Nat} (ha : a < 2 ^ 31) (hb : b < 2 ^ 31) : nI a < nI b ↔ a < b := by
  rw [Int32.lt_iff_toInt_lt, toInt_of (n := nI a) rfl ha, toInt_of (n := nI b) rfl hb]
  omega
theorem hc_le {a b : Nat} (ha : a < 2 ^ 31) (hb : b < 2 ^ 31) : nI a ≤ nI b ↔ a ≤ b := by
  rw [Int32.le_iff_toInt_le, toInt_of (n := nI a) rfl ha, toInt_of (n := nI b) rfl hb]
  omega
theorem hc_eq {a b : Nat} (ha : a < 2 ^ 31) (hb : b < 2 ^ 31) : nI a = nI b ↔ a = b := by
  constructor
  · intro h
    have h1 := congrArg Int32.toInt h
    rw [toInt_of (n := nI a) rfl ha, toInt_of (n := nI b) rfl hb] at h1
    omega
  · rintro rfl
    rfl
theorem hc_nn {x : Int32} (h : 0 ≤ x) : ∃ n : Nat, n < 2 ^ 31 ∧ x = nI n := by
  have h0 : 0 ≤ x.toInt := by simpa using Int32.le_iff_toInt_le.mp h
  have h2 : x.toInt < 2 ^ 31 := by have := Int32.toInt_lt x; omega
  refine ⟨x.toInt.toNat, by omega, ?_⟩
  apply Int32.toInt_inj.mp
  rw [toInt_of (n := nI _) rfl (by omega)]
  omega
section HCT
variable {cx : hc_X} {ac : Nat × Nat} {pc : Nat} {ls : List (Nat × Value)} {st : List Value} {Λ : hc_L} {I : hc_I} {L : hc_J} {R : hc_R} {Q : hc_Q}
theorem LW_bif_eq {b : Bool} {off : Int} {tgt : Nat} (hd : decode (xC cx) pc = .ok (.ifCond .eq off, 3)) (ht : (pc : Int) + off = (tgt : Int)) (kt : b = false → LW cx ac tgt ls st Λ I L R Q) (kf : b = true → LW cx ac (pc + 3) ls st Λ I L R Q) : LW cx ac pc ls (.int (hc_b b) :: st) Λ I L R Q :=
  LW_if_eq hd ht (fun h => kt ((hc_b0 b).mp h)) (fun h => kf (by cases b; exact absurd rfl h; rfl))
theorem LW_bif_ne {b : Bool} {off : Int} {tgt : Nat} (hd : decode (xC cx) pc = .ok (.ifCond .ne off, 3)) (ht : (pc : Int) + off = (tgt : Int)) (kt : b = true → LW cx ac tgt ls st Λ I L R Q) (kf : b = false → LW cx ac (pc + 3) ls st Λ I L R Q) : LW cx ac pc ls (.int (hc_b b) :: st) Λ I L R Q :=
  LW_if_ne hd ht (fun h => kt (by cases b; exact absurd rfl h; rfl)) (fun h => kf ((hc_b0 b).mp (Classical.not_not.mp h)))
theorem LW_bret {b : Bool} (hd : decode (xC cx) pc = .ok (.ireturn, 1)) (hr : xT cx = some .boolean) (h1 : ac.1 ≤ xM cx) (h2 : ac.2 ≤ xS cx) (hQ : Q (some (.int (hc_b b))) Λ I L R) : LW cx ac pc ls [.int (hc_b b)] Λ I L R Q := LW_zret hd hr h1 h2 (hc_b01 b) hQ
/-- a return of a small type -/
theorem LW_nret {x : Int32} {ty : FieldType} (hd : decode (xC cx) pc = .ok (.ireturn, 1)) (hr : xT cx = some ty) (h1 : ac.1 ≤ xM cx) (h2 : ac.2 ≤ xS cx) (hn : narrow ty (.int x) = .int x) (hQ : Q (some (.int x)) Λ I L R) : LW cx ac pc ls [.int x] Λ I L R Q := by
  intro l E p e s m args below meth c H locs la B hW hS hl
  refine W.widen h1 h2 ?_
  exact W.zret (ty := ty) B.1 B.2.1 (B.2.2.1.trans hr) hn (fun t ht _ => ⟨some (.int x), Λ, I, L, R, rfl, hQ, by rw [ht]; exact hW, hS.F ht⟩) hS.2.2 hd B.2.2.2.2.2.2.1
theorem LW_aald4s {k n N r : Nat} {i : Int32} (hd : decode (xC cx) pc = .ok (.aaload, 1)) (hk : k < Λ.1) (hy : Λ.2.1 k = (4, N)) (hi : i = nI n) (hn : n < N) (hN : N < 2 ^ 31) (hR : R k n = some r) (kk : LW cx ac (pc + 1) ls (.ref r :: st) Λ I L R Q) : LW cx ac pc ls (.int i :: .ref k :: st) Λ I L R Q :=
  LW_aald4 hd hk hy hi hn hN (by rw [hR]; exact kk)
theorem LW_aald5s {k n N r : Nat} {i : Int32} (hd : decode (xC cx) pc = .ok (.aaload, 1)) (hk : k < Λ.1) (hy : Λ.2.1 k = (5, N)) (hi : i = nI n) (hn : n < N) (hN : N < 2 ^ 31) (hR : R k n = some r) (kk : LW cx ac (pc + 1) ls (.ref r :: st) Λ I L R Q) : LW cx ac pc ls (.int i :: .ref k :: st) Λ I L R Q :=
  LW_aald5 hd hk hy hi hn hN (by rw [hR]; exact kk)
/-! what was there before: texts, the table of the rules -/
theorem hc_ad6 (E : hc_E) (i : Nat) : hc_ad E (1000000 + i) = eS E i := by
  unfold hc_ad
  rw [if_neg (by omega), Nat.add_sub_cancel_left]
theorem LW_ldcS {i idx : Nat} {tx : String} (hd : decode (xC cx) pc = .ok (.ldc idx, 2)) (hq : hc_strs[i]? = some ((xY cx).cls, idx, tx)) (kk : LW cx ac (pc + 2) ls (.ref (1000000 + i) :: st) Λ I L R Q) : LW cx ac pc ls st Λ I L R Q := by
  intro l E p e s m args below meth c H locs la B hW hS hl
  have k1 := kk l E p e s m args below meth c H locs la B hW hS hl
  obtain ⟨b1, b2, b3, b4, b5, b6, b7, b8, b9, b10⟩ := B
  refine va_ldcS b1 b2 b5 (b9.2.2.2.1 i _ hq) hd ?_
  have e : hc_st E (.ref (1000000 + i) :: st) = .ref (eS E i) :: hc_st E st := by show Value.ref (hc_ad E _) :: _ = _; rw [hc_ad6]; rfl
  rw [e] at k1
  exact k1
theorem hc_frame {E : hc_E} {s : State} {H : Heap} {locs : List Loc} (hS : va_S (eA E) s.heap H locs) (a : Nat) (h1 : a < s.heap.size) (h2 : ¬ eA E a) : H[a]? = s.heap[a]? := hS.2.1 a h1 h2
theorem LW_getSv {i idx : Nat} (hi : i < 19) (hd : decode (xC cx) pc = .ok (.getfield idx, 3)) (hl : Cond.fieldLink (xY cx).cls idx "java/lang/String" "value" "[B" ∈ hc_T) (kk : LW cx ac (pc + 3) ls (.ref (1000000 + (50 + i)) :: st) Λ I L R Q) : LW cx ac pc ls (.ref (1000000 + i) :: st) Λ I L R Q := by
  intro l E p e s m args below meth c H locs la B hW hS hl2
  have k1 := kk l E p e s m args below meth c H locs la B hW hS hl2
  obtain ⟨b1, b2, b3, b4, b5, b6, b7, b8, b9, b10⟩ := B
  have e0 : hc_st E (.ref (1000000 + i) :: st) = .ref (eS E i) :: hc_st E st := by show Value.ref (hc_ad E _) :: _ = _; rw [hc_ad6]; rfl
  have e1 : hc_st E (.ref (1000000 + (50 + i)) :: st) = .ref (eS E (50 + i)) :: hc_st E st := by show Value.ref (hc_ad E _) :: _ = _; rw [hc_ad6]; rfl
  rw [e0]
  rw [e1] at k1
  exact vk_getf b1 b2 (b9.2.2.2.2.1.1 i hi).2.2.1 hS b5 (b6 _ hl) (fun _ h => h) hd k1
theorem LW_getSc {i idx : Nat} (hi : i < 19) (hd : decode (xC cx) pc = .ok (.getfield idx, 3)) (hl : Cond.fieldLink (xY cx).cls idx "java/lang/String" "coder" "B" ∈ hc_T) (kk : LW cx ac (pc + 3) ls (.int 0 :: st) Λ I L R Q) : LW cx ac pc ls (.ref (1000000 + i) :: st) Λ I L R Q := by
  intro l E p e s m args below meth c H locs la B hW hS hl2
  have k1 := kk l E p e s m args below meth c H locs la B hW hS hl2
  obtain ⟨b1, b2, b3, b4, b5, b6, b7, b8, b9, b10⟩ := B
  have e0 : hc_st E (.ref (1000000 + i) :: st) = .ref (eS E i) :: hc_st E st := by show Value.ref (hc_ad E _) :: _ = _; rw [hc_ad6]; rfl
  rw [e0]
  exact vk_getf b1 b2 (b9.2.2.2.2.1.1 i hi).2.1 hS b5 (b6 _ hl) (fun _ h => h) hd k1
theorem LW_alenS {i : Nat} (hi : i < 19) (hd : decode (xC cx) pc = .ok (.arraylength, 1)) (kk : LW cx ac (pc + 1) ls (.int (nI (hc_len.getD i 0)) :: st) Λ I L R Q) : LW cx ac pc ls (.ref (1000000 + (50 + i)) :: st) Λ I L R Q := by
  intro l E p e s m args below meth c H locs la B hW hS hl2
  have k1 := kk l E p e s m args below meth c H locs la B hW hS hl2
  obtain ⟨b1, b2, b3, b4, b5, b6, b7, b8, b9, b10⟩ := B
  have e1 : hc_st E (.ref (1000000 + (50 + i)) :: st) = .ref (eS E (50 + i)) :: hc_st E st := by show Value.ref (hc_ad E _) :: _ = _; rw [hc_ad6]; rfl
  rw [e1]
  exact va_tlen b1 b2 (b9.2.2.2.2.1.1 i hi).2.2.2 hS rfl hd k1
theorem LW_baldS {i n : Nat} {x : Int32} (hi : i < 19) (hd : decode (xC cx) pc = .ok (.baload, 1)) (hx : x = nI n) (hn : n < hc_len.getD i 0) (hN : hc_len.getD i 0 < 2 ^ 31) (kk : LW cx ac (pc + 1) ls (.int ((hc_byt.getD i []).getD n 0) :: st) Λ I L R Q) : LW cx ac pc ls (.int x :: .ref (1000000 + (50 + i)) :: st) Λ I L R Q := by
  intro l E p e s m args below meth c H locs la B hW hS hl2
  have k1 := kk l E p e s m args below meth c H locs la B hW hS hl2
  obtain ⟨b1, b2, b3, b4, b5, b6, b7, b8, b9, b10⟩ := B
  obtain ⟨v1, v2⟩ := hc_vin hx hn hN
  have e1 : hc_st E (.int x :: .ref (1000000 + (50 + i)) :: st) = .int x :: .ref (eS E (50 + i)) :: hc_st E st := by show _ :: Value.ref (hc_ad E _) :: _ = _; rw [hc_ad6]; rfl
  rw [e1]
  exact va_tb b1 b2 (b9.2.2.2.2.1.1 i hi).2.2.2 hS v1 (by rw [v2]; rfl) hd k1
theorem LW_getsC {idx : Nat} (hd : decode (xC cx) pc = .ok (.getstatic idx, 3)) (hl : Cond.fieldLink (xY cx).cls idx "java/lang/String" "COMPACT_STRINGS" "Z" ∈ hc_T) (kk : LW cx ac (pc + 3) ls (.int 1 :: st) Λ I L R Q) : LW cx ac pc ls st Λ I L R Q := by
  intro l E p e s m args below meth c H locs la B hW hS hl2
  have k1 := kk l E p e s m args below meth c H locs la B hW hS hl2
  obtain ⟨b1, b2, b3, b4, b5, b6, b7, b8, b9, b10⟩ := B
  exact va_gets b1 b2 b9.2.2.2.2.2.1 hS b5 (b6 _ hl) (fun _ h => h) hd k1
theorem LW_getsP {idx : Nat} (hd : decode (xC cx) pc = .ok (.getstatic idx, 3)) (hl : Cond.fieldLink (xY cx).cls idx "jdk/internal/util/Preconditions" "SIOOBE_FORMATTER" "Ljava/util/function/BiFunction;" ∈ hc_T) (kk : ∀ v : Value, v.category = 1 → LW cx ac (pc + 3) ls (v :: st) Λ I L R Q) : LW cx ac pc ls st Λ I L R Q := by
  intro l E p e s m args below meth c H locs la B hW hS hl2
  have B0 := B
  obtain ⟨b1, b2, b3, b4, b5, b6, b7, b8, b9, b10⟩ := B
  rcases b9.2.2.2.2.2.2.1 with h | h
  · exact va_gets b1 b2 h hS b5 (b6 _ hl) (fun _ h => h) hd (kk .null rfl l E p e s m args below meth c H locs la B0 hW hS hl2)
  · have k1 := kk (.ref (1000000 + 101)) rfl l E p e s m args below meth c H locs la B0 hW hS hl2
    have e1 : hc_st E (.ref (1000000 + 101) :: st) = .ref (eS E 101) :: hc_st E st := by show Value.ref (hc_ad E _) :: _ = _; rw [hc_ad6]; rfl
    rw [e1] at k1
    exact va_gets b1 b2 h hS b5 (b6 _ hl) (fun _ h => h) hd k1
theorem LW_getsR {idx : Nat} (hd : decode (xC cx) pc = .ok (.getstatic idx, 3)) (hl : Cond.fieldLink (xY cx).cls idx "HailClub" "RULE_MOST" "[I" ∈ hc_T ∨ Cond.fieldLinkNest (xY cx).cls idx "HailClub" "RULE_MOST" "[I" "HailClub" ∈ hc_N) (kk : LW cx ac (pc + 3) ls (.ref (1000000 + 100) :: st) Λ I L R Q) : LW cx ac pc ls st Λ I L R Q := by
  intro l E p e s m args below meth c H locs la B hW hS hl2
  have k1 := kk l E p e s m args below meth c H locs la B hW hS hl2
  obtain ⟨b1, b2, b3, b4, b5, b6, b7, b8, b9, b10⟩ := B
  have e1 : hc_st E (.ref (1000000 + 100) :: st) = .ref (eS E 100) :: hc_st E st := by show Value.ref (hc_ad E _) :: _ = _; rw [hc_ad6]; rfl
  rw [e1] at k1
  rcases hl with hl | hl
  · exact va_gets b1 b2 b9.2.2.2.2.2.2.2.1 hS b5 (b6 _ hl) (fun _ h => h) hd k1
  · exact va_getsN b1 b2 b9.2.2.2.2.2.2.2.1 hS b5 (va_Nw.use rfl (b9.2.2.1 _ hl)) (fun _ h => h) hd k1
theorem LW_ialdR {n : Nat} {x : Int32} (hd : decode (xC cx) pc = .ok (.iaload, 1)) (hx : x = nI n) (hn : n < 7) (kk : LW cx ac (pc + 1) ls (.int (hc_rm7 n) :: st) Λ I L R Q) : LW cx ac pc ls (.int x :: .ref (1000000 + 100) :: st) Λ I L R Q := by
  intro l E p e s m args below meth c H locs la B hW hS hl2
  have k1 := kk l E p e s m args below meth c H locs la B hW hS hl2
  obtain ⟨b1, b2, b3, b4, b5, b6, b7, b8, b9, b10⟩ := B
  obtain ⟨v1, v2⟩ := hc_vin hx hn (by omega)
  have e1 : hc_st E (.int x :: .ref (1000000 + 100) :: st) = .int x :: .ref (eS E 100) :: hc_st E st := by show _ :: Value.ref (hc_ad E _) :: _ = _; rw [hc_ad6]; rfl
  rw [e1]
  exact va_ti b1 b2 b9.2.2.2.2.2.2.2.2 hS v1 (by rw [v2]; rfl) hd k1
theorem LW_i2c {x : Int32} (hd : decode (xC cx) pc = .ok (.i2c, 1)) (kk : LW cx ac (pc + 1) ls (.int (x.toUInt32 % 65536).toInt32 :: st) Λ I L R Q) : LW cx ac pc ls (.int x :: st) Λ I L R Q := by
  intro l E p e s m args below meth c H locs la B hW hS hl
  exact lv_i2c B.1 B.2.1 hd rfl (kk l E p e s m args below meth c H locs la B hW hS hl)
/-- a call of a text's own method -/
theorem LW_callT {Q' : hc_Q} {stk : List Value} {cx' : hc_X} {As : List Value} {b n idx : Nat} (hb : b < 19) (hrun : Run cx' (.ref (1000000 + b) :: As) Λ I L R Q') (hY : hc_YV cx' n) (hn : As.length = n) (hd : decode (xC cx) pc = .ok (.invokevirtual idx, 3)) (hl : Cond.methodLink (xY cx).cls idx (xY cx') ∈ hc_T) (hc : (xY cx').cls = "java/lang/String") (hD : xD cx' + 1 ≤ xD cx) (hm : ac.1 + xM cx' ≤ xM cx ∧ ac.2 + xS cx' ≤ xS cx) (hst : (st.map Value.category).sum ≤ 8) (hs : stk = As.reverse ++ .ref (1000000 + b) :: st)
    (kk : ∀ r Λ' I' L' R', Q' r Λ' I' L' R' → LW cx (ac.1 + xM cx', ac.2 + xS cx') (pc + 3) ls (r.toList ++ st) Λ' I' L' R' Q) : LW cx ac pc ls stk Λ I L R Q := by
  subst hs
  intro l E p e s m args below meth c H locs la B hW hS hl2
  have B0 := B
  obtain ⟨b1, b2, b3, b4, b5, b6, b7, b8, b9, b10⟩ := B
  obtain ⟨cell, g1, g2, g3⟩ := vk_recv b9.2.2.2.2.1 hb hS
  refine hc_goes (cx' := cx') B0 hl2 (va_runV (C := (xY cx').cls) (As := hc_st E As) (rest := hc_st E st) (b := eS E b) ⟨b1, b2, b4, b5, b6⟩ (hrun l E) (cwV n b6 (hc_goodV hY hl) rfl rfl rfl ⟨rfl, hY.1.2.2.1⟩ ⟨hD, by show 8 + (xN cx' + 11) + 64 * xD cx' ≤ 64 * xD cx; have := hY.1.2.2.2; omega⟩) ⟨hc_blind E _ Λ I L R, ⟨cell, g1, g2, by rw [hc]; exact g3⟩, fun U hU hw => ?_⟩ rfl (by rw [← hn]; exact List.length_map ..) hl2.1 ?_ (lv_room (by rw [hc_catsum]; exact hst)) hd hm) hS kk
  · have h := hc_preOk (as := .ref (1000000 + b) :: As) b9 hS hW hU hw
    have e0 : hc_st E (.ref (1000000 + b) :: As) = .ref (eS E b) :: hc_st E As := by show Value.ref (hc_ad E _) :: _ = _; rw [hc_ad6]; rfl
    rw [e0] at h
    exact h
  · unfold hc_st
    rw [List.map_append, List.map_cons, List.map_reverse]
    show _ ++ Value.ref (hc_ad E _) :: _ = _
    rw [hc_ad6]
end HCT
