/-! THE CLAIM OUT OF ONE WALK OF THE LAW'S BODY. Your part is whole_start (and what it stands on); all else here is the same for every law, but numbers. -/
def R_law : String := "HailClubLaw"
def lw_P (b : Addr) (xs : List Int32) (args : Array Value) (s : State) : Prop := args = #[.ref b] ∧ s.IntsAt b xs ∧ xs.length ≤ 3072 ∧ (Jvm.Cond.and given_1 narrow_1).before args s = true
def lw_Q (_ : Array Value) (s : State) (o : Outcome) (t : State) : Prop := o = .returned (some (.int 1)) ∧ Framed s o t [] 600000 7302250
def lw_Z (below : List Frame) (a : Array Value) (s : State) : State → Prop := fun t => ∃ o, t.status = .running ∧ Ended t below o ∧ lw_Q a s o t
/-- the law's own end, with 1 on the stack, nothing written that was there before, its room as the claim has it -/
theorem lw_ret {p : Program} {l : Launch} {e : Env} {s : State} {m : MethodId} {below : List Frame} {meth : Method} {c : Code} {b : Nat} (hx : p.tables.exec = Jvm.exec) (hb : c.code = code) (hr : meth.sig.returnType = ret) (hlocks : meth.locks = false) {pc : Nat} {H : Heap} {ls : Array Slot} (hdg : decode code pc = .ok (.ireturn, 1)) : W p l e room_1 s m #[Value.ref b] below meth c H [] 600000 7302250 (lw_Z below #[Value.ref b] s) (F0 m pc ls [.int 1]) := by
  intro T hT X
  obtain ⟨fs, hret, hrun, hended, hW, hframe⟩ := X.leave (v := some (.int 1)) (hlocks := hlocks) (fun h => by rw [hr] at h; cases h)
  have hmeth' : T.vm.method? m = some meth := X.method'
  refine ⟨T.setFrames fs, ?_, .returned (some (.int 1)), hrun, hended, rfl, ⟨_, rfl⟩, hW, hframe⟩
  jvm_step X.here [X.here.top, hx, hb, hdg, hmeth', hr, ret, narrow_b1]
  (try refine ⟨rfl, ?_⟩); (try refine ⟨rfl, ?_⟩)
  first | (intro acts; rw [hret _ acts rfl rfl rfl]) | rw [hret _ _ rfl rfl rfl]
  exact Steps.refl _
/-- what holds at the law's entry: the machine, the code, the tables' words (any of lw_tbl by 'hts w (by decide +kernel)'), the script of L ints xs at the cell b, what the Statement gives of the start (any of its parts by flat_of_before) -/
def lw_At (p : Program) (s : State) (m : MethodId) (meth : Method) (c : Code) (b L : Nat) (xs : Nat → Int32) : Prop :=
  p.tables.exec = Jvm.exec ∧ c.code = code ∧ meth.sig.returnType = ret ∧ c.maxLocals = 4 ∧ s.vm.findClass R_law = some m.cls ∧ (∀ w ∈ lw_tbl, w.before #[Value.ref b] s = true) ∧ va_X b L xs s s.heap ∧ b < s.heap.size ∧ meth.locks = false ∧ (Jvm.Cond.and given_1 narrow_1).before #[Value.ref b] s = true

/-! THE LAW'S JUDGEMENT. g: what is fixed in the law's walk. GW g ac pc ls st Λ I L R: from there the law ends with 1. The script is the id 1000200. -/
abbrev hc_G : Type := Program × Launch × Env × State × MethodId × List Frame × Method × Code × Nat × hc_E
abbrev lqP (g : hc_G) : Program := g.1
abbrev lqL (g : hc_G) : Launch := g.2.1
abbrev lqV (g : hc_G) : Env := g.2.2.1
abbrev lqS (g : hc_G) : State := g.2.2.2.1
abbrev lqM (g : hc_G) : MethodId := g.2.2.2.2.1
abbrev lqF (g : hc_G) : List Frame := g.2.2.2.2.2.1
abbrev lqT (g : hc_G) : Method := g.2.2.2.2.2.2.1
abbrev lqC (g : hc_G) : Code := g.2.2.2.2.2.2.2.1
abbrev lqB (g : hc_G) : Nat := g.2.2.2.2.2.2.2.2.1
abbrev lqE (g : hc_G) : hc_E := g.2.2.2.2.2.2.2.2.2
def GW (g : hc_G) (ac : Nat × Nat) (pc : Nat) (ls : List (Nat × Value)) (st : List Value) (Λ : hc_L) (I : hc_I) (L : hc_J) (R : hc_R) : Prop :=
  ∀ (H : Heap) (locs : List Loc) (la : Array Slot), hc_W (lqE g) Λ I L R H → va_S (eA (lqE g)) (lqS g).heap H locs → lv_has la 4 (hc_ls (lqE g) ls) →
    W (lqP g) (lqL g) (lqV g) room_1 (lqS g) (lqM g) #[Value.ref (lqB g)] (lqF g) (lqT g) (lqC g) H locs ac.1 ac.2 (lw_Z (lqF g) #[Value.ref (lqB g)] (lqS g)) (F0 (lqM g) pc la (hc_st (lqE g) st))
def GA (g : hc_G) (Ln : Nat) (xs : Nat → Int32) : Prop := lw_At (lqP g) (lqS g) (lqM g) (lqT g) (lqC g) (lqB g) Ln xs ∧ hc_K (lqE g) (lqS g) ∧ eB (lqE g) = (lqS g).heap.size ∧ eS (lqE g) 200 = lqB g ∧ Ln ≤ 3072
section GWR
variable {g : hc_G} {Ln : Nat} {xs : Nat → Int32} {ac : Nat × Nat} {pc : Nat} {ls : List (Nat × Value)} {st stk : List Value} {Λ : hc_L} {I : hc_I} {L : hc_J} {R : hc_R} {Q' : hc_Q}
theorem GA.T (G : GA g Ln xs) : ∀ w ∈ hc_T, w.before #[Value.ref (lqB g)] (lqS g) = true := fun w h => G.1.2.2.2.2.2.1 w (hc_sub w h)
theorem GA.own (G : GA g Ln xs) : (lqS g).vm.findClass R_law = some (lqM g).cls := G.1.2.2.2.2.1
theorem GA.ml (G : GA g Ln xs) : (lqC g).maxLocals = 4 := G.1.2.2.2.1
theorem GW_iloadn (G : GA g Ln xs) {i : Fin 4} {j : Nat} {x : Int32} (n : Nat) (hd : decode cL_law pc = .ok (.iload_n i, 1)) (hi : (i : Nat) = j) (hk : ls[n]? = some (j, .int x)) (k : GW g ac (pc + 1) ls (.int x :: st) Λ I L R) : GW g ac pc ls (st) Λ I L R := by
  intro H locs la hW hS hl
  exact lv_iload_n G.1.1 G.1.2.1 hd hi (hc_at hl hk) (k H locs la hW hS hl)
theorem GW_aloadn (G : GA g Ln xs) {i : Fin 4} {j : Nat} {x : Nat} (n : Nat) (hd : decode cL_law pc = .ok (.aload_n i, 1)) (hi : (i : Nat) = j) (hk : ls[n]? = some (j, .ref x)) (k : GW g ac (pc + 1) ls (.ref x :: st) Λ I L R) : GW g ac pc ls (st) Λ I L R := by
  intro H locs la hW hS hl
  exact lv_aload_n G.1.1 G.1.2.1 hd hi (hc_at hl hk) (k H locs la hW hS hl)
theorem GW_istoren (G : GA g Ln xs) {f : Fin 4} {i : Nat} {x : Int32} {ls' : List (Nat × Value)} (hd : decode cL_law pc = .ok (.istore_n f, 1)) (hi : (f : Nat) = i) (hx : i < 4) (hs : hc_set ls i (.int x) = ls') (k : GW g ac (pc + 1) ls' st Λ I L R) : GW g ac pc ls (.int x :: st) Λ I L R := by
  intro H locs la hW hS hl
  refine lv_istore_n G.1.1 G.1.2.1 hd hi hl hx rfl (fun la' hl' => ?_)
  exact k H locs la' hW hS (hs ▸ hc_setl (v := .int x) (fun q hq hp => List.mem_filter.mpr ⟨hq, by simpa [hc_kp, Value.category] using hp⟩) hl')
theorem GW_astoren (G : GA g Ln xs) {f : Fin 4} {i : Nat} {x : Nat} {ls' : List (Nat × Value)} (hd : decode cL_law pc = .ok (.astore_n f, 1)) (hi : (f : Nat) = i) (hx : i < 4) (hs : hc_set ls i (.ref x) = ls') (k : GW g ac (pc + 1) ls' st Λ I L R) : GW g ac pc ls (.ref x :: st) Λ I L R := by
  intro H locs la hW hS hl
  refine lv_astore_n G.1.1 G.1.2.1 hd hi hl hx rfl (fun la' hl' => ?_)
  exact k H locs la' hW hS (hs ▸ hc_setl (v := .ref x) (fun q hq hp => List.mem_filter.mpr ⟨hq, by simpa [hc_kp, Value.category] using hp⟩) hl')
theorem GW_iinc (G : GA g Ln xs) {i n : Nat} {a : Int} {x v : Int32} {ls' : List (Nat × Value)} (hd : decode cL_law pc = .ok (.iinc i a, 3)) (hk : ls[n]? = some (i, .int x)) (hv : x + Int32.ofInt a = v) (hx : i < 4) (hs : hc_set ls i (.int v) = ls') (k : GW g ac (pc + 3) ls' st Λ I L R) : GW g ac pc ls st Λ I L R := by
  intro H locs la hW hS hl
  refine lv_iinc G.1.1 G.1.2.1 hd hl (k := n) (by simp only [hc_ls, List.getElem?_map, hk]; rfl) hv hx rfl (fun la' hl' => ?_)
  exact k H locs la' hW hS (hs ▸ hc_setl (v := .int v) (fun q hq hp => List.mem_filter.mpr ⟨hq, by simpa [hc_kp, Value.category] using hp⟩) hl')
theorem GW_iconst (G : GA g Ln xs) {n : Int} {v : Int32} (hd : decode cL_law pc = .ok (.iconst n, 1)) (hv : Int32.ofInt n = v) (k : GW g ac (pc + 1) ls (.int v :: st) Λ I L R) : GW g ac pc ls (st) Λ I L R := by
  intro H locs la hW hS hl
  exact lv_iconst G.1.1 G.1.2.1 hd hv (k H locs la hW hS hl)
theorem GW_bipush (G : GA g Ln xs) {n : Int} {v : Int32} (hd : decode cL_law pc = .ok (.bipush n, 2)) (hv : (Int8.ofInt n).toInt32 = v) (k : GW g ac (pc + 2) ls (.int v :: st) Λ I L R) : GW g ac pc ls (st) Λ I L R := by
  intro H locs la hW hS hl
  exact lv_bipush G.1.1 G.1.2.1 hd hv (k H locs la hW hS hl)
theorem GW_iadd (G : GA g Ln xs) {x y : Int32} (hd : decode cL_law pc = .ok (.iadd, 1)) (k : GW g ac (pc + 1) ls (.int (x + y) :: st) Λ I L R) : GW g ac pc ls (.int y :: .int x :: st) Λ I L R := by
  intro H locs la hW hS hl
  exact lv_iadd G.1.1 G.1.2.1 hd (k H locs la hW hS hl)
theorem GW_isub (G : GA g Ln xs) {x y : Int32} (hd : decode cL_law pc = .ok (.isub, 1)) (k : GW g ac (pc + 1) ls (.int (x - y) :: st) Λ I L R) : GW g ac pc ls (.int y :: .int x :: st) Λ I L R := by
  intro H locs la hW hS hl
  exact lv_isub G.1.1 G.1.2.1 hd (k H locs la hW hS hl)
theorem GW_iand (G : GA g Ln xs) {x y : Int32} (hd : decode cL_law pc = .ok (.iand, 1)) (k : GW g ac (pc + 1) ls (.int (x &&& y) :: st) Λ I L R) : GW g ac pc ls (.int y :: .int x :: st) Λ I L R := by
  intro H locs la hW hS hl
  exact lv_iand G.1.1 G.1.2.1 hd (k H locs la hW hS hl)
theorem GW_lcmp (G : GA g Ln xs) {x y : Int64} (hd : decode cL_law pc = .ok (.lcmp, 1)) (k : GW g ac (pc + 1) ls (.int (lg_cmp x y) :: st) Λ I L R) : GW g ac pc ls (.long y :: .long x :: st) Λ I L R := by
  intro H locs la hW hS hl
  exact W.lcmp G.1.1 G.1.2.1 hd (k H locs la hW hS hl)
theorem GW_dup (G : GA g Ln xs) {v : Value} (hd : decode cL_law pc = .ok (.dup, 1)) (hv : v.category = 1) (k : GW g ac (pc + 1) ls (v :: v :: st) Λ I L R) : GW g ac pc ls (v :: st) Λ I L R := by
  intro H locs la hW hS hl
  exact lv_dup G.1.1 G.1.2.1 hd ((hc_cat _ v).trans hv) (k H locs la hW hS hl)
theorem GW_goto (G : GA g Ln xs) {off : Int} {tgt : Nat} (hd : decode cL_law pc = .ok (.goto off, 3)) (ht : (pc : Int) + off = (tgt : Int)) (k : GW g ac (tgt) ls (st) Λ I L R) : GW g ac pc ls (st) Λ I L R := by
  intro H locs la hW hS hl
  exact lv_goto G.1.1 G.1.2.1 hd ht (k H locs la hW hS hl)
theorem GW_icmp_eq (G : GA g Ln xs) {x y : Int32} {off : Int} {tgt : Nat} (hd : decode cL_law pc = .ok (.if_icmp .eq off, 3)) (ht : (pc : Int) + off = (tgt : Int)) (kt : x = y → GW g ac tgt ls st Λ I L R) (kf : ¬ (x = y) → GW g ac (pc + 3) ls st Λ I L R) : GW g ac pc ls (.int y :: .int x :: st) Λ I L R := by
  intro H locs la hW hS hl
  exact lv_icmp_eq G.1.1 G.1.2.1 hd ht (fun q => kt (by simpa using q) H locs la hW hS hl) (fun q => kf (by simpa using q) H locs la hW hS hl)
theorem GW_icmp_gt (G : GA g Ln xs) {x y : Int32} {off : Int} {tgt : Nat} (hd : decode cL_law pc = .ok (.if_icmp .gt off, 3)) (ht : (pc : Int) + off = (tgt : Int)) (kt : y < x → GW g ac tgt ls st Λ I L R) (kf : ¬ (y < x) → GW g ac (pc + 3) ls st Λ I L R) : GW g ac pc ls (.int y :: .int x :: st) Λ I L R := by
  intro H locs la hW hS hl
  exact lv_icmp_gt G.1.1 G.1.2.1 hd ht (fun q => kt (by simpa using q) H locs la hW hS hl) (fun q => kf (by simpa using q) H locs la hW hS hl)
theorem GW_if_eq (G : GA g Ln xs) {x : Int32} {off : Int} {tgt : Nat} (hd : decode cL_law pc = .ok (.ifCond .eq off, 3)) (ht : (pc : Int) + off = (tgt : Int)) (kt : x = 0 → GW g ac tgt ls st Λ I L R) (kf : ¬ (x = 0) → GW g ac (pc + 3) ls st Λ I L R) : GW g ac pc ls (.int x :: st) Λ I L R := by
  intro H locs la hW hS hl
  exact lv_if_eq G.1.1 G.1.2.1 hd ht (fun q => kt (by simpa using q) H locs la hW hS hl) (fun q => kf (by simpa using q) H locs la hW hS hl)
theorem GW_tableIn (G : GA g Ln xs) {dflt lo hi : Int} {offs : Array Int} {len : Nat} {x : Int32} {off : Int} {tgt : Nat} (hd : decode cL_law pc = .ok (.tableswitch dflt lo hi offs, len)) (h1 : ¬ x.toInt < lo) (h2 : ¬ hi < x.toInt) (ho : offs[(x.toInt - lo).toNat]? = some off) (ht : (pc : Int) + off = (tgt : Int)) (k : GW g ac (tgt) ls (st) Λ I L R) : GW g ac pc ls (.int x :: st) Λ I L R := by
  intro H locs la hW hS hl
  exact lv_tableIn G.1.1 G.1.2.1 hd h1 h2 ho ht (k H locs la hW hS hl)
theorem GW_tableOut (G : GA g Ln xs) {dflt lo hi : Int} {offs : Array Int} {len : Nat} {x : Int32} {tgt : Nat} (hd : decode cL_law pc = .ok (.tableswitch dflt lo hi offs, len)) (h : x.toInt < lo ∨ hi < x.toInt) (ht : (pc : Int) + dflt = (tgt : Int)) (k : GW g ac (tgt) ls (st) Λ I L R) : GW g ac pc ls (.int x :: st) Λ I L R := by
  intro H locs la hW hS hl
  exact lv_tableOut G.1.1 G.1.2.1 hd h ht (k H locs la hW hS hl)
theorem GW_slen (G : GA g Ln xs) (hd : decode cL_law pc = .ok (.arraylength, 1)) (k : GW g ac (pc + 1) ls (.int (nI Ln) :: st) Λ I L R) : GW g ac pc ls (.ref 1000200 :: st) Λ I L R := by
  intro H locs la hW hS hl
  obtain ⟨⟨hx, hb, -, -, -, -, hX, hbl, -, -⟩, -, qB, qS, -⟩ := G
  have e0 : hc_st (lqE g) (.ref 1000200 :: st) = .ref (lqB g) :: hc_st (lqE g) st := by
    show Value.ref (hc_ad (lqE g) 1000200) :: _ = _
    rw [show hc_ad (lqE g) 1000200 = lqB g from (if_neg (by decide)).trans qS]
    rfl
  rw [e0]
  exact va_slen hx hb hX hbl (by show ¬ eB (lqE g) ≤ _; rw [qB]; exact Nat.not_le.mpr hbl) hS hd (k H locs la hW hS hl)
theorem GW_sld (G : GA g Ln xs) {n : Nat} {i : Int32} (hd : decode cL_law pc = .ok (.iaload, 1)) (hi : i = nI n) (hn : n < Ln) (k : GW g ac (pc + 1) ls (.int (xs n) :: st) Λ I L R) : GW g ac pc ls (.int i :: .ref 1000200 :: st) Λ I L R := by
  intro H locs la hW hS hl
  obtain ⟨⟨hx, hb, -, -, -, -, hX, hbl, -, -⟩, -, qB, qS, h3⟩ := G
  have e0 : hc_st (lqE g) (.int i :: .ref 1000200 :: st) = .int i :: .ref (lqB g) :: hc_st (lqE g) st := by
    show _ :: Value.ref (hc_ad (lqE g) 1000200) :: _ = _
    rw [show hc_ad (lqE g) 1000200 = lqB g from (if_neg (by decide)).trans qS]
    rfl
  rw [e0]
  obtain ⟨v1, v2⟩ := hc_vin hi hn (by omega)
  refine va_sld hx hb hX hbl (by show ¬ eB (lqE g) ≤ _; rw [qB]; exact Nat.not_le.mpr hbl) hS v1 hd ?_
  rw [v2]
  exact k H locs la hW hS hl
/-- an argument: the script at i + n -/
theorem GW_arg (G : GA g Ln xs) {i n : Nat} {c : Int} {v : Int32} (h0 : decode cL_law pc = .ok (.aload_n 0, 1)) (h1 : decode cL_law (pc + 1) = .ok (.iload_n 3, 1)) (h2 : decode cL_law (pc + 2) = .ok (.iconst c, 1)) (h3 : decode cL_law (pc + 3) = .ok (.iadd, 1)) (h4 : decode cL_law (pc + 4) = .ok (.iaload, 1)) (hv : Int32.ofInt c = v) (hc : v = nI n) (hls : ls = [(0, .ref 1000200), (1, .ref 0), (2, .ref 217), (3, .int (nI i))]) (hn : i + n < Ln)
    (k : GW g ac (pc + 5) ls (.int (xs (i + n)) :: st) Λ I L R) : GW g ac pc ls st Λ I L R := by
  subst hls
  refine GW_aloadn G 0 h0 rfl rfl ?_
  refine GW_iloadn G 3 h1 rfl rfl ?_
  refine GW_iconst G h2 hv ?_
  refine GW_iadd G h3 ?_
  exact GW_sld G h4 (by rw [hc, nI_add]) hn k
theorem GW_ret (G : GA g Ln xs) (hd : decode cL_law pc = .ok (.ireturn, 1)) (h1 : ac.1 ≤ 600000) (h2 : ac.2 ≤ 7302250) : GW g ac pc ls [.int 1] Λ I L R := by
  intro H locs la hW hS hl
  obtain ⟨⟨hx, hb, hr, -, -, -, -, -, hlk, -⟩, -, qB, -, -⟩ := G
  refine W.widen h1 h2 (va_forget (fun q hq => ?_) ?_)
  · have := hS.2.2 q hq
    rw [← qB]
    exact this
  · exact lw_ret hx hb hr hlk hd
theorem GW_goes {cx' : hc_X} {a : Array Value} {st0 : List Value} {H : Heap} {locs : List Loc} {la : Array Slot} (hl : lv_has la 4 (hc_ls (lqE g) ls))
    (hr : va_Run (lqP g) (lqL g) (lqV g) room_1 (lqS g) (lqM g) #[Value.ref (lqB g)] (lqF g) (lqT g) (lqC g) H locs ac.1 ac.2 (xM cx') (xS cx') (F0 (lqM g) pc la st0) (hc_st (lqE g) st) (hc_Qc (lqE g) Q' a) (eA (lqE g))) (hS : va_S (eA (lqE g)) (lqS g).heap H locs)
    (kk : ∀ r Λ' I' L' R', Q' r Λ' I' L' R' → GW g (ac.1 + xM cx', ac.2 + xS cx') (pc + 3) ls (r.toList ++ st) Λ' I' L' R') : W (lqP g) (lqL g) (lqV g) room_1 (lqS g) (lqM g) #[Value.ref (lqB g)] (lqF g) (lqT g) (lqC g) H locs ac.1 ac.2 (lw_Z (lqF g) #[Value.ref (lqB g)] (lqS g)) (F0 (lqM g) pc la st0) := by
  intro T hT X
  obtain ⟨v, st₀, t, T', L', h0, X', hL, e1, e2, ⟨r, Λ', I', L'', R', hv, hq, hW', hz, hk⟩, stp⟩ := hr T hT X
  cases hv
  rw [h0] at hz hk
  have hS' : va_S (eA (lqE g)) (lqS g).heap T'.heap (locs ++ L') := ⟨Nat.le_trans hS.1 (by rw [e1]; exact hz), fun q h1 h2 => by rw [e1, hk q (Nat.lt_of_lt_of_le h1 hS.1) h2]; exact hS.2.1 q h1 h2, fun q hq => by
      rcases List.mem_append.mp hq with h | h
      · exact hS.2.2 q h
      · exact hL q h⟩
  obtain ⟨t2, a1, b1⟩ := kk r Λ' I' L'' R' hq T'.heap (locs ++ L') la (by rw [e1]; exact hW') hS' hl T' rfl X'
  refine ⟨t2, stp t2 ?_, b1⟩
  have e3 : hc_st (lqE g) (r.toList ++ st) = (r.map (hc_v (lqE g))).toList ++ hc_st (lqE g) st := by cases r <;> rfl
  rw [e3] at a1
  exact a1
theorem GW_callV (G : GA g Ln xs) {cx' : hc_X} {As : List Value} {b ci w n idx : Nat} {r : vw_C} (hrun : Run cx' (.ref b :: As) Λ I L R Q') (hY : hc_YV cx' n) (hn : As.length = n) (hd : decode cL_law pc = .ok (.invokevirtual idx, 3)) (hl : Cond.methodLink R_law idx (xY cx') ∈ hc_T) (hk : b < Λ.1) (hy : Λ.2.1 b = (100 + ci, w)) (hc : vwCl[ci]? = some r ∧ r.1 = (xY cx').cls) (hD : xD cx' ≤ 1000) (hm : ac.1 + xM cx' ≤ 600000 ∧ ac.2 + xS cx' ≤ 7302250) (hst : (st.map Value.category).sum ≤ 8) (hs : stk = As.reverse ++ .ref b :: st)
    (kk : ∀ r Λ' I' L' R', Q' r Λ' I' L' R' → GW g (ac.1 + xM cx', ac.2 + xS cx') (pc + 3) ls (r.toList ++ st) Λ' I' L' R') : GW g ac pc ls stk Λ I L R := by
  subst hs
  intro H locs la hW hS hl2
  have G0 := G
  obtain ⟨⟨b1, b2, b3, b4, b5, -, -, -, b7, -⟩, b9, qB, qS, h3⟩ := G
  have b6 := G0.T
  have hws := hW.obj hk hy hc.1
  obtain ⟨cell, g1, g2, g3, -⟩ := hws
  refine GW_goes (cx' := cx') hl2 (va_runV (C := (xY cx').cls) (As := hc_st (lqE g) As) (rest := hc_st (lqE g) st) (b := eB (lqE g) + b) ⟨b1, b2, b4, b5, b6⟩ (hrun (lqL g) (lqE g)) (cwV n b6 (hc_goodV hY hl) rfl rfl rfl ⟨rfl, hY.1.2.2.1⟩ ⟨Nat.le_trans (Nat.succ_le_succ hD) (Nat.le_of_ble_eq_true rfl), by show 8 + (xN cx' + 11) + 64 * xD cx' ≤ 84000; have := hY.1.2.2.2; omega⟩) ⟨hc_blind (lqE g) _ Λ I L R, ⟨cell, g1, by rw [g3]; rfl, by rw [g2, ← hc.2]; exact (b9.1.1 ci _ hc.1).2.1⟩, fun U hU hw => ?_⟩ rfl (by rw [← hn]; exact List.length_map ..) hl2.1 ?_ (lv_room (by rw [hc_catsum]; exact hst)) hd hm) hS kk
  · have h := hc_preOk (as := .ref b :: As) b9 hS hW hU hw
    rw [show hc_st (lqE g) (.ref b :: As) = .ref (eB (lqE g) + b) :: hc_st (lqE g) As from hc_st2 (vs := []) hW hk] at h
    exact h
  · show hc_st (lqE g) (As.reverse ++ .ref b :: st) = (hc_st (lqE g) As).reverse ++ .ref (eB (lqE g) + b) :: hc_st (lqE g) st
    rw [hc_st2 hW hk]
    unfold hc_st
    rw [List.map_reverse]
theorem GW_callI (G : GA g Ln xs) {cx' : hc_X} {As : List Value} {b n idx : Nat} (hrun : Run cx' (.ref b :: As) Λ I L R Q') (hY : hc_YI cx' n) (hn : As.length = n) (hd : decode cL_law pc = .ok (.invokespecial idx, 3)) (hl : Cond.methodLink R_law idx (xY cx') ∈ hc_T) (hk : b < Λ.1) (hD : xD cx' ≤ 1000) (hm : ac.1 + xM cx' ≤ 600000 ∧ ac.2 + xS cx' ≤ 7302250) (hst : (st.map Value.category).sum ≤ 8) (hs : stk = As.reverse ++ .ref b :: st)
    (kk : ∀ r Λ' I' L' R', Q' r Λ' I' L' R' → GW g (ac.1 + xM cx', ac.2 + xS cx') (pc + 3) ls (r.toList ++ st) Λ' I' L' R') : GW g ac pc ls stk Λ I L R := by
  subst hs
  intro H locs la hW hS hl2
  have G0 := G
  obtain ⟨⟨b1, b2, b3, b4, b5, -, -, -, b7, -⟩, b9, qB, qS, h3⟩ := G
  have b6 := G0.T
  refine GW_goes (cx' := cx') hl2 (va_runI (As := hc_st (lqE g) As) (rest := hc_st (lqE g) st) (b := eB (lqE g) + b) (bytes := xC cx') (maxL := xN cx') (ws := hc_ws cx') ⟨b1, b2, b4, b5, b6⟩ (hrun (lqL g) (lqE g)) (cwI (ws' := hc_T) n b6 (hc_goodY hY.1) (by unfold hc_ws; rw [hY.2.2.2]) rfl rfl (b6 _ hY.1.2.1) (b6 _ hl) (b6 _ hY.2.1) hY.2.2.1 hY.1.2.2.1 ⟨Nat.le_trans (Nat.succ_le_succ hD) (Nat.le_of_ble_eq_true rfl), by show 8 + (xN cx' + 11) + 64 * xD cx' ≤ 84000; have := hY.1.2.2.2; omega⟩) ⟨hc_blind (lqE g) _ Λ I L R, fun U hU hw => ?_⟩ rfl (by rw [← hn]; exact List.length_map ..) hl2.1 ?_ (lv_room (by rw [hc_catsum]; exact hst)) hd hm) hS kk
  · have h := hc_preOk (as := .ref b :: As) b9 hS hW hU hw
    rw [show hc_st (lqE g) (.ref b :: As) = .ref (eB (lqE g) + b) :: hc_st (lqE g) As from hc_st2 (vs := []) hW hk] at h
    exact h
  · show hc_st (lqE g) (As.reverse ++ .ref b :: st) = (hc_st (lqE g) As).reverse ++ .ref (eB (lqE g) + b) :: hc_st (lqE g) st
    rw [hc_st2 hW hk]
    unfold hc_st
    rw [List.map_reverse]
/-- new C -/
theorem GW_new (G : GA g Ln xs) {ci idx N : Nat} {C : String} {T : u_T} (hc : vwCl[ci]? = some (C, T, N)) (hin : ∀ w ∈ u_ws C T N, w ∈ hc_T) (hty : ∀ k, k < N → parseFieldDescriptor (T k).2.2.1 = some (hc_ty ci k)) (hdv : ∀ (E : hc_E) (k : Nat), k < N → defaultValue (hc_ty ci k) = hc_fv E (hc_ty ci k) 0 0 none) (hd : decode cL_law pc = .ok (.new idx, 3)) (hl : Cond.classLink R_law idx C ∈ hc_T) (hi : Cond.instantiable C N ∈ hc_T) (hini : Cond.initialized C ∈ hc_T) (hn : Λ.1 < 1000000) (hm : ac.1 + 1 ≤ 600000 ∧ ac.2 + N ≤ 7302250)
    (kk : GW g (ac.1 + 1, ac.2 + N) (pc + 3) ls (.ref Λ.1 :: st) (hc_nw Λ (100 + ci) 0) (hc_r I Λ.1 (fun _ => 0)) (hc_r L Λ.1 (fun _ => 0)) (hc_r R Λ.1 (fun _ => none))) : GW g ac pc ls st Λ I L R := by
  intro H locs la hW hS hl2
  have G0 := G
  obtain ⟨⟨b1, b2, b3, b4, b5, -, -, -, b7, -⟩, b9, qB, qS, h3⟩ := G
  have b6 := G0.T
  have hKn := b9.1.1 ci _ hc
  refine W.newcK b1 b2 b5 (b6 _ hl) (b6 _ hi) (b6 _ hini) rfl hd hm.1 hm.2 hKn.2.1 rfl fun H1 kC hkC e1 z1 o1 => ?_
  have h0 := kk H1 locs la (hW.push hn z1 o1 rfl (fun a ha => ⟨if_neg ha, hc_r_ne _ _ _ ha, hc_r_ne _ _ _ ha, hc_r_ne _ _ _ ha, hc_r_ne _ _ _ ha⟩) ?_) ⟨Nat.le_trans hS.1 (by omega), fun x h1 h2 => (o1 x (Nat.lt_of_lt_of_le h1 hS.1)).trans (hS.2.1 x h1 h2), hS.2.2⟩ hl2
  · have e9 : hc_st (lqE g) (.ref Λ.1 :: st) = .ref H.size :: hc_st (lqE g) st := by show Value.ref (hc_ad (lqE g) Λ.1) :: _ = _; rw [hc_adn hW hn]; rfl
    rw [e9] at h0
    exact h0
  · unfold hc_c
    rw [hc_nwl, hc_nwf, hc_r_eq, hc_r_eq, if_neg (by omega), Nat.add_sub_cancel_left]
    refine ⟨_, hc, ?_⟩
    rw [← hW.1]
    refine (u_born (hc_ty ci) b6 hin hKn hkC e1 hty).to (fun k hk => ?_)
    exact hdv (lqE g) k hk
end GWR
