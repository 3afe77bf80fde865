/-! the reference: dividing by weights -/
def mvS (x : Int64) (wt : Nat → Int64) (am : Nat → Bool) (m : Nat) : Int64 := if am m = true then x * wt m / dvA wt am else 0
def mvT (x : Int64) (wt : Nat → Int64) (am : Nat → Bool) (m : Nat) : Int64 := if am m = true then x * wt m - x * wt m / dvA wt am * dvA wt am else -1
def mvL (x : Int64) (wt : Nat → Int64) (am : Nat → Bool) : Nat → Int64
  | 0 => x
  | m + 1 => mvL x wt am m - mvS x wt am m
def mvR (x : Int64) (wt : Nat → Int64) (am : Nat → Bool) : Nat → (Nat → Int64) × (Nat → Int64) × Int64
  | 0 => (mvS x wt am, mvT x wt am, mvL x wt am 12)
  | r + 1 => if 0 < (mvR x wt am r).2.2 then (lpUp (mvR x wt am r).1 (pgr (mvR x wt am r).2.1 11) ((mvR x wt am r).1 (pgr (mvR x wt am r).2.1 11) + 1), lpUp (mvR x wt am r).2.1 (pgr (mvR x wt am r).2.1 11) (-1), (mvR x wt am r).2.2 - 1) else mvR x wt am r
/-- what each gets; how much was divided -/
def mv (x : Int64) (wt : Nat → Int64) (am : Nat → Bool) (j : Nat) : Int64 := if dvA wt am = 0 then 0 else (mvR x wt am 12).1 j
def mvX (x : Int64) (wt : Nat → Int64) (am : Nat → Bool) : Int64 := if dvA wt am = 0 then 0 else x
theorem mvR_stop {x : Int64} {wt : Nat → Int64} {am : Nat → Bool} {r : Nat} (h : ¬ 0 < (mvR x wt am r).2.2) : ∀ k, mvR x wt am (r + k) = mvR x wt am r
  | 0 => rfl
  | k + 1 => by
    have ih := mvR_stop h k
    show (if 0 < (mvR x wt am (r + k)).2.2 then _ else mvR x wt am (r + k)) = _
    rw [ih, if_neg h]
theorem pgr_up {f : Nat → Int64} {n : Nat} (h : f (pgr f n) < f (n + 1)) : pgr f (n + 1) = n + 1 := if_pos h
theorem pgr_no {f : Nat → Int64} {n : Nat} (h : ¬ f (pgr f n) < f (n + 1)) : pgr f (n + 1) = pgr f n := if_neg h
set_option maxRecDepth 100000 in
theorem dvd3 {Λ : hc_L} {I : hc_I} {L : hc_J} {R : hc_R} {x : Int64} {wt : Nat → Int64} {am : Nat → Bool} (hY : LY Λ) (hwt : ∀ j, j < 12 → L 230 j = wt j) (ham : ∀ j, j < 12 → I 233 j = hc_b (am j)) (h0 : ¬ dvA wt am = 0) (hfin : ¬ 0 < (mvR x wt am 12).2.2) : ∀ d r (L1 : hc_J), r + d = 12 → (∀ z, z ≠ 231 → z ≠ 232 → L1 z = L z) → (∀ j, j < 12 → L1 231 j = (mvR x wt am r).1 j) → (∀ j, j < 12 → L1 232 j = (mvR x wt am r).2.1 j) → LW xX11_divides (0, 0) 148 [(0, .ref 217), (1, .long x), (3, .long (dvA wt am)), (5, .long ((mvR x wt am r).2.2))] [] Λ I L1 R (Qvi (fun _ => False) (fun z => z = 231 ∨ z = 232) (some (.long (mvX x wt am))) (fun _ L' => ∀ j, j < 12 → L' 231 j = mv x wt am j) Λ I L R) := by
  intro d
  induction d with
  | zero =>
    intro r L1 hr hL h1 h2
    obtain rfl : r = 12 := by omega
    refine LW_lload 3 dX11_divides_148 rfl ?_
    refine LW_lconst (v := 0) dX11_divides_150 (by decide) ?_
    refine LW_lcmp dX11_divides_151 ?_
    refine LW_lif_le (tgt := 226) dX11_divides_152 (by decide) (fun c152 => ?_) (fun c152 => absurd (Int64.not_lt.mp hfin) c152)
    refine LW_lloadn 1 dX11_divides_226 rfl rfl ?_
    refine LW_lret dX11_divides_227 rfl (Nat.le_of_ble_eq_true rfl) (Nat.le_of_ble_eq_true rfl) ?_
    refine ⟨?_, rfl, fun _ _ => rfl, fun z hz => hL z (fun q => hz (Or.inl q)) (fun q => hz (Or.inr q)), rfl, fun j hj => ?_⟩
    · unfold mvX; rw [if_neg h0]
    · unfold mv; rw [if_neg h0, h1 j hj]
  | succ d ih =>
    intro r L1 hr hL h1 h2
    refine LW_lload 3 dX11_divides_148 rfl ?_
    refine LW_lconst (v := 0) dX11_divides_150 (by decide) ?_
    refine LW_lcmp dX11_divides_151 ?_
    refine LW_lif_le (tgt := 226) dX11_divides_152 (by decide) (fun c152 => ?_) (fun c152 => ?_)
    · have e := mvR_stop (Int64.not_lt.mpr c152) (d + 1)
      rw [hr] at e
      refine LW_lloadn 1 dX11_divides_226 rfl rfl ?_
      refine LW_lret dX11_divides_227 rfl (Nat.le_of_ble_eq_true rfl) (Nat.le_of_ble_eq_true rfl) ?_
      refine ⟨?_, rfl, fun _ _ => rfl, fun z hz => hL z (fun q => hz (Or.inl q)) (fun q => hz (Or.inr q)), rfl, fun j hj => ?_⟩
      · unfold mvX; rw [if_neg h0]
      · unfold mv; rw [if_neg h0, h1 j hj, e]
    · have hpl := pgr_le (L1 232)
      have hover : 0 < (mvR x wt am r).2.2 := Int64.not_le.mp c152
      have inn : ∀ i, i ≤ 11 → LW xX11_divides (0, 0) 161 [(0, .ref 217), (1, .long x), (3, .long (dvA wt am)), (5, .long ((mvR x wt am r).2.2)), (7, .int (nI (pgr (L1 232) i))), (8, .int (nI (i + 1)))] [] Λ I L1 R (Qvi (fun _ => False) (fun z => z = 231 ∨ z = 232) (some (.long (mvX x wt am))) (fun _ L' => ∀ j, j < 12 → L' 231 j = mv x wt am j) Λ I L R) := by
        refine hc_down ?_ ?_
        · refine LW_iload 5 dX11_divides_161 rfl ?_
          refine LW_bipush (v := 12) dX11_divides_163 (by decide) ?_
          refine LW_icmp_ge (tgt := 196) dX11_divides_165 (by decide) (fun c165 => ?_) (fun c165 => absurd (by decide) c165)
          refine LW_aloadn 0 dX11_divides_196 rfl rfl ?_
          refine gX11_37 dX11_divides_197 flX11_59 (hY.lt (k := 217) (by decide)) (ly217 hY) (lf217_37 hY) ?_
          refine LW_iload 4 dX11_divides_200 rfl ?_
          refine LW_dup2 dX11_divides_202 rfl rfl ?_
          refine LW_lald dX11_divides_203 (hY.lt (k := 231) (by decide)) (ly231 hY) rfl (by have := hpl 11; omega) (Nat.le_of_ble_eq_true rfl) ?_
          refine LW_lconst (v := 1) dX11_divides_204 (by decide) ?_
          refine LW_ladd dX11_divides_205 ?_
          refine LW_last dX11_divides_206 (hY.lt (k := 231) (by decide)) (ly231 hY) rfl (by have := hpl 11; omega) (Nat.le_of_ble_eq_true rfl) ?_
          generalize hL206 : hc_u L1 231 (pgr (L1 232) 11) ((L1 231 (pgr (L1 232) 11)) + 1) = L206
          refine LW_aloadn 0 dX11_divides_207 rfl rfl ?_
          refine gX11_38 dX11_divides_208 flX11_62 (hY.lt (k := 217) (by decide)) (ly217 hY) (lf217_38 hY) ?_
          refine LW_iload 4 dX11_divides_211 rfl ?_
          refine LW_ldc2 dX11_divides_213 klX11_402 ?_
          refine LW_last dX11_divides_216 (hY.lt (k := 232) (by decide)) (ly232 hY) rfl (by have := hpl 11; omega) (Nat.le_of_ble_eq_true rfl) ?_
          generalize hL216 : hc_u L206 232 (pgr (L1 232) 11) (-1) = L216
          refine LW_lload 3 dX11_divides_217 rfl ?_
          refine LW_lconst (v := 1) dX11_divides_219 (by decide) ?_
          refine LW_lsub dX11_divides_220 ?_
          refine LW_lstore (ls' := [(0, .ref 217), (1, .long x), (3, .long (dvA wt am)), (5, .long (((mvR x wt am r).2.2) - 1)), (7, .int (nI (pgr (L1 232) 11))), (8, .int (nI (11 + 1)))]) dX11_divides_221 (by decide) rfl ?_
          refine LW_goto (tgt := 148) dX11_divides_223 (by decide) ?_
          have hp : pgr (L1 232) 11 = pgr (mvR x wt am r).2.1 11 := pgr_congr (fun j hj => h2 j (by omega))
          have e : mvR x wt am (r + 1) = (lpUp (mvR x wt am r).1 (pgr (L1 232) 11) ((mvR x wt am r).1 (pgr (L1 232) 11) + 1), lpUp (mvR x wt am r).2.1 (pgr (L1 232) 11) (-1), (mvR x wt am r).2.2 - 1) := by rw [hp]; exact if_pos hover
          refine LW_ls (ls' := [(0, .ref 217), (1, .long x), (3, .long (dvA wt am)), (5, .long (((mvR x wt am r).2.2) - 1))]) [0, 1, 2, 3] rfl ?_
          have ih2 := ih (r + 1) L216 (by omega) (fun z z1 z2 => by rw [← hL216, hc_u_row _ _ _ _ z2, ← hL206, hc_u_row _ _ _ _ z1]; exact hL z z1 z2) (fun j hj => by
            rw [e, ← hL216, hc_u_row _ _ _ _ (by decide), ← hL206, hc_u_at]
            show _ = lpUp _ _ _ j
            unfold lpUp
            rw [h1 _ (by have := hpl 11; omega), h1 j hj]) (fun j hj => by
            rw [e, ← hL216, hc_u_at, ← hL206, hc_u_row _ _ _ _ (by decide), h2 j hj]
            rfl)
          rw [e] at ih2
          exact ih2
        · intro i hi ih3
          have hp1 := hpl i
          refine LW_iload 5 dX11_divides_161 rfl ?_
          refine LW_bipush (v := 12) dX11_divides_163 (by decide) ?_
          refine LW_icmp_ge (tgt := 196) dX11_divides_165 (by decide) (fun c165 => absurd c165 (hc_nle (a := 12) (b := i + 1) (by decide) (by omega) (by omega))) (fun c165 => ?_)
          refine LW_aloadn 0 dX11_divides_168 rfl rfl ?_
          refine gX11_38 dX11_divides_169 flX11_62 (hY.lt (k := 217) (by decide)) (ly217 hY) (lf217_38 hY) ?_
          refine LW_iload 5 dX11_divides_172 rfl ?_
          refine LW_lald dX11_divides_174 (hY.lt (k := 232) (by decide)) (ly232 hY) rfl (by omega) (Nat.le_of_ble_eq_true rfl) ?_
          refine LW_aloadn 0 dX11_divides_175 rfl rfl ?_
          refine gX11_38 dX11_divides_176 flX11_62 (hY.lt (k := 217) (by decide)) (ly217 hY) (lf217_38 hY) ?_
          refine LW_iload 4 dX11_divides_179 rfl ?_
          refine LW_lald dX11_divides_181 (hY.lt (k := 232) (by decide)) (ly232 hY) rfl (by omega) (Nat.le_of_ble_eq_true rfl) ?_
          refine LW_lcmp dX11_divides_182 ?_
          refine LW_lif_le (tgt := 190) dX11_divides_183 (by decide) (fun c183 => ?_) (fun c183 => ?_)
          · refine LW_iinc (n := 5) (v := nI ((i + 1) + 1)) (ls' := [(0, .ref 217), (1, .long x), (3, .long (dvA wt am)), (5, .long ((mvR x wt am r).2.2)), (7, .int (nI (pgr (L1 232) i))), (8, .int (nI ((i + 1) + 1)))]) dX11_divides_190 rfl (hc_inc _) (by decide) rfl ?_
            refine LW_goto (tgt := 161) dX11_divides_193 (by decide) ?_
            rw [pgr_no (Int64.not_lt.mpr c183)] at ih3
            exact ih3
          · refine LW_iload 5 dX11_divides_186 rfl ?_
            refine LW_istore (ls' := [(0, .ref 217), (1, .long x), (3, .long (dvA wt am)), (5, .long ((mvR x wt am r).2.2)), (7, .int (nI (i + 1))), (8, .int (nI (i + 1)))]) dX11_divides_188 (by decide) rfl ?_
            refine LW_iinc (n := 5) (v := nI ((i + 1) + 1)) (ls' := [(0, .ref 217), (1, .long x), (3, .long (dvA wt am)), (5, .long ((mvR x wt am r).2.2)), (7, .int (nI (i + 1))), (8, .int (nI ((i + 1) + 1)))]) dX11_divides_190 rfl (hc_inc _) (by decide) rfl ?_
            refine LW_goto (tgt := 161) dX11_divides_193 (by decide) ?_
            rw [pgr_up (Int64.not_le.mp c183)] at ih3
            exact ih3
      refine LW_iconst (v := 0) dX11_divides_155 (by decide) ?_
      refine LW_istore (ls' := [(0, .ref 217), (1, .long x), (3, .long (dvA wt am)), (5, .long ((mvR x wt am r).2.2)), (7, .int 0)]) dX11_divides_156 (by decide) rfl ?_
      refine LW_iconst (v := 1) dX11_divides_158 (by decide) ?_
      refine LW_istore (ls' := [(0, .ref 217), (1, .long x), (3, .long (dvA wt am)), (5, .long ((mvR x wt am r).2.2)), (7, .int 0), (8, .int 1)]) dX11_divides_159 (by decide) rfl ?_
      exact inn 0 (Nat.zero_le _)
set_option maxRecDepth 100000 in
theorem dvd2 {Λ : hc_L} {I : hc_I} {L : hc_J} {R : hc_R} {x : Int64} {wt : Nat → Int64} {am : Nat → Bool} (hY : LY Λ) (hwt : ∀ j, j < 12 → L 230 j = wt j) (ham : ∀ j, j < 12 → I 233 j = hc_b (am j)) (h0 : ¬ dvA wt am = 0) (hfin : ¬ 0 < (mvR x wt am 12).2.2) : ∀ i, i ≤ 12 → ∀ (L1 : hc_J), (∀ z, z ≠ 231 → z ≠ 232 → L1 z = L z) → (∀ j, j < 12 → L1 231 j = if j < i then mvS x wt am j else 0) → (∀ j, j < i → L1 232 j = mvT x wt am j) → LW xX11_divides (0, 0) 64 [(0, .ref 217), (1, .long x), (3, .long (dvA wt am)), (5, .long (mvL x wt am i)), (7, .int (nI i))] [] Λ I L1 R (Qvi (fun _ => False) (fun z => z = 231 ∨ z = 232) (some (.long (mvX x wt am))) (fun _ L' => ∀ j, j < 12 → L' 231 j = mv x wt am j) Λ I L R) := by
  refine hc_down ?_ ?_
  · intro L1 hL h1 h2
    refine LW_iload 4 dX11_divides_64 rfl ?_
    refine LW_bipush (v := 12) dX11_divides_66 (by decide) ?_
    refine LW_icmp_ge (tgt := 148) dX11_divides_68 (by decide) (fun c68 => ?_) (fun c68 => absurd (by decide) c68)
    refine LW_ls (ls' := [(0, .ref 217), (1, .long x), (3, .long (dvA wt am)), (5, .long (mvL x wt am 12))]) [0, 1, 2, 3] rfl ?_
    exact dvd3 hY hwt ham h0 hfin 12 0 L1 rfl hL (fun j hj => by rw [h1 j hj, if_pos hj]; rfl) (fun j hj => h2 j hj)
  · intro i hi ih L1 hL h1 h2
    have hw : L1 230 i = wt i := by rw [hL 230 (by decide) (by decide)]; exact hwt i hi
    refine LW_iload 4 dX11_divides_64 rfl ?_
    refine LW_bipush (v := 12) dX11_divides_66 (by decide) ?_
    refine LW_icmp_ge (tgt := 148) dX11_divides_68 (by decide) (fun c68 => absurd c68 (hc_nle (a := 12) (b := i) (by decide) (by omega) hi)) (fun c68 => ?_)
    refine LW_aloadn 0 dX11_divides_71 rfl rfl ?_
    refine gX11_38 dX11_divides_72 flX11_62 (hY.lt (k := 217) (by decide)) (ly217 hY) (lf217_38 hY) ?_
    refine LW_iload 4 dX11_divides_75 rfl ?_
    refine LW_ldc2 dX11_divides_77 klX11_402 ?_
    refine LW_last dX11_divides_80 (hY.lt (k := 232) (by decide)) (ly232 hY) rfl hi (Nat.le_of_ble_eq_true rfl) ?_
    generalize hL80 : hc_u L1 232 i (-1) = L80
    refine LW_aloadn 0 dX11_divides_81 rfl rfl ?_
    refine gX11_39 dX11_divides_82 flX11_65 (hY.lt (k := 217) (by decide)) (ly217 hY) (lf217_39 hY) ?_
    refine LW_iload 4 dX11_divides_85 rfl ?_
    refine LW_zald dX11_divides_87 (hY.lt (k := 233) (by decide)) (ly233 hY) rfl hi (Nat.le_of_ble_eq_true rfl) ?_
    rw [show I 233 i = hc_b (am i) from ham i hi]
    refine LW_bif_ne (tgt := 94) dX11_divides_88 (by decide) (fun c88 => ?_) (fun c88 => ?_)
    · refine LW_aloadn 0 dX11_divides_94 rfl rfl ?_
      refine gX11_37 dX11_divides_95 flX11_59 (hY.lt (k := 217) (by decide)) (ly217 hY) (lf217_37 hY) ?_
      refine LW_iload 4 dX11_divides_98 rfl ?_
      refine LW_lloadn 1 dX11_divides_100 rfl rfl ?_
      refine LW_aloadn 0 dX11_divides_101 rfl rfl ?_
      refine gX11_36 dX11_divides_102 flX11_56 (hY.lt (k := 217) (by decide)) (ly217 hY) (lf217_36 hY) ?_
      refine LW_iload 4 dX11_divides_105 rfl ?_
      refine LW_lald dX11_divides_107 (hY.lt (k := 230) (by decide)) (ly230 hY) rfl hi (Nat.le_of_ble_eq_true rfl) ?_
      rw [show L80 230 i = wt i from (by rw [← hL80, hc_u_row _ _ _ _ (by decide)]; exact hw)]
      refine LW_lmul dX11_divides_108 ?_
      refine LW_lloadn 2 dX11_divides_109 rfl rfl ?_
      refine LW_ldiv dX11_divides_110 h0 ?_
      refine LW_last dX11_divides_111 (hY.lt (k := 231) (by decide)) (ly231 hY) rfl hi (Nat.le_of_ble_eq_true rfl) ?_
      generalize hL111 : hc_u L80 231 i ((x * (wt i)) / (dvA wt am)) = L111
      refine LW_aloadn 0 dX11_divides_112 rfl rfl ?_
      refine gX11_38 dX11_divides_113 flX11_62 (hY.lt (k := 217) (by decide)) (ly217 hY) (lf217_38 hY) ?_
      refine LW_iload 4 dX11_divides_116 rfl ?_
      refine LW_lloadn 1 dX11_divides_118 rfl rfl ?_
      refine LW_aloadn 0 dX11_divides_119 rfl rfl ?_
      refine gX11_36 dX11_divides_120 flX11_56 (hY.lt (k := 217) (by decide)) (ly217 hY) (lf217_36 hY) ?_
      refine LW_iload 4 dX11_divides_123 rfl ?_
      refine LW_lald dX11_divides_125 (hY.lt (k := 230) (by decide)) (ly230 hY) rfl hi (Nat.le_of_ble_eq_true rfl) ?_
      rw [show L111 230 i = wt i from (by rw [← hL111, hc_u_row _ _ _ _ (by decide), ← hL80, hc_u_row _ _ _ _ (by decide)]; exact hw)]
      refine LW_lmul dX11_divides_126 ?_
      refine LW_lloadn 2 dX11_divides_127 rfl rfl ?_
      refine LW_lrem dX11_divides_128 h0 ?_
      refine LW_last dX11_divides_129 (hY.lt (k := 232) (by decide)) (ly232 hY) rfl hi (Nat.le_of_ble_eq_true rfl) ?_
      generalize hL129 : hc_u L111 232 i ((x * (wt i)) - (x * (wt i)) / (dvA wt am) * (dvA wt am)) = L129
      refine LW_lload 3 dX11_divides_130 rfl ?_
      refine LW_aloadn 0 dX11_divides_132 rfl rfl ?_
      refine gX11_37 dX11_divides_133 flX11_59 (hY.lt (k := 217) (by decide)) (ly217 hY) (lf217_37 hY) ?_
      refine LW_iload 4 dX11_divides_136 rfl ?_
      refine LW_lald dX11_divides_138 (hY.lt (k := 231) (by decide)) (ly231 hY) rfl hi (Nat.le_of_ble_eq_true rfl) ?_
      rw [show L129 231 i = x * wt i / dvA wt am from (by rw [← hL129, hc_u_row _ _ _ _ (by decide), ← hL111, hc_u_at, if_pos rfl])]
      refine LW_lsub dX11_divides_139 ?_
      refine LW_lstore (ls' := [(0, .ref 217), (1, .long x), (3, .long (dvA wt am)), (5, .long ((mvL x wt am i) - (x * wt i / dvA wt am))), (7, .int (nI i))]) dX11_divides_140 (by decide) rfl ?_
      refine LW_iinc (n := 4) (v := nI (i + 1)) (ls' := [(0, .ref 217), (1, .long x), (3, .long (dvA wt am)), (5, .long ((mvL x wt am i) - (x * wt i / dvA wt am))), (7, .int (nI (i + 1)))]) dX11_divides_142 rfl (hc_inc _) (by decide) rfl ?_
      refine LW_goto (tgt := 64) dX11_divides_145 (by decide) ?_
      have eS : mvS x wt am i = x * wt i / dvA wt am := if_pos c88
      have eT : mvT x wt am i = x * wt i - x * wt i / dvA wt am * dvA wt am := if_pos c88
      have eL : mvL x wt am (i + 1) = mvL x wt am i - x * wt i / dvA wt am := by show mvL x wt am i - mvS x wt am i = _; rw [eS]
      rw [eL] at ih
      exact ih L129 (fun z z1 z2 => by rw [← hL129, hc_u_row _ _ _ _ z2, ← hL111, hc_u_row _ _ _ _ z1, ← hL80, hc_u_row _ _ _ _ z2]; exact hL z z1 z2) (fun j hj => by
        rw [← hL129, hc_u_row _ _ _ _ (by decide), ← hL111, hc_u_at, ← hL80, hc_u_row _ _ _ _ (by decide)]
        by_cases cj : j = i
        · rw [if_pos cj, if_pos (by omega), cj, eS]
        · rw [if_neg cj, h1 j hj]
          by_cases ck : j < i
          · rw [if_pos ck, if_pos (by omega)]
          · rw [if_neg ck, if_neg (by omega)]) (fun j hj => by
        rw [← hL129, hc_u_at]
        by_cases cj : j = i
        · rw [if_pos cj, cj, eT]
        · rw [if_neg cj, ← hL111, hc_u_row _ _ _ _ (by decide), ← hL80, hc_u_at, if_neg cj]
          exact h2 j (by omega))
    · refine LW_goto (tgt := 142) dX11_divides_91 (by decide) ?_
      refine LW_iinc (n := 4) (v := nI (i + 1)) (ls' := [(0, .ref 217), (1, .long x), (3, .long (dvA wt am)), (5, .long (mvL x wt am i)), (7, .int (nI (i + 1)))]) dX11_divides_142 rfl (hc_inc _) (by decide) rfl ?_
      refine LW_goto (tgt := 64) dX11_divides_145 (by decide) ?_
      have eS : mvS x wt am i = 0 := if_neg (by rw [c88]; decide)
      have eT : mvT x wt am i = -1 := if_neg (by rw [c88]; decide)
      have eL : mvL x wt am (i + 1) = mvL x wt am i := by show mvL x wt am i - mvS x wt am i = _; rw [eS, Int64.sub_zero]
      rw [eL] at ih
      exact ih L80 (fun z z1 z2 => by rw [← hL80, hc_u_row _ _ _ _ z2]; exact hL z z1 z2) (fun j hj => by
        rw [← hL80, hc_u_row _ _ _ _ (by decide), h1 j hj]
        by_cases ck : j < i
        · rw [if_pos ck, if_pos (by omega)]
        · rw [if_neg ck]
          by_cases cj : j = i
          · rw [if_pos (by omega), cj, eS]
          · rw [if_neg (by omega)]) (fun j hj => by
        rw [← hL80, hc_u_at]
        by_cases cj : j = i
        · rw [if_pos cj, cj, eT]
        · rw [if_neg cj]
          exact h2 j (by omega))
set_option maxRecDepth 100000 in
theorem r_divides {Λ : hc_L} {I : hc_I} {L : hc_J} {R : hc_R} {x : Int64} {wt : Nat → Int64} {am : Nat → Bool} (hY : LY Λ) (hwt : ∀ j, j < 12 → L 230 j = wt j) (ham : ∀ j, j < 12 → I 233 j = hc_b (am j)) (hfin : ¬ dvA wt am = 0 → ¬ 0 < (mvR x wt am 12).2.2) : Run xX11_divides [.ref 217, .long x] Λ I L R (Qvi (fun _ => False) (fun z => z = 231 ∨ z = 232) (some (.long (mvX x wt am))) (fun _ L' => ∀ j, j < 12 → L' 231 j = mv x wt am j) Λ I L R) := by
  refine Run.of (by decide +kernel) (Nat.le_of_ble_eq_true rfl) ?_
  show LW _ _ _ [(0, .ref 217), (1, .long x)] _ _ _ _ _ _
  have loop : ∀ i, i ≤ 12 → ∀ (L1 : hc_J), (∀ z, z ≠ 231 → L1 z = L z) → (∀ j, j < i → L1 231 j = 0) → LW xX11_divides (0, 0) 5 [(0, .ref 217), (1, .long x), (3, .long (sumJ (dvW wt am) i)), (5, .int (nI i))] [] Λ I L1 R (Qvi (fun _ => False) (fun z => z = 231 ∨ z = 232) (some (.long (mvX x wt am))) (fun _ L' => ∀ j, j < 12 → L' 231 j = mv x wt am j) Λ I L R) := by
    refine hc_down ?_ ?_
    · intro L1 hL h1
      refine LW_iload 3 dX11_divides_5 rfl ?_
      refine LW_bipush (v := 12) dX11_divides_7 (by decide) ?_
      refine LW_icmp_ge (tgt := 50) dX11_divides_9 (by decide) (fun c9 => ?_) (fun c9 => absurd (by decide) c9)
      refine LW_lloadn 2 dX11_divides_50 rfl rfl ?_
      refine LW_lconst (v := 0) dX11_divides_51 (by decide) ?_
      refine LW_lcmp dX11_divides_52 ?_
      refine LW_lif_ne (tgt := 58) dX11_divides_53 (by decide) (fun c53 => ?_) (fun c53 => ?_)
      · refine LW_lloadn 1 dX11_divides_58 rfl rfl ?_
        refine LW_lstore (ls' := [(0, .ref 217), (1, .long x), (3, .long (sumJ (dvW wt am) 12)), (5, .long x)]) dX11_divides_59 (by decide) rfl ?_
        refine LW_iconst (v := 0) dX11_divides_61 (by decide) ?_
        refine LW_istore (ls' := [(0, .ref 217), (1, .long x), (3, .long (sumJ (dvW wt am) 12)), (5, .long x), (7, .int 0)]) dX11_divides_62 (by decide) rfl ?_
        refine LW_ls (ls' := [(0, .ref 217), (1, .long x), (3, .long (dvA wt am)), (5, .long (mvL x wt am 0)), (7, .int (nI 0))]) [0, 1, 2, 3, 4] rfl ?_
        exact dvd2 hY hwt ham c53 (hfin c53) 0 (Nat.zero_le _) L1 (fun z z1 _ => hL z z1) (fun j hj => by rw [h1 j hj, if_neg (Nat.not_lt_zero j)]) (fun j hj => absurd hj (Nat.not_lt_zero j))
      · refine LW_lconst (v := 0) dX11_divides_56 (by decide) ?_
        refine LW_lret dX11_divides_57 rfl (Nat.le_of_ble_eq_true rfl) (Nat.le_of_ble_eq_true rfl) ?_
        have h0 : dvA wt am = 0 := Classical.not_not.mp c53
        refine ⟨?_, rfl, fun _ _ => rfl, fun z hz => hL z (fun q => hz (Or.inl q)), rfl, fun j hj => ?_⟩
        · unfold mvX; rw [if_pos h0]
        · unfold mv; rw [if_pos h0, h1 j hj]
    · intro i hi ih L1 hL h1
      refine LW_iload 3 dX11_divides_5 rfl ?_
      refine LW_bipush (v := 12) dX11_divides_7 (by decide) ?_
      refine LW_icmp_ge (tgt := 50) dX11_divides_9 (by decide) (fun c9 => absurd c9 (hc_nle (a := 12) (b := i) (by decide) (by omega) hi)) (fun c9 => ?_)
      refine LW_aloadn 0 dX11_divides_12 rfl rfl ?_
      refine gX11_37 dX11_divides_13 flX11_59 (hY.lt (k := 217) (by decide)) (ly217 hY) (lf217_37 hY) ?_
      refine LW_iload 3 dX11_divides_16 rfl ?_
      refine LW_lconst (v := 0) dX11_divides_18 (by decide) ?_
      refine LW_last dX11_divides_19 (hY.lt (k := 231) (by decide)) (ly231 hY) rfl hi (Nat.le_of_ble_eq_true rfl) ?_
      generalize hL19 : hc_u L1 231 i 0 = L19
      refine LW_lloadn 2 dX11_divides_20 rfl rfl ?_
      refine LW_aloadn 0 dX11_divides_21 rfl rfl ?_
      refine gX11_39 dX11_divides_22 flX11_65 (hY.lt (k := 217) (by decide)) (ly217 hY) (lf217_39 hY) ?_
      refine LW_iload 3 dX11_divides_25 rfl ?_
      refine LW_zald dX11_divides_27 (hY.lt (k := 233) (by decide)) (ly233 hY) rfl hi (Nat.le_of_ble_eq_true rfl) ?_
      rw [show I 233 i = hc_b (am i) from ham i hi]
      refine LW_bif_eq (tgt := 41) dX11_divides_28 (by decide) (fun c28 => ?_) (fun c28 => ?_)
      · refine LW_lconst (v := 0) dX11_divides_41 (by decide) ?_
        refine LW_ladd dX11_divides_42 ?_
        refine LW_lstoren (ls' := [(0, .ref 217), (1, .long x), (3, .long ((sumJ (dvW wt am) i) + 0)), (5, .int (nI i))]) dX11_divides_43 rfl (by decide) rfl ?_
        refine LW_iinc (n := 3) (v := nI (i + 1)) (ls' := [(0, .ref 217), (1, .long x), (3, .long ((sumJ (dvW wt am) i) + 0)), (5, .int (nI (i + 1)))]) dX11_divides_44 rfl (hc_inc _) (by decide) rfl ?_
        refine LW_goto (tgt := 5) dX11_divides_47 (by decide) ?_
        have e : dvW wt am i = 0 := if_neg (by rw [c28]; decide)
        have e2 : sumJ (dvW wt am) (i + 1) = (sumJ (dvW wt am) i) + 0 := by show sumJ (dvW wt am) i + dvW wt am i = _; rw [e]
        rw [e2] at ih
        exact ih L19 (fun z z1 => by rw [← hL19, hc_u_row _ _ _ _ z1]; exact hL z z1) (fun j hj => by
          rw [← hL19, hc_u_at]
          by_cases cj : j = i
          · rw [if_pos cj]
          · rw [if_neg cj]; exact h1 j (by omega))
      · refine LW_aloadn 0 dX11_divides_31 rfl rfl ?_
        refine gX11_36 dX11_divides_32 flX11_56 (hY.lt (k := 217) (by decide)) (ly217 hY) (lf217_36 hY) ?_
        refine LW_iload 3 dX11_divides_35 rfl ?_
        refine LW_lald dX11_divides_37 (hY.lt (k := 230) (by decide)) (ly230 hY) rfl hi (Nat.le_of_ble_eq_true rfl) ?_
        rw [show L19 230 i = wt i from (by rw [← hL19, hc_u_row _ _ _ _ (by decide), hL 230 (by decide)]; exact hwt i hi)]
        refine LW_goto (tgt := 42) dX11_divides_38 (by decide) ?_
        refine LW_ladd dX11_divides_42 ?_
        refine LW_lstoren (ls' := [(0, .ref 217), (1, .long x), (3, .long ((sumJ (dvW wt am) i) + (wt i))), (5, .int (nI i))]) dX11_divides_43 rfl (by decide) rfl ?_
        refine LW_iinc (n := 3) (v := nI (i + 1)) (ls' := [(0, .ref 217), (1, .long x), (3, .long ((sumJ (dvW wt am) i) + (wt i))), (5, .int (nI (i + 1)))]) dX11_divides_44 rfl (hc_inc _) (by decide) rfl ?_
        refine LW_goto (tgt := 5) dX11_divides_47 (by decide) ?_
        have e : dvW wt am i = wt i := if_pos c28
        have e2 : sumJ (dvW wt am) (i + 1) = (sumJ (dvW wt am) i) + (wt i) := by show sumJ (dvW wt am) i + dvW wt am i = _; rw [e]
        rw [e2] at ih
        exact ih L19 (fun z z1 => by rw [← hL19, hc_u_row _ _ _ _ z1]; exact hL z z1) (fun j hj => by
          rw [← hL19, hc_u_at]
          by_cases cj : j = i
          · rw [if_pos cj]
          · rw [if_neg cj]; exact h1 j (by omega))
  refine LW_lconst (v := 0) dX11_divides_0 (by decide) ?_
  refine LW_lstoren (ls' := [(0, .ref 217), (1, .long x), (3, .long 0)]) dX11_divides_1 rfl (by decide) rfl ?_
  refine LW_iconst (v := 0) dX11_divides_2 (by decide) ?_
  refine LW_istore (ls' := [(0, .ref 217), (1, .long x), (3, .long 0), (5, .int 0)]) dX11_divides_3 (by decide) rfl ?_
  exact loop 0 (Nat.zero_le _) L (fun _ _ => rfl) (fun j hj => absurd hj (Nat.not_lt_zero j))
