/-! the reference: calls on members -/
/-- who is called now (b: somebody is above its cap), and for how much -/
def cD (b : Bool) (am : Nat → Bool) (g mo : Nat → Int64) (m : Nat) : Bool := am m && (!b || decide (mo m < g m))
def cV (b : Bool) (g mo : Nat → Int64) (m : Nat) : Int64 := if b = true then mo m else g m
def cQ (L : hc_J) (res : (Nat → Int64) × Int64) (Λ : hc_L) (I : hc_I) (L0 : hc_J) (R : hc_R) : hc_Q := Qvi (fun z => z = 233) (fun z => z = 230 ∨ z = 231 ∨ z = 232 ∨ z = 234) (some (.long res.2)) (fun _ L' => (∀ m, m < 12 → L' 234 (6 * m + 3) = res.1 m) ∧ ∀ j, j < 72 → j % 6 ≠ 3 → L' 234 j = L 234 j) Λ I L0 R
set_option maxRecDepth 100000 in
theorem cl_D {Λ : hc_L} {I2 : hc_I} {L2 : hc_J} {R : hc_R} {x0 x hd cap : Int64} {ad g cl : Nat → Int64} {am : Nat → Bool} {b : Bool} {Q : hc_Q} (hY : LY Λ) (hcap : L2 218 2 = cap) (had : ∀ j, j < 12 → L2 235 j = ad j) (hg : ∀ j, j < 12 → L2 231 j = g j) (ham : ∀ j, j < 12 → I2 233 j = hc_b (am j)) (hcl : ∀ m, m < 12 → L2 234 (6 * m + 3) = cl m) (hend : ∀ (I3 : hc_I) (L3 : hc_J), (∀ z, z ≠ 233 → I3 z = I2 z) → (∀ z, z ≠ 234 → L3 z = L2 z) → (∀ j, j < 12 → I3 233 j = hc_b (if j < 12 then am j && !cD b am g (fun m => cap * ad m) j else am j)) → (∀ m, m < 12 → L3 234 (6 * m + 3) = if m < 12 ∧ cD b am g (fun m => cap * ad m) m = true then cV b g (fun m => cap * ad m) m else cl m) → (∀ j, j < 72 → j % 6 ≠ 3 → L3 234 j = L2 234 j) → LW xX11_calls (0, 0) 259 [(0, .ref 217), (1, .long x0), (3, .long (runW x (fun m => if cD b am g (fun m => cap * ad m) m = true then cV b g (fun m => cap * ad m) m else 0) 12)), (5, .int (hc_b b)), (6, .long hd), (8, .int (nI 12))] [] Λ I3 L3 R Q) : ∀ i, i ≤ 12 → ∀ (I3 : hc_I) (L3 : hc_J), (∀ z, z ≠ 233 → I3 z = I2 z) → (∀ z, z ≠ 234 → L3 z = L2 z) → (∀ j, j < 12 → I3 233 j = hc_b (if j < i then am j && !cD b am g (fun m => cap * ad m) j else am j)) → (∀ m, m < 12 → L3 234 (6 * m + 3) = if m < i ∧ cD b am g (fun m => cap * ad m) m = true then cV b g (fun m => cap * ad m) m else cl m) → (∀ j, j < 72 → j % 6 ≠ 3 → L3 234 j = L2 234 j) → LW xX11_calls (0, 0) 139 [(0, .ref 217), (1, .long x0), (3, .long (runW x (fun m => if cD b am g (fun m => cap * ad m) m = true then cV b g (fun m => cap * ad m) m else 0) i)), (5, .int (hc_b b)), (6, .long hd), (8, .int (nI i))] [] Λ I3 L3 R Q := by
  refine hc_down ?_ ?_
  · intro I3 L3 q1 q2 q3 q4 q5
    refine LW_iload 5 dX11_calls_139 rfl ?_
    refine LW_bipush (v := 12) dX11_calls_141 (by decide) ?_
    refine LW_icmp_ge (tgt := 259) dX11_calls_143 (by decide) (fun c143 => ?_) (fun c143 => absurd (by decide) c143)
    exact hend I3 L3 q1 q2 q3 q4 q5
  · intro i hi ih I3 L3 q1 q2 q3 q4 q5
    refine LW_iload 5 dX11_calls_139 rfl ?_
    refine LW_bipush (v := 12) dX11_calls_141 (by decide) ?_
    refine LW_icmp_ge (tgt := 259) dX11_calls_143 (by decide) (fun c143 => absurd c143 (hc_nle (a := 12) (b := i) (by decide) (by omega) hi)) (fun c143 => ?_)
    refine LW_aloadn 0 dX11_calls_146 rfl rfl ?_
    refine gX11_39 dX11_calls_147 flX11_65 (hY.lt (k := 217) (by decide)) (ly217 hY) (lf217_39 hY) ?_
    refine LW_iload 5 dX11_calls_150 rfl ?_
    refine LW_zald dX11_calls_152 (hY.lt (k := 233) (by decide)) (ly233 hY) rfl hi (Nat.le_of_ble_eq_true rfl) ?_
    rw [show I3 233 i = hc_b (am i) from (by rw [q3 i hi, if_neg (Nat.lt_irrefl i)])]
    refine LW_bif_eq (tgt := 253) dX11_calls_153 (by decide) (fun c153 => ?_) (fun c153 => ?_)
    · refine LW_iinc (n := 5) (v := nI (i + 1)) (ls' := [(0, .ref 217), (1, .long x0), (3, .long (runW x (fun m => if cD b am g (fun m => cap * ad m) m = true then cV b g (fun m => cap * ad m) m else 0) i)), (5, .int (hc_b b)), (6, .long hd), (8, .int (nI (i + 1)))]) dX11_calls_253 rfl (hc_inc _) (by decide) rfl ?_
      refine LW_goto (tgt := 139) dX11_calls_256 (by decide) ?_
      have ec : cD b am g (fun m => cap * ad m) i = false := (by unfold cD; rw [c153, Bool.false_and])
      have ew : runW x (fun m => if cD b am g (fun m => cap * ad m) m = true then cV b g (fun m => cap * ad m) m else 0) (i + 1) = runW x (fun m => if cD b am g (fun m => cap * ad m) m = true then cV b g (fun m => cap * ad m) m else 0) i := by show runW x (fun m => if cD b am g (fun m => cap * ad m) m = true then cV b g (fun m => cap * ad m) m else 0) i - (if cD b am g (fun m => cap * ad m) i = true then _ else 0) = _; rw [if_neg (by rw [ec]; decide), Int64.sub_zero]
      rw [ew] at ih
      exact ih I3 L3 q1 q2 (fun j hj => by
        rw [q3 j hj]
        by_cases cj : j = i
        · rw [cj, if_neg (Nat.lt_irrefl i), if_pos (Nat.lt_succ_self i), ec, Bool.not_false, Bool.and_true]
        · by_cases ck : j < i
          · rw [if_pos ck, if_pos (by omega)]
          · rw [if_neg ck, if_neg (by omega)]) (fun m hm => by
        rw [q4 m hm]
        by_cases cm : m = i
        · rw [if_neg (fun q => absurd q.1 (by omega)), if_neg (fun q => by rw [cm, ec] at q; cases q.2)]
        · by_cases ck : m < i ∧ cD b am g (fun m => cap * ad m) m = true
          · rw [if_pos ck, if_pos ⟨by omega, ck.2⟩]
          · rw [if_neg ck, if_neg (fun q => ck ⟨by omega, q.2⟩)]) q5
    · refine LW_iload 3 dX11_calls_156 rfl ?_
      refine LW_bif_eq (tgt := 189) dX11_calls_158 (by decide) (fun c158 => ?_) (fun c158 => ?_)
      · refine LW_aloadn 0 dX11_calls_189 rfl rfl ?_
        refine gX11_40 dX11_calls_190 flX11_69 (hY.lt (k := 217) (by decide)) (ly217 hY) (lf217_40 hY) ?_
        refine LW_bipush (v := 6) dX11_calls_193 (by decide) ?_
        refine LW_iload 5 dX11_calls_195 rfl ?_
        refine LW_imul dX11_calls_197 ?_
        rw [show (6 * (nI i)) = nI (6 * i) from (nI_mul 6 i)]
        refine LW_iconst (v := 3) dX11_calls_198 (by decide) ?_
        refine LW_iadd dX11_calls_199 ?_
        rw [show ((nI (6 * i)) + 3) = nI (6 * i + 3) from (nI_add (6 * i) 3)]
        refine LW_iload 3 dX11_calls_200 rfl ?_
        refine LW_bif_eq (tgt := 222) dX11_calls_202 (by decide) (fun c202 => ?_) (fun c202 => absurd (c202.symm.trans c158) (by decide))
        refine LW_aloadn 0 dX11_calls_222 rfl rfl ?_
        refine gX11_37 dX11_calls_223 flX11_59 (hY.lt (k := 217) (by decide)) (ly217 hY) (lf217_37 hY) ?_
        refine LW_iload 5 dX11_calls_226 rfl ?_
        refine LW_lald dX11_calls_228 (hY.lt (k := 231) (by decide)) (ly231 hY) rfl hi (Nat.le_of_ble_eq_true rfl) ?_
        rw [show L3 231 i = g i from (by rw [q2 231 (by decide)]; exact hg i hi)]
        refine LW_last dX11_calls_229 (hY.lt (k := 234) (by decide)) (ly234 hY) rfl (by omega) (Nat.le_of_ble_eq_true rfl) ?_
        generalize hL229 : hc_u L3 234 (6 * i + 3) (g i) = L229
        refine LW_lloadn 2 dX11_calls_230 rfl rfl ?_
        refine LW_aloadn 0 dX11_calls_231 rfl rfl ?_
        refine gX11_40 dX11_calls_232 flX11_69 (hY.lt (k := 217) (by decide)) (ly217 hY) (lf217_40 hY) ?_
        refine LW_bipush (v := 6) dX11_calls_235 (by decide) ?_
        refine LW_iload 5 dX11_calls_237 rfl ?_
        refine LW_imul dX11_calls_239 ?_
        rw [show (6 * (nI i)) = nI (6 * i) from (nI_mul 6 i)]
        refine LW_iconst (v := 3) dX11_calls_240 (by decide) ?_
        refine LW_iadd dX11_calls_241 ?_
        rw [show ((nI (6 * i)) + 3) = nI (6 * i + 3) from (nI_add (6 * i) 3)]
        refine LW_lald dX11_calls_242 (hY.lt (k := 234) (by decide)) (ly234 hY) rfl (by omega) (Nat.le_of_ble_eq_true rfl) ?_
        rw [show L229 234 (6 * i + 3) = g i from (by rw [← hL229, hc_u_at, if_pos rfl])]
        refine LW_lsub dX11_calls_243 ?_
        refine LW_lstoren (ls' := [(0, .ref 217), (1, .long x0), (3, .long ((runW x (fun m => if cD b am g (fun m => cap * ad m) m = true then cV b g (fun m => cap * ad m) m else 0) i) - (g i))), (5, .int (hc_b b)), (6, .long hd), (8, .int (nI i))]) dX11_calls_244 rfl (by decide) rfl ?_
        refine LW_aloadn 0 dX11_calls_245 rfl rfl ?_
        refine gX11_39 dX11_calls_246 flX11_65 (hY.lt (k := 217) (by decide)) (ly217 hY) (lf217_39 hY) ?_
        refine LW_iload 5 dX11_calls_249 rfl ?_
        refine LW_iconst (v := 0) dX11_calls_251 (by decide) ?_
        refine LW_zast dX11_calls_252 (hY.lt (k := 233) (by decide)) (ly233 hY) rfl hi (Nat.le_of_ble_eq_true rfl) ?_
        generalize hI252 : hc_u I3 233 i (vp_nar .boolean 0) = I252
        refine LW_iinc (n := 5) (v := nI (i + 1)) (ls' := [(0, .ref 217), (1, .long x0), (3, .long ((runW x (fun m => if cD b am g (fun m => cap * ad m) m = true then cV b g (fun m => cap * ad m) m else 0) i) - (g i))), (5, .int (hc_b b)), (6, .long hd), (8, .int (nI (i + 1)))]) dX11_calls_253 rfl (hc_inc _) (by decide) rfl ?_
        refine LW_goto (tgt := 139) dX11_calls_256 (by decide) ?_
        have ec : cD b am g (fun m => cap * ad m) i = true := (by unfold cD; rw [c153, c158]; rfl)
        have ev : cV b g (fun m => cap * ad m) i = g i := if_neg (by rw [c158]; decide)
        have ew : runW x (fun m => if cD b am g (fun m => cap * ad m) m = true then cV b g (fun m => cap * ad m) m else 0) (i + 1) = runW x (fun m => if cD b am g (fun m => cap * ad m) m = true then cV b g (fun m => cap * ad m) m else 0) i - g i := by show runW x (fun m => if cD b am g (fun m => cap * ad m) m = true then cV b g (fun m => cap * ad m) m else 0) i - (if cD b am g (fun m => cap * ad m) i = true then cV b g (fun m => cap * ad m) i else 0) = _; rw [if_pos ec, ev]
        rw [ew] at ih
        exact ih I252 L229 (fun z z1 => by rw [← hI252, hc_u_row _ _ _ _ z1]; exact q1 z z1) (fun z z1 => by rw [← hL229, hc_u_row _ _ _ _ z1]; exact q2 z z1) (fun j hj => by
          rw [← hI252, hc_u_at]
          by_cases cj : j = i
          · rw [if_pos cj, cj, if_pos (Nat.lt_succ_self i), ec, Bool.not_true, Bool.and_false]; rfl
          · rw [if_neg cj, q3 j hj]
            by_cases ck : j < i
            · rw [if_pos ck, if_pos (by omega)]
            · rw [if_neg ck, if_neg (by omega)]) (fun m hm => by
          rw [← hL229, hc_u_at]
          by_cases cm : m = i
          · rw [cm, if_pos rfl, if_pos ⟨Nat.lt_succ_self i, ec⟩, ev]
          · rw [if_neg (by omega), q4 m hm]
            by_cases ck : m < i ∧ cD b am g (fun m => cap * ad m) m = true
            · rw [if_pos ck, if_pos ⟨by omega, ck.2⟩]
            · rw [if_neg ck, if_neg (fun q => ck ⟨by omega, q.2⟩)]) (fun j hj h6 => by
          rw [← hL229, hc_u_at, if_neg (by omega)]
          exact q5 j hj h6)
      · refine LW_aloadn 0 dX11_calls_161 rfl rfl ?_
        refine gX11_37 dX11_calls_162 flX11_59 (hY.lt (k := 217) (by decide)) (ly217 hY) (lf217_37 hY) ?_
        refine LW_iload 5 dX11_calls_165 rfl ?_
        refine LW_lald dX11_calls_167 (hY.lt (k := 231) (by decide)) (ly231 hY) rfl hi (Nat.le_of_ble_eq_true rfl) ?_
        rw [show L3 231 i = g i from (by rw [q2 231 (by decide)]; exact hg i hi)]
        refine LW_aloadn 0 dX11_calls_168 rfl rfl ?_
        refine gX11_0 dX11_calls_169 flX11_9 (hY.lt (k := 217) (by decide)) (ly217 hY) (lf217_0 hY) ?_
        refine LW_iconst (v := 2) dX11_calls_172 (by decide) ?_
        refine LW_lald dX11_calls_173 (hY.lt (k := 218) (by decide)) (ly218 hY) rfl (by decide) (Nat.le_of_ble_eq_true rfl) ?_
        rw [show L3 218 2 = cap from (by rw [q2 218 (by decide)]; exact hcap)]
        refine LW_aloadn 0 dX11_calls_174 rfl rfl ?_
        refine gX11_41 dX11_calls_175 flX11_72 (hY.lt (k := 217) (by decide)) (ly217 hY) (lf217_41 hY) ?_
        refine LW_iload 5 dX11_calls_178 rfl ?_
        refine LW_lald dX11_calls_180 (hY.lt (k := 235) (by decide)) (ly235 hY) rfl hi (Nat.le_of_ble_eq_true rfl) ?_
        rw [show L3 235 i = ad i from (by rw [q2 235 (by decide)]; exact had i hi)]
        refine LW_lmul dX11_calls_181 ?_
        refine LW_lcmp dX11_calls_182 ?_
        refine LW_lif_gt (tgt := 189) dX11_calls_183 (by decide) (fun c183 => ?_) (fun c183 => ?_)
        · refine LW_aloadn 0 dX11_calls_189 rfl rfl ?_
          refine gX11_40 dX11_calls_190 flX11_69 (hY.lt (k := 217) (by decide)) (ly217 hY) (lf217_40 hY) ?_
          refine LW_bipush (v := 6) dX11_calls_193 (by decide) ?_
          refine LW_iload 5 dX11_calls_195 rfl ?_
          refine LW_imul dX11_calls_197 ?_
          rw [show (6 * (nI i)) = nI (6 * i) from (nI_mul 6 i)]
          refine LW_iconst (v := 3) dX11_calls_198 (by decide) ?_
          refine LW_iadd dX11_calls_199 ?_
          rw [show ((nI (6 * i)) + 3) = nI (6 * i + 3) from (nI_add (6 * i) 3)]
          refine LW_iload 3 dX11_calls_200 rfl ?_
          refine LW_bif_eq (tgt := 222) dX11_calls_202 (by decide) (fun c202 => absurd (c202.symm.trans c158) (by decide)) (fun c202 => ?_)
          refine LW_aloadn 0 dX11_calls_205 rfl rfl ?_
          refine gX11_0 dX11_calls_206 flX11_9 (hY.lt (k := 217) (by decide)) (ly217 hY) (lf217_0 hY) ?_
          refine LW_iconst (v := 2) dX11_calls_209 (by decide) ?_
          refine LW_lald dX11_calls_210 (hY.lt (k := 218) (by decide)) (ly218 hY) rfl (by decide) (Nat.le_of_ble_eq_true rfl) ?_
          rw [show L3 218 2 = cap from (by rw [q2 218 (by decide)]; exact hcap)]
          refine LW_aloadn 0 dX11_calls_211 rfl rfl ?_
          refine gX11_41 dX11_calls_212 flX11_72 (hY.lt (k := 217) (by decide)) (ly217 hY) (lf217_41 hY) ?_
          refine LW_iload 5 dX11_calls_215 rfl ?_
          refine LW_lald dX11_calls_217 (hY.lt (k := 235) (by decide)) (ly235 hY) rfl hi (Nat.le_of_ble_eq_true rfl) ?_
          rw [show L3 235 i = ad i from (by rw [q2 235 (by decide)]; exact had i hi)]
          refine LW_lmul dX11_calls_218 ?_
          refine LW_goto (tgt := 229) dX11_calls_219 (by decide) ?_
          refine LW_last dX11_calls_229 (hY.lt (k := 234) (by decide)) (ly234 hY) rfl (by omega) (Nat.le_of_ble_eq_true rfl) ?_
          generalize hL229 : hc_u L3 234 (6 * i + 3) (cap * (ad i)) = L229
          refine LW_lloadn 2 dX11_calls_230 rfl rfl ?_
          refine LW_aloadn 0 dX11_calls_231 rfl rfl ?_
          refine gX11_40 dX11_calls_232 flX11_69 (hY.lt (k := 217) (by decide)) (ly217 hY) (lf217_40 hY) ?_
          refine LW_bipush (v := 6) dX11_calls_235 (by decide) ?_
          refine LW_iload 5 dX11_calls_237 rfl ?_
          refine LW_imul dX11_calls_239 ?_
          rw [show (6 * (nI i)) = nI (6 * i) from (nI_mul 6 i)]
          refine LW_iconst (v := 3) dX11_calls_240 (by decide) ?_
          refine LW_iadd dX11_calls_241 ?_
          rw [show ((nI (6 * i)) + 3) = nI (6 * i + 3) from (nI_add (6 * i) 3)]
          refine LW_lald dX11_calls_242 (hY.lt (k := 234) (by decide)) (ly234 hY) rfl (by omega) (Nat.le_of_ble_eq_true rfl) ?_
          rw [show L229 234 (6 * i + 3) = cap * ad i from (by rw [← hL229, hc_u_at, if_pos rfl])]
          refine LW_lsub dX11_calls_243 ?_
          refine LW_lstoren (ls' := [(0, .ref 217), (1, .long x0), (3, .long ((runW x (fun m => if cD b am g (fun m => cap * ad m) m = true then cV b g (fun m => cap * ad m) m else 0) i) - (cap * ad i))), (5, .int (hc_b b)), (6, .long hd), (8, .int (nI i))]) dX11_calls_244 rfl (by decide) rfl ?_
          refine LW_aloadn 0 dX11_calls_245 rfl rfl ?_
          refine gX11_39 dX11_calls_246 flX11_65 (hY.lt (k := 217) (by decide)) (ly217 hY) (lf217_39 hY) ?_
          refine LW_iload 5 dX11_calls_249 rfl ?_
          refine LW_iconst (v := 0) dX11_calls_251 (by decide) ?_
          refine LW_zast dX11_calls_252 (hY.lt (k := 233) (by decide)) (ly233 hY) rfl hi (Nat.le_of_ble_eq_true rfl) ?_
          generalize hI252 : hc_u I3 233 i (vp_nar .boolean 0) = I252
          refine LW_iinc (n := 5) (v := nI (i + 1)) (ls' := [(0, .ref 217), (1, .long x0), (3, .long ((runW x (fun m => if cD b am g (fun m => cap * ad m) m = true then cV b g (fun m => cap * ad m) m else 0) i) - (cap * ad i))), (5, .int (hc_b b)), (6, .long hd), (8, .int (nI (i + 1)))]) dX11_calls_253 rfl (hc_inc _) (by decide) rfl ?_
          refine LW_goto (tgt := 139) dX11_calls_256 (by decide) ?_
          have ec : cD b am g (fun m => cap * ad m) i = true := (by unfold cD; rw [c153, c158, decide_eq_true (show cap * ad i < g i from c183)]; rfl)
          have ev : cV b g (fun m => cap * ad m) i = cap * ad i := if_pos c158
          have ew : runW x (fun m => if cD b am g (fun m => cap * ad m) m = true then cV b g (fun m => cap * ad m) m else 0) (i + 1) = runW x (fun m => if cD b am g (fun m => cap * ad m) m = true then cV b g (fun m => cap * ad m) m else 0) i - cap * ad i := by show runW x (fun m => if cD b am g (fun m => cap * ad m) m = true then cV b g (fun m => cap * ad m) m else 0) i - (if cD b am g (fun m => cap * ad m) i = true then cV b g (fun m => cap * ad m) i else 0) = _; rw [if_pos ec, ev]
          rw [ew] at ih
          exact ih I252 L229 (fun z z1 => by rw [← hI252, hc_u_row _ _ _ _ z1]; exact q1 z z1) (fun z z1 => by rw [← hL229, hc_u_row _ _ _ _ z1]; exact q2 z z1) (fun j hj => by
            rw [← hI252, hc_u_at]
            by_cases cj : j = i
            · rw [if_pos cj, cj, if_pos (Nat.lt_succ_self i), ec, Bool.not_true, Bool.and_false]; rfl
            · rw [if_neg cj, q3 j hj]
              by_cases ck : j < i
              · rw [if_pos ck, if_pos (by omega)]
              · rw [if_neg ck, if_neg (by omega)]) (fun m hm => by
            rw [← hL229, hc_u_at]
            by_cases cm : m = i
            · rw [cm, if_pos rfl, if_pos ⟨Nat.lt_succ_self i, ec⟩, ev]
            · rw [if_neg (by omega), q4 m hm]
              by_cases ck : m < i ∧ cD b am g (fun m => cap * ad m) m = true
              · rw [if_pos ck, if_pos ⟨by omega, ck.2⟩]
              · rw [if_neg ck, if_neg (fun q => ck ⟨by omega, q.2⟩)]) (fun j hj h6 => by
            rw [← hL229, hc_u_at, if_neg (by omega)]
            exact q5 j hj h6)
        · refine LW_goto (tgt := 253) dX11_calls_186 (by decide) ?_
          refine LW_iinc (n := 5) (v := nI (i + 1)) (ls' := [(0, .ref 217), (1, .long x0), (3, .long (runW x (fun m => if cD b am g (fun m => cap * ad m) m = true then cV b g (fun m => cap * ad m) m else 0) i)), (5, .int (hc_b b)), (6, .long hd), (8, .int (nI (i + 1)))]) dX11_calls_253 rfl (hc_inc _) (by decide) rfl ?_
          refine LW_goto (tgt := 139) dX11_calls_256 (by decide) ?_
          have ec : cD b am g (fun m => cap * ad m) i = false := (by unfold cD; rw [c158, decide_eq_false (show ¬ cap * ad i < g i from c183), Bool.not_true, Bool.false_or, Bool.and_false])
          have ew : runW x (fun m => if cD b am g (fun m => cap * ad m) m = true then cV b g (fun m => cap * ad m) m else 0) (i + 1) = runW x (fun m => if cD b am g (fun m => cap * ad m) m = true then cV b g (fun m => cap * ad m) m else 0) i := by show runW x (fun m => if cD b am g (fun m => cap * ad m) m = true then cV b g (fun m => cap * ad m) m else 0) i - (if cD b am g (fun m => cap * ad m) i = true then _ else 0) = _; rw [if_neg (by rw [ec]; decide), Int64.sub_zero]
          rw [ew] at ih
          exact ih I3 L3 q1 q2 (fun j hj => by
            rw [q3 j hj]
            by_cases cj : j = i
            · rw [cj, if_neg (Nat.lt_irrefl i), if_pos (Nat.lt_succ_self i), ec, Bool.not_false, Bool.and_true]
            · by_cases ck : j < i
              · rw [if_pos ck, if_pos (by omega)]
              · rw [if_neg ck, if_neg (by omega)]) (fun m hm => by
            rw [q4 m hm]
            by_cases cm : m = i
            · rw [if_neg (fun q => absurd q.1 (by omega)), if_neg (fun q => by rw [cm, ec] at q; cases q.2)]
            · by_cases ck : m < i ∧ cD b am g (fun m => cap * ad m) m = true
              · rw [if_pos ck, if_pos ⟨by omega, ck.2⟩]
              · rw [if_neg ck, if_neg (fun q => ck ⟨by omega, q.2⟩)]) q5
set_option maxRecDepth 100000 in
theorem cl_C {Λ : hc_L} {I2 : hc_I} {L2 : hc_J} {R : hc_R} {x0 x hd cap : Int64} {ad g cl : Nat → Int64} {am : Nat → Bool} {Q : hc_Q} (hY : LY Λ) (hcap : L2 218 2 = cap) (had : ∀ j, j < 12 → L2 235 j = ad j) (hg : ∀ j, j < 12 → L2 231 j = g j) (ham : ∀ j, j < 12 → I2 233 j = hc_b (am j)) (hcl : ∀ m, m < 12 → L2 234 (6 * m + 3) = cl m) (hend : LW xX11_calls (0, 0) 136 [(0, .ref 217), (1, .long x0), (3, .long x), (5, .int (hc_b (anyB (cfO am g (fun m => cap * ad m)) 12))), (6, .long hd), (8, .int (nI 12))] [] Λ I2 L2 R Q) : ∀ i, i ≤ 12 → LW xX11_calls (0, 0) 76 [(0, .ref 217), (1, .long x0), (3, .long x), (5, .int (hc_b (anyB (cfO am g (fun m => cap * ad m)) i))), (6, .long hd), (8, .int (nI i))] [] Λ I2 L2 R Q := by
  refine hc_down ?_ ?_
  · refine LW_iload 5 dX11_calls_76 rfl ?_
    refine LW_bipush (v := 12) dX11_calls_78 (by decide) ?_
    refine LW_icmp_ge (tgt := 136) dX11_calls_80 (by decide) (fun c80 => ?_) (fun c80 => absurd (by decide) c80)
    exact hend
  · intro i hi ih
    refine LW_iload 5 dX11_calls_76 rfl ?_
    refine LW_bipush (v := 12) dX11_calls_78 (by decide) ?_
    refine LW_icmp_ge (tgt := 136) dX11_calls_80 (by decide) (fun c80 => absurd c80 (hc_nle (a := 12) (b := i) (by decide) (by omega) hi)) (fun c80 => ?_)
    refine LW_iload 3 dX11_calls_83 rfl ?_
    refine LW_bif_ne (tgt := 123) dX11_calls_85 (by decide) (fun c85 => ?_) (fun c85 => ?_)
    · refine LW_iconst (v := 1) dX11_calls_123 (by decide) ?_
      refine LW_goto (tgt := 128) dX11_calls_124 (by decide) ?_
      refine LW_istore (ls' := [(0, .ref 217), (1, .long x0), (3, .long x), (5, .int 1), (6, .long hd), (8, .int (nI i))]) dX11_calls_128 (by decide) rfl ?_
      refine LW_iinc (n := 5) (v := nI (i + 1)) (ls' := [(0, .ref 217), (1, .long x0), (3, .long x), (5, .int 1), (6, .long hd), (8, .int (nI (i + 1)))]) dX11_calls_130 rfl (hc_inc _) (by decide) rfl ?_
      refine LW_goto (tgt := 76) dX11_calls_133 (by decide) ?_
      have e : anyB (cfO am g (fun m => cap * ad m)) (i + 1) = true := by
        show (anyB (cfO am g (fun m => cap * ad m)) i || cfO am g (fun m => cap * ad m) i) = _
        rw [c85, Bool.true_or]
      rw [e] at ih
      exact ih
    · refine LW_aloadn 0 dX11_calls_88 rfl rfl ?_
      refine gX11_39 dX11_calls_89 flX11_65 (hY.lt (k := 217) (by decide)) (ly217 hY) (lf217_39 hY) ?_
      refine LW_iload 5 dX11_calls_92 rfl ?_
      refine LW_zald dX11_calls_94 (hY.lt (k := 233) (by decide)) (ly233 hY) rfl hi (Nat.le_of_ble_eq_true rfl) ?_
      rw [show I2 233 i = hc_b (am i) from ham i hi]
      refine LW_bif_eq (tgt := 127) dX11_calls_95 (by decide) (fun c95 => ?_) (fun c95 => ?_)
      · refine LW_iconst (v := 0) dX11_calls_127 (by decide) ?_
        refine LW_istore (ls' := [(0, .ref 217), (1, .long x0), (3, .long x), (5, .int 0), (6, .long hd), (8, .int (nI i))]) dX11_calls_128 (by decide) rfl ?_
        refine LW_iinc (n := 5) (v := nI (i + 1)) (ls' := [(0, .ref 217), (1, .long x0), (3, .long x), (5, .int 0), (6, .long hd), (8, .int (nI (i + 1)))]) dX11_calls_130 rfl (hc_inc _) (by decide) rfl ?_
        refine LW_goto (tgt := 76) dX11_calls_133 (by decide) ?_
        have e : anyB (cfO am g (fun m => cap * ad m)) (i + 1) = false := by
          show (anyB (cfO am g (fun m => cap * ad m)) i || cfO am g (fun m => cap * ad m) i) = _
          have z : cfO am g (fun m => cap * ad m) i = false := by unfold cfO; rw [c95, Bool.false_and]
          rw [c85, z]; rfl
        rw [e] at ih
        exact ih
      · refine LW_aloadn 0 dX11_calls_98 rfl rfl ?_
        refine gX11_37 dX11_calls_99 flX11_59 (hY.lt (k := 217) (by decide)) (ly217 hY) (lf217_37 hY) ?_
        refine LW_iload 5 dX11_calls_102 rfl ?_
        refine LW_lald dX11_calls_104 (hY.lt (k := 231) (by decide)) (ly231 hY) rfl hi (Nat.le_of_ble_eq_true rfl) ?_
        rw [show L2 231 i = g i from hg i hi]
        refine LW_aloadn 0 dX11_calls_105 rfl rfl ?_
        refine gX11_0 dX11_calls_106 flX11_9 (hY.lt (k := 217) (by decide)) (ly217 hY) (lf217_0 hY) ?_
        refine LW_iconst (v := 2) dX11_calls_109 (by decide) ?_
        refine LW_lald dX11_calls_110 (hY.lt (k := 218) (by decide)) (ly218 hY) rfl (by decide) (Nat.le_of_ble_eq_true rfl) ?_
        rw [show L2 218 2 = cap from hcap]
        refine LW_aloadn 0 dX11_calls_111 rfl rfl ?_
        refine gX11_41 dX11_calls_112 flX11_72 (hY.lt (k := 217) (by decide)) (ly217 hY) (lf217_41 hY) ?_
        refine LW_iload 5 dX11_calls_115 rfl ?_
        refine LW_lald dX11_calls_117 (hY.lt (k := 235) (by decide)) (ly235 hY) rfl hi (Nat.le_of_ble_eq_true rfl) ?_
        rw [show L2 235 i = ad i from had i hi]
        refine LW_lmul dX11_calls_118 ?_
        refine LW_lcmp dX11_calls_119 ?_
        refine LW_lif_le (tgt := 127) dX11_calls_120 (by decide) (fun c120 => ?_) (fun c120 => ?_)
        · refine LW_iconst (v := 0) dX11_calls_127 (by decide) ?_
          refine LW_istore (ls' := [(0, .ref 217), (1, .long x0), (3, .long x), (5, .int 0), (6, .long hd), (8, .int (nI i))]) dX11_calls_128 (by decide) rfl ?_
          refine LW_iinc (n := 5) (v := nI (i + 1)) (ls' := [(0, .ref 217), (1, .long x0), (3, .long x), (5, .int 0), (6, .long hd), (8, .int (nI (i + 1)))]) dX11_calls_130 rfl (hc_inc _) (by decide) rfl ?_
          refine LW_goto (tgt := 76) dX11_calls_133 (by decide) ?_
          have e : anyB (cfO am g (fun m => cap * ad m)) (i + 1) = false := by
            show (anyB (cfO am g (fun m => cap * ad m)) i || cfO am g (fun m => cap * ad m) i) = _
            have z : cfO am g (fun m => cap * ad m) i = false := by unfold cfO; rw [decide_eq_false (show ¬ cap * ad i < g i from Int64.not_lt.mpr c120), Bool.and_false]
            rw [c85, z]; rfl
          rw [e] at ih
          exact ih
        · refine LW_iconst (v := 1) dX11_calls_123 (by decide) ?_
          refine LW_goto (tgt := 128) dX11_calls_124 (by decide) ?_
          refine LW_istore (ls' := [(0, .ref 217), (1, .long x0), (3, .long x), (5, .int 1), (6, .long hd), (8, .int (nI i))]) dX11_calls_128 (by decide) rfl ?_
          refine LW_iinc (n := 5) (v := nI (i + 1)) (ls' := [(0, .ref 217), (1, .long x0), (3, .long x), (5, .int 1), (6, .long hd), (8, .int (nI (i + 1)))]) dX11_calls_130 rfl (hc_inc _) (by decide) rfl ?_
          refine LW_goto (tgt := 76) dX11_calls_133 (by decide) ?_
          have e : anyB (cfO am g (fun m => cap * ad m)) (i + 1) = true := by
            show (anyB (cfO am g (fun m => cap * ad m)) i || cfO am g (fun m => cap * ad m) i) = _
            have z : cfO am g (fun m => cap * ad m) i = true := by unfold cfO; rw [c95, decide_eq_true (show cap * ad i < g i from Int64.not_le.mp c120)]; rfl
            rw [c85, z]; rfl
          rw [e] at ih
          exact ih
theorem runW_congr {x : Int64} {f g : Nat → Int64} : ∀ {n : Nat}, (∀ j, j < n → f j = g j) → runW x f n = runW x g n
  | 0, _ => rfl
  | n + 1, h => by
    show runW x f n - f n = runW x g n - g n
    rw [runW_congr (fun j hj => h j (by omega)), h n (by omega)]
set_option maxRecDepth 100000 in
theorem cl_B {Λ : hc_L} {I : hc_I} {L : hc_J} {R : hc_R} {x0 cap : Int64} {ad pts : Nat → Int64} (hY : LY Λ) (hcap : L 218 2 = cap) (had : ∀ j, j < 12 → L 235 j = ad j) : ∀ n (am : Nat → Bool) (cl : Nat → Int64) (x : Int64) (I1 : hc_I) (L1 : hc_J), (∀ z, z ≠ 233 → I1 z = I z) → (∀ z, z ≠ 230 → z ≠ 231 → z ≠ 232 → z ≠ 234 → L1 z = L z) → (∀ j, j < 12 → I1 233 j = hc_b (am j)) → (∀ j, j < 12 → L1 230 j = pts j) → (∀ m, m < 12 → L1 234 (6 * m + 3) = cl m) → (∀ j, j < 72 → j % 6 ≠ 3 → L1 234 j = L 234 j) → mcFin (fun m => cap * ad m) pts n am x → LW xX11_calls (0, 0) 58 [(0, .ref 217), (1, .long x0), (3, .long x), (5, .int 1)] [] Λ I1 L1 R (cQ L (mcG (fun m => cap * ad m) pts n am cl x) Λ I L R) := by
  intro n
  induction n with
  | zero =>
    intro am cl x I1 L1 _ _ _ _ _ _ hf
    exact absurd hf (fun q => q)
  | succ n ih =>
    intro am cl x I1 L1 p1 p2 p3 p4 p5 p6 hf
    obtain ⟨hf1, hf2⟩ := hf
    refine LW_iload 3 dX11_calls_58 rfl ?_
    refine LW_if_eq (tgt := 287) dX11_calls_60 (by decide) (fun c60 => absurd c60 (by decide)) (fun c60 => ?_)
    refine LW_aloadn 0 dX11_calls_63 rfl rfl ?_
    refine LW_lloadn 2 dX11_calls_64 rfl rfl ?_
    refine LW_callV (As := [.long x]) (b := 217) (st := []) (ci := 11) (r := (RX11, TX11, 44)) (r_divides (x := x) hY p4 p3 hf1) YX11_divides rfl dX11_calls_65 mlX11_413 (hY.lt (k := 217) (by decide)) (ly217 hY) ⟨rfl, rfl⟩ (by decide) ⟨Nat.le_of_ble_eq_true rfl, Nat.le_of_ble_eq_true rfl⟩ (Nat.le_of_ble_eq_true rfl) rfl (fun r65 Λc65 Ic65 Lc65 Rc65 hq65 => ?_)
    obtain ⟨rfl, rfl, hI65, hL65, hR65, hG65⟩ := hq65
    obtain rfl : R = Rc65 := hR65
    have hI1e : I1 = Ic65 := funext fun z => (hI65 z (fun q => q)).symm
    obtain rfl : I1 = Ic65 := hI1e
    have e218 : Lc65 218 2 = cap := by rw [hL65 218 (by decide), p2 218 (by decide) (by decide) (by decide) (by decide)]; exact hcap
    have e235 : ∀ j, j < 12 → Lc65 235 j = ad j := fun j hj => by rw [hL65 235 (by decide), p2 235 (by decide) (by decide) (by decide) (by decide)]; exact had j hj
    have e234 : ∀ m, m < 12 → Lc65 234 (6 * m + 3) = cl m := fun m hm => by rw [hL65 234 (by decide)]; exact p5 m hm
    refine LW_lstore (ls' := [(0, .ref 217), (1, .long x0), (3, .long x), (5, .int 1), (6, .long (mvX x pts am))]) dX11_calls_68 (by decide) rfl ?_
    refine LW_iconst (v := 0) dX11_calls_70 (by decide) ?_
    refine LW_istore (ls' := [(0, .ref 217), (1, .long x0), (3, .long x), (5, .int 0), (6, .long (mvX x pts am))]) dX11_calls_71 (by decide) rfl ?_
    refine LW_iconst (v := 0) dX11_calls_73 (by decide) ?_
    refine LW_istore (ls' := [(0, .ref 217), (1, .long x0), (3, .long x), (5, .int 0), (6, .long (mvX x pts am)), (8, .int 0)]) dX11_calls_74 (by decide) rfl ?_
    refine LW_ls (ls' := [(0, .ref 217), (1, .long x0), (3, .long x), (5, .int 0), (6, .long (mvX x pts am)), (8, .int 0)]) [0, 1, 2, 3, 4, 5] rfl ?_
    refine cl_C (g := (mv x pts am)) hY e218 e235 hG65 p3 e234 ?_ 0 (Nat.zero_le _)
    refine LW_iconst (v := 0) dX11_calls_136 (by decide) ?_
    refine LW_istore (ls' := [(0, .ref 217), (1, .long x0), (3, .long x), (5, .int (hc_b (anyB (cfO am (mv x pts am) (fun m => cap * ad m)) 12))), (6, .long (mvX x pts am)), (8, .int 0)]) dX11_calls_137 (by decide) rfl ?_
    refine LW_ls (ls' := [(0, .ref 217), (1, .long x0), (3, .long x), (5, .int (hc_b (anyB (cfO am (mv x pts am) (fun m => cap * ad m)) 12))), (6, .long (mvX x pts am)), (8, .int 0)]) [0, 1, 2, 3, 4, 5] rfl ?_
    refine cl_D (b := anyB (cfO am (mv x pts am) (fun m => cap * ad m)) 12) (g := (mv x pts am)) hY e218 e235 hG65 p3 e234 (fun I3 L3 q1 q2 q3 q4 q5 => ?_) 0 (Nat.zero_le _) I1 Lc65 (fun _ _ => rfl) (fun _ _ => rfl) (fun j hj => by rw [if_neg (Nat.not_lt_zero j)]; exact p3 j hj) (fun m hm => by rw [if_neg (fun q => absurd q.1 (Nat.not_lt_zero m))]; exact e234 m hm) (fun j hj _ => rfl)
    have r1 : ∀ z, z ≠ 233 → I3 z = I z := fun z hz => by rw [q1 z hz]; exact p1 z hz
    have r2 : ∀ z, z ≠ 230 → z ≠ 231 → z ≠ 232 → z ≠ 234 → L3 z = L z := fun z z0 z1 z2 z4 => by rw [q2 z z4, hL65 z (by omega)]; exact p2 z z0 z1 z2 z4
    have r6 : ∀ j, j < 72 → j % 6 ≠ 3 → L3 234 j = L 234 j := fun j hj h6 => by rw [q5 j hj h6, hL65 234 (by decide)]; exact p6 j hj h6
    revert q3 q4
    generalize hb : anyB (cfO am (mv x pts am) (fun m => cap * ad m)) 12 = b
    intro q3 q4
    cases b with
    | false =>
      have eG : mcG (fun m => cap * ad m) pts (n + 1) am cl x = ((fun m => if am m = true then mv x pts am m else cl m), runW x (fun m => if am m = true then mv x pts am m else 0) 12) := by rw [mcG, if_neg (by rw [hb]; decide)]
      have eF : runW x (fun m => if am m = true then mv x pts am m else 0) 12 = runW x (fun m => if cD false am (mv x pts am) (fun m => cap * ad m) m = true then cV false (mv x pts am) (fun m => cap * ad m) m else 0) 12 := runW_congr (fun m _ => by
        have ec : cD false am (mv x pts am) (fun m => cap * ad m) m = am m := by unfold cD; exact Bool.and_true _
        rw [ec]; rfl)
      refine LW_iload 3 dX11_calls_259 rfl ?_
      refine LW_bif_eq (tgt := 281) dX11_calls_261 (by decide) (fun c261 => ?_) (fun c261 => absurd (c261.symm.trans rfl) (by decide))
      refine LW_iconst (v := 0) dX11_calls_281 (by decide) ?_
      refine LW_istore (ls' := [(0, .ref 217), (1, .long x0), (3, .long (runW x (fun m => if cD false am (mv x pts am) (fun m => cap * ad m) m = true then cV false (mv x pts am) (fun m => cap * ad m) m else 0) 12)), (5, .int 0), (6, .long (mvX x pts am)), (8, .int (nI 12))]) dX11_calls_282 (by decide) rfl ?_
      refine LW_goto (tgt := 58) dX11_calls_284 (by decide) ?_
      refine LW_iload 3 dX11_calls_58 rfl ?_
      refine LW_if_eq (tgt := 287) dX11_calls_60 (by decide) (fun c60 => ?_) (fun c60 => absurd rfl c60)
      refine LW_lloadn 2 dX11_calls_287 rfl rfl ?_
      refine LW_lret dX11_calls_288 rfl (Nat.le_of_ble_eq_true rfl) (Nat.le_of_ble_eq_true rfl) ?_
      refine ⟨?_, rfl, r1, fun z hz => r2 z (fun q => hz (Or.inl q)) (fun q => hz (Or.inr (Or.inl q))) (fun q => hz (Or.inr (Or.inr (Or.inl q)))) (fun q => hz (Or.inr (Or.inr (Or.inr q)))), rfl, fun m hm => ?_, r6⟩
      · rw [eG]; show _ = some (Value.long (runW x _ 12)); congr 2; exact eF.symm
      · rw [eG, q4 m hm]
        show _ = (if am m = true then _ else _)
        have ec : cD false am (mv x pts am) (fun m => cap * ad m) m = am m := by unfold cD; exact Bool.and_true _
        rw [ec]
        by_cases q : am m = true
        · rw [if_pos ⟨hm, q⟩, if_pos q]; rfl
        · rw [if_neg (fun z => q z.2), if_neg q]
    | true =>
      refine LW_iload 3 dX11_calls_259 rfl ?_
      refine LW_bif_eq (tgt := 281) dX11_calls_261 (by decide) (fun c261 => absurd (c261.symm.trans rfl) (by decide)) (fun c261 => ?_)
      refine LW_lload 4 dX11_calls_264 rfl ?_
      refine LW_lconst (v := 0) dX11_calls_266 (by decide) ?_
      refine LW_lcmp dX11_calls_267 ?_
      refine LW_lif_le (tgt := 281) dX11_calls_268 (by decide) (fun c268 => ?_) (fun c268 => ?_)
      · refine LW_iconst (v := 0) dX11_calls_281 (by decide) ?_
        refine LW_istore (ls' := [(0, .ref 217), (1, .long x0), (3, .long (runW x (fun m => if cD true am (mv x pts am) (fun m => cap * ad m) m = true then cV true (mv x pts am) (fun m => cap * ad m) m else 0) 12)), (5, .int 0), (6, .long (mvX x pts am)), (8, .int (nI 12))]) dX11_calls_282 (by decide) rfl ?_
        refine LW_goto (tgt := 58) dX11_calls_284 (by decide) ?_
        refine LW_iload 3 dX11_calls_58 rfl ?_
        refine LW_if_eq (tgt := 287) dX11_calls_60 (by decide) (fun c60 => ?_) (fun c60 => absurd rfl c60)
        have hno : ¬ (0 < mvX x pts am ∧ 0 < runW x (fun m => if cD true am (mv x pts am) (fun m => cap * ad m) m = true then cV true (mv x pts am) (fun m => cap * ad m) m else 0) 12) := fun z => absurd z.1 (Int64.not_lt.mpr c268)
        have eG : mcG (fun m => cap * ad m) pts (n + 1) am cl x = ((fun m => if cfO am (mv x pts am) (fun m => cap * ad m) m = true then cap * ad m else cl m), runW x (fun m => if cD true am (mv x pts am) (fun m => cap * ad m) m = true then cV true (mv x pts am) (fun m => cap * ad m) m else 0) 12) := by rw [mcG, if_pos hb, if_neg (show ¬ (0 < mvX x pts am ∧ 0 < runW x (fun m => if cfO am (mv x pts am) (fun m => cap * ad m) m = true then (fun m => cap * ad m) m else 0) 12) from hno)]; rfl
        refine LW_lloadn 2 dX11_calls_287 rfl rfl ?_
        refine LW_lret dX11_calls_288 rfl (Nat.le_of_ble_eq_true rfl) (Nat.le_of_ble_eq_true rfl) ?_
        refine ⟨?_, rfl, r1, fun z hz => r2 z (fun q => hz (Or.inl q)) (fun q => hz (Or.inr (Or.inl q))) (fun q => hz (Or.inr (Or.inr (Or.inl q)))) (fun q => hz (Or.inr (Or.inr (Or.inr q)))), rfl, fun m hm => ?_, r6⟩
        · rw [eG]
        · rw [eG, q4 m hm]
          show _ = (if cfO am (mv x pts am) (fun m => cap * ad m) m = true then _ else _)
          by_cases q : cfO am (mv x pts am) (fun m => cap * ad m) m = true
          · rw [if_pos ⟨hm, q⟩, if_pos q]; rfl
          · rw [if_neg (fun z => q z.2), if_neg q]
      · refine LW_lloadn 2 dX11_calls_271 rfl rfl ?_
        refine LW_lconst (v := 0) dX11_calls_272 (by decide) ?_
        refine LW_lcmp dX11_calls_273 ?_
        refine LW_lif_le (tgt := 281) dX11_calls_274 (by decide) (fun c274 => ?_) (fun c274 => ?_)
        · refine LW_iconst (v := 0) dX11_calls_281 (by decide) ?_
          refine LW_istore (ls' := [(0, .ref 217), (1, .long x0), (3, .long (runW x (fun m => if cD true am (mv x pts am) (fun m => cap * ad m) m = true then cV true (mv x pts am) (fun m => cap * ad m) m else 0) 12)), (5, .int 0), (6, .long (mvX x pts am)), (8, .int (nI 12))]) dX11_calls_282 (by decide) rfl ?_
          refine LW_goto (tgt := 58) dX11_calls_284 (by decide) ?_
          refine LW_iload 3 dX11_calls_58 rfl ?_
          refine LW_if_eq (tgt := 287) dX11_calls_60 (by decide) (fun c60 => ?_) (fun c60 => absurd rfl c60)
          have hno : ¬ (0 < mvX x pts am ∧ 0 < runW x (fun m => if cD true am (mv x pts am) (fun m => cap * ad m) m = true then cV true (mv x pts am) (fun m => cap * ad m) m else 0) 12) := fun z => absurd z.2 (Int64.not_lt.mpr c274)
          have eG : mcG (fun m => cap * ad m) pts (n + 1) am cl x = ((fun m => if cfO am (mv x pts am) (fun m => cap * ad m) m = true then cap * ad m else cl m), runW x (fun m => if cD true am (mv x pts am) (fun m => cap * ad m) m = true then cV true (mv x pts am) (fun m => cap * ad m) m else 0) 12) := by rw [mcG, if_pos hb, if_neg (show ¬ (0 < mvX x pts am ∧ 0 < runW x (fun m => if cfO am (mv x pts am) (fun m => cap * ad m) m = true then (fun m => cap * ad m) m else 0) 12) from hno)]; rfl
          refine LW_lloadn 2 dX11_calls_287 rfl rfl ?_
          refine LW_lret dX11_calls_288 rfl (Nat.le_of_ble_eq_true rfl) (Nat.le_of_ble_eq_true rfl) ?_
          refine ⟨?_, rfl, r1, fun z hz => r2 z (fun q => hz (Or.inl q)) (fun q => hz (Or.inr (Or.inl q))) (fun q => hz (Or.inr (Or.inr (Or.inl q)))) (fun q => hz (Or.inr (Or.inr (Or.inr q)))), rfl, fun m hm => ?_, r6⟩
          · rw [eG]
          · rw [eG, q4 m hm]
            show _ = (if cfO am (mv x pts am) (fun m => cap * ad m) m = true then _ else _)
            by_cases q : cfO am (mv x pts am) (fun m => cap * ad m) m = true
            · rw [if_pos ⟨hm, q⟩, if_pos q]; rfl
            · rw [if_neg (fun z => q z.2), if_neg q]
        · refine LW_iconst (v := 1) dX11_calls_277 (by decide) ?_
          refine LW_goto (tgt := 282) dX11_calls_278 (by decide) ?_
          refine LW_istore (ls' := [(0, .ref 217), (1, .long x0), (3, .long (runW x (fun m => if cD true am (mv x pts am) (fun m => cap * ad m) m = true then cV true (mv x pts am) (fun m => cap * ad m) m else 0) 12)), (5, .int 1), (6, .long (mvX x pts am)), (8, .int (nI 12))]) dX11_calls_282 (by decide) rfl ?_
          refine LW_goto (tgt := 58) dX11_calls_284 (by decide) ?_
          have hgo : 0 < mvX x pts am ∧ 0 < runW x (fun m => if cD true am (mv x pts am) (fun m => cap * ad m) m = true then cV true (mv x pts am) (fun m => cap * ad m) m else 0) 12 := ⟨Int64.not_le.mp c268, Int64.not_le.mp c274⟩
          have eG : mcG (fun m => cap * ad m) pts (n + 1) am cl x = mcG (fun m => cap * ad m) pts n (fun m => am m && !cfO am (mv x pts am) (fun m => cap * ad m) m) (fun m => if cfO am (mv x pts am) (fun m => cap * ad m) m = true then cap * ad m else cl m) (runW x (fun m => if cD true am (mv x pts am) (fun m => cap * ad m) m = true then cV true (mv x pts am) (fun m => cap * ad m) m else 0) 12) := by rw [mcG, if_pos hb, if_pos (show 0 < mvX x pts am ∧ 0 < runW x (fun m => if cfO am (mv x pts am) (fun m => cap * ad m) m = true then (fun m => cap * ad m) m else 0) 12 from hgo)]; rfl
          rw [eG]
          refine LW_ls (ls' := [(0, .ref 217), (1, .long x0), (3, .long (runW x (fun m => if cD true am (mv x pts am) (fun m => cap * ad m) m = true then cV true (mv x pts am) (fun m => cap * ad m) m else 0) 12)), (5, .int 1)]) [0, 1, 2, 3] rfl ?_
          exact ih _ _ _ I3 L3 r1 r2 (fun j hj => by rw [q3 j hj, if_pos hj]; rfl) (fun j hj => by rw [q2 230 (by decide), hL65 230 (by decide)]; exact p4 j hj) (fun m hm => by
            rw [q4 m hm]
            by_cases q : cfO am (mv x pts am) (fun m => cap * ad m) m = true
            · rw [if_pos ⟨hm, q⟩, if_pos q]; rfl
            · rw [if_neg (fun z => q z.2), if_neg q]) r6 (hf2 hb hgo)
set_option maxRecDepth 100000 in
theorem r_calls {Λ : hc_L} {I : hc_I} {L : hc_J} {R : hc_R} {A : AS} {w : Int32} (hM : MC Λ I L A w) {ad : Nat → Int64} {x : Int64} (had : ∀ j, j < 12 → L 235 j = ad j) (hin : ∀ j, j < 12 → I 233 j = hc_b (prX A w j)) (hfin : 0 < x → mcFin (fun m => aRu A 5 * ad m) (gP A (prX A w)) 13 (prX A w) x) : Run xX11_calls [.ref 217, .long x] Λ I L R (cQ L (if 0 < x then mcG (fun m => aRu A 5 * ad m) (gP A (prX A w)) 13 (prX A w) (fun m => L 234 (6 * m + 3)) x else ((fun m => L 234 (6 * m + 3)), x)) Λ I L R) := by
  refine Run.of (by decide +kernel) (Nat.le_of_ble_eq_true rfl) ?_
  show LW _ _ _ [(0, .ref 217), (1, .long x)] _ _ _ _ _ _
  have hY := hM.y
  have loop : ∀ i, i ≤ 12 → ∀ (L1 : hc_J), (∀ z, z ≠ 230 → L1 z = L z) → (∀ j, j < i → L1 230 j = gP A (prX A w) j) → LW xX11_calls (0, 0) 5 [(0, .ref 217), (1, .long x), (3, .long x), (5, .int (nI i))] [] Λ I L1 R (cQ L (if 0 < x then mcG (fun m => aRu A 5 * ad m) (gP A (prX A w)) 13 (prX A w) (fun m => L 234 (6 * m + 3)) x else ((fun m => L 234 (6 * m + 3)), x)) Λ I L R) := by
    refine hc_down ?_ ?_
    · intro L1 h1 h2
      refine LW_iload 3 dX11_calls_5 rfl ?_
      refine LW_bipush (v := 12) dX11_calls_7 (by decide) ?_
      refine LW_icmp_ge (tgt := 45) dX11_calls_9 (by decide) (fun c9 => ?_) (fun c9 => absurd (by decide) c9)
      refine LW_lloadn 2 dX11_calls_45 rfl rfl ?_
      refine LW_lconst (v := 0) dX11_calls_46 (by decide) ?_
      refine LW_lcmp dX11_calls_47 ?_
      refine LW_lif_le (tgt := 55) dX11_calls_48 (by decide) (fun c48 => ?_) (fun c48 => ?_)
      · refine LW_iconst (v := 0) dX11_calls_55 (by decide) ?_
        refine LW_istore (ls' := [(0, .ref 217), (1, .long x), (3, .long x), (5, .int 0)]) dX11_calls_56 (by decide) rfl ?_
        refine LW_iload 3 dX11_calls_58 rfl ?_
        refine LW_if_eq (tgt := 287) dX11_calls_60 (by decide) (fun c60 => ?_) (fun c60 => absurd rfl c60)
        refine LW_lloadn 2 dX11_calls_287 rfl rfl ?_
        refine LW_lret dX11_calls_288 rfl (Nat.le_of_ble_eq_true rfl) (Nat.le_of_ble_eq_true rfl) ?_
        rw [if_neg (Int64.not_lt.mpr c48)]
        exact ⟨rfl, rfl, fun _ _ => rfl, fun z hz => h1 z (fun q => hz (Or.inl q)), rfl, fun m hm => by rw [h1 234 (by decide)], fun j hj _ => by rw [h1 234 (by decide)]⟩
      · refine LW_iconst (v := 1) dX11_calls_51 (by decide) ?_
        refine LW_goto (tgt := 56) dX11_calls_52 (by decide) ?_
        refine LW_istore (ls' := [(0, .ref 217), (1, .long x), (3, .long x), (5, .int 1)]) dX11_calls_56 (by decide) rfl ?_
        rw [if_pos (Int64.not_le.mp c48)]
        exact cl_B (I := I) (L := L) hY hM.n.1.2.2.1 had 13 (prX A w) _ x I L1 (fun _ _ => rfl) (fun z z0 _ _ _ => h1 z z0) hin h2 (fun m hm => by rw [h1 234 (by decide)]) (fun j hj _ => by rw [h1 234 (by decide)]) (hfin (Int64.not_le.mp c48))
    · intro i hi ih L1 h1 h2
      refine LW_iload 3 dX11_calls_5 rfl ?_
      refine LW_bipush (v := 12) dX11_calls_7 (by decide) ?_
      refine LW_icmp_ge (tgt := 45) dX11_calls_9 (by decide) (fun c9 => absurd c9 (hc_nle (a := 12) (b := i) (by decide) (by omega) hi)) (fun c9 => ?_)
      refine LW_aloadn 0 dX11_calls_12 rfl rfl ?_
      refine gX11_36 dX11_calls_13 flX11_56 (hY.lt (k := 217) (by decide)) (ly217 hY) (lf217_36 hY) ?_
      refine LW_iload 3 dX11_calls_16 rfl ?_
      refine LW_aloadn 0 dX11_calls_18 rfl rfl ?_
      refine gX11_39 dX11_calls_19 flX11_65 (hY.lt (k := 217) (by decide)) (ly217 hY) (lf217_39 hY) ?_
      refine LW_iload 3 dX11_calls_22 rfl ?_
      refine LW_zald dX11_calls_24 (hY.lt (k := 233) (by decide)) (ly233 hY) rfl hi (Nat.le_of_ble_eq_true rfl) ?_
      rw [show I 233 i = hc_b (prX A w i) from hin i hi]
      refine LW_bif_eq (tgt := 37) dX11_calls_25 (by decide) (fun c25 => ?_) (fun c25 => ?_)
      · refine LW_lconst (v := 0) dX11_calls_37 (by decide) ?_
        refine LW_last dX11_calls_38 (hY.lt (k := 230) (by decide)) (ly230 hY) rfl hi (Nat.le_of_ble_eq_true rfl) ?_
        generalize hL38 : hc_u L1 230 i 0 = L38
        refine LW_iinc (n := 3) (v := nI (i + 1)) (ls' := [(0, .ref 217), (1, .long x), (3, .long x), (5, .int (nI (i + 1)))]) dX11_calls_39 rfl (hc_inc _) (by decide) rfl ?_
        refine LW_goto (tgt := 5) dX11_calls_42 (by decide) ?_
        have e : gP A (prX A w) i = 0 := if_neg (by rw [c25]; decide)
        exact ih L38 (fun z z1 => by rw [← hL38, hc_u_row _ _ _ _ z1]; exact h1 z z1) (fun j hj => by
          rw [← hL38, hc_u_at]
          by_cases cj : j = i
          · rw [if_pos cj, cj, e]
          · rw [if_neg cj]; exact h2 j (by omega))
      · refine LW_aloadn 0 dX11_calls_28 rfl rfl ?_
        refine LW_iload 3 dX11_calls_29 rfl ?_
        refine LW_callV (As := [.int (nI i)]) (b := 217) (st := [.int (nI i), .ref 230]) (ci := 11) (r := (RX11, TX11, 44)) (r_mPointsOf (hM.kp (L' := L1) (h1 218 (by decide)) rfl rfl rfl rfl) (prX_lt c25)) YX11_pointsOf rfl dX11_calls_31 mlX11_315 (hY.lt (k := 217) (by decide)) (ly217 hY) ⟨rfl, rfl⟩ (by decide) ⟨Nat.le_of_ble_eq_true rfl, Nat.le_of_ble_eq_true rfl⟩ (Nat.le_of_ble_eq_true rfl) rfl (fun r31 Λc31 Ic31 Lc31 Rc31 hq31 => ?_)
        obtain ⟨rfl, rfl, rfl, rfl, rfl⟩ := hq31
        refine LW_goto (tgt := 38) dX11_calls_34 (by decide) ?_
        refine LW_last dX11_calls_38 (hY.lt (k := 230) (by decide)) (ly230 hY) rfl hi (Nat.le_of_ble_eq_true rfl) ?_
        generalize hL38 : hc_u L1 230 i (gP A (prX A w) i) = L38
        refine LW_iinc (n := 3) (v := nI (i + 1)) (ls' := [(0, .ref 217), (1, .long x), (3, .long x), (5, .int (nI (i + 1)))]) dX11_calls_39 rfl (hc_inc _) (by decide) rfl ?_
        refine LW_goto (tgt := 5) dX11_calls_42 (by decide) ?_
        have e : gP A (prX A w) i = gP A (prX A w) i := rfl
        exact ih L38 (fun z z1 => by rw [← hL38, hc_u_row _ _ _ _ z1]; exact h1 z z1) (fun j hj => by
          rw [← hL38, hc_u_at]
          by_cases cj : j = i
          · rw [if_pos cj, cj, e]
          · rw [if_neg cj]; exact h2 j (by omega))
  refine LW_lloadn 1 dX11_calls_0 rfl rfl ?_
  refine LW_lstoren (ls' := [(0, .ref 217), (1, .long x), (3, .long x)]) dX11_calls_1 rfl (by decide) rfl ?_
  refine LW_iconst (v := 0) dX11_calls_2 (by decide) ?_
  refine LW_istore (ls' := [(0, .ref 217), (1, .long x), (3, .long x), (5, .int 0)]) dX11_calls_3 (by decide) rfl ?_
  exact loop 0 (Nat.zero_le _) L (fun _ _ => rfl) (fun j hj => absurd hj (Nat.not_lt_zero j))
