/-! the reference: the END as it stands, the short way; all of it -/
set_option maxRecDepth 100000 in
theorem rk_B {Λ : hc_L} {I I1 : hc_I} {L L1 : hc_J} {R : hc_R} {A : AS} {P : LwP} {w : Int32} (hM1 : MC Λ I1 L1 A w) (hB : RB A) (f1 : ∀ z, ¬ rkI z → I1 z = I z) (f2 : ∀ z, ¬ rkJ z → L1 z = L z) (g1 : ∀ j, j < 12 → I1 233 j = hc_b ((prX A w) j)) (g2 : ∀ j, j < 72 → L1 234 j = lyM A P (prX A w) 12 j) (g3 : ∀ j, j < 12 → L1 235 j = gA A (prX A w) j) (g4 : ∀ j, j < 11 → L1 236 j = lyT4 A P (prX A w) j) (k2 : ¬ 0 ≤ kBt A P (prX A w)) {X B : Nat} (eX : -kBt A P (prX A w) = lN X) (hX : X ≤ 2 ^ 30) (hBX : B ≤ X) (eB : kBo A P (prX A w) = lN B) : LW xX11_reckons (0, 0) 162 [(0, .ref 217), (1, .long (aRu A 1))] [] Λ I1 L1 R (Qvi rkI rkJ none (fun _ L' => (∀ m, m < 12 → ∀ v, v < 6 → L' 234 (6 * m + v) = kR A P (prX A w) v m) ∧ (∀ k, k < 11 → L' 236 k = kT A P (prX A w) k) ∧ ∀ j, j < 12 → L' 235 j = gA A (prX A w) j) Λ I L R) := by
  have hY := hM1.y
  have eD : -kBt A P (prX A w) - kBo A P (prX A w) = lN (X - B) := by rw [eX, eB, lN_sub hBX]
  refine LW_aloadn 0 dX11_reckons_162 rfl rfl ?_
  refine gX11_42 dX11_reckons_163 flX11_75 (hY.lt (k := 217) (by decide)) (ly217 hY) (lf217_42 hY) ?_
  refine LW_iconst (v := 2) dX11_reckons_166 (by decide) ?_
  refine LW_lald dX11_reckons_167 (hY.lt (k := 236) (by decide)) (ly236 hY) rfl (by decide) (Nat.le_of_ble_eq_true rfl) ?_
  rw [show L1 236 2 = kNe A P (prX A w) from (g4 2 (by decide))]
  refine LW_aloadn 0 dX11_reckons_168 rfl rfl ?_
  refine gX11_42 dX11_reckons_169 flX11_75 (hY.lt (k := 217) (by decide)) (ly217 hY) (lf217_42 hY) ?_
  refine LW_iconst (v := 3) dX11_reckons_172 (by decide) ?_
  refine LW_lald dX11_reckons_173 (hY.lt (k := 236) (by decide)) (ly236 hY) rfl (by decide) (Nat.le_of_ble_eq_true rfl) ?_
  rw [show L1 236 3 = kAv A (prX A w) from (g4 3 (by decide))]
  refine LW_lsub dX11_reckons_174 ?_
  rw [show ((kNe A P (prX A w)) - (kAv A (prX A w))) = -kBt A P (prX A w) from (Int64.neg_sub (a := kAv A (prX A w)) (b := kNe A P (prX A w))).symm]
  refine LW_lstoren (ls' := [(0, .ref 217), (1, .long (aRu A 1)), (3, .long (-kBt A P (prX A w)))]) dX11_reckons_175 rfl (by decide) rfl ?_
  refine LW_aloadn 0 dX11_reckons_176 rfl rfl ?_
  refine gX11_42 dX11_reckons_177 flX11_75 (hY.lt (k := 217) (by decide)) (ly217 hY) (lf217_42 hY) ?_
  refine LW_bipush (v := 6) dX11_reckons_180 (by decide) ?_
  refine LW_lloadn 2 dX11_reckons_182 rfl rfl ?_
  refine LW_lloadn 1 dX11_reckons_183 rfl rfl ?_
  refine LW_ldc2 dX11_reckons_184 klX11_417 ?_
  refine LW_ldiv dX11_reckons_187 (by decide) ?_
  refine LW_lmin dX11_reckons_188 mlX11_308 (by decide) ⟨Nat.le_refl _, Nat.le_refl _⟩ (Nat.le_of_ble_eq_true rfl) ?_
  rw [show (if ((aRu A 1) / 2) < (-kBt A P (prX A w)) then ((aRu A 1) / 2) else (-kBt A P (prX A w))) = kBo A P (prX A w) from rfl]
  refine LW_last dX11_reckons_191 (hY.lt (k := 236) (by decide)) (ly236 hY) rfl (by decide) (Nat.le_of_ble_eq_true rfl) ?_
  generalize hL191 : hc_u L1 236 6 (kBo A P (prX A w)) = L191
  refine LW_lloadn 1 dX11_reckons_192 rfl rfl ?_
  refine LW_aloadn 0 dX11_reckons_193 rfl rfl ?_
  refine gX11_42 dX11_reckons_194 flX11_75 (hY.lt (k := 217) (by decide)) (ly217 hY) (lf217_42 hY) ?_
  refine LW_bipush (v := 6) dX11_reckons_197 (by decide) ?_
  refine LW_lald dX11_reckons_199 (hY.lt (k := 236) (by decide)) (ly236 hY) rfl (by decide) (Nat.le_of_ble_eq_true rfl) ?_
  rw [show L191 236 6 = kBo A P (prX A w) from (by rw [← hL191, hc_u_at, if_pos rfl])]
  refine LW_lsub dX11_reckons_200 ?_
  refine LW_lstoren (ls' := [(0, .ref 217), (1, .long ((aRu A 1) - (kBo A P (prX A w)))), (3, .long (-kBt A P (prX A w)))]) dX11_reckons_201 rfl (by decide) rfl ?_
  have e191 : ∀ z, z ≠ 236 → L191 z = L1 z := fun z hz => by rw [← hL191, hc_u_row _ _ _ _ hz]
  have hM2 : MC Λ I1 L191 A w := hM1.kp (e191 218 (by decide)) rfl rfl rfl rfl
  obtain ⟨hfin, ⟨Y, hY30, eY⟩, hcl, hlf⟩ := sh_cal (pr := (prX A w)) (x := -kBt A P (prX A w) - kBo A P (prX A w)) hM1.w hB eD (by omega) (cl := fun m => L191 234 (6 * m + 3)) (fun m hm => by
    show L191 234 (6 * m + 3) = 0
    rw [e191 234 (by decide), g2 _ (by omega), lyM_0 hm (by decide)]; rfl)
  have ek : kCal A P (prX A w) = cfG (fun m => aRu A 5 * gA A (prX A w) m) (gP A (prX A w)) 13 (prX A w) (fun _ => 0) (-kBt A P (prX A w) - kBo A P (prX A w)) (fun _ => 0) := rfl
  rw [← ek] at eY hcl hlf
  obtain ⟨hdf, hdv⟩ := sh_cut (P := P) (pr := (prX A w)) hM1.w (X := Y) hY30
  rw [← eY] at hdf hdv
  refine LW_aloadn 0 dX11_reckons_202 rfl rfl ?_
  refine LW_lloadn 2 dX11_reckons_203 rfl rfl ?_
  refine LW_aloadn 0 dX11_reckons_204 rfl rfl ?_
  refine gX11_42 dX11_reckons_205 flX11_75 (hY.lt (k := 217) (by decide)) (ly217 hY) (lf217_42 hY) ?_
  refine LW_bipush (v := 6) dX11_reckons_208 (by decide) ?_
  refine LW_lald dX11_reckons_210 (hY.lt (k := 236) (by decide)) (ly236 hY) rfl (by decide) (Nat.le_of_ble_eq_true rfl) ?_
  rw [show L191 236 6 = kBo A P (prX A w) from (by rw [← hL191, hc_u_at, if_pos rfl])]
  refine LW_lsub dX11_reckons_211 ?_
  refine LW_callV (As := [.long ((-kBt A P (prX A w)) - (kBo A P (prX A w)))]) (b := 217) (st := []) (ci := 11) (r := (RX11, TX11, 44)) (r_calls hM2 (ad := gA A (prX A w)) (x := -kBt A P (prX A w) - kBo A P (prX A w)) (fun j hj => by rw [e191 235 (by decide)]; exact g3 j hj) g1 (fun _ => hfin)) YX11_calls rfl dX11_reckons_212 mlX11_419 (hY.lt (k := 217) (by decide)) (ly217 hY) ⟨rfl, rfl⟩ (by decide) ⟨Nat.le_of_ble_eq_true rfl, Nat.le_of_ble_eq_true rfl⟩ (Nat.le_of_ble_eq_true rfl) rfl (fun r212 Λc212 Ic212 Lc212 Rc212 hq212 => ?_)
  obtain ⟨rfl, rfl, hI212, hL212, hR212, hG212, hH212⟩ := hq212
  obtain rfl : R = Rc212 := hR212
  rw [hlf]
  have hG2 : ∀ m, m < 12 → Lc212 234 (6 * m + 3) = kCal A P (prX A w) m := fun m hm => (hG212 m hm).trans (hcl m hm)
  have hM3 : MC Λ Ic212 Lc212 A w := hM2.kp (hL212 218 (by decide)) (hI212 221 (by decide)) (hI212 222 (by decide)) (hI212 223 (by decide)) (by rw [hI212 217 (by decide)])
  have r234 : ∀ m, m < 12 → ∀ v, v < 6 → v ≠ 3 → Lc212 234 (6 * m + v) = if v = 0 then gC A P (prX A w) m else 0 := fun m hm v hv h3 => by
    rw [hH212 (6 * m + v) (by omega) (by omega), e191 234 (by decide), g2 _ (by omega)]; exact lyM_0 hm hv
  refine LW_lstore (ls' := [(0, .ref 217), (1, .long ((aRu A 1) - (kBo A P (prX A w)))), (3, .long (-kBt A P (prX A w))), (5, .long (-kBt A P (prX A w) - kBo A P (prX A w) - sumJ (kCal A P (prX A w)) 12))]) dX11_reckons_215 (by decide) rfl ?_
  refine LW_iconst (v := 0) dX11_reckons_217 (by decide) ?_
  refine LW_istore (ls' := [(0, .ref 217), (1, .long ((aRu A 1) - (kBo A P (prX A w)))), (3, .long (-kBt A P (prX A w))), (5, .long (-kBt A P (prX A w) - kBo A P (prX A w) - sumJ (kCal A P (prX A w)) 12)), (7, .int 0)]) dX11_reckons_218 (by decide) rfl ?_
  have hm12 := hM1.w.m
  refine LW_ls (ls' := [(0, .ref 217), (1, .long (aRu A 1 - kBo A P (prX A w))), (5, .long (-kBt A P (prX A w) - kBo A P (prX A w) - sumJ (kCal A P (prX A w)) 12)), (7, .int (nI 0))]) [0, 1, 3, 4] rfl ?_
  have loopC : ∀ i, i ≤ 12 → ∀ (I2 : hc_I) (L2 : hc_J), (∀ z, z ≠ 233 → I2 z = Ic212 z) → (∀ z, z ≠ 230 → L2 z = Lc212 z) → (∀ j, j < i → I2 233 j = hc_b ((prX A w) j)) → (∀ j, j < i → L2 230 j = gC A P (prX A w) j) → LW xX11_reckons (0, 0) 220 [(0, .ref 217), (1, .long (aRu A 1 - kBo A P (prX A w))), (5, .long (-kBt A P (prX A w) - kBo A P (prX A w) - sumJ (kCal A P (prX A w)) 12)), (7, .int (nI i))] [] Λ I2 L2 R (Qvi rkI rkJ none (fun _ L' => (∀ m, m < 12 → ∀ v, v < 6 → L' 234 (6 * m + v) = kR A P (prX A w) v m) ∧ (∀ k, k < 11 → L' 236 k = kT A P (prX A w) k) ∧ ∀ j, j < 12 → L' 235 j = gA A (prX A w) j) Λ I L R) := by
    refine hc_down ?_ ?_
    · intro I2 L2 q1 q2 q3 q4
      refine LW_iload 3 dX11_reckons_220 rfl ?_
      refine LW_bipush (v := 12) dX11_reckons_222 (by decide) ?_
      refine LW_icmp_ge (tgt := 286) dX11_reckons_224 (by decide) (fun c224 => ?_) (fun c224 => absurd (by decide) c224)
      refine LW_aloadn 0 dX11_reckons_286 rfl rfl ?_
      refine LW_lload 2 dX11_reckons_287 rfl ?_
      refine LW_callV (As := [.long (-kBt A P (prX A w) - kBo A P (prX A w) - sumJ (kCal A P (prX A w)) 12)]) (b := 217) (st := []) (ci := 11) (r := (RX11, TX11, 44)) (r_divides (x := -kBt A P (prX A w) - kBo A P (prX A w) - sumJ (kCal A P (prX A w)) 12) (wt := gC A P (prX A w)) (am := (prX A w)) hY q4 q3 hdf) YX11_divides rfl dX11_reckons_289 mlX11_413 (hY.lt (k := 217) (by decide)) (ly217 hY) ⟨rfl, rfl⟩ (by decide) ⟨Nat.le_of_ble_eq_true rfl, Nat.le_of_ble_eq_true rfl⟩ (Nat.le_of_ble_eq_true rfl) rfl (fun r289 Λc289 Ic289 Lc289 Rc289 hq289 => ?_)
      obtain ⟨rfl, rfl, hI289, hL289, hR289, hG289⟩ := hq289
      obtain rfl : R = Rc289 := hR289
      have hI1e : I2 = Ic289 := funext fun z => (hI289 z (fun q => q)).symm
      obtain rfl : I2 = Ic289 := hI1e
      refine LW_pop2c dX11_reckons_292 rfl ?_
      refine LW_iconst (v := 0) dX11_reckons_293 (by decide) ?_
      refine LW_istore (ls' := [(0, .ref 217), (1, .long (aRu A 1 - kBo A P (prX A w))), (5, .long (-kBt A P (prX A w) - kBo A P (prX A w) - sumJ (kCal A P (prX A w)) 12)), (7, .int 0)]) dX11_reckons_294 (by decide) rfl ?_
      refine LW_ls (ls' := [(0, .ref 217), (1, .long (aRu A 1 - kBo A P (prX A w))), (5, .long (-kBt A P (prX A w) - kBo A P (prX A w) - sumJ (kCal A P (prX A w)) 12)), (7, .int (nI 0))]) [0, 1, 2, 3] rfl ?_
      have loopD : ∀ i, i ≤ 12 → ∀ (L3 : hc_J), (∀ z, z ≠ 234 → L3 z = Lc289 z) → (∀ j, j < 72 → L3 234 j = if j % 6 = 1 ∧ j / 6 < i then kCut A P (prX A w) (j / 6) else Lc289 234 j) → LW xX11_reckons (0, 0) 296 [(0, .ref 217), (1, .long (aRu A 1 - kBo A P (prX A w))), (5, .long (-kBt A P (prX A w) - kBo A P (prX A w) - sumJ (kCal A P (prX A w)) 12)), (7, .int (nI i))] [] Λ I2 L3 R (Qvi rkI rkJ none (fun _ L' => (∀ m, m < 12 → ∀ v, v < 6 → L' 234 (6 * m + v) = kR A P (prX A w) v m) ∧ (∀ k, k < 11 → L' 236 k = kT A P (prX A w) k) ∧ ∀ j, j < 12 → L' 235 j = gA A (prX A w) j) Λ I L R) := by
        refine hc_down ?_ ?_
        · intro L3 s1 s2
          refine LW_iload 3 dX11_reckons_296 rfl ?_
          refine LW_bipush (v := 12) dX11_reckons_298 (by decide) ?_
          refine LW_icmp_ge (tgt := 328) dX11_reckons_300 (by decide) (fun c300 => ?_) (fun c300 => absurd (by decide) c300)
          refine LW_ls (ls' := [(0, .ref 217), (1, .long (aRu A 1 - kBo A P (prX A w)))]) [0, 1] rfl ?_
          rw [← k4_dn k2]
          have fI : ∀ z, z ≠ 233 → I2 z = I1 z := fun z hz => by rw [q1 z hz, hI212 z hz]
          have fL : ∀ z, z ≠ 234 → z ≠ 231 → z ≠ 232 → z ≠ 230 → z ≠ 236 → L3 z = L1 z := fun z z4 z1 z2 z0 z6 => by
            rw [s1 z z4, hL289 z (fun e => by rcases e with e | e; exact z1 e; exact z2 e), q2 z z0, hL212 z (fun e => by rcases e with e | e | e | e; exact z0 e; exact z1 e; exact z2 e; exact z4 e), e191 z z6]
          refine rk_E (hM1.kp (fL 218 (by decide) (by decide) (by decide) (by decide) (by decide)) (fI 221 (by decide)) (fI 222 (by decide)) (fI 223 (by decide)) (by rw [fI 217 (by decide)])) (fun z hz => ?_) (fun z hz => ?_) (fun m hm v hv => ?_) (fun m hm => ?_) (fun k hk => ?_)
          · rw [fI z (fun e => hz (Or.inl e))]; exact f1 z hz
          · rw [fL z (fun e => hz (Or.inr (by omega))) (fun e => hz (Or.inl (by omega))) (fun e => hz (Or.inl (by omega))) (fun e => hz (Or.inl (by omega))) (fun e => hz (Or.inr (by omega)))]
            exact f2 z hz
          · rw [s2 (6 * m + v) (by omega)]
            by_cases c1 : v = 1
            · rw [if_pos ⟨by omega, by omega⟩, c1, if_neg (by decide), show (6 * m + 1) / 6 = m by omega]
              exact (if_neg k2).symm
            · rw [if_neg (fun q => c1 (by omega)), hL289 234 (by decide), q2 234 (by decide)]
              by_cases c3 : v = 3
              · rw [c3, hG2 m hm, if_neg (by decide)]; exact (if_neg k2).symm
              · rw [r234 m hm v (by omega) c3]
                by_cases c0 : v = 0
                · rw [if_pos c0, c0, if_neg (by decide)]; rfl
                · rw [if_neg c0]
                  by_cases c4 : v = 4
                  · rw [if_pos c4]
                  · rw [if_neg c4, show v = 2 by omega]; exact (if_neg k2).symm
          · rw [s1 235 (by decide), hL289 235 (by decide), q2 235 (by decide), hL212 235 (by decide), e191 235 (by decide)]; exact g3 m hm
          · rw [s1 236 (by decide), hL289 236 (by decide), q2 236 (by decide), hL212 236 (by decide), ← hL191, hc_u_at]
            by_cases c6 : k = 6
            · rw [if_pos c6, c6, if_neg (by decide)]; exact (if_neg k2).symm
            · rw [if_neg c6, g4 k hk]
              by_cases c4 : k = 4
              · rw [c4, if_neg (by decide)]; exact (if_neg k2).symm
              · by_cases c : k = 5 ∨ 7 ≤ k
                · rw [if_pos c]
                  unfold lyT4 lyT3
                  rw [if_neg (by omega), if_neg (by omega), if_neg (by omega), if_neg (by omega)]
                · rw [if_neg c]
                  have : k = 0 ∨ k = 1 ∨ k = 2 ∨ k = 3 := by omega
                  rcases this with e | e | e | e <;> (subst e; rfl)
        · intro i hi ih L3 s1 s2
          refine LW_iload 3 dX11_reckons_296 rfl ?_
          refine LW_bipush (v := 12) dX11_reckons_298 (by decide) ?_
          refine LW_icmp_ge (tgt := 328) dX11_reckons_300 (by decide) (fun c300 => absurd c300 (hc_nle (a := 12) (b := i) (by decide) (by omega) hi)) (fun c300 => ?_)
          refine LW_aloadn 0 dX11_reckons_303 rfl rfl ?_
          refine gX11_40 dX11_reckons_304 flX11_69 (hY.lt (k := 217) (by decide)) (ly217 hY) (lf217_40 hY) ?_
          refine LW_bipush (v := 6) dX11_reckons_307 (by decide) ?_
          refine LW_iload 3 dX11_reckons_309 rfl ?_
          refine LW_imul dX11_reckons_311 ?_
          rw [show (6 * (nI i)) = nI (6 * i) from (nI_mul 6 i)]
          refine LW_iconst (v := 1) dX11_reckons_312 (by decide) ?_
          refine LW_iadd dX11_reckons_313 ?_
          rw [show ((nI (6 * i)) + 1) = nI (6 * i + 1) from (nI_add (6 * i) 1)]
          refine LW_aloadn 0 dX11_reckons_314 rfl rfl ?_
          refine gX11_37 dX11_reckons_315 flX11_59 (hY.lt (k := 217) (by decide)) (ly217 hY) (lf217_37 hY) ?_
          refine LW_iload 3 dX11_reckons_318 rfl ?_
          refine LW_lald dX11_reckons_320 (hY.lt (k := 231) (by decide)) (ly231 hY) rfl hi (Nat.le_of_ble_eq_true rfl) ?_
          rw [show L3 231 i = kCut A P (prX A w) i from (by rw [s1 231 (by decide), hG289 i hi]; exact hdv i hi)]
          refine LW_last dX11_reckons_321 (hY.lt (k := 234) (by decide)) (ly234 hY) rfl (by omega) (Nat.le_of_ble_eq_true rfl) ?_
          generalize hL321 : hc_u L3 234 (6 * i + 1) (kCut A P (prX A w) i) = L321
          refine LW_iinc (n := 3) (v := nI (i + 1)) (ls' := [(0, .ref 217), (1, .long (aRu A 1 - kBo A P (prX A w))), (5, .long (-kBt A P (prX A w) - kBo A P (prX A w) - sumJ (kCal A P (prX A w)) 12)), (7, .int (nI (i + 1)))]) dX11_reckons_322 rfl (hc_inc _) (by decide) rfl ?_
          refine LW_goto (tgt := 296) dX11_reckons_325 (by decide) ?_
          exact ih L321 (fun z z1 => by rw [← hL321, hc_u_row _ _ _ _ z1]; exact s1 z z1) (fun j hj => by
            rw [← hL321, hc_u_at, s2 j hj]
            by_cases c : j = 6 * i + 1
            · rw [if_pos c, if_pos ⟨by omega, by omega⟩, show j / 6 = i by omega]
            · rw [if_neg c]
              by_cases d : j % 6 = 1 ∧ j / 6 < i
              · rw [if_pos d, if_pos ⟨d.1, by omega⟩]
              · rw [if_neg d, if_neg (fun q => d ⟨q.1, by omega⟩)])
      exact loopD 0 (Nat.zero_le _) Lc289 (fun _ _ => rfl) (fun j hj => by rw [if_neg (fun q => absurd q.2 (Nat.not_lt_zero _))])
    · intro i hi ih I2 L2 q1 q2 q3 q4
      have hM4 : MC Λ I2 L2 A w := hM3.kp (q2 218 (by decide)) (q1 221 (by decide)) (q1 222 (by decide)) (q1 223 (by decide)) (by rw [q1 217 (by decide)])
      refine LW_iload 3 dX11_reckons_220 rfl ?_
      refine LW_bipush (v := 12) dX11_reckons_222 (by decide) ?_
      refine LW_icmp_ge (tgt := 286) dX11_reckons_224 (by decide) (fun c224 => absurd c224 (hc_nle (a := 12) (b := i) (by decide) (by omega) hi)) (fun c224 => ?_)
      refine LW_aloadn 0 dX11_reckons_227 rfl rfl ?_
      refine gX11_39 dX11_reckons_228 flX11_65 (hY.lt (k := 217) (by decide)) (ly217 hY) (lf217_39 hY) ?_
      refine LW_iload 3 dX11_reckons_231 rfl ?_
      refine LW_iload 3 dX11_reckons_233 rfl ?_
      refine LW_i2l dX11_reckons_235 ?_
      rw [show (nI i).toInt64 = lN i from (nI_l (by omega))]
      refine LW_aloadn 0 dX11_reckons_236 rfl rfl ?_
      refine gX11_0 dX11_reckons_237 flX11_9 (hY.lt (k := 217) (by decide)) (ly217 hY) (lf217_0 hY) ?_
      refine LW_iconst (v := 5) dX11_reckons_240 (by decide) ?_
      refine LW_lald dX11_reckons_241 (hY.lt (k := 218) (by decide)) (ly218 hY) rfl (by decide) (Nat.le_of_ble_eq_true rfl) ?_
      rw [show L2 218 5 = lN (aM A) from hM4.nM]
      refine LW_lcmp dX11_reckons_242 ?_
      refine LW_lif_ge (tgt := 259) dX11_reckons_243 (by decide) (fun c243 => ?_) (fun c243 => ?_)
      · refine LW_iconst (v := 0) dX11_reckons_259 (by decide) ?_
        refine LW_zast dX11_reckons_260 (hY.lt (k := 233) (by decide)) (ly233 hY) rfl hi (Nat.le_of_ble_eq_true rfl) ?_
        generalize hI260 : hc_u I2 233 i (vp_nar .boolean 0) = I260
        refine LW_aloadn 0 dX11_reckons_261 rfl rfl ?_
        refine gX11_36 dX11_reckons_262 flX11_56 (hY.lt (k := 217) (by decide)) (ly217 hY) (lf217_36 hY) ?_
        refine LW_iload 3 dX11_reckons_265 rfl ?_
        refine LW_aloadn 0 dX11_reckons_267 rfl rfl ?_
        refine gX11_40 dX11_reckons_268 flX11_69 (hY.lt (k := 217) (by decide)) (ly217 hY) (lf217_40 hY) ?_
        refine LW_bipush (v := 6) dX11_reckons_271 (by decide) ?_
        refine LW_iload 3 dX11_reckons_273 rfl ?_
        refine LW_imul dX11_reckons_275 ?_
        rw [show (6 * (nI i)) = nI (6 * i) from (nI_mul 6 i)]
        refine LW_iconst (v := 0) dX11_reckons_276 (by decide) ?_
        refine LW_iadd dX11_reckons_277 ?_
        rw [show ((nI (6 * i)) + 0) = nI (6 * i) from (nI_add (6 * i) 0)]
        refine LW_lald dX11_reckons_278 (hY.lt (k := 234) (by decide)) (ly234 hY) rfl (by omega) (Nat.le_of_ble_eq_true rfl) ?_
        rw [show L2 234 (6 * i) = gC A P (prX A w) i from (by rw [q2 234 (by decide)]; exact r234 i hi 0 (by decide) (by decide))]
        refine LW_last dX11_reckons_279 (hY.lt (k := 230) (by decide)) (ly230 hY) rfl hi (Nat.le_of_ble_eq_true rfl) ?_
        generalize hL279 : hc_u L2 230 i (gC A P (prX A w) i) = L279
        refine LW_iinc (n := 3) (v := nI (i + 1)) (ls' := [(0, .ref 217), (1, .long (aRu A 1 - kBo A P (prX A w))), (5, .long (-kBt A P (prX A w) - kBo A P (prX A w) - sumJ (kCal A P (prX A w)) 12)), (7, .int (nI (i + 1)))]) dX11_reckons_280 rfl (hc_inc _) (by decide) rfl ?_
        refine LW_goto (tgt := 220) dX11_reckons_283 (by decide) ?_
        have hp : (prX A w) i = false := prX_no (Nat.le_of_not_lt (fun z => absurd ((lN_le (by omega) (by omega)).mp c243) (by omega)))
        exact ih I260 L279 (fun z z1 => by rw [← hI260, hc_u_row _ _ _ _ z1]; exact q1 z z1) (fun z z1 => by rw [← hL279, hc_u_row _ _ _ _ z1]; exact q2 z z1) (fun j hj => by
          rw [← hI260, hc_u_at]
          by_cases c : j = i
          · rw [if_pos c, c, hp]; rfl
          · rw [if_neg c]; exact q3 j (by omega)) (fun j hj => by
          rw [← hL279, hc_u_at]
          by_cases c : j = i
          · rw [if_pos c, c]
          · rw [if_neg c]; exact q4 j (by omega))
      · have hk : i < aM A := Nat.lt_of_not_le (fun z => c243 ((lN_le (by have := hM1.w.m; omega) (by omega)).mpr z))
        refine LW_aloadn 0 dX11_reckons_246 rfl rfl ?_
        refine LW_iload 3 dX11_reckons_247 rfl ?_
        refine LW_callV (As := [.int (nI i)]) (b := 217) (st := [.int (nI i), .ref 233]) (ci := 11) (r := (RX11, TX11, 44)) (r_mIsThere hM4 hk) YX11_isThere rfl dX11_reckons_249 mlX11_331 (hY.lt (k := 217) (by decide)) (ly217 hY) ⟨rfl, rfl⟩ (by decide) ⟨Nat.le_of_ble_eq_true rfl, Nat.le_of_ble_eq_true rfl⟩ (Nat.le_of_ble_eq_true rfl) rfl (fun r249 Λc249 Ic249 Lc249 Rc249 hq249 => ?_)
        obtain ⟨rfl, rfl, rfl, rfl, rfl⟩ := hq249
        refine LW_bif_eq (tgt := 259) dX11_reckons_252 (by decide) (fun c252 => ?_) (fun c252 => ?_)
        · refine LW_iconst (v := 0) dX11_reckons_259 (by decide) ?_
          refine LW_zast dX11_reckons_260 (hY.lt (k := 233) (by decide)) (ly233 hY) rfl hi (Nat.le_of_ble_eq_true rfl) ?_
          generalize hI260 : hc_u I2 233 i (vp_nar .boolean 0) = I260
          refine LW_aloadn 0 dX11_reckons_261 rfl rfl ?_
          refine gX11_36 dX11_reckons_262 flX11_56 (hY.lt (k := 217) (by decide)) (ly217 hY) (lf217_36 hY) ?_
          refine LW_iload 3 dX11_reckons_265 rfl ?_
          refine LW_aloadn 0 dX11_reckons_267 rfl rfl ?_
          refine gX11_40 dX11_reckons_268 flX11_69 (hY.lt (k := 217) (by decide)) (ly217 hY) (lf217_40 hY) ?_
          refine LW_bipush (v := 6) dX11_reckons_271 (by decide) ?_
          refine LW_iload 3 dX11_reckons_273 rfl ?_
          refine LW_imul dX11_reckons_275 ?_
          rw [show (6 * (nI i)) = nI (6 * i) from (nI_mul 6 i)]
          refine LW_iconst (v := 0) dX11_reckons_276 (by decide) ?_
          refine LW_iadd dX11_reckons_277 ?_
          rw [show ((nI (6 * i)) + 0) = nI (6 * i) from (nI_add (6 * i) 0)]
          refine LW_lald dX11_reckons_278 (hY.lt (k := 234) (by decide)) (ly234 hY) rfl (by omega) (Nat.le_of_ble_eq_true rfl) ?_
          rw [show L2 234 (6 * i) = gC A P (prX A w) i from (by rw [q2 234 (by decide)]; exact r234 i hi 0 (by decide) (by decide))]
          refine LW_last dX11_reckons_279 (hY.lt (k := 230) (by decide)) (ly230 hY) rfl hi (Nat.le_of_ble_eq_true rfl) ?_
          generalize hL279 : hc_u L2 230 i (gC A P (prX A w) i) = L279
          refine LW_iinc (n := 3) (v := nI (i + 1)) (ls' := [(0, .ref 217), (1, .long (aRu A 1 - kBo A P (prX A w))), (5, .long (-kBt A P (prX A w) - kBo A P (prX A w) - sumJ (kCal A P (prX A w)) 12)), (7, .int (nI (i + 1)))]) dX11_reckons_280 rfl (hc_inc _) (by decide) rfl ?_
          refine LW_goto (tgt := 220) dX11_reckons_283 (by decide) ?_
          have hp : (prX A w) i = false := c252
          exact ih I260 L279 (fun z z1 => by rw [← hI260, hc_u_row _ _ _ _ z1]; exact q1 z z1) (fun z z1 => by rw [← hL279, hc_u_row _ _ _ _ z1]; exact q2 z z1) (fun j hj => by
            rw [← hI260, hc_u_at]
            by_cases c : j = i
            · rw [if_pos c, c, hp]; rfl
            · rw [if_neg c]; exact q3 j (by omega)) (fun j hj => by
            rw [← hL279, hc_u_at]
            by_cases c : j = i
            · rw [if_pos c, c]
            · rw [if_neg c]; exact q4 j (by omega))
        · refine LW_iconst (v := 1) dX11_reckons_255 (by decide) ?_
          refine LW_goto (tgt := 260) dX11_reckons_256 (by decide) ?_
          refine LW_zast dX11_reckons_260 (hY.lt (k := 233) (by decide)) (ly233 hY) rfl hi (Nat.le_of_ble_eq_true rfl) ?_
          generalize hI260 : hc_u I2 233 i (vp_nar .boolean 1) = I260
          refine LW_aloadn 0 dX11_reckons_261 rfl rfl ?_
          refine gX11_36 dX11_reckons_262 flX11_56 (hY.lt (k := 217) (by decide)) (ly217 hY) (lf217_36 hY) ?_
          refine LW_iload 3 dX11_reckons_265 rfl ?_
          refine LW_aloadn 0 dX11_reckons_267 rfl rfl ?_
          refine gX11_40 dX11_reckons_268 flX11_69 (hY.lt (k := 217) (by decide)) (ly217 hY) (lf217_40 hY) ?_
          refine LW_bipush (v := 6) dX11_reckons_271 (by decide) ?_
          refine LW_iload 3 dX11_reckons_273 rfl ?_
          refine LW_imul dX11_reckons_275 ?_
          rw [show (6 * (nI i)) = nI (6 * i) from (nI_mul 6 i)]
          refine LW_iconst (v := 0) dX11_reckons_276 (by decide) ?_
          refine LW_iadd dX11_reckons_277 ?_
          rw [show ((nI (6 * i)) + 0) = nI (6 * i) from (nI_add (6 * i) 0)]
          refine LW_lald dX11_reckons_278 (hY.lt (k := 234) (by decide)) (ly234 hY) rfl (by omega) (Nat.le_of_ble_eq_true rfl) ?_
          rw [show L2 234 (6 * i) = gC A P (prX A w) i from (by rw [q2 234 (by decide)]; exact r234 i hi 0 (by decide) (by decide))]
          refine LW_last dX11_reckons_279 (hY.lt (k := 230) (by decide)) (ly230 hY) rfl hi (Nat.le_of_ble_eq_true rfl) ?_
          generalize hL279 : hc_u L2 230 i (gC A P (prX A w) i) = L279
          refine LW_iinc (n := 3) (v := nI (i + 1)) (ls' := [(0, .ref 217), (1, .long (aRu A 1 - kBo A P (prX A w))), (5, .long (-kBt A P (prX A w) - kBo A P (prX A w) - sumJ (kCal A P (prX A w)) 12)), (7, .int (nI (i + 1)))]) dX11_reckons_280 rfl (hc_inc _) (by decide) rfl ?_
          refine LW_goto (tgt := 220) dX11_reckons_283 (by decide) ?_
          have hp : (prX A w) i = true := c252
          exact ih I260 L279 (fun z z1 => by rw [← hI260, hc_u_row _ _ _ _ z1]; exact q1 z z1) (fun z z1 => by rw [← hL279, hc_u_row _ _ _ _ z1]; exact q2 z z1) (fun j hj => by
            rw [← hI260, hc_u_at]
            by_cases c : j = i
            · rw [if_pos c, c, hp]; rfl
            · rw [if_neg c]; exact q3 j (by omega)) (fun j hj => by
            rw [← hL279, hc_u_at]
            by_cases c : j = i
            · rw [if_pos c, c]
            · rw [if_neg c]; exact q4 j (by omega))
  exact loopC 0 (Nat.zero_le _) Ic212 Lc212 (fun _ _ => rfl) (fun _ _ => rfl) (fun j hj => absurd hj (Nat.not_lt_zero j)) (fun j hj => absurd hj (Nat.not_lt_zero j))
set_option maxRecDepth 100000 in
theorem r_reckons {Λ : hc_L} {I : hc_I} {L : hc_J} {R : hc_R} {A : AS} {P : LwP} {w : Int32} (hM : MC Λ I L A w) (hP : ML I L P) (hR : MR I A) (hB : RB A) : Run xX11_reckons [.ref 217] Λ I L R (Qvi rkI rkJ none (fun _ L' => (∀ m, m < 12 → ∀ v, v < 6 → L' 234 (6 * m + v) = kR A P (prX A w) v m) ∧ (∀ k, k < 11 → L' 236 k = kT A P (prX A w) k) ∧ ∀ j, j < 12 → L' 235 j = gA A (prX A w) j) Λ I L R) := by
  refine Run.of (by decide +kernel) (Nat.le_of_ble_eq_true rfl) ?_
  show LW _ _ _ [(0, .ref 217)] _ _ _ _ _ _
  have hY := hM.y
  
  refine LW_aloadn 0 dX11_reckons_0 rfl rfl ?_
  refine LW_callV (As := []) (b := 217) (st := []) (ci := 11) (r := (RX11, TX11, 44)) (r_laysMembers hM hP hR) YX11_laysMembers rfl dX11_reckons_1 mlX11_407 (hY.lt (k := 217) (by decide)) (ly217 hY) ⟨rfl, rfl⟩ (by decide) ⟨Nat.le_of_ble_eq_true rfl, Nat.le_of_ble_eq_true rfl⟩ (Nat.le_of_ble_eq_true rfl) rfl (fun r1 Λc1 Ic1 Lc1 Rc1 hq1 => ?_)
  obtain ⟨rfl, rfl, hI1, hL1, hR1, g1, g2, g3, g4⟩ := hq1
  obtain rfl : R = Rc1 := hR1
  have hM1 : MC Λ Ic1 Lc1 A w := hM.kp (hL1 218 (by unfold yJ mJ; decide)) (hI1 221 (by decide)) (hI1 222 (by decide)) (hI1 223 (by decide)) (by rw [hI1 217 (by decide)])
  have f1 : ∀ z, ¬ rkI z → Ic1 z = I z := fun z hz => hI1 z (fun e => hz (Or.inl e))
  have f2 : ∀ z, ¬ rkJ z → Lc1 z = L z := fun z hz => hL1 z (fun e => hz (by unfold yJ mJ at e; unfold rkJ; omega))
  have kc := k_cases (P := P) (pr := prX A w) hM.w hB
  refine LW_aloadn 0 dX11_reckons_4 rfl rfl ?_
  refine gX11_0 dX11_reckons_5 flX11_9 (hY.lt (k := 217) (by decide)) (ly217 hY) (lf217_0 hY) ?_
  refine LW_iconst (v := 1) dX11_reckons_8 (by decide) ?_
  refine LW_lald dX11_reckons_9 (hY.lt (k := 218) (by decide)) (ly218 hY) rfl (by decide) (Nat.le_of_ble_eq_true rfl) ?_
  rw [show Lc1 218 1 = aRu A 1 from hM1.n.1.2.1]
  refine LW_lstoren (ls' := [(0, .ref 217), (1, .long (aRu A 1))]) dX11_reckons_10 rfl (by decide) rfl ?_
  refine LW_aloadn 0 dX11_reckons_11 rfl rfl ?_
  refine gX11_42 dX11_reckons_12 flX11_75 (hY.lt (k := 217) (by decide)) (ly217 hY) (lf217_42 hY) ?_
  refine LW_iconst (v := 2) dX11_reckons_15 (by decide) ?_
  refine LW_lald dX11_reckons_16 (hY.lt (k := 236) (by decide)) (ly236 hY) rfl (by decide) (Nat.le_of_ble_eq_true rfl) ?_
  rw [show Lc1 236 2 = kNe A P (prX A w) from (g4 2 (by decide))]
  refine LW_aloadn 0 dX11_reckons_17 rfl rfl ?_
  refine gX11_42 dX11_reckons_18 flX11_75 (hY.lt (k := 217) (by decide)) (ly217 hY) (lf217_42 hY) ?_
  refine LW_iconst (v := 3) dX11_reckons_21 (by decide) ?_
  refine LW_lald dX11_reckons_22 (hY.lt (k := 236) (by decide)) (ly236 hY) rfl (by decide) (Nat.le_of_ble_eq_true rfl) ?_
  rw [show Lc1 236 3 = kAv A (prX A w) from (g4 3 (by decide))]
  refine LW_lcmp dX11_reckons_23 ?_
  refine LW_lif_gt (tgt := 162) dX11_reckons_24 (by decide) (fun c24 => ?_) (fun c24 => ?_)
  · rcases kc with ⟨k1, -⟩ | ⟨-, k2, X, B, eX, -, hX, hBX, eB⟩
    · exact absurd c24 k1
    · exact rk_B hM1 hB f1 f2 g1 g2 g3 g4 k2 eX hX hBX eB
  · rcases kc with ⟨-, k2, X, T, eX, hX, hT, eT⟩ | ⟨k1, -⟩
    · exact rk_U hM1 hB f1 f2 g1 g2 g3 g4 k2 eX hX hT eT
    · exact absurd k1 c24
