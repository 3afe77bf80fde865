/-! the reference: the END as it stands, both its ways -/
theorem lyM_0 {A : AS} {P : LwP} {pr : Nat → Bool} {m v : Nat} (hm : m < 12) (hv : v < 6) : lyM A P pr 12 (6 * m + v) = if v = 0 then gC A P pr m else 0 := by
  unfold lyM
  by_cases c : v = 0
  · rw [if_pos c, if_pos ⟨by omega, by omega⟩, show (6 * m + v) / 6 = m by omega]
  · rw [if_neg c, if_neg (fun q => c (by omega))]
theorem k4_up {A : AS} {P : LwP} {pr : Nat → Bool} (h : 0 ≤ kBt A P pr) : kRes A P pr = aRu A 1 + kToR A P pr := by
  unfold kRes kT4 kT6
  rw [if_pos h, if_pos h, Int64.sub_zero]
theorem k4_dn {A : AS} {P : LwP} {pr : Nat → Bool} (h : ¬ 0 ≤ kBt A P pr) : kRes A P pr = aRu A 1 - kBo A P pr := by
  unfold kRes kT4 kT6
  rw [if_neg h, if_neg h, Int64.add_zero]
set_option maxRecDepth 100000 in
theorem rk_U {Λ : hc_L} {I I1 : hc_I} {L L1 : hc_J} {R : hc_R} {A : AS} {P : LwP} {w : Int32} (hM1 : MC Λ I1 L1 A w) (hB : RB A) (f1 : ∀ z, ¬ rkI z → I1 z = I z) (f2 : ∀ z, ¬ rkJ z → L1 z = L z) (g1 : ∀ j, j < 12 → I1 233 j = hc_b ((prX A w) j)) (g2 : ∀ j, j < 72 → L1 234 j = lyM A P (prX A w) 12 j) (g3 : ∀ j, j < 12 → L1 235 j = gA A (prX A w) j) (g4 : ∀ j, j < 11 → L1 236 j = lyT4 A P (prX A w) j) (k2 : 0 ≤ kBt A P (prX A w)) {X T : Nat} (eX : kBt A P (prX A w) = lN X) (hX : X ≤ 2 ^ 30) (hT : T ≤ X) (eT : kToR A P (prX A w) = lN T) : LW xX11_reckons (0, 0) 27 [(0, .ref 217), (1, .long (aRu A 1))] [] Λ I1 L1 R (Qvi rkI rkJ none (fun _ L' => (∀ m, m < 12 → ∀ v, v < 6 → L' 234 (6 * m + v) = kR A P (prX A w) v m) ∧ (∀ k, k < 11 → L' 236 k = kT A P (prX A w) k) ∧ ∀ j, j < 12 → L' 235 j = gA A (prX A w) j) Λ I L R) := by
  have hY := hM1.y
  have eD : kBt A P (prX A w) - kToR A P (prX A w) = lN (X - T) := by rw [eX, eT, lN_sub hT]
  obtain ⟨hfin, hgv⟩ := sh_giv (pr := (prX A w)) hM1.w hB (X := X - T) (by omega)
  rw [← eD] at hfin hgv
  refine LW_aloadn 0 dX11_reckons_27 rfl rfl ?_
  refine gX11_42 dX11_reckons_28 flX11_75 (hY.lt (k := 217) (by decide)) (ly217 hY) (lf217_42 hY) ?_
  refine LW_iconst (v := 3) dX11_reckons_31 (by decide) ?_
  refine LW_lald dX11_reckons_32 (hY.lt (k := 236) (by decide)) (ly236 hY) rfl (by decide) (Nat.le_of_ble_eq_true rfl) ?_
  rw [show L1 236 3 = kAv A (prX A w) from (g4 3 (by decide))]
  refine LW_aloadn 0 dX11_reckons_33 rfl rfl ?_
  refine gX11_42 dX11_reckons_34 flX11_75 (hY.lt (k := 217) (by decide)) (ly217 hY) (lf217_42 hY) ?_
  refine LW_iconst (v := 2) dX11_reckons_37 (by decide) ?_
  refine LW_lald dX11_reckons_38 (hY.lt (k := 236) (by decide)) (ly236 hY) rfl (by decide) (Nat.le_of_ble_eq_true rfl) ?_
  rw [show L1 236 2 = kNe A P (prX A w) from (g4 2 (by decide))]
  refine LW_lsub dX11_reckons_39 ?_
  rw [show ((kAv A (prX A w)) - (kNe A P (prX A w))) = kBt A P (prX A w) from rfl]
  refine LW_lstoren (ls' := [(0, .ref 217), (1, .long (aRu A 1)), (3, .long (kBt A P (prX A w)))]) dX11_reckons_40 rfl (by decide) rfl ?_
  refine LW_aloadn 0 dX11_reckons_41 rfl rfl ?_
  refine gX11_42 dX11_reckons_42 flX11_75 (hY.lt (k := 217) (by decide)) (ly217 hY) (lf217_42 hY) ?_
  refine LW_iconst (v := 4) dX11_reckons_45 (by decide) ?_
  refine LW_lloadn 2 dX11_reckons_46 rfl rfl ?_
  refine LW_lconst (v := 0) dX11_reckons_47 (by decide) ?_
  refine LW_aloadn 0 dX11_reckons_48 rfl rfl ?_
  refine gX11_0 dX11_reckons_49 flX11_9 (hY.lt (k := 217) (by decide)) (ly217 hY) (lf217_0 hY) ?_
  refine LW_iconst (v := 3) dX11_reckons_52 (by decide) ?_
  refine LW_lald dX11_reckons_53 (hY.lt (k := 218) (by decide)) (ly218 hY) rfl (by decide) (Nat.le_of_ble_eq_true rfl) ?_
  rw [show L1 218 3 = aRu A 6 from hM1.n.1.2.2.2]
  refine LW_aloadn 0 dX11_reckons_54 rfl rfl ?_
  refine LW_callV (As := []) (b := 217) (st := [.long (aRu A 6), .long 0, .long (kBt A P (prX A w)), .int 4, .ref 236]) (ci := 11) (r := (RX11, TX11, 44)) (r_mSumsAll hM1) YX11_sumsAll rfl dX11_reckons_55 mlX11_410 (hY.lt (k := 217) (by decide)) (ly217 hY) ⟨rfl, rfl⟩ (by decide) ⟨Nat.le_of_ble_eq_true rfl, Nat.le_of_ble_eq_true rfl⟩ (Nat.le_of_ble_eq_true rfl) rfl (fun r55 Λc55 Ic55 Lc55 Rc55 hq55 => ?_)
  obtain ⟨rfl, rfl, rfl, rfl, rfl⟩ := hq55
  rw [show sumJ (gS A (prX A w)) (aM A) = sumJ (gS A (prX A w)) 12 from (sumJ_ext (fun j hj => gS_no (prX_no hj)) hM1.w.m).symm]
  refine LW_lmul dX11_reckons_58 ?_
  refine LW_ldc2 dX11_reckons_59 klX11_352 ?_
  refine LW_ldiv dX11_reckons_62 (by decide) ?_
  refine LW_lloadn 1 dX11_reckons_63 rfl rfl ?_
  refine LW_lsub dX11_reckons_64 ?_
  refine LW_lmax dX11_reckons_65 mlX11_313 (by decide) ⟨Nat.le_refl _, Nat.le_refl _⟩ (Nat.le_of_ble_eq_true rfl) ?_
  rw [show (if ((((aRu A 6) * (sumJ (gS A (prX A w)) 12)) / 100) - (aRu A 1)) < 0 then 0 else ((((aRu A 6) * (sumJ (gS A (prX A w)) 12)) / 100) - (aRu A 1))) = cLack A (sumJ (gS A (prX A w)) 12) from rfl]
  refine LW_lmin dX11_reckons_68 mlX11_308 (by decide) ⟨Nat.le_refl _, Nat.le_refl _⟩ (Nat.le_of_ble_eq_true rfl) ?_
  rw [show (if (cLack A (sumJ (gS A (prX A w)) 12)) < (kBt A P (prX A w)) then (cLack A (sumJ (gS A (prX A w)) 12)) else (kBt A P (prX A w))) = kToR A P (prX A w) from rfl]
  refine LW_last dX11_reckons_71 (hY.lt (k := 236) (by decide)) (ly236 hY) rfl (by decide) (Nat.le_of_ble_eq_true rfl) ?_
  generalize hL71 : hc_u L1 236 4 (kToR A P (prX A w)) = L71
  refine LW_lloadn 1 dX11_reckons_72 rfl rfl ?_
  refine LW_aloadn 0 dX11_reckons_73 rfl rfl ?_
  refine gX11_42 dX11_reckons_74 flX11_75 (hY.lt (k := 217) (by decide)) (ly217 hY) (lf217_42 hY) ?_
  refine LW_iconst (v := 4) dX11_reckons_77 (by decide) ?_
  refine LW_lald dX11_reckons_78 (hY.lt (k := 236) (by decide)) (ly236 hY) rfl (by decide) (Nat.le_of_ble_eq_true rfl) ?_
  rw [show L71 236 4 = kToR A P (prX A w) from (by rw [← hL71, hc_u_at, if_pos rfl])]
  refine LW_ladd dX11_reckons_79 ?_
  refine LW_lstoren (ls' := [(0, .ref 217), (1, .long ((aRu A 1) + (kToR A P (prX A w)))), (3, .long (kBt A P (prX A w)))]) dX11_reckons_80 rfl (by decide) rfl ?_
  refine LW_iconst (v := 0) dX11_reckons_81 (by decide) ?_
  refine LW_istore (ls' := [(0, .ref 217), (1, .long ((aRu A 1) + (kToR A P (prX A w)))), (3, .long (kBt A P (prX A w))), (5, .int 0)]) dX11_reckons_82 (by decide) rfl ?_
  refine LW_ls (ls' := [(0, .ref 217), (1, .long (aRu A 1 + kToR A P (prX A w))), (3, .long (kBt A P (prX A w))), (5, .int (nI 0))]) [0, 1, 2, 3] rfl ?_
  have loopA : ∀ i, i ≤ 12 → ∀ (L2 : hc_J), (∀ z, z ≠ 230 → L2 z = L71 z) → (∀ j, j < i → L2 230 j = gA A (prX A w) j) → LW xX11_reckons (0, 0) 84 [(0, .ref 217), (1, .long (aRu A 1 + kToR A P (prX A w))), (3, .long (kBt A P (prX A w))), (5, .int (nI i))] [] Λ I1 L2 R (Qvi rkI rkJ none (fun _ L' => (∀ m, m < 12 → ∀ v, v < 6 → L' 234 (6 * m + v) = kR A P (prX A w) v m) ∧ (∀ k, k < 11 → L' 236 k = kT A P (prX A w) k) ∧ ∀ j, j < 12 → L' 235 j = gA A (prX A w) j) Λ I L R) := by
    refine hc_down ?_ ?_
    · intro L2 q1 q2
      refine LW_iload 3 dX11_reckons_84 rfl ?_
      refine LW_bipush (v := 12) dX11_reckons_86 (by decide) ?_
      refine LW_icmp_ge (tgt := 111) dX11_reckons_88 (by decide) (fun c88 => ?_) (fun c88 => absurd (by decide) c88)
      refine LW_aloadn 0 dX11_reckons_111 rfl rfl ?_
      refine LW_lloadn 2 dX11_reckons_112 rfl rfl ?_
      refine LW_aloadn 0 dX11_reckons_113 rfl rfl ?_
      refine gX11_42 dX11_reckons_114 flX11_75 (hY.lt (k := 217) (by decide)) (ly217 hY) (lf217_42 hY) ?_
      refine LW_iconst (v := 4) dX11_reckons_117 (by decide) ?_
      refine LW_lald dX11_reckons_118 (hY.lt (k := 236) (by decide)) (ly236 hY) rfl (by decide) (Nat.le_of_ble_eq_true rfl) ?_
      rw [show L2 236 4 = kToR A P (prX A w) from (by rw [q1 236 (by decide), ← hL71, hc_u_at, if_pos rfl])]
      refine LW_lsub dX11_reckons_119 ?_
      refine LW_callV (As := [.long ((kBt A P (prX A w)) - (kToR A P (prX A w)))]) (b := 217) (st := []) (ci := 11) (r := (RX11, TX11, 44)) (r_divides (x := kBt A P (prX A w) - kToR A P (prX A w)) (wt := gA A (prX A w)) (am := (prX A w)) hY q2 g1 hfin) YX11_divides rfl dX11_reckons_120 mlX11_413 (hY.lt (k := 217) (by decide)) (ly217 hY) ⟨rfl, rfl⟩ (by decide) ⟨Nat.le_of_ble_eq_true rfl, Nat.le_of_ble_eq_true rfl⟩ (Nat.le_of_ble_eq_true rfl) rfl (fun r120 Λc120 Ic120 Lc120 Rc120 hq120 => ?_)
      obtain ⟨rfl, rfl, hI120, hL120, hR120, hG120⟩ := hq120
      obtain rfl : R = Rc120 := hR120
      have hI1e : I1 = Ic120 := funext fun z => (hI120 z (fun q => q)).symm
      obtain rfl : I1 = Ic120 := hI1e
      refine LW_pop2c dX11_reckons_123 rfl ?_
      refine LW_iconst (v := 0) dX11_reckons_124 (by decide) ?_
      refine LW_istore (ls' := [(0, .ref 217), (1, .long (aRu A 1 + kToR A P (prX A w))), (3, .long (kBt A P (prX A w))), (5, .int 0)]) dX11_reckons_125 (by decide) rfl ?_
      refine LW_ls (ls' := [(0, .ref 217), (1, .long (aRu A 1 + kToR A P (prX A w))), (3, .long (kBt A P (prX A w))), (5, .int (nI 0))]) [0, 1, 2, 3] rfl ?_
      have loopB : ∀ i, i ≤ 12 → ∀ (L3 : hc_J), (∀ z, z ≠ 234 → L3 z = Lc120 z) → (∀ j, j < 72 → L3 234 j = if j % 6 = 2 ∧ j / 6 < i then kGiv A P (prX A w) (j / 6) else Lc120 234 j) → LW xX11_reckons (0, 0) 127 [(0, .ref 217), (1, .long (aRu A 1 + kToR A P (prX A w))), (3, .long (kBt A P (prX A w))), (5, .int (nI i))] [] Λ I1 L3 R (Qvi rkI rkJ none (fun _ L' => (∀ m, m < 12 → ∀ v, v < 6 → L' 234 (6 * m + v) = kR A P (prX A w) v m) ∧ (∀ k, k < 11 → L' 236 k = kT A P (prX A w) k) ∧ ∀ j, j < 12 → L' 235 j = gA A (prX A w) j) Λ I L R) := by
        refine hc_down ?_ ?_
        · intro L3 s1 s2
          refine LW_iload 3 dX11_reckons_127 rfl ?_
          refine LW_bipush (v := 12) dX11_reckons_129 (by decide) ?_
          refine LW_icmp_ge (tgt := 159) dX11_reckons_131 (by decide) (fun c131 => ?_) (fun c131 => absurd (by decide) c131)
          refine LW_goto (tgt := 328) dX11_reckons_159 (by decide) ?_
          refine LW_ls (ls' := [(0, .ref 217), (1, .long (aRu A 1 + kToR A P (prX A w)))]) [0, 1] rfl ?_
          rw [← k4_up k2]
          have fL : ∀ z, z ≠ 234 → z ≠ 231 → z ≠ 232 → z ≠ 230 → z ≠ 236 → L3 z = L1 z := fun z z4 z1 z2 z0 z6 => by
            rw [s1 z z4, hL120 z (fun e => by rcases e with e | e; exact z1 e; exact z2 e), q1 z z0, ← hL71, hc_u_row _ _ _ _ z6]
          refine rk_E (hM1.kp (fL 218 (by decide) (by decide) (by decide) (by decide) (by decide)) rfl rfl rfl rfl) f1 (fun z hz => ?_) (fun m hm v hv => ?_) (fun m hm => ?_) (fun k hk => ?_)
          · rw [fL z (fun e => hz (Or.inr (by omega))) (fun e => hz (Or.inl (by omega))) (fun e => hz (Or.inl (by omega))) (fun e => hz (Or.inl (by omega))) (fun e => hz (Or.inr (by omega)))]
            exact f2 z hz
          · rw [s2 (6 * m + v) (by omega)]
            by_cases c2 : v = 2
            · rw [if_pos ⟨by omega, by omega⟩, c2, if_neg (by decide), show (6 * m + 2) / 6 = m by omega]
              exact (if_pos k2).symm
            · rw [if_neg (fun q => c2 (by omega)), hL120 234 (by decide), q1 234 (by decide), ← hL71, hc_u_row _ _ _ _ (by decide), g2 _ (by omega), lyM_0 hm (by omega)]
              by_cases c0 : v = 0
              · rw [if_pos c0, c0, if_neg (by decide)]; rfl
              · rw [if_neg c0]
                by_cases c4 : v = 4
                · rw [if_pos c4]
                · rw [if_neg c4]
                  by_cases c1 : v = 1
                  · rw [c1]; exact (if_pos k2).symm
                  · rw [show v = 3 by omega]; exact (if_pos k2).symm
          · rw [s1 235 (by decide), hL120 235 (by decide), q1 235 (by decide), ← hL71, hc_u_row _ _ _ _ (by decide)]; exact g3 m hm
          · rw [s1 236 (by decide), hL120 236 (by decide), q1 236 (by decide), ← hL71, hc_u_at]
            by_cases c4 : k = 4
            · rw [if_pos c4, c4, if_neg (by decide)]; exact (if_pos k2).symm
            · rw [if_neg c4, g4 k hk]
              by_cases c6 : k = 6
              · rw [c6, if_neg (by decide)]; exact (if_pos k2).symm
              · by_cases c : k = 5 ∨ 7 ≤ k
                · rw [if_pos c]
                  unfold lyT4 lyT3
                  rw [if_neg (by omega), if_neg (by omega), if_neg (by omega), if_neg (by omega)]
                · rw [if_neg c]
                  have : k = 0 ∨ k = 1 ∨ k = 2 ∨ k = 3 := by omega
                  rcases this with e | e | e | e <;> (subst e; rfl)
        · intro i hi ih L3 s1 s2
          refine LW_iload 3 dX11_reckons_127 rfl ?_
          refine LW_bipush (v := 12) dX11_reckons_129 (by decide) ?_
          refine LW_icmp_ge (tgt := 159) dX11_reckons_131 (by decide) (fun c131 => absurd c131 (hc_nle (a := 12) (b := i) (by decide) (by omega) hi)) (fun c131 => ?_)
          refine LW_aloadn 0 dX11_reckons_134 rfl rfl ?_
          refine gX11_40 dX11_reckons_135 flX11_69 (hY.lt (k := 217) (by decide)) (ly217 hY) (lf217_40 hY) ?_
          refine LW_bipush (v := 6) dX11_reckons_138 (by decide) ?_
          refine LW_iload 3 dX11_reckons_140 rfl ?_
          refine LW_imul dX11_reckons_142 ?_
          rw [show (6 * (nI i)) = nI (6 * i) from (nI_mul 6 i)]
          refine LW_iconst (v := 2) dX11_reckons_143 (by decide) ?_
          refine LW_iadd dX11_reckons_144 ?_
          rw [show ((nI (6 * i)) + 2) = nI (6 * i + 2) from (nI_add (6 * i) 2)]
          refine LW_aloadn 0 dX11_reckons_145 rfl rfl ?_
          refine gX11_37 dX11_reckons_146 flX11_59 (hY.lt (k := 217) (by decide)) (ly217 hY) (lf217_37 hY) ?_
          refine LW_iload 3 dX11_reckons_149 rfl ?_
          refine LW_lald dX11_reckons_151 (hY.lt (k := 231) (by decide)) (ly231 hY) rfl hi (Nat.le_of_ble_eq_true rfl) ?_
          rw [show L3 231 i = kGiv A P (prX A w) i from (by rw [s1 231 (by decide), hG120 i hi]; exact hgv i hi)]
          refine LW_last dX11_reckons_152 (hY.lt (k := 234) (by decide)) (ly234 hY) rfl (by omega) (Nat.le_of_ble_eq_true rfl) ?_
          generalize hL152 : hc_u L3 234 (6 * i + 2) (kGiv A P (prX A w) i) = L152
          refine LW_iinc (n := 3) (v := nI (i + 1)) (ls' := [(0, .ref 217), (1, .long (aRu A 1 + kToR A P (prX A w))), (3, .long (kBt A P (prX A w))), (5, .int (nI (i + 1)))]) dX11_reckons_153 rfl (hc_inc _) (by decide) rfl ?_
          refine LW_goto (tgt := 127) dX11_reckons_156 (by decide) ?_
          exact ih L152 (fun z z1 => by rw [← hL152, hc_u_row _ _ _ _ z1]; exact s1 z z1) (fun j hj => by
            rw [← hL152, hc_u_at, s2 j hj]
            by_cases c : j = 6 * i + 2
            · rw [if_pos c, if_pos ⟨by omega, by omega⟩, show j / 6 = i by omega]
            · rw [if_neg c]
              by_cases d : j % 6 = 2 ∧ j / 6 < i
              · rw [if_pos d, if_pos ⟨d.1, by omega⟩]
              · rw [if_neg d, if_neg (fun q => d ⟨q.1, by omega⟩)])
      exact loopB 0 (Nat.zero_le _) Lc120 (fun _ _ => rfl) (fun j hj => by rw [if_neg (fun q => absurd q.2 (Nat.not_lt_zero _))])
    · intro i hi ih L2 q1 q2
      refine LW_iload 3 dX11_reckons_84 rfl ?_
      refine LW_bipush (v := 12) dX11_reckons_86 (by decide) ?_
      refine LW_icmp_ge (tgt := 111) dX11_reckons_88 (by decide) (fun c88 => absurd c88 (hc_nle (a := 12) (b := i) (by decide) (by omega) hi)) (fun c88 => ?_)
      refine LW_aloadn 0 dX11_reckons_91 rfl rfl ?_
      refine gX11_36 dX11_reckons_92 flX11_56 (hY.lt (k := 217) (by decide)) (ly217 hY) (lf217_36 hY) ?_
      refine LW_iload 3 dX11_reckons_95 rfl ?_
      refine LW_aloadn 0 dX11_reckons_97 rfl rfl ?_
      refine gX11_41 dX11_reckons_98 flX11_72 (hY.lt (k := 217) (by decide)) (ly217 hY) (lf217_41 hY) ?_
      refine LW_iload 3 dX11_reckons_101 rfl ?_
      refine LW_lald dX11_reckons_103 (hY.lt (k := 235) (by decide)) (ly235 hY) rfl hi (Nat.le_of_ble_eq_true rfl) ?_
      rw [show L2 235 i = gA A (prX A w) i from (by rw [q1 235 (by decide), ← hL71, hc_u_row _ _ _ _ (by decide)]; exact g3 i hi)]
      refine LW_last dX11_reckons_104 (hY.lt (k := 230) (by decide)) (ly230 hY) rfl hi (Nat.le_of_ble_eq_true rfl) ?_
      generalize hL104 : hc_u L2 230 i (gA A (prX A w) i) = L104
      refine LW_iinc (n := 3) (v := nI (i + 1)) (ls' := [(0, .ref 217), (1, .long (aRu A 1 + kToR A P (prX A w))), (3, .long (kBt A P (prX A w))), (5, .int (nI (i + 1)))]) dX11_reckons_105 rfl (hc_inc _) (by decide) rfl ?_
      refine LW_goto (tgt := 84) dX11_reckons_108 (by decide) ?_
      exact ih L104 (fun z z1 => by rw [← hL104, hc_u_row _ _ _ _ z1]; exact q1 z z1) (fun j hj => by
        rw [← hL104, hc_u_at]
        by_cases c : j = i
        · rw [if_pos c, c]
        · rw [if_neg c]; exact q2 j (by omega))
  exact loopA 0 (Nat.zero_le _) L71 (fun _ _ => rfl) (fun j hj => absurd hj (Nat.not_lt_zero j))
