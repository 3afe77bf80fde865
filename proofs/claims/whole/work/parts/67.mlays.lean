/-! the reference: what each member brings -/
def MR (I : hc_I) (A : AS) : Prop := (I 224 0).toInt64 = aRu A 2 ∧ (I 224 1).toInt64 = aRu A 3 ∧ (I 224 2).toInt64 = aRu A 4
theorem min_sw (a b : Int64) : (if a < b then a else b) = if b < a then b else a := by
  by_cases c : a < b
  · rw [if_pos c, if_neg (fun q => Int64.lt_irrefl (Int64.lt_trans c q))]
  · by_cases d : b < a
    · rw [if_neg c, if_pos d]
    · rw [if_neg c, if_neg d]; exact Int64.le_antisymm (Int64.not_lt.mp c) (Int64.not_lt.mp d)
theorem gC_f {A : AS} {P : LwP} {pr : Nat → Bool} {m : Nat} (h : pr m = false) : gC A P pr m = 0 := if_neg (by rw [h]; decide)
theorem gA_f {A : AS} {pr : Nat → Bool} {m : Nat} (h : pr m = false) : gA A pr m = 0 := by
  unfold gA gP
  rw [if_neg (by rw [h]; decide), Int64.zero_mul]
  rfl
theorem prX_no {A : AS} {w : Int32} {k : Nat} (h : aM A ≤ k) : prX A w k = false := by
  unfold prX aIs
  rw [decide_eq_false (show ¬ k < aM A by omega), Bool.false_and, Bool.and_false]
/-- rows of laysMembers -/
def lyM (A : AS) (P : LwP) (pr : Nat → Bool) (i j : Nat) : Int64 := if j % 6 = 0 ∧ j / 6 < i then gC A P pr (j / 6) else 0
def lyT3 (A : AS) (P : LwP) (pr : Nat → Bool) (i j : Nat) : Int64 := if j = 0 then sumJ (gC A P pr) i else if j = 3 then sumJ (gA A pr) i else 0
def lyT4 (A : AS) (P : LwP) (pr : Nat → Bool) (j : Nat) : Int64 := if j = 2 then kNe A P pr else if j = 1 then kAg A P pr else lyT3 A P pr 12 j
def yJ (z : Nat) : Prop := mJ z ∨ z = 234 ∨ z = 235 ∨ z = 236
theorem lyM_s {A : AS} {P : LwP} {pr : Nat → Bool} {i j : Nat} : lyM A P pr (i + 1) j = if j = 6 * i then gC A P pr i else lyM A P pr i j := by
  unfold lyM
  by_cases c : j = 6 * i
  · subst c
    rw [if_pos rfl, if_pos ⟨by omega, by omega⟩, show 6 * i / 6 = i by omega]
  · rw [if_neg c]
    by_cases d : j % 6 = 0 ∧ j / 6 < i
    · rw [if_pos d, if_pos ⟨d.1, by omega⟩]
    · rw [if_neg d, if_neg (fun q => d ⟨q.1, by have := q.1; have := q.2; omega⟩)]
theorem lyT3_s {A : AS} {P : LwP} {pr : Nat → Bool} {i j : Nat} : lyT3 A P pr (i + 1) j = if j = 3 then sumJ (gA A pr) i + gA A pr i else if j = 0 then sumJ (gC A P pr) i + gC A P pr i else lyT3 A P pr i j := by
  unfold lyT3
  by_cases c : j = 0
  · subst c; rfl
  · rw [if_neg c, if_neg c, if_neg c]
    by_cases d : j = 3
    · rw [if_pos d, if_pos d]; rfl
    · rw [if_neg d, if_neg d, if_neg d]
set_option maxRecDepth 100000 in
theorem lays3 {Λ : hc_L} {I : hc_I} {L : hc_J} {R : hc_R} {A : AS} {w : Int32} (hM : MC Λ I L A w) {P : LwP} (hP : ML I L P) (hR : MR I A) : ∀ i, i ≤ 12 → ∀ (I1 : hc_I) (L1 : hc_J), (∀ z, z ≠ 233 → I1 z = I z) → (∀ z, ¬ yJ z → L1 z = L z) → (∀ j, j < i → I1 233 j = hc_b (prX A w j)) → (∀ j, j < 72 → L1 234 j = lyM A P (prX A w) i j) → (∀ j, j < i → L1 235 j = gA A (prX A w) j) → (∀ j, j < 11 → L1 236 j = lyT3 A P (prX A w) i j) → LW xX11_laysMembers (0, 0) 44 [(0, .ref 217), (1, .int (nI i))] [] Λ I1 L1 R (Qvi (fun z => z = 233) yJ none (fun I' L' => (∀ j, j < 12 → I' 233 j = hc_b (prX A w j)) ∧ (∀ j, j < 72 → L' 234 j = lyM A P (prX A w) 12 j) ∧ (∀ j, j < 12 → L' 235 j = gA A (prX A w) j) ∧ ∀ j, j < 11 → L' 236 j = lyT4 A P (prX A w) j) Λ I L R) := by
  have hY := hM.y
  have hm12 := hM.w.m
  refine hc_down ?_ ?_
  · intro I1 L1 hI hL k1 k2 k3 k4
    refine LW_iloadn 1 dX11_laysMembers_44 rfl rfl ?_
    refine LW_bipush (v := 12) dX11_laysMembers_45 (by decide) ?_
    refine LW_icmp_ge (tgt := 167) dX11_laysMembers_47 (by decide) (fun c47 => ?_) (fun c47 => absurd (by decide) c47)
    refine LW_aloadn 0 dX11_laysMembers_167 rfl rfl ?_
    refine gX11_42 dX11_laysMembers_168 flX11_75 (hY.lt (k := 217) (by decide)) (ly217 hY) (lf217_42 hY) ?_
    refine LW_iconst (v := 1) dX11_laysMembers_171 (by decide) ?_
    refine LW_aloadn 0 dX11_laysMembers_172 rfl rfl ?_
    refine gX11_7 dX11_laysMembers_173 flX11_31 (hY.lt (k := 217) (by decide)) (ly217 hY) (lf217_7 hY) ?_
    refine LW_iconst (v := 1) dX11_laysMembers_176 (by decide) ?_
    refine LW_iald dX11_laysMembers_177 (hY.lt (k := 224) (by decide)) (ly224 hY) rfl (by decide) (Nat.le_of_ble_eq_true rfl) ?_
    refine LW_i2l dX11_laysMembers_178 ?_
    rw [show (I1 224 1).toInt64 = aRu A 3 from (by rw [hI 224 (by decide)]; exact hR.2.1)]
    refine LW_lconst (v := 0) dX11_laysMembers_179 (by decide) ?_
    refine LW_aloadn 0 dX11_laysMembers_180 rfl rfl ?_
    refine gX11_42 dX11_laysMembers_181 flX11_75 (hY.lt (k := 217) (by decide)) (ly217 hY) (lf217_42 hY) ?_
    refine LW_iconst (v := 0) dX11_laysMembers_184 (by decide) ?_
    refine LW_lald dX11_laysMembers_185 (hY.lt (k := 236) (by decide)) (ly236 hY) rfl (by decide) (Nat.le_of_ble_eq_true rfl) ?_
    rw [show L1 236 0 = kLo A P (prX A w) from (k4 0 (by decide))]
    refine LW_aloadn 0 dX11_laysMembers_186 rfl rfl ?_
    refine gX11_7 dX11_laysMembers_187 flX11_31 (hY.lt (k := 217) (by decide)) (ly217 hY) (lf217_7 hY) ?_
    refine LW_iconst (v := 0) dX11_laysMembers_190 (by decide) ?_
    refine LW_iald dX11_laysMembers_191 (hY.lt (k := 224) (by decide)) (ly224 hY) rfl (by decide) (Nat.le_of_ble_eq_true rfl) ?_
    refine LW_i2l dX11_laysMembers_192 ?_
    rw [show (I1 224 0).toInt64 = aRu A 2 from (by rw [hI 224 (by decide)]; exact hR.1)]
    refine LW_lsub dX11_laysMembers_193 ?_
    refine LW_lmax dX11_laysMembers_194 mlX11_313 (by decide) ⟨Nat.le_refl _, Nat.le_refl _⟩ (Nat.le_of_ble_eq_true rfl) ?_
    rw [show (if ((kLo A P (prX A w)) - (aRu A 2)) < 0 then 0 else ((kLo A P (prX A w)) - (aRu A 2))) = cAbove A (kLo A P (prX A w)) from rfl]
    refine LW_lmin dX11_laysMembers_197 mlX11_308 (by decide) ⟨Nat.le_refl _, Nat.le_refl _⟩ (Nat.le_of_ble_eq_true rfl) ?_
    rw [show (if (cAbove A (kLo A P (prX A w))) < (aRu A 3) then (cAbove A (kLo A P (prX A w))) else (aRu A 3)) = (if aRu A 3 < cAbove A (kLo A P (prX A w)) then aRu A 3 else cAbove A (kLo A P (prX A w))) from (min_sw _ _)]
    refine LW_aloadn 0 dX11_laysMembers_200 rfl rfl ?_
    refine gX11_7 dX11_laysMembers_201 flX11_31 (hY.lt (k := 217) (by decide)) (ly217 hY) (lf217_7 hY) ?_
    refine LW_iconst (v := 2) dX11_laysMembers_204 (by decide) ?_
    refine LW_iald dX11_laysMembers_205 (hY.lt (k := 224) (by decide)) (ly224 hY) rfl (by decide) (Nat.le_of_ble_eq_true rfl) ?_
    refine LW_i2l dX11_laysMembers_206 ?_
    rw [show (I1 224 2).toInt64 = aRu A 4 from (by rw [hI 224 (by decide)]; exact hR.2.2)]
    refine LW_lmul dX11_laysMembers_207 ?_
    refine LW_ldc2 dX11_laysMembers_208 klX11_352 ?_
    refine LW_ldiv dX11_laysMembers_211 (by decide) ?_
    rw [show (((if aRu A 3 < cAbove A (kLo A P (prX A w)) then aRu A 3 else cAbove A (kLo A P (prX A w))) * (aRu A 4)) / 100) = kAg A P (prX A w) from rfl]
    refine LW_last dX11_laysMembers_212 (hY.lt (k := 236) (by decide)) (ly236 hY) rfl (by decide) (Nat.le_of_ble_eq_true rfl) ?_
    generalize hL212 : hc_u L1 236 1 (kAg A P (prX A w)) = L212
    refine LW_aloadn 0 dX11_laysMembers_213 rfl rfl ?_
    refine gX11_42 dX11_laysMembers_214 flX11_75 (hY.lt (k := 217) (by decide)) (ly217 hY) (lf217_42 hY) ?_
    refine LW_iconst (v := 2) dX11_laysMembers_217 (by decide) ?_
    refine LW_aloadn 0 dX11_laysMembers_218 rfl rfl ?_
    refine gX11_42 dX11_laysMembers_219 flX11_75 (hY.lt (k := 217) (by decide)) (ly217 hY) (lf217_42 hY) ?_
    refine LW_iconst (v := 0) dX11_laysMembers_222 (by decide) ?_
    refine LW_lald dX11_laysMembers_223 (hY.lt (k := 236) (by decide)) (ly236 hY) rfl (by decide) (Nat.le_of_ble_eq_true rfl) ?_
    rw [show L212 236 0 = kLo A P (prX A w) from (by rw [← hL212, hc_u_at, if_neg (by decide)]; exact k4 0 (by decide))]
    refine LW_aloadn 0 dX11_laysMembers_224 rfl rfl ?_
    refine gX11_42 dX11_laysMembers_225 flX11_75 (hY.lt (k := 217) (by decide)) (ly217 hY) (lf217_42 hY) ?_
    refine LW_iconst (v := 1) dX11_laysMembers_228 (by decide) ?_
    refine LW_lald dX11_laysMembers_229 (hY.lt (k := 236) (by decide)) (ly236 hY) rfl (by decide) (Nat.le_of_ble_eq_true rfl) ?_
    rw [show L212 236 1 = kAg A P (prX A w) from (by rw [← hL212, hc_u_at, if_pos rfl])]
    refine LW_lsub dX11_laysMembers_230 ?_
    refine LW_last dX11_laysMembers_231 (hY.lt (k := 236) (by decide)) (ly236 hY) rfl (by decide) (Nat.le_of_ble_eq_true rfl) ?_
    generalize hL231 : hc_u L212 236 2 ((kLo A P (prX A w)) - (kAg A P (prX A w))) = L231
    refine LW_vret dX11_laysMembers_232 rfl (Nat.le_of_ble_eq_true rfl) (Nat.le_of_ble_eq_true rfl) ?_
    refine ⟨rfl, rfl, fun z hz => hI z hz, fun z hz => ?_, rfl, fun j hj => k1 j hj, fun j hj => ?_, fun j hj => ?_, fun j hj => ?_⟩
    · rw [← hL231, hc_u_row _ _ _ _ (fun e => hz (Or.inr (Or.inr (Or.inr e)))), ← hL212, hc_u_row _ _ _ _ (fun e => hz (Or.inr (Or.inr (Or.inr e))))]; exact hL z hz
    · rw [← hL231, hc_u_row _ _ _ _ (by decide), ← hL212, hc_u_row _ _ _ _ (by decide)]; exact k2 j hj
    · rw [← hL231, hc_u_row _ _ _ _ (by decide), ← hL212, hc_u_row _ _ _ _ (by decide)]; exact k3 j hj
    · rw [← hL231, hc_u_at, ← hL212, hc_u_at, k4 j hj]; rfl
  · intro i hi ih I1 L1 hI hL k1 k2 k3 k4
    have hM1 : MC Λ I1 L1 A w := hM.kp (hL _ (by unfold yJ mJ; decide)) (hI _ (by decide)) (hI _ (by decide)) (hI _ (by decide)) (by rw [hI 217 (by decide)])
    have hP1 : ML I1 L1 P := hP.kp (by rw [hI 217 (by decide)]) (hI _ (by decide)) (hL _ (by unfold yJ mJ; decide))
    refine LW_iloadn 1 dX11_laysMembers_44 rfl rfl ?_
    refine LW_bipush (v := 12) dX11_laysMembers_45 (by decide) ?_
    refine LW_icmp_ge (tgt := 167) dX11_laysMembers_47 (by decide) (fun c47 => absurd c47 (hc_nle (a := 12) (b := i) (by decide) (by omega) hi)) (fun c47 => ?_)
    refine LW_iloadn 1 dX11_laysMembers_50 rfl rfl ?_
    refine LW_i2l dX11_laysMembers_51 ?_
    rw [show (nI i).toInt64 = lN i from (nI_l (by omega))]
    refine LW_aloadn 0 dX11_laysMembers_52 rfl rfl ?_
    refine gX11_0 dX11_laysMembers_53 flX11_9 (hY.lt (k := 217) (by decide)) (ly217 hY) (lf217_0 hY) ?_
    refine LW_iconst (v := 5) dX11_laysMembers_56 (by decide) ?_
    refine LW_lald dX11_laysMembers_57 (hY.lt (k := 218) (by decide)) (ly218 hY) rfl (by decide) (Nat.le_of_ble_eq_true rfl) ?_
    rw [show L1 218 5 = lN (aM A) from hM1.nM]
    refine LW_lcmp dX11_laysMembers_58 ?_
    refine LW_lif_ge (tgt := 74) dX11_laysMembers_59 (by decide) (fun c59 => ?_) (fun c59 => ?_)
    · refine LW_iconst (v := 0) dX11_laysMembers_74 (by decide) ?_
      refine LW_istoren (ls' := [(0, .ref 217), (1, .int (nI i)), (2, .int 0)]) dX11_laysMembers_75 rfl (by decide) rfl ?_
      have hp : prX A w i = false := prX_no ((lN_le (by omega) (by omega)).mp c59)
      refine LW_aloadn 0 dX11_laysMembers_76 rfl rfl ?_
      refine gX11_39 dX11_laysMembers_77 flX11_65 (hY.lt (k := 217) (by decide)) (ly217 hY) (lf217_39 hY) ?_
      refine LW_iloadn 1 dX11_laysMembers_80 rfl rfl ?_
      refine LW_iloadn 2 dX11_laysMembers_81 rfl rfl ?_
      refine LW_zast dX11_laysMembers_82 (hY.lt (k := 233) (by decide)) (ly233 hY) rfl hi (Nat.le_of_ble_eq_true rfl) ?_
      generalize hI82 : hc_u I1 233 i (vp_nar .boolean 0) = I82
      refine LW_aloadn 0 dX11_laysMembers_83 rfl rfl ?_
      refine gX11_41 dX11_laysMembers_84 flX11_72 (hY.lt (k := 217) (by decide)) (ly217 hY) (lf217_41 hY) ?_
      refine LW_iloadn 1 dX11_laysMembers_87 rfl rfl ?_
      refine LW_iloadn 2 dX11_laysMembers_88 rfl rfl ?_
      refine LW_if_eq (tgt := 100) dX11_laysMembers_89 (by decide) (fun c89 => ?_) (fun c89 => absurd rfl c89)
      refine LW_lconst (v := 0) dX11_laysMembers_100 (by decide) ?_
      refine LW_last dX11_laysMembers_101 (hY.lt (k := 235) (by decide)) (ly235 hY) rfl hi (Nat.le_of_ble_eq_true rfl) ?_
      generalize hL101 : hc_u L1 235 i 0 = L101
      refine LW_aloadn 0 dX11_laysMembers_102 rfl rfl ?_
      refine gX11_40 dX11_laysMembers_103 flX11_69 (hY.lt (k := 217) (by decide)) (ly217 hY) (lf217_40 hY) ?_
      refine LW_bipush (v := 6) dX11_laysMembers_106 (by decide) ?_
      refine LW_iloadn 1 dX11_laysMembers_108 rfl rfl ?_
      refine LW_imul dX11_laysMembers_109 ?_
      rw [show (6 * (nI i)) = nI (6 * i) from (nI_mul 6 i)]
      refine LW_iconst (v := 0) dX11_laysMembers_110 (by decide) ?_
      refine LW_iadd dX11_laysMembers_111 ?_
      rw [show ((nI (6 * i)) + 0) = nI (6 * i) from (nI_add (6 * i) 0)]
      refine LW_iloadn 2 dX11_laysMembers_112 rfl rfl ?_
      refine LW_if_eq (tgt := 124) dX11_laysMembers_113 (by decide) (fun c113 => ?_) (fun c113 => absurd rfl c113)
      refine LW_lconst (v := 0) dX11_laysMembers_124 (by decide) ?_
      refine LW_last dX11_laysMembers_125 (hY.lt (k := 234) (by decide)) (ly234 hY) rfl (by omega) (Nat.le_of_ble_eq_true rfl) ?_
      generalize hL125 : hc_u L101 234 (6 * i) 0 = L125
      refine LW_aloadn 0 dX11_laysMembers_126 rfl rfl ?_
      refine gX11_42 dX11_laysMembers_127 flX11_75 (hY.lt (k := 217) (by decide)) (ly217 hY) (lf217_42 hY) ?_
      refine LW_iconst (v := 0) dX11_laysMembers_130 (by decide) ?_
      refine LW_dup2 dX11_laysMembers_131 rfl rfl ?_
      refine LW_lald dX11_laysMembers_132 (hY.lt (k := 236) (by decide)) (ly236 hY) rfl (by decide) (Nat.le_of_ble_eq_true rfl) ?_
      rw [show L125 236 0 = sumJ (gC A P (prX A w)) i from (by rw [← hL125, hc_u_row _ _ _ _ (by decide), ← hL101, hc_u_row _ _ _ _ (by decide)]; exact k4 0 (by decide))]
      refine LW_aloadn 0 dX11_laysMembers_133 rfl rfl ?_
      refine gX11_40 dX11_laysMembers_134 flX11_69 (hY.lt (k := 217) (by decide)) (ly217 hY) (lf217_40 hY) ?_
      refine LW_bipush (v := 6) dX11_laysMembers_137 (by decide) ?_
      refine LW_iloadn 1 dX11_laysMembers_139 rfl rfl ?_
      refine LW_imul dX11_laysMembers_140 ?_
      rw [show (6 * (nI i)) = nI (6 * i) from (nI_mul 6 i)]
      refine LW_iconst (v := 0) dX11_laysMembers_141 (by decide) ?_
      refine LW_iadd dX11_laysMembers_142 ?_
      rw [show ((nI (6 * i)) + 0) = nI (6 * i) from (nI_add (6 * i) 0)]
      refine LW_lald dX11_laysMembers_143 (hY.lt (k := 234) (by decide)) (ly234 hY) rfl (by omega) (Nat.le_of_ble_eq_true rfl) ?_
      rw [show L125 234 (6 * i) = 0 from (by rw [← hL125, hc_u_at, if_pos rfl])]
      refine LW_ladd dX11_laysMembers_144 ?_
      refine LW_last dX11_laysMembers_145 (hY.lt (k := 236) (by decide)) (ly236 hY) rfl (by decide) (Nat.le_of_ble_eq_true rfl) ?_
      generalize hL145 : hc_u L125 236 0 ((sumJ (gC A P (prX A w)) i) + 0) = L145
      refine LW_aloadn 0 dX11_laysMembers_146 rfl rfl ?_
      refine gX11_42 dX11_laysMembers_147 flX11_75 (hY.lt (k := 217) (by decide)) (ly217 hY) (lf217_42 hY) ?_
      refine LW_iconst (v := 3) dX11_laysMembers_150 (by decide) ?_
      refine LW_dup2 dX11_laysMembers_151 rfl rfl ?_
      refine LW_lald dX11_laysMembers_152 (hY.lt (k := 236) (by decide)) (ly236 hY) rfl (by decide) (Nat.le_of_ble_eq_true rfl) ?_
      rw [show L145 236 3 = sumJ (gA A (prX A w)) i from (by rw [← hL145, hc_u_at, if_neg (by decide), ← hL125, hc_u_row _ _ _ _ (by decide), ← hL101, hc_u_row _ _ _ _ (by decide)]; exact k4 3 (by decide))]
      refine LW_aloadn 0 dX11_laysMembers_153 rfl rfl ?_
      refine gX11_41 dX11_laysMembers_154 flX11_72 (hY.lt (k := 217) (by decide)) (ly217 hY) (lf217_41 hY) ?_
      refine LW_iloadn 1 dX11_laysMembers_157 rfl rfl ?_
      refine LW_lald dX11_laysMembers_158 (hY.lt (k := 235) (by decide)) (ly235 hY) rfl hi (Nat.le_of_ble_eq_true rfl) ?_
      rw [show L145 235 i = 0 from (by rw [← hL145, hc_u_row _ _ _ _ (by decide), ← hL125, hc_u_row _ _ _ _ (by decide), ← hL101, hc_u_at, if_pos rfl])]
      refine LW_ladd dX11_laysMembers_159 ?_
      refine LW_last dX11_laysMembers_160 (hY.lt (k := 236) (by decide)) (ly236 hY) rfl (by decide) (Nat.le_of_ble_eq_true rfl) ?_
      generalize hL160 : hc_u L145 236 3 ((sumJ (gA A (prX A w)) i) + 0) = L160
      refine LW_iinc (n := 1) (v := nI (i + 1)) (ls' := [(0, .ref 217), (1, .int (nI (i + 1))), (2, .int 0)]) dX11_laysMembers_161 rfl (hc_inc _) (by decide) rfl ?_
      refine LW_goto (tgt := 44) dX11_laysMembers_164 (by decide) ?_
      have eA : gA A (prX A w) i = 0 := gA_f hp
      have eC : gC A P (prX A w) i = 0 := gC_f hp
      have f0 : L125 236 0 = sumJ (gC A P (prX A w)) i := by rw [← hL125, hc_u_row _ _ _ _ (by decide), ← hL101, hc_u_row _ _ _ _ (by decide)]; exact k4 0 (by decide)
      have f3 : L125 236 3 = sumJ (gA A (prX A w)) i := by rw [← hL125, hc_u_row _ _ _ _ (by decide), ← hL101, hc_u_row _ _ _ _ (by decide)]; exact k4 3 (by decide)
      have g234 : ∀ j, L160 234 j = if j = 6 * i then 0 else L1 234 j := fun j => by rw [← hL160, hc_u_row _ _ _ _ (by decide), ← hL145, hc_u_row _ _ _ _ (by decide), ← hL125, hc_u_at, ← hL101, hc_u_row _ _ _ _ (by decide)]
      have g235 : ∀ j, L160 235 j = if j = i then 0 else L1 235 j := fun j => by rw [← hL160, hc_u_row _ _ _ _ (by decide), ← hL145, hc_u_row _ _ _ _ (by decide), ← hL125, hc_u_row _ _ _ _ (by decide), ← hL101, hc_u_at]
      refine LW_ls (ls' := [(0, .ref 217), (1, .int (nI (i + 1)))]) [0, 1] rfl ?_
      exact ih I82 L160 (fun z z1 => by rw [← hI82, hc_u_row _ _ _ _ z1]; exact hI z z1) (fun z z1 => by
        have n4 : z ≠ 234 := fun e => z1 (Or.inr (Or.inl e))
        have n5 : z ≠ 235 := fun e => z1 (Or.inr (Or.inr (Or.inl e)))
        have n6 : z ≠ 236 := fun e => z1 (Or.inr (Or.inr (Or.inr e)))
        rw [← hL160, hc_u_row _ _ _ _ n6, ← hL145, hc_u_row _ _ _ _ n6, ← hL125, hc_u_row _ _ _ _ n4, ← hL101, hc_u_row _ _ _ _ n5]
        exact hL z z1) (fun j hj => by
        rw [← hI82, hc_u_at]
        by_cases cj : j = i
        · rw [if_pos cj, cj, hp]; rfl
        · rw [if_neg cj]; exact k1 j (by omega)) (fun j hj => by rw [g234, lyM_s, eC, k2 j hj]) (fun j hj => by
        rw [g235]
        by_cases cj : j = i
        · rw [if_pos cj, cj, eA]
        · rw [if_neg cj]; exact k3 j (by omega)) (fun j hj => by
        rw [← hL160, hc_u_at, ← hL145, hc_u_at, lyT3_s, eA, eC]
        by_cases c3 : j = 3
        · rw [if_pos c3, if_pos c3]
        · rw [if_neg c3, if_neg c3]
          by_cases c0 : j = 0
          · rw [if_pos c0, if_pos c0]
          · rw [if_neg c0, if_neg c0, ← hL125, hc_u_row _ _ _ _ (by decide), ← hL101, hc_u_row _ _ _ _ (by decide)]; exact k4 j hj)
    · have hk : i < aM A := Nat.lt_of_not_le (fun z => c59 ((lN_le (by omega) (by omega)).mpr z))
      refine LW_aloadn 0 dX11_laysMembers_62 rfl rfl ?_
      refine LW_iloadn 1 dX11_laysMembers_63 rfl rfl ?_
      refine LW_callV (As := [.int (nI i)]) (b := 217) (st := []) (ci := 11) (r := (RX11, TX11, 44)) (r_mIsThere hM1 hk) YX11_isThere rfl dX11_laysMembers_64 mlX11_331 (hY.lt (k := 217) (by decide)) (ly217 hY) ⟨rfl, rfl⟩ (by decide) ⟨Nat.le_of_ble_eq_true rfl, Nat.le_of_ble_eq_true rfl⟩ (Nat.le_of_ble_eq_true rfl) rfl (fun r64 Λc64 Ic64 Lc64 Rc64 hq64 => ?_)
      obtain ⟨rfl, rfl, rfl, rfl, rfl⟩ := hq64
      refine LW_bif_eq (tgt := 74) dX11_laysMembers_67 (by decide) (fun c67 => ?_) (fun c67 => ?_)
      · refine LW_iconst (v := 0) dX11_laysMembers_74 (by decide) ?_
        refine LW_istoren (ls' := [(0, .ref 217), (1, .int (nI i)), (2, .int 0)]) dX11_laysMembers_75 rfl (by decide) rfl ?_
        have hp : prX A w i = false := c67
        refine LW_aloadn 0 dX11_laysMembers_76 rfl rfl ?_
        refine gX11_39 dX11_laysMembers_77 flX11_65 (hY.lt (k := 217) (by decide)) (ly217 hY) (lf217_39 hY) ?_
        refine LW_iloadn 1 dX11_laysMembers_80 rfl rfl ?_
        refine LW_iloadn 2 dX11_laysMembers_81 rfl rfl ?_
        refine LW_zast dX11_laysMembers_82 (hY.lt (k := 233) (by decide)) (ly233 hY) rfl hi (Nat.le_of_ble_eq_true rfl) ?_
        generalize hI82 : hc_u I1 233 i (vp_nar .boolean 0) = I82
        refine LW_aloadn 0 dX11_laysMembers_83 rfl rfl ?_
        refine gX11_41 dX11_laysMembers_84 flX11_72 (hY.lt (k := 217) (by decide)) (ly217 hY) (lf217_41 hY) ?_
        refine LW_iloadn 1 dX11_laysMembers_87 rfl rfl ?_
        refine LW_iloadn 2 dX11_laysMembers_88 rfl rfl ?_
        refine LW_if_eq (tgt := 100) dX11_laysMembers_89 (by decide) (fun c89 => ?_) (fun c89 => absurd rfl c89)
        refine LW_lconst (v := 0) dX11_laysMembers_100 (by decide) ?_
        refine LW_last dX11_laysMembers_101 (hY.lt (k := 235) (by decide)) (ly235 hY) rfl hi (Nat.le_of_ble_eq_true rfl) ?_
        generalize hL101 : hc_u L1 235 i 0 = L101
        refine LW_aloadn 0 dX11_laysMembers_102 rfl rfl ?_
        refine gX11_40 dX11_laysMembers_103 flX11_69 (hY.lt (k := 217) (by decide)) (ly217 hY) (lf217_40 hY) ?_
        refine LW_bipush (v := 6) dX11_laysMembers_106 (by decide) ?_
        refine LW_iloadn 1 dX11_laysMembers_108 rfl rfl ?_
        refine LW_imul dX11_laysMembers_109 ?_
        rw [show (6 * (nI i)) = nI (6 * i) from (nI_mul 6 i)]
        refine LW_iconst (v := 0) dX11_laysMembers_110 (by decide) ?_
        refine LW_iadd dX11_laysMembers_111 ?_
        rw [show ((nI (6 * i)) + 0) = nI (6 * i) from (nI_add (6 * i) 0)]
        refine LW_iloadn 2 dX11_laysMembers_112 rfl rfl ?_
        refine LW_if_eq (tgt := 124) dX11_laysMembers_113 (by decide) (fun c113 => ?_) (fun c113 => absurd rfl c113)
        refine LW_lconst (v := 0) dX11_laysMembers_124 (by decide) ?_
        refine LW_last dX11_laysMembers_125 (hY.lt (k := 234) (by decide)) (ly234 hY) rfl (by omega) (Nat.le_of_ble_eq_true rfl) ?_
        generalize hL125 : hc_u L101 234 (6 * i) 0 = L125
        refine LW_aloadn 0 dX11_laysMembers_126 rfl rfl ?_
        refine gX11_42 dX11_laysMembers_127 flX11_75 (hY.lt (k := 217) (by decide)) (ly217 hY) (lf217_42 hY) ?_
        refine LW_iconst (v := 0) dX11_laysMembers_130 (by decide) ?_
        refine LW_dup2 dX11_laysMembers_131 rfl rfl ?_
        refine LW_lald dX11_laysMembers_132 (hY.lt (k := 236) (by decide)) (ly236 hY) rfl (by decide) (Nat.le_of_ble_eq_true rfl) ?_
        rw [show L125 236 0 = sumJ (gC A P (prX A w)) i from (by rw [← hL125, hc_u_row _ _ _ _ (by decide), ← hL101, hc_u_row _ _ _ _ (by decide)]; exact k4 0 (by decide))]
        refine LW_aloadn 0 dX11_laysMembers_133 rfl rfl ?_
        refine gX11_40 dX11_laysMembers_134 flX11_69 (hY.lt (k := 217) (by decide)) (ly217 hY) (lf217_40 hY) ?_
        refine LW_bipush (v := 6) dX11_laysMembers_137 (by decide) ?_
        refine LW_iloadn 1 dX11_laysMembers_139 rfl rfl ?_
        refine LW_imul dX11_laysMembers_140 ?_
        rw [show (6 * (nI i)) = nI (6 * i) from (nI_mul 6 i)]
        refine LW_iconst (v := 0) dX11_laysMembers_141 (by decide) ?_
        refine LW_iadd dX11_laysMembers_142 ?_
        rw [show ((nI (6 * i)) + 0) = nI (6 * i) from (nI_add (6 * i) 0)]
        refine LW_lald dX11_laysMembers_143 (hY.lt (k := 234) (by decide)) (ly234 hY) rfl (by omega) (Nat.le_of_ble_eq_true rfl) ?_
        rw [show L125 234 (6 * i) = 0 from (by rw [← hL125, hc_u_at, if_pos rfl])]
        refine LW_ladd dX11_laysMembers_144 ?_
        refine LW_last dX11_laysMembers_145 (hY.lt (k := 236) (by decide)) (ly236 hY) rfl (by decide) (Nat.le_of_ble_eq_true rfl) ?_
        generalize hL145 : hc_u L125 236 0 ((sumJ (gC A P (prX A w)) i) + 0) = L145
        refine LW_aloadn 0 dX11_laysMembers_146 rfl rfl ?_
        refine gX11_42 dX11_laysMembers_147 flX11_75 (hY.lt (k := 217) (by decide)) (ly217 hY) (lf217_42 hY) ?_
        refine LW_iconst (v := 3) dX11_laysMembers_150 (by decide) ?_
        refine LW_dup2 dX11_laysMembers_151 rfl rfl ?_
        refine LW_lald dX11_laysMembers_152 (hY.lt (k := 236) (by decide)) (ly236 hY) rfl (by decide) (Nat.le_of_ble_eq_true rfl) ?_
        rw [show L145 236 3 = sumJ (gA A (prX A w)) i from (by rw [← hL145, hc_u_at, if_neg (by decide), ← hL125, hc_u_row _ _ _ _ (by decide), ← hL101, hc_u_row _ _ _ _ (by decide)]; exact k4 3 (by decide))]
        refine LW_aloadn 0 dX11_laysMembers_153 rfl rfl ?_
        refine gX11_41 dX11_laysMembers_154 flX11_72 (hY.lt (k := 217) (by decide)) (ly217 hY) (lf217_41 hY) ?_
        refine LW_iloadn 1 dX11_laysMembers_157 rfl rfl ?_
        refine LW_lald dX11_laysMembers_158 (hY.lt (k := 235) (by decide)) (ly235 hY) rfl hi (Nat.le_of_ble_eq_true rfl) ?_
        rw [show L145 235 i = 0 from (by rw [← hL145, hc_u_row _ _ _ _ (by decide), ← hL125, hc_u_row _ _ _ _ (by decide), ← hL101, hc_u_at, if_pos rfl])]
        refine LW_ladd dX11_laysMembers_159 ?_
        refine LW_last dX11_laysMembers_160 (hY.lt (k := 236) (by decide)) (ly236 hY) rfl (by decide) (Nat.le_of_ble_eq_true rfl) ?_
        generalize hL160 : hc_u L145 236 3 ((sumJ (gA A (prX A w)) i) + 0) = L160
        refine LW_iinc (n := 1) (v := nI (i + 1)) (ls' := [(0, .ref 217), (1, .int (nI (i + 1))), (2, .int 0)]) dX11_laysMembers_161 rfl (hc_inc _) (by decide) rfl ?_
        refine LW_goto (tgt := 44) dX11_laysMembers_164 (by decide) ?_
        have eA : gA A (prX A w) i = 0 := gA_f hp
        have eC : gC A P (prX A w) i = 0 := gC_f hp
        have f0 : L125 236 0 = sumJ (gC A P (prX A w)) i := by rw [← hL125, hc_u_row _ _ _ _ (by decide), ← hL101, hc_u_row _ _ _ _ (by decide)]; exact k4 0 (by decide)
        have f3 : L125 236 3 = sumJ (gA A (prX A w)) i := by rw [← hL125, hc_u_row _ _ _ _ (by decide), ← hL101, hc_u_row _ _ _ _ (by decide)]; exact k4 3 (by decide)
        have g234 : ∀ j, L160 234 j = if j = 6 * i then 0 else L1 234 j := fun j => by rw [← hL160, hc_u_row _ _ _ _ (by decide), ← hL145, hc_u_row _ _ _ _ (by decide), ← hL125, hc_u_at, ← hL101, hc_u_row _ _ _ _ (by decide)]
        have g235 : ∀ j, L160 235 j = if j = i then 0 else L1 235 j := fun j => by rw [← hL160, hc_u_row _ _ _ _ (by decide), ← hL145, hc_u_row _ _ _ _ (by decide), ← hL125, hc_u_row _ _ _ _ (by decide), ← hL101, hc_u_at]
        refine LW_ls (ls' := [(0, .ref 217), (1, .int (nI (i + 1)))]) [0, 1] rfl ?_
        exact ih I82 L160 (fun z z1 => by rw [← hI82, hc_u_row _ _ _ _ z1]; exact hI z z1) (fun z z1 => by
          have n4 : z ≠ 234 := fun e => z1 (Or.inr (Or.inl e))
          have n5 : z ≠ 235 := fun e => z1 (Or.inr (Or.inr (Or.inl e)))
          have n6 : z ≠ 236 := fun e => z1 (Or.inr (Or.inr (Or.inr e)))
          rw [← hL160, hc_u_row _ _ _ _ n6, ← hL145, hc_u_row _ _ _ _ n6, ← hL125, hc_u_row _ _ _ _ n4, ← hL101, hc_u_row _ _ _ _ n5]
          exact hL z z1) (fun j hj => by
          rw [← hI82, hc_u_at]
          by_cases cj : j = i
          · rw [if_pos cj, cj, hp]; rfl
          · rw [if_neg cj]; exact k1 j (by omega)) (fun j hj => by rw [g234, lyM_s, eC, k2 j hj]) (fun j hj => by
          rw [g235]
          by_cases cj : j = i
          · rw [if_pos cj, cj, eA]
          · rw [if_neg cj]; exact k3 j (by omega)) (fun j hj => by
          rw [← hL160, hc_u_at, ← hL145, hc_u_at, lyT3_s, eA, eC]
          by_cases c3 : j = 3
          · rw [if_pos c3, if_pos c3]
          · rw [if_neg c3, if_neg c3]
            by_cases c0 : j = 0
            · rw [if_pos c0, if_pos c0]
            · rw [if_neg c0, if_neg c0, ← hL125, hc_u_row _ _ _ _ (by decide), ← hL101, hc_u_row _ _ _ _ (by decide)]; exact k4 j hj)
      · refine LW_iconst (v := 1) dX11_laysMembers_70 (by decide) ?_
        refine LW_goto (tgt := 75) dX11_laysMembers_71 (by decide) ?_
        refine LW_istoren (ls' := [(0, .ref 217), (1, .int (nI i)), (2, .int 1)]) dX11_laysMembers_75 rfl (by decide) rfl ?_
        have hp : prX A w i = true := c67
        refine LW_aloadn 0 dX11_laysMembers_76 rfl rfl ?_
        refine gX11_39 dX11_laysMembers_77 flX11_65 (hY.lt (k := 217) (by decide)) (ly217 hY) (lf217_39 hY) ?_
        refine LW_iloadn 1 dX11_laysMembers_80 rfl rfl ?_
        refine LW_iloadn 2 dX11_laysMembers_81 rfl rfl ?_
        refine LW_zast dX11_laysMembers_82 (hY.lt (k := 233) (by decide)) (ly233 hY) rfl hi (Nat.le_of_ble_eq_true rfl) ?_
        generalize hI82 : hc_u I1 233 i (vp_nar .boolean 1) = I82
        refine LW_aloadn 0 dX11_laysMembers_83 rfl rfl ?_
        refine gX11_41 dX11_laysMembers_84 flX11_72 (hY.lt (k := 217) (by decide)) (ly217 hY) (lf217_41 hY) ?_
        refine LW_iloadn 1 dX11_laysMembers_87 rfl rfl ?_
        refine LW_iloadn 2 dX11_laysMembers_88 rfl rfl ?_
        refine LW_if_eq (tgt := 100) dX11_laysMembers_89 (by decide) (fun c89 => absurd c89 (by decide)) (fun c89 => ?_)
        refine LW_aloadn 0 dX11_laysMembers_92 rfl rfl ?_
        refine LW_iloadn 1 dX11_laysMembers_93 rfl rfl ?_
        refine LW_callV (As := [.int (nI i)]) (b := 217) (st := [.int (nI i), .ref 235]) (ci := 11) (r := (RX11, TX11, 44)) (r_mAdvanceOf (hM1.kp (I' := I82) (L' := L1) rfl (by rw [← hI82, hc_u_row _ _ _ _ (by decide)]) (by rw [← hI82, hc_u_row _ _ _ _ (by decide)]) (by rw [← hI82, hc_u_row _ _ _ _ (by decide)]) (by rw [← hI82, hc_u_row _ _ _ _ (by decide)])) hk) YX11_advanceOf rfl dX11_laysMembers_94 mlX11_404 (hY.lt (k := 217) (by decide)) (ly217 hY) ⟨rfl, rfl⟩ (by decide) ⟨Nat.le_of_ble_eq_true rfl, Nat.le_of_ble_eq_true rfl⟩ (Nat.le_of_ble_eq_true rfl) rfl (fun r94 Λc94 Ic94 Lc94 Rc94 hq94 => ?_)
        obtain ⟨rfl, rfl, rfl, rfl, rfl⟩ := hq94
        refine LW_goto (tgt := 101) dX11_laysMembers_97 (by decide) ?_
        refine LW_last dX11_laysMembers_101 (hY.lt (k := 235) (by decide)) (ly235 hY) rfl hi (Nat.le_of_ble_eq_true rfl) ?_
        generalize hL101 : hc_u L1 235 i (gA A (prX A w) i) = L101
        refine LW_aloadn 0 dX11_laysMembers_102 rfl rfl ?_
        refine gX11_40 dX11_laysMembers_103 flX11_69 (hY.lt (k := 217) (by decide)) (ly217 hY) (lf217_40 hY) ?_
        refine LW_bipush (v := 6) dX11_laysMembers_106 (by decide) ?_
        refine LW_iloadn 1 dX11_laysMembers_108 rfl rfl ?_
        refine LW_imul dX11_laysMembers_109 ?_
        rw [show (6 * (nI i)) = nI (6 * i) from (nI_mul 6 i)]
        refine LW_iconst (v := 0) dX11_laysMembers_110 (by decide) ?_
        refine LW_iadd dX11_laysMembers_111 ?_
        rw [show ((nI (6 * i)) + 0) = nI (6 * i) from (nI_add (6 * i) 0)]
        refine LW_iloadn 2 dX11_laysMembers_112 rfl rfl ?_
        refine LW_if_eq (tgt := 124) dX11_laysMembers_113 (by decide) (fun c113 => absurd c113 (by decide)) (fun c113 => ?_)
        refine LW_aloadn 0 dX11_laysMembers_116 rfl rfl ?_
        refine LW_iloadn 1 dX11_laysMembers_117 rfl rfl ?_
        refine LW_callV (As := [.int (nI i)]) (b := 217) (st := [.int (nI (6 * i)), .ref 234]) (ci := 11) (r := (RX11, TX11, 44)) (r_mClaimsOf (hM1.kp (I' := I82) (L' := L101) (by rw [← hL101, hc_u_row _ _ _ _ (by decide)]) (by rw [← hI82, hc_u_row _ _ _ _ (by decide)]) (by rw [← hI82, hc_u_row _ _ _ _ (by decide)]) (by rw [← hI82, hc_u_row _ _ _ _ (by decide)]) (by rw [← hI82, hc_u_row _ _ _ _ (by decide)])) (hP1.kp (I' := I82) (L' := L101) (by rw [← hI82, hc_u_row _ _ _ _ (by decide)]) (by rw [← hI82, hc_u_row _ _ _ _ (by decide)]) (by rw [← hL101, hc_u_row _ _ _ _ (by decide)])) hk) YX11_claimsOf rfl dX11_laysMembers_118 mlX11_373 (hY.lt (k := 217) (by decide)) (ly217 hY) ⟨rfl, rfl⟩ (by decide) ⟨Nat.le_of_ble_eq_true rfl, Nat.le_of_ble_eq_true rfl⟩ (Nat.le_of_ble_eq_true rfl) rfl (fun r118 Λc118 Ic118 Lc118 Rc118 hq118 => ?_)
        obtain ⟨rfl, rfl, rfl, hL118, hR118⟩ := hq118
        obtain rfl : R = Rc118 := hR118
        refine LW_goto (tgt := 125) dX11_laysMembers_121 (by decide) ?_
        refine LW_last dX11_laysMembers_125 (hY.lt (k := 234) (by decide)) (ly234 hY) rfl (by omega) (Nat.le_of_ble_eq_true rfl) ?_
        generalize hL125 : hc_u Lc118 234 (6 * i) (gC A P (prX A w) i) = L125
        refine LW_aloadn 0 dX11_laysMembers_126 rfl rfl ?_
        refine gX11_42 dX11_laysMembers_127 flX11_75 (hY.lt (k := 217) (by decide)) (ly217 hY) (lf217_42 hY) ?_
        refine LW_iconst (v := 0) dX11_laysMembers_130 (by decide) ?_
        refine LW_dup2 dX11_laysMembers_131 rfl rfl ?_
        refine LW_lald dX11_laysMembers_132 (hY.lt (k := 236) (by decide)) (ly236 hY) rfl (by decide) (Nat.le_of_ble_eq_true rfl) ?_
        rw [show L125 236 0 = sumJ (gC A P (prX A w)) i from (by rw [← hL125, hc_u_row _ _ _ _ (by decide), hL118 236 (by unfold mJ; decide), ← hL101, hc_u_row _ _ _ _ (by decide)]; exact k4 0 (by decide))]
        refine LW_aloadn 0 dX11_laysMembers_133 rfl rfl ?_
        refine gX11_40 dX11_laysMembers_134 flX11_69 (hY.lt (k := 217) (by decide)) (ly217 hY) (lf217_40 hY) ?_
        refine LW_bipush (v := 6) dX11_laysMembers_137 (by decide) ?_
        refine LW_iloadn 1 dX11_laysMembers_139 rfl rfl ?_
        refine LW_imul dX11_laysMembers_140 ?_
        rw [show (6 * (nI i)) = nI (6 * i) from (nI_mul 6 i)]
        refine LW_iconst (v := 0) dX11_laysMembers_141 (by decide) ?_
        refine LW_iadd dX11_laysMembers_142 ?_
        rw [show ((nI (6 * i)) + 0) = nI (6 * i) from (nI_add (6 * i) 0)]
        refine LW_lald dX11_laysMembers_143 (hY.lt (k := 234) (by decide)) (ly234 hY) rfl (by omega) (Nat.le_of_ble_eq_true rfl) ?_
        rw [show L125 234 (6 * i) = gC A P (prX A w) i from (by rw [← hL125, hc_u_at, if_pos rfl])]
        refine LW_ladd dX11_laysMembers_144 ?_
        refine LW_last dX11_laysMembers_145 (hY.lt (k := 236) (by decide)) (ly236 hY) rfl (by decide) (Nat.le_of_ble_eq_true rfl) ?_
        generalize hL145 : hc_u L125 236 0 ((sumJ (gC A P (prX A w)) i) + (gC A P (prX A w) i)) = L145
        refine LW_aloadn 0 dX11_laysMembers_146 rfl rfl ?_
        refine gX11_42 dX11_laysMembers_147 flX11_75 (hY.lt (k := 217) (by decide)) (ly217 hY) (lf217_42 hY) ?_
        refine LW_iconst (v := 3) dX11_laysMembers_150 (by decide) ?_
        refine LW_dup2 dX11_laysMembers_151 rfl rfl ?_
        refine LW_lald dX11_laysMembers_152 (hY.lt (k := 236) (by decide)) (ly236 hY) rfl (by decide) (Nat.le_of_ble_eq_true rfl) ?_
        rw [show L145 236 3 = sumJ (gA A (prX A w)) i from (by rw [← hL145, hc_u_at, if_neg (by decide), ← hL125, hc_u_row _ _ _ _ (by decide), hL118 236 (by unfold mJ; decide), ← hL101, hc_u_row _ _ _ _ (by decide)]; exact k4 3 (by decide))]
        refine LW_aloadn 0 dX11_laysMembers_153 rfl rfl ?_
        refine gX11_41 dX11_laysMembers_154 flX11_72 (hY.lt (k := 217) (by decide)) (ly217 hY) (lf217_41 hY) ?_
        refine LW_iloadn 1 dX11_laysMembers_157 rfl rfl ?_
        refine LW_lald dX11_laysMembers_158 (hY.lt (k := 235) (by decide)) (ly235 hY) rfl hi (Nat.le_of_ble_eq_true rfl) ?_
        rw [show L145 235 i = gA A (prX A w) i from (by rw [← hL145, hc_u_row _ _ _ _ (by decide), ← hL125, hc_u_row _ _ _ _ (by decide), hL118 235 (by unfold mJ; decide), ← hL101, hc_u_at, if_pos rfl])]
        refine LW_ladd dX11_laysMembers_159 ?_
        refine LW_last dX11_laysMembers_160 (hY.lt (k := 236) (by decide)) (ly236 hY) rfl (by decide) (Nat.le_of_ble_eq_true rfl) ?_
        generalize hL160 : hc_u L145 236 3 ((sumJ (gA A (prX A w)) i) + (gA A (prX A w) i)) = L160
        refine LW_iinc (n := 1) (v := nI (i + 1)) (ls' := [(0, .ref 217), (1, .int (nI (i + 1))), (2, .int 1)]) dX11_laysMembers_161 rfl (hc_inc _) (by decide) rfl ?_
        refine LW_goto (tgt := 44) dX11_laysMembers_164 (by decide) ?_
        have eA : gA A (prX A w) i = gA A (prX A w) i := rfl
        have eC : gC A P (prX A w) i = gC A P (prX A w) i := rfl
        have f0 : L125 236 0 = sumJ (gC A P (prX A w)) i := by rw [← hL125, hc_u_row _ _ _ _ (by decide), hL118 236 (by unfold mJ; decide), ← hL101, hc_u_row _ _ _ _ (by decide)]; exact k4 0 (by decide)
        have f3 : L125 236 3 = sumJ (gA A (prX A w)) i := by rw [← hL125, hc_u_row _ _ _ _ (by decide), hL118 236 (by unfold mJ; decide), ← hL101, hc_u_row _ _ _ _ (by decide)]; exact k4 3 (by decide)
        have g234 : ∀ j, L160 234 j = if j = 6 * i then gC A P (prX A w) i else L1 234 j := fun j => by rw [← hL160, hc_u_row _ _ _ _ (by decide), ← hL145, hc_u_row _ _ _ _ (by decide), ← hL125, hc_u_at, hL118 234 (by unfold mJ; decide), ← hL101, hc_u_row _ _ _ _ (by decide)]
        have g235 : ∀ j, L160 235 j = if j = i then gA A (prX A w) i else L1 235 j := fun j => by rw [← hL160, hc_u_row _ _ _ _ (by decide), ← hL145, hc_u_row _ _ _ _ (by decide), ← hL125, hc_u_row _ _ _ _ (by decide), hL118 235 (by unfold mJ; decide), ← hL101, hc_u_at]
        refine LW_ls (ls' := [(0, .ref 217), (1, .int (nI (i + 1)))]) [0, 1] rfl ?_
        exact ih I82 L160 (fun z z1 => by rw [← hI82, hc_u_row _ _ _ _ z1]; exact hI z z1) (fun z z1 => by
          have n4 : z ≠ 234 := fun e => z1 (Or.inr (Or.inl e))
          have n5 : z ≠ 235 := fun e => z1 (Or.inr (Or.inr (Or.inl e)))
          have n6 : z ≠ 236 := fun e => z1 (Or.inr (Or.inr (Or.inr e)))
          rw [← hL160, hc_u_row _ _ _ _ n6, ← hL145, hc_u_row _ _ _ _ n6, ← hL125, hc_u_row _ _ _ _ n4, hL118 z (fun e => z1 (Or.inl e)), ← hL101, hc_u_row _ _ _ _ n5]
          exact hL z z1) (fun j hj => by
          rw [← hI82, hc_u_at]
          by_cases cj : j = i
          · rw [if_pos cj, cj, hp]; rfl
          · rw [if_neg cj]; exact k1 j (by omega)) (fun j hj => by rw [g234, lyM_s, eC, k2 j hj]) (fun j hj => by
          rw [g235]
          by_cases cj : j = i
          · rw [if_pos cj, cj, eA]
          · rw [if_neg cj]; exact k3 j (by omega)) (fun j hj => by
          rw [← hL160, hc_u_at, ← hL145, hc_u_at, lyT3_s, eA, eC]
          by_cases c3 : j = 3
          · rw [if_pos c3, if_pos c3]
          · rw [if_neg c3, if_neg c3]
            by_cases c0 : j = 0
            · rw [if_pos c0, if_pos c0]
            · rw [if_neg c0, if_neg c0, ← hL125, hc_u_row _ _ _ _ (by decide), hL118 236 (by unfold mJ; decide), ← hL101, hc_u_row _ _ _ _ (by decide)]; exact k4 j hj)
set_option maxRecDepth 100000 in
theorem r_laysMembers {Λ : hc_L} {I : hc_I} {L : hc_J} {R : hc_R} {A : AS} {w : Int32} (hM : MC Λ I L A w) {P : LwP} (hP : ML I L P) (hR : MR I A) : Run xX11_laysMembers [.ref 217] Λ I L R (Qvi (fun z => z = 233) yJ none (fun I' L' => (∀ j, j < 12 → I' 233 j = hc_b (prX A w j)) ∧ (∀ j, j < 72 → L' 234 j = lyM A P (prX A w) 12 j) ∧ (∀ j, j < 12 → L' 235 j = gA A (prX A w) j) ∧ ∀ j, j < 11 → L' 236 j = lyT4 A P (prX A w) j) Λ I L R) := by
  refine Run.of (by decide +kernel) (Nat.le_of_ble_eq_true rfl) ?_
  show LW _ _ _ [(0, .ref 217)] _ _ _ _ _ _
  have hY := hM.y
  have l2 : ∀ i, i ≤ 11 → ∀ (L1 : hc_J), (∀ z, z ≠ 234 → z ≠ 236 → L1 z = L z) → (∀ j, j < 72 → L1 234 j = 0) → (∀ j, j < i → L1 236 j = 0) → LW xX11_laysMembers (0, 0) 23 [(0, .ref 217), (1, .int (nI i))] [] Λ I L1 R (Qvi (fun z => z = 233) yJ none (fun I' L' => (∀ j, j < 12 → I' 233 j = hc_b (prX A w j)) ∧ (∀ j, j < 72 → L' 234 j = lyM A P (prX A w) 12 j) ∧ (∀ j, j < 12 → L' 235 j = gA A (prX A w) j) ∧ ∀ j, j < 11 → L' 236 j = lyT4 A P (prX A w) j) Λ I L R) := by
    refine hc_down ?_ ?_
    · intro L1 hL h1 h2
      refine LW_iloadn 1 dX11_laysMembers_23 rfl rfl ?_
      refine LW_bipush (v := 11) dX11_laysMembers_24 (by decide) ?_
      refine LW_icmp_ge (tgt := 42) dX11_laysMembers_26 (by decide) (fun c26 => ?_) (fun c26 => absurd (by decide) c26)
      refine LW_iconst (v := 0) dX11_laysMembers_42 (by decide) ?_
      refine LW_istoren (ls' := [(0, .ref 217), (1, .int 0)]) dX11_laysMembers_43 rfl (by decide) rfl ?_
      have hyl : ∀ z, ¬ yJ z → L1 z = L z := fun z hz => hL z (fun e => hz (Or.inr (Or.inl e))) (fun e => hz (Or.inr (Or.inr (Or.inr e))))
      exact lays3 hM hP hR 0 (Nat.zero_le _) I L1 (fun _ _ => rfl) hyl (fun j hj => absurd hj (Nat.not_lt_zero j)) (fun j hj => by rw [h1 j hj]; unfold lyM; rw [if_neg (by omega)]) (fun j hj => absurd hj (Nat.not_lt_zero j)) (fun j hj => by
        rw [h2 j hj]
        unfold lyT3
        split
        · rfl
        · split <;> rfl)
    · intro i hi ih L1 hL h1 h2
      refine LW_iloadn 1 dX11_laysMembers_23 rfl rfl ?_
      refine LW_bipush (v := 11) dX11_laysMembers_24 (by decide) ?_
      refine LW_icmp_ge (tgt := 42) dX11_laysMembers_26 (by decide) (fun c26 => absurd c26 (hc_nle (a := 11) (b := i) (by decide) (by omega) hi)) (fun c26 => ?_)
      refine LW_aloadn 0 dX11_laysMembers_29 rfl rfl ?_
      refine gX11_42 dX11_laysMembers_30 flX11_75 (hY.lt (k := 217) (by decide)) (ly217 hY) (lf217_42 hY) ?_
      refine LW_iloadn 1 dX11_laysMembers_33 rfl rfl ?_
      refine LW_lconst (v := 0) dX11_laysMembers_34 (by decide) ?_
      refine LW_last dX11_laysMembers_35 (hY.lt (k := 236) (by decide)) (ly236 hY) rfl hi (Nat.le_of_ble_eq_true rfl) ?_
      generalize hL35 : hc_u L1 236 i 0 = L35
      refine LW_iinc (n := 1) (v := nI (i + 1)) (ls' := [(0, .ref 217), (1, .int (nI (i + 1)))]) dX11_laysMembers_36 rfl (hc_inc _) (by decide) rfl ?_
      refine LW_goto (tgt := 23) dX11_laysMembers_39 (by decide) ?_
      exact ih L35 (fun z z1 z2 => by rw [← hL35, hc_u_row _ _ _ _ z2]; exact hL z z1 z2) (fun j hj => by rw [← hL35, hc_u_row _ _ _ _ (by decide)]; exact h1 j hj) (fun j hj => by
        rw [← hL35, hc_u_at]
        by_cases cj : j = i
        · rw [if_pos cj]
        · rw [if_neg cj]; exact h2 j (by omega))
  have l1 : ∀ i, i ≤ 72 → ∀ (L1 : hc_J), (∀ z, z ≠ 234 → L1 z = L z) → (∀ j, j < i → L1 234 j = 0) → LW xX11_laysMembers (0, 0) 2 [(0, .ref 217), (1, .int (nI i))] [] Λ I L1 R (Qvi (fun z => z = 233) yJ none (fun I' L' => (∀ j, j < 12 → I' 233 j = hc_b (prX A w j)) ∧ (∀ j, j < 72 → L' 234 j = lyM A P (prX A w) 12 j) ∧ (∀ j, j < 12 → L' 235 j = gA A (prX A w) j) ∧ ∀ j, j < 11 → L' 236 j = lyT4 A P (prX A w) j) Λ I L R) := by
    refine hc_down ?_ ?_
    · intro L1 hL h1
      refine LW_iloadn 1 dX11_laysMembers_2 rfl rfl ?_
      refine LW_bipush (v := 72) dX11_laysMembers_3 (by decide) ?_
      refine LW_icmp_ge (tgt := 21) dX11_laysMembers_5 (by decide) (fun c5 => ?_) (fun c5 => absurd (by decide) c5)
      refine LW_iconst (v := 0) dX11_laysMembers_21 (by decide) ?_
      refine LW_istoren (ls' := [(0, .ref 217), (1, .int 0)]) dX11_laysMembers_22 rfl (by decide) rfl ?_
      exact l2 0 (Nat.zero_le _) L1 (fun z z1 _ => hL z z1) h1 (fun j hj => absurd hj (Nat.not_lt_zero j))
    · intro i hi ih L1 hL h1
      refine LW_iloadn 1 dX11_laysMembers_2 rfl rfl ?_
      refine LW_bipush (v := 72) dX11_laysMembers_3 (by decide) ?_
      refine LW_icmp_ge (tgt := 21) dX11_laysMembers_5 (by decide) (fun c5 => absurd c5 (hc_nle (a := 72) (b := i) (by decide) (by omega) hi)) (fun c5 => ?_)
      refine LW_aloadn 0 dX11_laysMembers_8 rfl rfl ?_
      refine gX11_40 dX11_laysMembers_9 flX11_69 (hY.lt (k := 217) (by decide)) (ly217 hY) (lf217_40 hY) ?_
      refine LW_iloadn 1 dX11_laysMembers_12 rfl rfl ?_
      refine LW_lconst (v := 0) dX11_laysMembers_13 (by decide) ?_
      refine LW_last dX11_laysMembers_14 (hY.lt (k := 234) (by decide)) (ly234 hY) rfl hi (Nat.le_of_ble_eq_true rfl) ?_
      generalize hL14 : hc_u L1 234 i 0 = L14
      refine LW_iinc (n := 1) (v := nI (i + 1)) (ls' := [(0, .ref 217), (1, .int (nI (i + 1)))]) dX11_laysMembers_15 rfl (hc_inc _) (by decide) rfl ?_
      refine LW_goto (tgt := 2) dX11_laysMembers_18 (by decide) ?_
      exact ih L14 (fun z z1 => by rw [← hL14, hc_u_row _ _ _ _ z1]; exact hL z z1) (fun j hj => by
        rw [← hL14, hc_u_at]
        by_cases cj : j = i
        · rw [if_pos cj]
        · rw [if_neg cj]; exact h1 j (by omega))
  refine LW_iconst (v := 0) dX11_laysMembers_0 (by decide) ?_
  refine LW_istoren (ls' := [(0, .ref 217), (1, .int 0)]) dX11_laysMembers_1 rfl (by decide) rfl ?_
  exact l1 0 (Nat.zero_le _) L (fun _ _ => rfl) (fun j hj => absurd hj (Nat.not_lt_zero j))
