/-! constructors: what they make -/
theorem dvX0 (E : hc_E) (k : Nat) (hk : k < 7) : defaultValue (hc_ty 0 k) = hc_fv E (hc_ty 0 k) 0 0 none := by
  rcases (show k = 0 ∨ k = 1 ∨ k = 2 ∨ k = 3 ∨ k = 4 ∨ k = 5 ∨ k = 6 by omega) with rfl | rfl | rfl | rfl | rfl | rfl | rfl <;> rfl
abbrev xX0_init : hc_X := (yX0_init, cX0_init, 3, none, 2, 2, 48)
set_option maxRecDepth 100000 in
theorem YX0_init : hc_YI xX0_init 2 := ⟨⟨hc_in2 (i := 62) (w := Cond.code yX0_init cX0_init 3 none) rfl rfl, iniX0, ⟨(by decide +kernel : yX0_init.cls ≠ _), (by decide +kernel : yX0_init.cls ≠ _), (by decide +kernel : (parseMethodDescriptor yX0_init.desc).map (fun d => d.parameters.length) = some 2)⟩, Nat.le_of_ble_eq_true rfl⟩, hc_in2 (i := 61) (w := Cond.instanceMethod yX0_init) rfl rfl, rfl, rfl⟩
theorem dvX1 (E : hc_E) (k : Nat) (hk : k < 11) : defaultValue (hc_ty 1 k) = hc_fv E (hc_ty 1 k) 0 0 none := by
  rcases (show k = 0 ∨ k = 1 ∨ k = 2 ∨ k = 3 ∨ k = 4 ∨ k = 5 ∨ k = 6 ∨ k = 7 ∨ k = 8 ∨ k = 9 ∨ k = 10 by omega) with rfl | rfl | rfl | rfl | rfl | rfl | rfl | rfl | rfl | rfl | rfl <;> rfl
abbrev xX1_init : hc_X := (yX1_init, cX1_init, 3, none, 2, 15, 173)
set_option maxRecDepth 100000 in
theorem YX1_init : hc_YI xX1_init 2 := ⟨⟨hc_in2 (i := 93) (w := Cond.code yX1_init cX1_init 3 none) rfl rfl, iniX1, ⟨(by decide +kernel : yX1_init.cls ≠ _), (by decide +kernel : yX1_init.cls ≠ _), (by decide +kernel : (parseMethodDescriptor yX1_init.desc).map (fun d => d.parameters.length) = some 2)⟩, Nat.le_of_ble_eq_true rfl⟩, hc_in2 (i := 92) (w := Cond.instanceMethod yX1_init) rfl rfl, rfl, rfl⟩
theorem dvX3 (E : hc_E) (k : Nat) (hk : k < 3) : defaultValue (hc_ty 3 k) = hc_fv E (hc_ty 3 k) 0 0 none := by
  rcases (show k = 0 ∨ k = 1 ∨ k = 2 by omega) with rfl | rfl | rfl <;> rfl
abbrev xX3_init : hc_X := (yX3_init, cX3_init, 2, none, 3, 145, 2152)
set_option maxRecDepth 100000 in
theorem YX3_init : hc_YI xX3_init 0 := ⟨⟨hc_in2 (i := 42) (w := Cond.code yX3_init cX3_init 2 none) rfl rfl, iniX3, ⟨(by decide +kernel : yX3_init.cls ≠ _), (by decide +kernel : yX3_init.cls ≠ _), (by decide +kernel : (parseMethodDescriptor yX3_init.desc).map (fun d => d.parameters.length) = some 0)⟩, Nat.le_of_ble_eq_true rfl⟩, hc_in2 (i := 41) (w := Cond.instanceMethod yX3_init) rfl rfl, rfl, rfl⟩
theorem dvX4 (E : hc_E) (k : Nat) (hk : k < 3) : defaultValue (hc_ty 4 k) = hc_fv E (hc_ty 4 k) 0 0 none := by
  rcases (show k = 0 ∨ k = 1 ∨ k = 2 by omega) with rfl | rfl | rfl <;> rfl
abbrev xX4_init : hc_X := (yX4_init, cX4_init, 1, none, 2, 2, 740)
set_option maxRecDepth 100000 in
theorem YX4_init : hc_YI xX4_init 0 := ⟨⟨hc_in1 (i := 140) (w := Cond.code yX4_init cX4_init 1 none) rfl rfl, iniX4, ⟨(by decide +kernel : yX4_init.cls ≠ _), (by decide +kernel : yX4_init.cls ≠ _), (by decide +kernel : (parseMethodDescriptor yX4_init.desc).map (fun d => d.parameters.length) = some 0)⟩, Nat.le_of_ble_eq_true rfl⟩, hc_in1 (i := 139) (w := Cond.instanceMethod yX4_init) rfl rfl, rfl, rfl⟩
theorem dvX5 (E : hc_E) (k : Nat) (hk : k < 11) : defaultValue (hc_ty 5 k) = hc_fv E (hc_ty 5 k) 0 0 none := by
  rcases (show k = 0 ∨ k = 1 ∨ k = 2 ∨ k = 3 ∨ k = 4 ∨ k = 5 ∨ k = 6 ∨ k = 7 ∨ k = 8 ∨ k = 9 ∨ k = 10 by omega) with rfl | rfl | rfl | rfl | rfl | rfl | rfl | rfl | rfl | rfl | rfl <;> rfl
abbrev xX5_init : hc_X := (yX5_init, cX5_init, 4, none, 6, 6, 2132)
set_option maxRecDepth 100000 in
theorem YX5_init : hc_YI xX5_init 3 := ⟨⟨hc_in1 (i := 158) (w := Cond.code yX5_init cX5_init 4 none) rfl rfl, iniX5, ⟨(by decide +kernel : yX5_init.cls ≠ _), (by decide +kernel : yX5_init.cls ≠ _), (by decide +kernel : (parseMethodDescriptor yX5_init.desc).map (fun d => d.parameters.length) = some 3)⟩, Nat.le_of_ble_eq_true rfl⟩, hc_in1 (i := 157) (w := Cond.instanceMethod yX5_init) rfl rfl, rfl, rfl⟩
theorem dvX6 (E : hc_E) (k : Nat) (hk : k < 15) : defaultValue (hc_ty 6 k) = hc_fv E (hc_ty 6 k) 0 0 none := by
  rcases (show k = 0 ∨ k = 1 ∨ k = 2 ∨ k = 3 ∨ k = 4 ∨ k = 5 ∨ k = 6 ∨ k = 7 ∨ k = 8 ∨ k = 9 ∨ k = 10 ∨ k = 11 ∨ k = 12 ∨ k = 13 ∨ k = 14 by omega) with rfl | rfl | rfl | rfl | rfl | rfl | rfl | rfl | rfl | rfl | rfl | rfl | rfl | rfl | rfl <;> rfl
abbrev xX6_init : hc_X := (yX6_init, cX6_init, 1, none, 2, 17, 253)
set_option maxRecDepth 100000 in
theorem YX6_init : hc_YI xX6_init 0 := ⟨⟨hc_in1 (i := 48) (w := Cond.code yX6_init cX6_init 1 none) rfl rfl, iniX6, ⟨(by decide +kernel : yX6_init.cls ≠ _), (by decide +kernel : yX6_init.cls ≠ _), (by decide +kernel : (parseMethodDescriptor yX6_init.desc).map (fun d => d.parameters.length) = some 0)⟩, Nat.le_of_ble_eq_true rfl⟩, hc_in1 (i := 47) (w := Cond.instanceMethod yX6_init) rfl rfl, rfl, rfl⟩
theorem dvX8 (E : hc_E) (k : Nat) (hk : k < 2) : defaultValue (hc_ty 8 k) = hc_fv E (hc_ty 8 k) 0 0 none := by
  rcases (show k = 0 ∨ k = 1 by omega) with rfl | rfl <;> rfl
abbrev xX8_init : hc_X := (yX8_init, cX8_init, 1, none, 2, 1, 700)
set_option maxRecDepth 100000 in
theorem YX8_init : hc_YI xX8_init 0 := ⟨⟨hc_in1 (i := 31) (w := Cond.code yX8_init cX8_init 1 none) rfl rfl, iniX8, ⟨(by decide +kernel : yX8_init.cls ≠ _), (by decide +kernel : yX8_init.cls ≠ _), (by decide +kernel : (parseMethodDescriptor yX8_init.desc).map (fun d => d.parameters.length) = some 0)⟩, Nat.le_of_ble_eq_true rfl⟩, hc_in1 (i := 30) (w := Cond.instanceMethod yX8_init) rfl rfl, rfl, rfl⟩
theorem dvX9 (E : hc_E) (k : Nat) (hk : k < 6) : defaultValue (hc_ty 9 k) = hc_fv E (hc_ty 9 k) 0 0 none := by
  rcases (show k = 0 ∨ k = 1 ∨ k = 2 ∨ k = 3 ∨ k = 4 ∨ k = 5 by omega) with rfl | rfl | rfl | rfl | rfl | rfl <;> rfl
abbrev xX9_init : hc_X := (yX9_init, cX9_init, 5, none, 5, 4, 2121)
set_option maxRecDepth 100000 in
theorem YX9_init : hc_YI xX9_init 1 := ⟨⟨hc_in1 (i := 164) (w := Cond.code yX9_init cX9_init 5 none) rfl rfl, iniX9, ⟨(by decide +kernel : yX9_init.cls ≠ _), (by decide +kernel : yX9_init.cls ≠ _), (by decide +kernel : (parseMethodDescriptor yX9_init.desc).map (fun d => d.parameters.length) = some 1)⟩, Nat.le_of_ble_eq_true rfl⟩, hc_in1 (i := 163) (w := Cond.instanceMethod yX9_init) rfl rfl, rfl, rfl⟩
theorem dvX10 (E : hc_E) (k : Nat) (hk : k < 9) : defaultValue (hc_ty 10 k) = hc_fv E (hc_ty 10 k) 0 0 none := by
  rcases (show k = 0 ∨ k = 1 ∨ k = 2 ∨ k = 3 ∨ k = 4 ∨ k = 5 ∨ k = 6 ∨ k = 7 ∨ k = 8 by omega) with rfl | rfl | rfl | rfl | rfl | rfl | rfl | rfl | rfl <;> rfl
abbrev xX10_init : hc_X := (yX10_init, cX10_init, 1, none, 7, 216, 7261)
set_option maxRecDepth 100000 in
theorem YX10_init : hc_YI xX10_init 0 := ⟨⟨hc_in1 (i := 23) (w := Cond.code yX10_init cX10_init 1 none) rfl rfl, iniX10, ⟨(by decide +kernel : yX10_init.cls ≠ _), (by decide +kernel : yX10_init.cls ≠ _), (by decide +kernel : (parseMethodDescriptor yX10_init.desc).map (fun d => d.parameters.length) = some 0)⟩, Nat.le_of_ble_eq_true rfl⟩, hc_in1 (i := 22) (w := Cond.instanceMethod yX10_init) rfl rfl, rfl, rfl⟩
theorem dvX11 (E : hc_E) (k : Nat) (hk : k < 44) : defaultValue (hc_ty 11 k) = hc_fv E (hc_ty 11 k) 0 0 none := by
  rcases (show k = 0 ∨ k = 1 ∨ k = 2 ∨ k = 3 ∨ k = 4 ∨ k = 5 ∨ k = 6 ∨ k = 7 ∨ k = 8 ∨ k = 9 ∨ k = 10 ∨ k = 11 ∨ k = 12 ∨ k = 13 ∨ k = 14 ∨ k = 15 ∨ k = 16 ∨ k = 17 ∨ k = 18 ∨ k = 19 ∨ k = 20 ∨ k = 21 ∨ k = 22 ∨ k = 23 ∨ k = 24 ∨ k = 25 ∨ k = 26 ∨ k = 27 ∨ k = 28 ∨ k = 29 ∨ k = 30 ∨ k = 31 ∨ k = 32 ∨ k = 33 ∨ k = 34 ∨ k = 35 ∨ k = 36 ∨ k = 37 ∨ k = 38 ∨ k = 39 ∨ k = 40 ∨ k = 41 ∨ k = 42 ∨ k = 43 by omega) with rfl | rfl | rfl | rfl | rfl | rfl | rfl | rfl | rfl | rfl | rfl | rfl | rfl | rfl | rfl | rfl | rfl | rfl | rfl | rfl | rfl | rfl | rfl | rfl | rfl | rfl | rfl | rfl | rfl | rfl | rfl | rfl | rfl | rfl | rfl | rfl | rfl | rfl | rfl | rfl | rfl | rfl | rfl | rfl <;> rfl
abbrev xX11_init : hc_X := (yX11_init, cX11_init, 1, none, 2, 20, 6709)
set_option maxRecDepth 100000 in
theorem YX11_init : hc_YI xX11_init 0 := ⟨⟨hc_in5 (i := 63) (w := Cond.code yX11_init cX11_init 1 none) rfl rfl, iniX11, ⟨(by decide +kernel : yX11_init.cls ≠ _), (by decide +kernel : yX11_init.cls ≠ _), (by decide +kernel : (parseMethodDescriptor yX11_init.desc).map (fun d => d.parameters.length) = some 0)⟩, Nat.le_of_ble_eq_true rfl⟩, hc_in5 (i := 62) (w := Cond.instanceMethod yX11_init) rfl rfl, rfl, rfl⟩
/-- n new cells behind the object at b, their shapes, references, the object's own references and ints; what was there before b stays -/
def Gr (n : Nat) (T : Nat → Nat × Nat) (G : Nat → Nat → Option Nat) (F : Nat → Option Nat) (J : Nat → Int32) (b : Nat) (Λ0 : hc_L) (I0 : hc_I) (L0 : hc_J) (R0 : hc_R) (Λ : hc_L) (I : hc_I) (L : hc_J) (R : hc_R) : Prop :=
  Λ.1 = b + 1 + n ∧ (∀ z, z ≤ b → Λ.2.1 z = Λ0.2.1 z) ∧ (∀ z, z < b → Λ.2.2 z = Λ0.2.2 z) ∧ Λ.2.2 b = F ∧ (∀ j, j < n → Λ.2.1 (b + 1 + j) = T j ∧ Λ.2.2 (b + 1 + j) = G j) ∧ (∀ z, z < b → I z = I0 z ∧ L z = L0 z ∧ R z = R0 z) ∧ I b = J ∧ ∀ j, j < n → I (b + 1 + j) = (fun _ => 0) ∧ L (b + 1 + j) = (fun _ => 0) ∧ R (b + 1 + j) = (fun _ => none)
theorem Gr.s0 {b : Nat} {Λ : hc_L} {I : hc_I} {L : hc_J} {R : hc_R} (h : Λ.1 = b + 1) : Gr 0 (fun _ => (0, 0)) (fun _ _ => none) (Λ.2.2 b) (I b) b Λ I L R Λ I L R :=
  ⟨h, fun _ _ => rfl, fun _ _ => rfl, rfl, fun j hj => absurd hj (Nat.not_lt_zero j), fun _ _ => ⟨rfl, rfl, rfl⟩, rfl, fun j hj => absurd hj (Nat.not_lt_zero j)⟩
section GRA
variable {n : Nat} {T : Nat → Nat × Nat} {G : Nat → Nat → Option Nat} {F : Nat → Option Nat} {J : Nat → Int32} {b : Nat} {Λ0 : hc_L} {I0 : hc_I} {L0 : hc_J} {R0 : hc_R} {Λ : hc_L} {I : hc_I} {L : hc_J} {R : hc_R}
theorem Gr.new (g : Gr n T G F J b Λ0 I0 L0 R0 Λ I L R) (t m : Nat) : Gr (n + 1) (fun j => if j = n then (t, m) else T j) (fun j => if j = n then (fun _ => none) else G j) F J b Λ0 I0 L0 R0 (hc_nw Λ t m) (hc_r I Λ.1 (fun _ => 0)) (hc_r L Λ.1 (fun _ => 0)) (hc_r R Λ.1 (fun _ => none)) := by
  obtain ⟨g1, g2, g3, g4, g5, g6, g7, g8⟩ := g
  have ne : ∀ z, z < Λ.1 → (hc_nw Λ t m).2.1 z = Λ.2.1 z ∧ (hc_nw Λ t m).2.2 z = Λ.2.2 z := fun z hz => ⟨if_neg (Nat.ne_of_lt hz), hc_r_ne _ _ _ (Nat.ne_of_lt hz)⟩
  have nc : ∀ z, z < Λ.1 → hc_r I Λ.1 (fun _ => 0) z = I z ∧ hc_r L Λ.1 (fun _ => 0) z = L z ∧ hc_r R Λ.1 (fun _ => none) z = R z := fun z hz => ⟨hc_r_ne _ _ _ (Nat.ne_of_lt hz), hc_r_ne _ _ _ (Nat.ne_of_lt hz), hc_r_ne _ _ _ (Nat.ne_of_lt hz)⟩
  refine ⟨by show Λ.1 + 1 = _; omega, fun z hz => ((ne z (by omega)).1).trans (g2 z hz), fun z hz => ((ne z (by omega)).2).trans (g3 z hz), ((ne b (by omega)).2).trans g4, fun j hj => ?_, fun z hz => ?_, ((nc b (by omega)).1).trans g7, fun j hj => ?_⟩
  · show _ = (if j = n then (t, m) else T j) ∧ _ = (if j = n then (fun _ => none) else G j)
    by_cases c : j = n
    · rw [if_pos c, if_pos c, c, show b + 1 + n = Λ.1 by omega]
      exact ⟨hc_nwl _ _ _, hc_nwf _ _ _⟩
    · rw [if_neg c, if_neg c, (ne (b + 1 + j) (by omega)).1, (ne (b + 1 + j) (by omega)).2]
      exact g5 j (by omega)
  · obtain ⟨c1, c2, c3⟩ := nc z (by omega)
    rw [c1, c2, c3]; exact g6 z hz
  · by_cases c : j = n
    · rw [c, show b + 1 + n = Λ.1 by omega]
      exact ⟨hc_r_eq _ _ _, hc_r_eq _ _ _, hc_r_eq _ _ _⟩
    · obtain ⟨c1, c2, c3⟩ := nc (b + 1 + j) (by omega)
      rw [c1, c2, c3]; exact g8 j (by omega)
theorem Gr.mna (g : Gr n T G F J b Λ0 I0 L0 R0 Λ I L R) : Gr (n + 7) (fun j => if j = n then (7, 6) else if n < j then (3, 12) else T j) (fun j => if j = n then (fun i => if i < 6 then some (b + 1 + n + 1 + i) else none) else if n < j then (fun _ => none) else G j) F J b Λ0 I0 L0 R0 (hc_mn Λ 6 12) (hc_mz I Λ.1 6 0) (hc_mz L Λ.1 6 0) (hc_mz R Λ.1 6 none) := by
  obtain ⟨g1, g2, g3, g4, g5, g6, g7, g8⟩ := g
  have ne : ∀ z, z < Λ.1 → (hc_mn Λ 6 12).2.1 z = Λ.2.1 z ∧ (hc_mn Λ 6 12).2.2 z = Λ.2.2 z := fun z hz => by
    unfold hc_mn
    show (if z = Λ.1 then _ else if Λ.1 < z ∧ z ≤ Λ.1 + 6 then _ else Λ.2.1 z) = _ ∧ (if z = Λ.1 then _ else if Λ.1 < z ∧ z ≤ Λ.1 + 6 then _ else Λ.2.2 z) = _
    rw [if_neg (by omega), if_neg (by omega), if_neg (by omega), if_neg (by omega)]; exact ⟨rfl, rfl⟩
  have nc : ∀ z, z < Λ.1 → hc_mz I Λ.1 6 0 z = I z ∧ hc_mz L Λ.1 6 0 z = L z ∧ hc_mz R Λ.1 6 none z = R z := fun z hz => by
    unfold hc_mz
    rw [if_neg (by omega), if_neg (by omega), if_neg (by omega)]; exact ⟨rfl, rfl, rfl⟩
  refine ⟨by show Λ.1 + 1 + 6 = _; omega, fun z hz => ((ne z (by omega)).1).trans (g2 z hz), fun z hz => ((ne z (by omega)).2).trans (g3 z hz), ((ne b (by omega)).2).trans g4, fun j hj => ?_, fun z hz => ?_, ((nc b (by omega)).1).trans g7, fun j hj => ?_⟩
  · show _ = (if j = n then (7, 6) else if n < j then (3, 12) else T j) ∧ _ = (if j = n then (fun i => if i < 6 then some (b + 1 + n + 1 + i) else none) else if n < j then (fun _ => none) else G j)
    by_cases c : j < n
    · rw [if_neg (by omega), if_neg (by omega), if_neg (by omega), if_neg (by omega), (ne (b + 1 + j) (by omega)).1, (ne (b + 1 + j) (by omega)).2]
      exact g5 j c
    · unfold hc_mn
      show (if b + 1 + j = Λ.1 then _ else if Λ.1 < b + 1 + j ∧ b + 1 + j ≤ Λ.1 + 6 then _ else Λ.2.1 (b + 1 + j)) = _ ∧ (if b + 1 + j = Λ.1 then _ else if Λ.1 < b + 1 + j ∧ b + 1 + j ≤ Λ.1 + 6 then _ else Λ.2.2 (b + 1 + j)) = _
      by_cases d : j = n
      · have d' : b + 1 + j = Λ.1 := by omega
        exact ⟨(if_pos d').trans (if_pos d).symm, (if_pos d').trans ((if_pos d).trans (by rw [g1])).symm⟩
      · have d1 : ¬b + 1 + j = Λ.1 := by omega
        have d2 : Λ.1 < b + 1 + j ∧ b + 1 + j ≤ Λ.1 + 6 := by omega
        have d3 : n < j := by omega
        exact ⟨((if_neg d1).trans (if_pos d2)).trans ((if_neg d).trans (if_pos d3)).symm, ((if_neg d1).trans (if_pos d2)).trans ((if_neg d).trans (if_pos d3)).symm⟩
  · obtain ⟨c1, c2, c3⟩ := nc z (by omega)
    rw [c1, c2, c3]; exact g6 z hz
  · by_cases c : j < n
    · obtain ⟨c1, c2, c3⟩ := nc (b + 1 + j) (by omega)
      rw [c1, c2, c3]; exact g8 j c
    · unfold hc_mz
      rw [if_pos (by omega), if_pos (by omega), if_pos (by omega)]; exact ⟨rfl, rfl, rfl⟩
theorem Gr.put (g : Gr n T G F J b Λ0 I0 L0 R0 Λ I L R) (j r : Nat) : Gr n T G (fun i => if i = j then some r else F i) J b Λ0 I0 L0 R0 (Λ.1, Λ.2.1, hc_u Λ.2.2 b j (some r)) I L R := by
  obtain ⟨g1, g2, g3, g4, g5, g6, g7, g8⟩ := g
  refine ⟨g1, g2, fun z hz => ?_, ?_, fun k hk => ⟨(g5 k hk).1, ?_⟩, g6, g7, g8⟩
  · show hc_u Λ.2.2 b j (some r) z = _
    rw [hc_u_row _ _ _ _ (by omega)]; exact g3 z hz
  · funext i
    show hc_u Λ.2.2 b j (some r) b i = _
    rw [hc_u_at, g4]
  · show hc_u Λ.2.2 b j (some r) (b + 1 + k) = _
    rw [hc_u_row _ _ _ _ (by omega)]; exact (g5 k hk).2
theorem Gr.puti (g : Gr n T G F J b Λ0 I0 L0 R0 Λ I L R) (j : Nat) (v : Int32) : Gr n T G F (fun i => if i = j then v else J i) b Λ0 I0 L0 R0 Λ (hc_u I b j v) L R := by
  obtain ⟨g1, g2, g3, g4, g5, g6, g7, g8⟩ := g
  refine ⟨g1, g2, g3, g4, g5, fun z hz => ?_, ?_, fun k hk => ?_⟩
  · rw [hc_u_row _ _ _ _ (by omega)]; exact g6 z hz
  · funext i; rw [hc_u_at, g7]
  · rw [hc_u_row _ _ _ _ (by omega)]; exact g8 k hk
end GRA
section CNA
variable {n : Nat} {T : Nat → Nat × Nat} {G : Nat → Nat → Option Nat} {F : Nat → Option Nat} {J : Nat → Int32} {b : Nat} {Λ0 : hc_L} {I0 : hc_I} {L0 : hc_J} {R0 : hc_R} {Λ : hc_L} {I : hc_I} {L : hc_J} {R : hc_R}
variable {cx : hc_X} {ac ac' : Nat × Nat} {pc pc' : Nat} {ls : List (Nat × Value)} {st stk : List Value} {Q : hc_Q}
theorem CN_new (g : Gr n T G F J b Λ0 I0 L0 R0 Λ I L R) {t m : Nat} (hn : LW cx ac' pc' ls (.ref Λ.1 :: st) (hc_nw Λ t m) (hc_r I Λ.1 (fun _ => 0)) (hc_r L Λ.1 (fun _ => 0)) (hc_r R Λ.1 (fun _ => none)) Q → LW cx ac pc ls stk Λ I L R Q)
    (kk : ∀ r Λ' I' L' R', r = b + 1 + n → Gr (n + 1) (fun j => if j = n then (t, m) else T j) (fun j => if j = n then (fun _ => none) else G j) F J b Λ0 I0 L0 R0 Λ' I' L' R' → LW cx ac' pc' ls (.ref r :: st) Λ' I' L' R' Q) : LW cx ac pc ls stk Λ I L R Q := hn (kk _ _ _ _ _ g.1 (g.new t m))
theorem CN_mna (g : Gr n T G F J b Λ0 I0 L0 R0 Λ I L R) (hn : LW cx ac' pc' ls (.ref Λ.1 :: st) (hc_mn Λ 6 12) (hc_mz I Λ.1 6 0) (hc_mz L Λ.1 6 0) (hc_mz R Λ.1 6 none) Q → LW cx ac pc ls stk Λ I L R Q)
    (kk : ∀ r Λ' I' L' R', r = b + 1 + n → Gr (n + 7) (fun j => if j = n then (7, 6) else if n < j then (3, 12) else T j) (fun j => if j = n then (fun i => if i < 6 then some (b + 1 + n + 1 + i) else none) else if n < j then (fun _ => none) else G j) F J b Λ0 I0 L0 R0 Λ' I' L' R' → LW cx ac' pc' ls (.ref r :: st) Λ' I' L' R' Q) : LW cx ac pc ls stk Λ I L R Q := hn (kk _ _ _ _ _ g.1 g.mna)
theorem CN_put (g : Gr n T G F J b Λ0 I0 L0 R0 Λ I L R) {j r : Nat} (hn : LW cx ac' pc' ls st (Λ.1, Λ.2.1, hc_u Λ.2.2 b j (some r)) I L R Q → LW cx ac pc ls stk Λ I L R Q)
    (kk : ∀ Λ', Gr n T G (fun i => if i = j then some r else F i) J b Λ0 I0 L0 R0 Λ' I L R → LW cx ac' pc' ls st Λ' I L R Q) : LW cx ac pc ls stk Λ I L R Q := hn (kk _ (g.put j r))
theorem CN_puti (g : Gr n T G F J b Λ0 I0 L0 R0 Λ I L R) {j : Nat} {v : Int32} (hn : LW cx ac' pc' ls st Λ (hc_u I b j v) L R Q → LW cx ac pc ls stk Λ I L R Q)
    (kk : ∀ I', Gr n T G F (fun i => if i = j then v else J i) b Λ0 I0 L0 R0 Λ I' L R → LW cx ac' pc' ls st Λ I' L R Q) : LW cx ac pc ls stk Λ I L R Q := hn (kk _ (g.puti j v))
/-- what a constructor leaves: its cells' shapes and references, what was there ahead of its object -/
def Cs (n : Nat) (tT : List (Nat × Nat)) (tF : List (Nat × Nat × Nat)) (b : Nat) (Λ : hc_L) (I : hc_I) (L : hc_J) (R : hc_R) (Λ' : hc_L) (I' : hc_I) (L' : hc_J) (R' : hc_R) : Prop :=
  (Λ'.1 = b + 1 + n ∧ (∀ z, z ≤ b → Λ'.2.1 z = Λ.2.1 z) ∧ (∀ z, z < b → Λ'.2.2 z = Λ.2.2 z) ∧ ∀ z, z < b → I' z = I z ∧ L' z = L z ∧ R' z = R z) ∧ (∀ j, j < n → tT[j]? = some (Λ'.2.1 (b + 1 + j))) ∧ ∀ q ∈ tF, Λ'.2.2 (b + q.1) q.2.1 = some q.2.2
theorem Gr.c (g : Gr n T G F J b Λ0 I0 L0 R0 Λ I L R) : Λ.1 = b + 1 + n ∧ (∀ z, z ≤ b → Λ.2.1 z = Λ0.2.1 z) ∧ (∀ z, z < b → Λ.2.2 z = Λ0.2.2 z) ∧ ∀ z, z < b → I z = I0 z ∧ L z = L0 z ∧ R z = R0 z := ⟨g.1, g.2.1, g.2.2.1, g.2.2.2.2.2.1⟩
theorem Gr.tl (g : Gr n T G F J b Λ0 I0 L0 R0 Λ I L R) {tT : List (Nat × Nat)} (h : ∀ j, j < n → tT[j]? = some (T j)) : ∀ j, j < n → tT[j]? = some (Λ.2.1 (b + 1 + j)) := fun j hj => by rw [(g.2.2.2.2.1 j hj).1]; exact h j hj
theorem Gr.sh (g : Gr n T G F J b Λ0 I0 L0 R0 Λ I L R) {j : Nat} (h : j < n) : Λ.2.1 (b + 1 + j) = T j := (g.2.2.2.2.1 j h).1
theorem Gr.gf (g : Gr n T G F J b Λ0 I0 L0 R0 Λ I L R) {j : Nat} (h : j < n) (i : Nat) : Λ.2.2 (b + 1 + j) i = G j i := by rw [(g.2.2.2.2.1 j h).2]
end CNA
abbrev tX8 : List (Nat × Nat) := [(1, 700)]
abbrev tX4 : List (Nat × Nat) := [(2, 700), (3, 40)]
abbrev tX0 : List (Nat × Nat) := [(3, 24), (3, 24)]
abbrev tX1 : List (Nat × Nat) := [(3, 11), (7, 6), (3, 12), (3, 12), (3, 12), (3, 12), (3, 12), (3, 12), (0, 12), (0, 12), (3, 12), (3, 12), (3, 12), (3, 12), (3, 12)]
abbrev fX8 (b : Nat) : List (Nat × Nat × Nat) := [(0, 0, b + 1)]
abbrev fX4 (b : Nat) : List (Nat × Nat × Nat) := [(0, 0, b + 1), (0, 1, b + 2)]
abbrev fX0 (b s l : Nat) : List (Nat × Nat × Nat) := [(0, 0, s), (0, 1, l), (0, 2, b + 1), (0, 3, b + 2)]
abbrev fX1 (b s a : Nat) : List (Nat × Nat × Nat) := [(0, 0, s), (0, 1, a), (0, 2, b + 1), (0, 3, b + 2), (0, 4, b + 9), (0, 5, b + 10), (0, 6, b + 11), (0, 7, b + 12), (0, 8, b + 13), (0, 9, b + 14), (0, 10, b + 15), (2, 0, b + 3), (2, 1, b + 4), (2, 2, b + 5), (2, 3, b + 6), (2, 4, b + 7), (2, 5, b + 8)]
set_option maxRecDepth 100000 in
theorem k_X8 {Λ : hc_L} {I : hc_I} {L : hc_J} {R : hc_R} {b : Nat} (hn : Λ.1 = b + 1) (hl : Λ.2.1 b = (108, 0)) (hb : b + 300 < 1000000)  : Run xX8_init [.ref b] Λ I L R (fun r Λ' I' L' R' => r = none ∧ Cs 1 tX8 (fX8 b) b Λ I L R Λ' I' L' R' ∧ I' b = I b) := by
  refine Run.of (by decide +kernel) (Nat.le_of_ble_eq_true rfl) ?_
  show LW _ _ _ [(0, .ref b)] _ _ _ _ _ _
  have g := Gr.s0 (I := I) (L := L) (R := R) hn
  refine LW_aloadn 0 dX8_init_0 rfl rfl ?_
  refine LW_objInit dX8_init_1 mlX8_3 hc_oi hc_oc (by decide) (Nat.le_of_ble_eq_true rfl) ?_
  refine LW_aloadn 0 dX8_init_4 rfl rfl ?_
  refine LW_sipush (v := 700) dX8_init_5 (by decide) ?_
  refine CN_new g (t := 1) (m := 700) (fun k => LW_newb dX8_init_8 hc_acb rfl (by decide) (by rw [g.1]; omega) ⟨Nat.le_of_ble_eq_true rfl, Nat.le_of_ble_eq_true rfl⟩ k) (fun r1 Λ1 I1 L1 R1 hr1 g => ?_)
  subst hr1
  refine CN_put g (j := 0) (r := b + 1 + 0) (fun k => pX8_0 dX8_init_10 flX8_9 (by rw [g.1]; omega) ((g.2.1 _ (Nat.le_refl _)).trans hl) rfl rfl k) (fun Λ1 g => ?_)
  refine LW_vret dX8_init_13 rfl (Nat.le_of_ble_eq_true rfl) (Nat.le_of_ble_eq_true rfl) ?_
  exact ⟨rfl, ⟨g.c, (g.tl (by decide)), List.forall_mem_cons.mpr ⟨(congrFun g.2.2.2.1 0).trans rfl, fun _ h => absurd h List.not_mem_nil⟩⟩, g.2.2.2.2.2.2.1⟩
set_option maxRecDepth 100000 in
theorem k_X4 {Λ : hc_L} {I : hc_I} {L : hc_J} {R : hc_R} {b : Nat} (hn : Λ.1 = b + 1) (hl : Λ.2.1 b = (104, 0)) (hb : b + 300 < 1000000)  : Run xX4_init [.ref b] Λ I L R (fun r Λ' I' L' R' => r = none ∧ Cs 2 tX4 (fX4 b) b Λ I L R Λ' I' L' R' ∧ I' b = I b) := by
  refine Run.of (by decide +kernel) (Nat.le_of_ble_eq_true rfl) ?_
  show LW _ _ _ [(0, .ref b)] _ _ _ _ _ _
  have g := Gr.s0 (I := I) (L := L) (R := R) hn
  refine LW_aloadn 0 dX4_init_0 rfl rfl ?_
  refine LW_objInit dX4_init_1 mlX4_3 hc_oi hc_oc (by decide) (Nat.le_of_ble_eq_true rfl) ?_
  refine LW_aloadn 0 dX4_init_4 rfl rfl ?_
  refine LW_sipush (v := 700) dX4_init_5 (by decide) ?_
  refine CN_new g (t := 2) (m := 700) (fun k => LW_newi dX4_init_8 hc_aci rfl (by decide) (by rw [g.1]; omega) ⟨Nat.le_of_ble_eq_true rfl, Nat.le_of_ble_eq_true rfl⟩ k) (fun r1 Λ1 I1 L1 R1 hr1 g => ?_)
  subst hr1
  refine CN_put g (j := 0) (r := b + 1 + 0) (fun k => pX4_0 dX4_init_10 flX4_9 (by rw [g.1]; omega) ((g.2.1 _ (Nat.le_refl _)).trans hl) rfl rfl k) (fun Λ1 g => ?_)
  refine LW_aloadn 0 dX4_init_13 rfl rfl ?_
  refine LW_bipush (v := 40) dX4_init_14 (by decide) ?_
  refine CN_new g (t := 3) (m := 40) (fun k => LW_newl dX4_init_16 hc_acl rfl (by decide) (by rw [g.1]; omega) ⟨Nat.le_of_ble_eq_true rfl, Nat.le_of_ble_eq_true rfl⟩ k) (fun r1 Λ1 I1 L1 R1 hr1 g => ?_)
  subst hr1
  refine CN_put g (j := 1) (r := b + 1 + 1) (fun k => pX4_1 dX4_init_18 flX4_15 (by rw [g.1]; omega) ((g.2.1 _ (Nat.le_refl _)).trans hl) rfl rfl k) (fun Λ1 g => ?_)
  refine LW_vret dX4_init_21 rfl (Nat.le_of_ble_eq_true rfl) (Nat.le_of_ble_eq_true rfl) ?_
  exact ⟨rfl, ⟨g.c, (g.tl (by decide)), List.forall_mem_cons.mpr ⟨(congrFun g.2.2.2.1 0).trans rfl, List.forall_mem_cons.mpr ⟨(congrFun g.2.2.2.1 1).trans rfl, fun _ h => absurd h List.not_mem_nil⟩⟩⟩, g.2.2.2.2.2.2.1⟩
set_option maxRecDepth 100000 in
theorem k_X0 {Λ : hc_L} {I : hc_I} {L : hc_J} {R : hc_R} {b : Nat} (hn : Λ.1 = b + 1) (hl : Λ.2.1 b = (100, 0)) (hb : b + 300 < 1000000) (s l : Nat) : Run xX0_init [.ref b, .ref s, .ref l] Λ I L R (fun r Λ' I' L' R' => r = none ∧ Cs 2 tX0 (fX0 b s l) b Λ I L R Λ' I' L' R' ∧ I' b = I b) := by
  refine Run.of (by decide +kernel) (Nat.le_of_ble_eq_true rfl) ?_
  show LW _ _ _ [(0, .ref b), (1, .ref s), (2, .ref l)] _ _ _ _ _ _
  have g := Gr.s0 (I := I) (L := L) (R := R) hn
  refine LW_aloadn 0 dX0_init_0 rfl rfl ?_
  refine LW_objInit dX0_init_1 mlX0_3 hc_oi hc_oc (by decide) (Nat.le_of_ble_eq_true rfl) ?_
  refine LW_aloadn 0 dX0_init_4 rfl rfl ?_
  refine LW_bipush (v := 24) dX0_init_5 (by decide) ?_
  refine CN_new g (t := 3) (m := 24) (fun k => LW_newl dX0_init_7 hc_acl rfl (by decide) (by rw [g.1]; omega) ⟨Nat.le_of_ble_eq_true rfl, Nat.le_of_ble_eq_true rfl⟩ k) (fun r1 Λ1 I1 L1 R1 hr1 g => ?_)
  subst hr1
  refine CN_put g (j := 2) (r := b + 1 + 0) (fun k => pX0_2 dX0_init_9 flX0_9 (by rw [g.1]; omega) ((g.2.1 _ (Nat.le_refl _)).trans hl) rfl rfl k) (fun Λ1 g => ?_)
  refine LW_aloadn 0 dX0_init_12 rfl rfl ?_
  refine LW_bipush (v := 24) dX0_init_13 (by decide) ?_
  refine CN_new g (t := 3) (m := 24) (fun k => LW_newl dX0_init_15 hc_acl rfl (by decide) (by rw [g.1]; omega) ⟨Nat.le_of_ble_eq_true rfl, Nat.le_of_ble_eq_true rfl⟩ k) (fun r1 Λ1 I1 L1 R1 hr1 g => ?_)
  subst hr1
  refine CN_put g (j := 3) (r := b + 1 + 1) (fun k => pX0_3 dX0_init_17 flX0_15 (by rw [g.1]; omega) ((g.2.1 _ (Nat.le_refl _)).trans hl) rfl rfl k) (fun Λ1 g => ?_)
  refine LW_aloadn 0 dX0_init_20 rfl rfl ?_
  refine LW_aloadn 1 dX0_init_21 rfl rfl ?_
  refine CN_put g (j := 0) (r := s) (fun k => pX0_0 dX0_init_22 flX0_18 (by rw [g.1]; omega) ((g.2.1 _ (Nat.le_refl _)).trans hl) rfl rfl k) (fun Λ1 g => ?_)
  refine LW_aloadn 0 dX0_init_25 rfl rfl ?_
  refine LW_aloadn 2 dX0_init_26 rfl rfl ?_
  refine CN_put g (j := 1) (r := l) (fun k => pX0_1 dX0_init_27 flX0_22 (by rw [g.1]; omega) ((g.2.1 _ (Nat.le_refl _)).trans hl) rfl rfl k) (fun Λ1 g => ?_)
  refine LW_vret dX0_init_30 rfl (Nat.le_of_ble_eq_true rfl) (Nat.le_of_ble_eq_true rfl) ?_
  exact ⟨rfl, ⟨g.c, (g.tl (by decide)), List.forall_mem_cons.mpr ⟨(congrFun g.2.2.2.1 0).trans rfl, List.forall_mem_cons.mpr ⟨(congrFun g.2.2.2.1 1).trans rfl, List.forall_mem_cons.mpr ⟨(congrFun g.2.2.2.1 2).trans rfl, List.forall_mem_cons.mpr ⟨(congrFun g.2.2.2.1 3).trans rfl, fun _ h => absurd h List.not_mem_nil⟩⟩⟩⟩⟩, g.2.2.2.2.2.2.1⟩
set_option maxRecDepth 100000 in
theorem k_X1 {Λ : hc_L} {I : hc_I} {L : hc_J} {R : hc_R} {b : Nat} (hn : Λ.1 = b + 1) (hl : Λ.2.1 b = (101, 0)) (hb : b + 300 < 1000000) (s a : Nat) : Run xX1_init [.ref b, .ref s, .ref a] Λ I L R (fun r Λ' I' L' R' => r = none ∧ Cs 15 tX1 (fX1 b s a) b Λ I L R Λ' I' L' R' ∧ I' b = I b) := by
  refine Run.of (by decide +kernel) (Nat.le_of_ble_eq_true rfl) ?_
  show LW _ _ _ [(0, .ref b), (1, .ref s), (2, .ref a)] _ _ _ _ _ _
  have g := Gr.s0 (I := I) (L := L) (R := R) hn
  refine LW_aloadn 0 dX1_init_0 rfl rfl ?_
  refine LW_objInit dX1_init_1 mlX1_3 hc_oi hc_oc (by decide) (Nat.le_of_ble_eq_true rfl) ?_
  refine LW_aloadn 0 dX1_init_4 rfl rfl ?_
  refine LW_bipush (v := 11) dX1_init_5 (by decide) ?_
  refine CN_new g (t := 3) (m := 11) (fun k => LW_newl dX1_init_7 hc_acl rfl (by decide) (by rw [g.1]; omega) ⟨Nat.le_of_ble_eq_true rfl, Nat.le_of_ble_eq_true rfl⟩ k) (fun r1 Λ1 I1 L1 R1 hr1 g => ?_)
  subst hr1
  refine CN_put g (j := 2) (r := b + 1 + 0) (fun k => pX1_2 dX1_init_9 flX1_9 (by rw [g.1]; omega) ((g.2.1 _ (Nat.le_refl _)).trans hl) rfl rfl k) (fun Λ1 g => ?_)
  refine LW_aloadn 0 dX1_init_12 rfl rfl ?_
  refine LW_bipush (v := 6) dX1_init_13 (by decide) ?_
  refine LW_bipush (v := 12) dX1_init_15 (by decide) ?_
  refine CN_mna g (fun k => LW_mna (n := 6) (k := 12) dX1_init_17 clX1_15 hc_acl rfl rfl (by decide) (by decide) (by rw [g.1]; omega) ⟨Nat.le_of_ble_eq_true rfl, Nat.le_of_ble_eq_true rfl⟩ k) (fun r1 Λ1 I1 L1 R1 hr1 g => ?_)
  subst hr1
  refine CN_put g (j := 3) (r := b + 1 + 1) (fun k => pX1_3 dX1_init_21 flX1_17 (by rw [g.1]; omega) ((g.2.1 _ (Nat.le_refl _)).trans hl) rfl rfl k) (fun Λ1 g => ?_)
  refine LW_aloadn 0 dX1_init_24 rfl rfl ?_
  refine LW_bipush (v := 12) dX1_init_25 (by decide) ?_
  refine CN_new g (t := 0) (m := 12) (fun k => LW_newz dX1_init_27 hc_acz rfl (by decide) (by rw [g.1]; omega) ⟨Nat.le_of_ble_eq_true rfl, Nat.le_of_ble_eq_true rfl⟩ k) (fun r1 Λ1 I1 L1 R1 hr1 g => ?_)
  subst hr1
  refine CN_put g (j := 4) (r := b + 1 + 8) (fun k => pX1_4 dX1_init_29 flX1_20 (by rw [g.1]; omega) ((g.2.1 _ (Nat.le_refl _)).trans hl) rfl rfl k) (fun Λ1 g => ?_)
  refine LW_aloadn 0 dX1_init_32 rfl rfl ?_
  refine LW_bipush (v := 12) dX1_init_33 (by decide) ?_
  refine CN_new g (t := 0) (m := 12) (fun k => LW_newz dX1_init_35 hc_acz rfl (by decide) (by rw [g.1]; omega) ⟨Nat.le_of_ble_eq_true rfl, Nat.le_of_ble_eq_true rfl⟩ k) (fun r1 Λ1 I1 L1 R1 hr1 g => ?_)
  subst hr1
  refine CN_put g (j := 5) (r := b + 1 + 9) (fun k => pX1_5 dX1_init_37 flX1_24 (by rw [g.1]; omega) ((g.2.1 _ (Nat.le_refl _)).trans hl) rfl rfl k) (fun Λ1 g => ?_)
  refine LW_aloadn 0 dX1_init_40 rfl rfl ?_
  refine LW_bipush (v := 12) dX1_init_41 (by decide) ?_
  refine CN_new g (t := 3) (m := 12) (fun k => LW_newl dX1_init_43 hc_acl rfl (by decide) (by rw [g.1]; omega) ⟨Nat.le_of_ble_eq_true rfl, Nat.le_of_ble_eq_true rfl⟩ k) (fun r1 Λ1 I1 L1 R1 hr1 g => ?_)
  subst hr1
  refine CN_put g (j := 6) (r := b + 1 + 10) (fun k => pX1_6 dX1_init_45 flX1_27 (by rw [g.1]; omega) ((g.2.1 _ (Nat.le_refl _)).trans hl) rfl rfl k) (fun Λ1 g => ?_)
  refine LW_aloadn 0 dX1_init_48 rfl rfl ?_
  refine LW_bipush (v := 12) dX1_init_49 (by decide) ?_
  refine CN_new g (t := 3) (m := 12) (fun k => LW_newl dX1_init_51 hc_acl rfl (by decide) (by rw [g.1]; omega) ⟨Nat.le_of_ble_eq_true rfl, Nat.le_of_ble_eq_true rfl⟩ k) (fun r1 Λ1 I1 L1 R1 hr1 g => ?_)
  subst hr1
  refine CN_put g (j := 7) (r := b + 1 + 11) (fun k => pX1_7 dX1_init_53 flX1_30 (by rw [g.1]; omega) ((g.2.1 _ (Nat.le_refl _)).trans hl) rfl rfl k) (fun Λ1 g => ?_)
  refine LW_aloadn 0 dX1_init_56 rfl rfl ?_
  refine LW_bipush (v := 12) dX1_init_57 (by decide) ?_
  refine CN_new g (t := 3) (m := 12) (fun k => LW_newl dX1_init_59 hc_acl rfl (by decide) (by rw [g.1]; omega) ⟨Nat.le_of_ble_eq_true rfl, Nat.le_of_ble_eq_true rfl⟩ k) (fun r1 Λ1 I1 L1 R1 hr1 g => ?_)
  subst hr1
  refine CN_put g (j := 8) (r := b + 1 + 12) (fun k => pX1_8 dX1_init_61 flX1_33 (by rw [g.1]; omega) ((g.2.1 _ (Nat.le_refl _)).trans hl) rfl rfl k) (fun Λ1 g => ?_)
  refine LW_aloadn 0 dX1_init_64 rfl rfl ?_
  refine LW_bipush (v := 12) dX1_init_65 (by decide) ?_
  refine CN_new g (t := 3) (m := 12) (fun k => LW_newl dX1_init_67 hc_acl rfl (by decide) (by rw [g.1]; omega) ⟨Nat.le_of_ble_eq_true rfl, Nat.le_of_ble_eq_true rfl⟩ k) (fun r1 Λ1 I1 L1 R1 hr1 g => ?_)
  subst hr1
  refine CN_put g (j := 9) (r := b + 1 + 13) (fun k => pX1_9 dX1_init_69 flX1_36 (by rw [g.1]; omega) ((g.2.1 _ (Nat.le_refl _)).trans hl) rfl rfl k) (fun Λ1 g => ?_)
  refine LW_aloadn 0 dX1_init_72 rfl rfl ?_
  refine LW_bipush (v := 12) dX1_init_73 (by decide) ?_
  refine CN_new g (t := 3) (m := 12) (fun k => LW_newl dX1_init_75 hc_acl rfl (by decide) (by rw [g.1]; omega) ⟨Nat.le_of_ble_eq_true rfl, Nat.le_of_ble_eq_true rfl⟩ k) (fun r1 Λ1 I1 L1 R1 hr1 g => ?_)
  subst hr1
  refine CN_put g (j := 10) (r := b + 1 + 14) (fun k => pX1_10 dX1_init_77 flX1_39 (by rw [g.1]; omega) ((g.2.1 _ (Nat.le_refl _)).trans hl) rfl rfl k) (fun Λ1 g => ?_)
  refine LW_aloadn 0 dX1_init_80 rfl rfl ?_
  refine LW_aloadn 1 dX1_init_81 rfl rfl ?_
  refine CN_put g (j := 0) (r := s) (fun k => pX1_0 dX1_init_82 flX1_42 (by rw [g.1]; omega) ((g.2.1 _ (Nat.le_refl _)).trans hl) rfl rfl k) (fun Λ1 g => ?_)
  refine LW_aloadn 0 dX1_init_85 rfl rfl ?_
  refine LW_aloadn 2 dX1_init_86 rfl rfl ?_
  refine CN_put g (j := 1) (r := a) (fun k => pX1_1 dX1_init_87 flX1_46 (by rw [g.1]; omega) ((g.2.1 _ (Nat.le_refl _)).trans hl) rfl rfl k) (fun Λ1 g => ?_)
  refine LW_vret dX1_init_90 rfl (Nat.le_of_ble_eq_true rfl) (Nat.le_of_ble_eq_true rfl) ?_
  exact ⟨rfl, ⟨g.c, (g.tl (by decide)), List.forall_mem_cons.mpr ⟨(congrFun g.2.2.2.1 0).trans rfl, List.forall_mem_cons.mpr ⟨(congrFun g.2.2.2.1 1).trans rfl, List.forall_mem_cons.mpr ⟨(congrFun g.2.2.2.1 2).trans rfl, List.forall_mem_cons.mpr ⟨(congrFun g.2.2.2.1 3).trans rfl, List.forall_mem_cons.mpr ⟨(congrFun g.2.2.2.1 4).trans rfl, List.forall_mem_cons.mpr ⟨(congrFun g.2.2.2.1 5).trans rfl, List.forall_mem_cons.mpr ⟨(congrFun g.2.2.2.1 6).trans rfl, List.forall_mem_cons.mpr ⟨(congrFun g.2.2.2.1 7).trans rfl, List.forall_mem_cons.mpr ⟨(congrFun g.2.2.2.1 8).trans rfl, List.forall_mem_cons.mpr ⟨(congrFun g.2.2.2.1 9).trans rfl, List.forall_mem_cons.mpr ⟨(congrFun g.2.2.2.1 10).trans rfl, List.forall_mem_cons.mpr ⟨(g.gf (j := 1) (by decide) 0).trans rfl, List.forall_mem_cons.mpr ⟨(g.gf (j := 1) (by decide) 1).trans rfl, List.forall_mem_cons.mpr ⟨(g.gf (j := 1) (by decide) 2).trans rfl, List.forall_mem_cons.mpr ⟨(g.gf (j := 1) (by decide) 3).trans rfl, List.forall_mem_cons.mpr ⟨(g.gf (j := 1) (by decide) 4).trans rfl, List.forall_mem_cons.mpr ⟨(g.gf (j := 1) (by decide) 5).trans rfl, fun _ h => absurd h List.not_mem_nil⟩⟩⟩⟩⟩⟩⟩⟩⟩⟩⟩⟩⟩⟩⟩⟩⟩⟩, g.2.2.2.2.2.2.1⟩
