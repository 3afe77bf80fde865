/-! State: what is written of it -/
/-- an end by frames and facts: the rows of JI, JL, JR alone may have changed -/
def Qf (JI JL JR : Nat → Prop) (v : Option Value) (F : hc_I → hc_J → hc_R → Prop) (Λ : hc_L) (I : hc_I) (L : hc_J) (R : hc_R) : hc_Q := fun r Λ' I' L' R' => r = v ∧ Λ = Λ' ∧ (∀ z, ¬ JI z → I' z = I z) ∧ (∀ z, ¬ JL z → L' z = L z) ∧ (∀ z, ¬ JR z → R' z = R z) ∧ F I' L' R'
theorem narb (b : Bool) : vp_nar .boolean (hc_b b) = hc_b b := by cases b <;> rfl
set_option maxRecDepth 100000 in
theorem r_copyEndRows {Λ : hc_L} {I : hc_I} {L : hc_J} {R : hc_R} {s : Nat} (hS : StL Λ s) {q b : Nat} (hq1 : q < Λ.1) (hq2 : Λ.2.1 q = (7, 6)) (hqF : ∀ w, w < 6 → Λ.2.2 q w = some (b + w)) (hb1 : ∀ w, w < 6 → b + w < Λ.1) (hb2 : ∀ w, w < 6 → Λ.2.1 (b + w) = (3, 12)) (hap : ∀ w, w < 6 → ¬ (s + 12 ≤ b + w ∧ b + w < s + 18)) : Run xX6_copyEndRows [.ref s, .ref q] Λ I L R (Qf (fun _ => False) (fun z => s + 12 ≤ z ∧ z < s + 18) (fun _ => False) none (fun _ L' _ => ∀ w, w < 6 → L' (s + 12 + w) = L (b + w)) Λ I L R) := by
  refine Run.of (by decide +kernel) (Nat.le_of_ble_eq_true rfl) ?_
  show LW _ _ _ [(0, .ref s), (1, .ref q)] _ _ _ _ _ _
  refine LW_iconst (v := 0) dX6_copyEndRows_0 (by decide) ?_
  refine LW_istoren (ls' := [(0, .ref s), (1, .ref q), (2, .int 0)]) dX6_copyEndRows_1 rfl (by decide) rfl ?_
  have loop : ∀ i, i ≤ 6 → ∀ L1 : hc_J, (∀ z, ¬ (s + 12 ≤ z ∧ z < s + 18) → L1 z = L z) → (∀ w, w < i → L1 (s + 12 + w) = L (b + w)) → LW xX6_copyEndRows (0, 0) 2 [(0, .ref s), (1, .ref q), (2, .int (nI i))] [] Λ I L1 R (Qf (fun _ => False) (fun z => s + 12 ≤ z ∧ z < s + 18) (fun _ => False) none (fun _ L' _ => ∀ w, w < 6 → L' (s + 12 + w) = L (b + w)) Λ I L R) := by
    refine hc_down ?_ ?_
    · intro L1 hL1 hw1
      refine LW_iloadn 2 dX6_copyEndRows_2 rfl rfl ?_
      refine LW_bipush (v := 6) dX6_copyEndRows_3 (by decide) ?_
      refine LW_icmp_ge (tgt := 30) dX6_copyEndRows_5 (by decide) (fun c5 => ?_) (fun c5 => absurd (Int32.le_refl _) c5)
      refine LW_vret dX6_copyEndRows_30 rfl (Nat.le_of_ble_eq_true rfl) (Nat.le_of_ble_eq_true rfl) ?_
      exact ⟨rfl, rfl, fun _ _ => rfl, hL1, fun _ _ => rfl, hw1⟩
    · intro i hi0 ih L1 hL1 hw1
      refine LW_iloadn 2 dX6_copyEndRows_2 rfl rfl ?_
      refine LW_bipush (v := 6) dX6_copyEndRows_3 (by decide) ?_
      refine LW_icmp_ge (tgt := 30) dX6_copyEndRows_5 (by decide) (fun c5 => absurd c5 (hc_nle (a := 6) (by omega) (by omega) hi0)) (fun c5 => ?_)
      refine LW_aloadn 1 dX6_copyEndRows_8 rfl rfl ?_
      refine LW_iloadn 2 dX6_copyEndRows_9 rfl rfl ?_
      refine LW_aald7 (r := b + i) dX6_copyEndRows_10 hq1 hq2 rfl (by omega) (Nat.le_of_ble_eq_true rfl) (hqF i (by omega)) ?_
      refine LW_iconst (v := 0) dX6_copyEndRows_11 (by decide) ?_
      refine LW_aloadn 0 dX6_copyEndRows_12 rfl rfl ?_
      refine gX6_10 dX6_copyEndRows_13 flX6_52 hS.lt0 hS.2.1 (hS.f 10 (by decide)) ?_
      refine LW_iloadn 2 dX6_copyEndRows_16 rfl rfl ?_
      refine LW_aald7 (r := s + 12 + i) dX6_copyEndRows_17 (hS.lt 11 (by decide)) hS.2.2.2.2.2.2.2.2.2.2.2.2.1 rfl (by omega) (Nat.le_of_ble_eq_true rfl) (hS.f2 i (by omega)) ?_
      refine LW_iconst (v := 0) dX6_copyEndRows_18 (by decide) ?_
      refine LW_bipush (v := 12) dX6_copyEndRows_19 (by decide) ?_
      refine LW_copyl (N := 12) dX6_copyEndRows_21 mlX6_79 (hb1 i (by omega)) (hb2 i (by omega)) (show s + 12 + i < Λ.1 from Nat.lt_of_lt_of_le (by omega) hS.1) (hS.l12 i (by omega)) rfl (Nat.le_of_ble_eq_true rfl) (by decide) (Nat.le_of_ble_eq_true rfl) ?_
      generalize hL21 : hc_r L1 (s + 12 + i) (L1 (b + i)) = L21
      refine LW_iinc (n := 2) (v := nI (i + 1)) (ls' := [(0, .ref s), (1, .ref q), (2, .int (nI (i + 1)))]) dX6_copyEndRows_24 rfl (hc_inc _) (by decide) rfl ?_
      refine LW_goto (tgt := 2) dX6_copyEndRows_27 (by decide) ?_
      exact ih _ (fun z hz => by rw [← hL21, hc_r_ne _ _ _ (by omega)]; exact hL1 z hz) (fun w hw => by
        rw [← hL21]
        by_cases c : w = i
        · rw [c, hc_r_eq, hL1 _ (hap i hi0)]
        · rw [hc_r_ne _ _ _ (by omega)]
          exact hw1 w (by omega))
  exact loop 0 (Nat.zero_le _) L (fun _ _ => rfl) (fun w hw => absurd hw (Nat.not_lt_zero _))
set_option maxRecDepth 100000 in
theorem r_addField {Λ : hc_L} {I : hc_I} {L : hc_J} {R : hc_R} {s : Nat} (hS : StL Λ s) {q n : Nat} (hq1 : q < Λ.1) (hq2 : Λ.2.1 q = (102, 0)) (hn : I s 12 = nI n) (hlt : n < 24) : Run xX6_addField [.ref s, .ref q] Λ I L R (Qf (fun z => z = s) (fun _ => False) (fun z => z = s + 8) none (fun I' _ R' => (∀ j, I' s j = if j = 12 then nI (n + 1) else I s j) ∧ ∀ j, R' (s + 8) j = if j = n then some q else R (s + 8) j) Λ I L R) := by
  refine Run.of (by decide +kernel) (Nat.le_of_ble_eq_true rfl) ?_
  show LW _ _ _ [(0, .ref s), (1, .ref q)] _ _ _ _ _ _
  refine LW_aloadn 0 dX6_addField_0 rfl rfl ?_
  refine gX6_12 dX6_addField_1 flX6_70 hS.lt0 hS.2.1 ?_
  rw [show I s 12 = nI n from hn]
  refine LW_bipush (v := 24) dX6_addField_4 (by decide) ?_
  refine LW_icmp_ge (tgt := 29) dX6_addField_6 (by decide) (fun c6 => absurd c6 (hc_nle (a := 24) (by omega) (by omega) hlt)) (fun c6 => ?_)
  refine LW_aloadn 0 dX6_addField_9 rfl rfl ?_
  refine gX6_7 dX6_addField_10 flX6_37 hS.lt0 hS.2.1 (hS.f 7 (by decide)) ?_
  refine LW_aloadn 0 dX6_addField_13 rfl rfl ?_
  refine gX6_12 dX6_addField_14 flX6_70 hS.lt0 hS.2.1 ?_
  rw [show I s 12 = nI n from hn]
  refine LW_aloadn 1 dX6_addField_17 rfl rfl ?_
  refine LW_aast4 dX6_addField_18 (hS.lt 8 (by decide)) hS.2.2.2.2.2.2.2.2.2.1 rfl hlt (Nat.le_of_ble_eq_true rfl) hq1 hq2 ?_
  generalize hR18 : hc_u R (s + 8) n (some q) = R18
  refine LW_aloadn 0 dX6_addField_19 rfl rfl ?_
  refine LW_dup dX6_addField_20 rfl ?_
  refine gX6_12 dX6_addField_21 flX6_70 hS.lt0 hS.2.1 ?_
  rw [show I s 12 = nI n from hn]
  refine LW_iconst (v := 1) dX6_addField_24 (by decide) ?_
  refine LW_iadd dX6_addField_25 ?_
  rw [show ((nI n) + 1) = nI (n + 1) from (nI_1 n)]
  refine pX6_12 dX6_addField_26 flX6_70 hS.lt0 hS.2.1 ?_
  generalize hI26 : hc_u I s 12 (nI (n + 1)) = I26
  refine LW_vret dX6_addField_29 rfl (Nat.le_of_ble_eq_true rfl) (Nat.le_of_ble_eq_true rfl) ?_
  refine ⟨rfl, rfl, fun z hz => ?_, fun _ _ => rfl, fun z hz => ?_, fun j => ?_, fun j => ?_⟩
  · rw [← hI26, hc_u_row _ _ _ _ hz]
  · rw [← hR18, hc_u_row _ _ _ _ hz]
  · rw [← hI26, hc_u_at]
  · rw [← hR18, hc_u_at]
set_option maxRecDepth 100000 in
theorem r_addStorm {Λ : hc_L} {I : hc_I} {L : hc_J} {R : hc_R} {s : Nat} (hS : StL Λ s) {q n : Nat} (hq1 : q < Λ.1) (hq2 : Λ.2.1 q = (107, 0)) (hn : I s 13 = nI n) (hlt : n < 16) : Run xX6_addStorm [.ref s, .ref q] Λ I L R (Qf (fun z => z = s) (fun _ => False) (fun z => z = s + 9) none (fun I' _ R' => (∀ j, I' s j = if j = 13 then nI (n + 1) else I s j) ∧ ∀ j, R' (s + 9) j = if j = n then some q else R (s + 9) j) Λ I L R) := by
  refine Run.of (by decide +kernel) (Nat.le_of_ble_eq_true rfl) ?_
  show LW _ _ _ [(0, .ref s), (1, .ref q)] _ _ _ _ _ _
  refine LW_aloadn 0 dX6_addStorm_0 rfl rfl ?_
  refine gX6_13 dX6_addStorm_1 flX6_73 hS.lt0 hS.2.1 ?_
  rw [show I s 13 = nI n from hn]
  refine LW_bipush (v := 16) dX6_addStorm_4 (by decide) ?_
  refine LW_icmp_ge (tgt := 29) dX6_addStorm_6 (by decide) (fun c6 => absurd c6 (hc_nle (a := 16) (by omega) (by omega) hlt)) (fun c6 => ?_)
  refine LW_aloadn 0 dX6_addStorm_9 rfl rfl ?_
  refine gX6_8 dX6_addStorm_10 flX6_43 hS.lt0 hS.2.1 (hS.f 8 (by decide)) ?_
  refine LW_aloadn 0 dX6_addStorm_13 rfl rfl ?_
  refine gX6_13 dX6_addStorm_14 flX6_73 hS.lt0 hS.2.1 ?_
  rw [show I s 13 = nI n from hn]
  refine LW_aloadn 1 dX6_addStorm_17 rfl rfl ?_
  refine LW_aast5 dX6_addStorm_18 (hS.lt 9 (by decide)) hS.2.2.2.2.2.2.2.2.2.2.1 rfl hlt (Nat.le_of_ble_eq_true rfl) hq1 hq2 ?_
  generalize hR18 : hc_u R (s + 9) n (some q) = R18
  refine LW_aloadn 0 dX6_addStorm_19 rfl rfl ?_
  refine LW_dup dX6_addStorm_20 rfl ?_
  refine gX6_13 dX6_addStorm_21 flX6_73 hS.lt0 hS.2.1 ?_
  rw [show I s 13 = nI n from hn]
  refine LW_iconst (v := 1) dX6_addStorm_24 (by decide) ?_
  refine LW_iadd dX6_addStorm_25 ?_
  rw [show ((nI n) + 1) = nI (n + 1) from (nI_1 n)]
  refine pX6_13 dX6_addStorm_26 flX6_73 hS.lt0 hS.2.1 ?_
  generalize hI26 : hc_u I s 13 (nI (n + 1)) = I26
  refine LW_vret dX6_addStorm_29 rfl (Nat.le_of_ble_eq_true rfl) (Nat.le_of_ble_eq_true rfl) ?_
  refine ⟨rfl, rfl, fun z hz => ?_, fun _ _ => rfl, fun z hz => ?_, fun j => ?_, fun j => ?_⟩
  · rw [← hI26, hc_u_row _ _ _ _ hz]
  · rw [← hR18, hc_u_row _ _ _ _ hz]
  · rw [← hI26, hc_u_at]
  · rw [← hR18, hc_u_at]
set_option maxRecDepth 100000 in
theorem r_addMember {Λ : hc_L} {I : hc_I} {L : hc_J} {R : hc_R} {s : Nat} (hS : StL Λ s) {n : Nat} {w : Int64} (hn : I s 11 = nI n) (hlt : n < 12) : Run xX6_addMember [.ref s, .long w] Λ I L R (Qf (fun z => z = s ∨ z = s + 5) (fun z => z = s + 4) (fun _ => False) none (fun I' L' _ => (∀ j, I' s j = if j = 11 then nI (n + 1) else I s j) ∧ (∀ j, L' (s + 4) j = if j = n then w else L (s + 4) j) ∧ (∀ j, I' (s + 5) j = if j = n then 1 else I (s + 5) j)) Λ I L R) := by
  refine Run.of (by decide +kernel) (Nat.le_of_ble_eq_true rfl) ?_
  show LW _ _ _ [(0, .ref s), (1, .long w)] _ _ _ _ _ _
  refine LW_aloadn 0 dX6_addMember_0 rfl rfl ?_
  refine gX6_11 dX6_addMember_1 flX6_66 hS.lt0 hS.2.1 ?_
  rw [show I s 11 = nI n from hn]
  refine LW_bipush (v := 12) dX6_addMember_4 (by decide) ?_
  refine LW_icmp_ge (tgt := 39) dX6_addMember_6 (by decide) (fun c6 => absurd c6 (hc_nle (a := 12) (by omega) (by omega) hlt)) (fun c6 => ?_)
  refine LW_aloadn 0 dX6_addMember_9 rfl rfl ?_
  refine gX6_3 dX6_addMember_10 flX6_22 hS.lt0 hS.2.1 (hS.f 3 (by decide)) ?_
  refine LW_aloadn 0 dX6_addMember_13 rfl rfl ?_
  refine gX6_11 dX6_addMember_14 flX6_66 hS.lt0 hS.2.1 ?_
  rw [show I s 11 = nI n from hn]
  refine LW_lloadn 1 dX6_addMember_17 rfl rfl ?_
  refine LW_last dX6_addMember_18 (hS.lt 4 (by decide)) hS.2.2.2.2.2.1 rfl hlt (Nat.le_of_ble_eq_true rfl) ?_
  generalize hL18 : hc_u L (s + 4) n w = L18
  refine LW_aloadn 0 dX6_addMember_19 rfl rfl ?_
  refine gX6_4 dX6_addMember_20 flX6_25 hS.lt0 hS.2.1 (hS.f 4 (by decide)) ?_
  refine LW_aloadn 0 dX6_addMember_23 rfl rfl ?_
  refine gX6_11 dX6_addMember_24 flX6_66 hS.lt0 hS.2.1 ?_
  rw [show I s 11 = nI n from hn]
  refine LW_iconst (v := 1) dX6_addMember_27 (by decide) ?_
  refine LW_zast dX6_addMember_28 (hS.lt 5 (by decide)) hS.2.2.2.2.2.2.1 rfl hlt (Nat.le_of_ble_eq_true rfl) ?_
  generalize hI28 : hc_u I (s + 5) n (vp_nar .boolean 1) = I28
  refine LW_aloadn 0 dX6_addMember_29 rfl rfl ?_
  refine LW_dup dX6_addMember_30 rfl ?_
  refine gX6_11 dX6_addMember_31 flX6_66 hS.lt0 hS.2.1 ?_
  rw [show I28 s 11 = nI n from (by rw [← hI28, hc_u_row _ _ _ _ (by omega), hn])]
  refine LW_iconst (v := 1) dX6_addMember_34 (by decide) ?_
  refine LW_iadd dX6_addMember_35 ?_
  rw [show ((nI n) + 1) = nI (n + 1) from (nI_1 n)]
  refine pX6_11 dX6_addMember_36 flX6_66 hS.lt0 hS.2.1 ?_
  generalize hI36 : hc_u I28 s 11 (nI (n + 1)) = I36
  refine LW_vret dX6_addMember_39 rfl (Nat.le_of_ble_eq_true rfl) (Nat.le_of_ble_eq_true rfl) ?_
  refine ⟨rfl, rfl, fun z hz => ?_, fun z hz => ?_, fun _ _ => rfl, fun j => ?_, fun j => ?_, fun j => ?_⟩
  · rw [← hI36, hc_u_row _ _ _ _ (by omega), ← hI28, hc_u_row _ _ _ _ (by omega)]
  · rw [← hL18, hc_u_row _ _ _ _ hz]
  · rw [← hI36, hc_u_at, ← hI28, hc_u_row _ _ _ _ (by omega)]
  · rw [← hL18, hc_u_at]
  · rw [← hI36, hc_u_row _ _ _ _ (by omega), ← hI28, hc_u_at]
    rfl
