/-! State: laid anew, the year's end, hazards, softness -/
/-- the rules of a new club -/
def nwRu : Nat → Int64
  | 0 => 10
  | 1 => 0
  | 2 => 9999999
  | 3 => 0
  | 4 => 100
  | 5 => 4
  | _ => 10
def aNew (er : Nat → Nat → Int64) : AS := (0, 0, 0, 0, nwRu, (fun _ => 1), (fun _ => 100), (fun _ => 0), (fun _ => false), (fun _ => false), (fun _ => 0), (fun _ _ => 0), (fun _ _ => 0), (fun _ => false), er)
theorem wf_new (er : Nat → Nat → Int64) : wf (aNew er) := ⟨Nat.zero_le _, Nat.zero_le _, Nat.zero_le _, Nat.zero_le _, fun c _ => ⟨by show 1 ≤ 1; decide, by show 1 ≤ 9; decide⟩, fun c _ => by show 100 ≤ 200; decide, fun m h => absurd h (Nat.not_lt_zero _), fun m h => absurd h (Nat.not_lt_zero _), fun m h => absurd h (Nat.not_lt_zero _)⟩
set_option maxRecDepth 100000 in
theorem r_clear {Λ : hc_L} {I : hc_I} {L : hc_J} {R : hc_R} {s : Nat} (hS : StL Λ s) (hE : StE Λ R s) : Run xX6_clear [.ref s] Λ I L R (Qf (fun z => s ≤ z ∧ z < s + 18) (fun z => z = s + 1) (fun _ => False) none (fun I' L' R' => St Λ I' L' R' s (aNew (fun w m => L (s + 12 + w) m))) Λ I L R) := by
  refine Run.of (by decide +kernel) (Nat.le_of_ble_eq_true rfl) ?_
  show LW _ _ _ [(0, .ref s)] _ _ _ _ _ _
  have tail : ∀ (I1 : hc_I), (∀ z, ¬ (s ≤ z ∧ z < s + 18) → I1 z = I z) → (∀ c, c < 64 → I1 (s + 2) c = 1) → (∀ c, c < 4 → I1 (s + 3) c = 100) → (∀ c, c < 12 → I1 (s + 6) c = 0) → (∀ c, c < 12 → I1 (s + 7) c = 0) → (∀ c, c < 12 → I1 (s + 10) c = 0) → LW xX6_clear (0, 0) 84 [(0, .ref s), (1, .int (nI 12))] [] Λ I1 L R (Qf (fun z => s ≤ z ∧ z < s + 18) (fun z => z = s + 1) (fun _ => False) none (fun I' L' R' => St Λ I' L' R' s (aNew (fun w m => L (s + 12 + w) m))) Λ I L R) := by
    intro I1 hI k2 k3 k6 k7 k10
    refine LW_aloadn 0 dX6_clear_84 rfl rfl ?_
    refine gX6_0 dX6_clear_85 flX6_9 hS.lt0 hS.2.1 (hS.f 0 (by decide)) ?_
    refine LW_iconst (v := 0) dX6_clear_88 (by decide) ?_
    refine LW_ldc2 dX6_clear_89 klX6_58 ?_
    refine LW_last dX6_clear_92 (hS.lt 1 (by decide)) hS.2.2.1 rfl (by decide) (Nat.le_of_ble_eq_true rfl) ?_
    generalize hL92 : hc_u L (s + 1) 0 10 = L92
    refine LW_aloadn 0 dX6_clear_93 rfl rfl ?_
    refine gX6_0 dX6_clear_94 flX6_9 hS.lt0 hS.2.1 (hS.f 0 (by decide)) ?_
    refine LW_iconst (v := 1) dX6_clear_97 (by decide) ?_
    refine LW_lconst (v := 0) dX6_clear_98 (by decide) ?_
    refine LW_last dX6_clear_99 (hS.lt 1 (by decide)) hS.2.2.1 rfl (by decide) (Nat.le_of_ble_eq_true rfl) ?_
    generalize hL99 : hc_u L92 (s + 1) 1 0 = L99
    refine LW_aloadn 0 dX6_clear_100 rfl rfl ?_
    refine gX6_0 dX6_clear_101 flX6_9 hS.lt0 hS.2.1 (hS.f 0 (by decide)) ?_
    refine LW_iconst (v := 2) dX6_clear_104 (by decide) ?_
    refine LW_ldc2 dX6_clear_105 klX6_60 ?_
    refine LW_last dX6_clear_108 (hS.lt 1 (by decide)) hS.2.2.1 rfl (by decide) (Nat.le_of_ble_eq_true rfl) ?_
    generalize hL108 : hc_u L99 (s + 1) 2 9999999 = L108
    refine LW_aloadn 0 dX6_clear_109 rfl rfl ?_
    refine gX6_0 dX6_clear_110 flX6_9 hS.lt0 hS.2.1 (hS.f 0 (by decide)) ?_
    refine LW_iconst (v := 3) dX6_clear_113 (by decide) ?_
    refine LW_lconst (v := 0) dX6_clear_114 (by decide) ?_
    refine LW_last dX6_clear_115 (hS.lt 1 (by decide)) hS.2.2.1 rfl (by decide) (Nat.le_of_ble_eq_true rfl) ?_
    generalize hL115 : hc_u L108 (s + 1) 3 0 = L115
    refine LW_aloadn 0 dX6_clear_116 rfl rfl ?_
    refine gX6_0 dX6_clear_117 flX6_9 hS.lt0 hS.2.1 (hS.f 0 (by decide)) ?_
    refine LW_iconst (v := 4) dX6_clear_120 (by decide) ?_
    refine LW_ldc2 dX6_clear_121 klX6_62 ?_
    refine LW_last dX6_clear_124 (hS.lt 1 (by decide)) hS.2.2.1 rfl (by decide) (Nat.le_of_ble_eq_true rfl) ?_
    generalize hL124 : hc_u L115 (s + 1) 4 100 = L124
    refine LW_aloadn 0 dX6_clear_125 rfl rfl ?_
    refine gX6_0 dX6_clear_126 flX6_9 hS.lt0 hS.2.1 (hS.f 0 (by decide)) ?_
    refine LW_iconst (v := 5) dX6_clear_129 (by decide) ?_
    refine LW_ldc2 dX6_clear_130 klX6_64 ?_
    refine LW_last dX6_clear_133 (hS.lt 1 (by decide)) hS.2.2.1 rfl (by decide) (Nat.le_of_ble_eq_true rfl) ?_
    generalize hL133 : hc_u L124 (s + 1) 5 4 = L133
    refine LW_aloadn 0 dX6_clear_134 rfl rfl ?_
    refine gX6_0 dX6_clear_135 flX6_9 hS.lt0 hS.2.1 (hS.f 0 (by decide)) ?_
    refine LW_bipush (v := 6) dX6_clear_138 (by decide) ?_
    refine LW_ldc2 dX6_clear_140 klX6_58 ?_
    refine LW_last dX6_clear_143 (hS.lt 1 (by decide)) hS.2.2.1 rfl (by decide) (Nat.le_of_ble_eq_true rfl) ?_
    generalize hL143 : hc_u L133 (s + 1) 6 10 = L143
    refine LW_aloadn 0 dX6_clear_144 rfl rfl ?_
    refine LW_iconst (v := 0) dX6_clear_145 (by decide) ?_
    refine pX6_11 dX6_clear_146 flX6_66 hS.lt0 hS.2.1 ?_
    generalize hI146 : hc_u I1 s 11 0 = I146
    refine LW_aloadn 0 dX6_clear_149 rfl rfl ?_
    refine LW_iconst (v := 0) dX6_clear_150 (by decide) ?_
    refine pX6_12 dX6_clear_151 flX6_70 hS.lt0 hS.2.1 ?_
    generalize hI151 : hc_u I146 s 12 0 = I151
    refine LW_aloadn 0 dX6_clear_154 rfl rfl ?_
    refine LW_iconst (v := 0) dX6_clear_155 (by decide) ?_
    refine pX6_13 dX6_clear_156 flX6_73 hS.lt0 hS.2.1 ?_
    generalize hI156 : hc_u I151 s 13 0 = I156
    refine LW_aloadn 0 dX6_clear_159 rfl rfl ?_
    refine LW_iconst (v := 0) dX6_clear_160 (by decide) ?_
    refine pX6_14 dX6_clear_161 flX6_76 hS.lt0 hS.2.1 ?_
    generalize hI161 : hc_u I156 s 14 0 = I161
    refine LW_vret dX6_clear_164 rfl (Nat.le_of_ble_eq_true rfl) (Nat.le_of_ble_eq_true rfl) ?_
    have eI : ∀ z, z ≠ s → I161 z = I1 z := fun z hz => by rw [← hI161, hc_u_row _ _ _ _ hz, ← hI156, hc_u_row _ _ _ _ hz, ← hI151, hc_u_row _ _ _ _ hz, ← hI146, hc_u_row _ _ _ _ hz]
    have eL : ∀ z, z ≠ s + 1 → L143 z = L z := fun z hz => by rw [← hL143, hc_u_row _ _ _ _ hz, ← hL133, hc_u_row _ _ _ _ hz, ← hL124, hc_u_row _ _ _ _ hz, ← hL115, hc_u_row _ _ _ _ hz, ← hL108, hc_u_row _ _ _ _ hz, ← hL99, hc_u_row _ _ _ _ hz, ← hL92, hc_u_row _ _ _ _ hz]
    refine ⟨rfl, rfl, fun z hz => ?_, fun z hz => eL z hz, fun _ _ => rfl, hS, wf_new _, ⟨?_, ?_, ?_, ?_⟩, fun j hj => ?_, fun c hc => ?_, fun c hc => ?_, fun m hm => absurd hm (Nat.not_lt_zero _), fun i hi => absurd hi (Nat.not_lt_zero _), fun i hi => absurd hi (Nat.not_lt_zero _), hE.1, hE.2, fun m hm => ?_, fun w m hw hm => ?_⟩
    · rw [eI z (by omega), hI z hz]
    · rw [← hI161, hc_u_at, if_neg (by decide), ← hI156, hc_u_at, if_neg (by decide), ← hI151, hc_u_at, if_neg (by decide), ← hI146, hc_u_at, if_pos rfl]; rfl
    · rw [← hI161, hc_u_at, if_neg (by decide), ← hI156, hc_u_at, if_neg (by decide), ← hI151, hc_u_at, if_pos rfl]; rfl
    · rw [← hI161, hc_u_at, if_neg (by decide), ← hI156, hc_u_at, if_pos rfl]; rfl
    · rw [← hI161, hc_u_at, if_pos rfl]; rfl
    · rw [← hL143, hc_u_at, ← hL133, hc_u_at, ← hL124, hc_u_at, ← hL115, hc_u_at, ← hL108, hc_u_at, ← hL99, hc_u_at, ← hL92, hc_u_at]
      rcases (show j = 0 ∨ j = 1 ∨ j = 2 ∨ j = 3 ∨ j = 4 ∨ j = 5 ∨ j = 6 by omega) with q | q | q | q | q | q | q <;> subst q <;> rfl
    · rw [eI _ (by omega), k2 c hc]; rfl
    · rw [eI _ (by omega), k3 c hc]; rfl
    · exact ⟨by rw [eI _ (by omega), k10 m hm]; rfl, fun _ => ⟨by rw [eI _ (by omega), k6 m hm], by rw [eI _ (by omega), k7 m hm], rfl⟩⟩
    · rw [eL _ (by omega)]; rfl
  have m3 : ∀ I1 : hc_I, (∀ z, ¬ (s ≤ z ∧ z < s + 18) → I1 z = I z) → (∀ c, c < 64 → I1 (s + 2) c = 1) → (∀ c, c < 4 → I1 (s + 3) c = 100) → LW xX6_clear (0, 0) 42 [(0, .ref s), (1, .int (nI 4))] [] Λ I1 L R (Qf (fun z => s ≤ z ∧ z < s + 18) (fun z => z = s + 1) (fun _ => False) none (fun I' L' R' => St Λ I' L' R' s (aNew (fun w m => L (s + 12 + w) m))) Λ I L R) := by
    intro I1 hI k2 k3
    have l3 : ∀ i, i ≤ 12 → ∀ I2 : hc_I, (∀ z, z ≠ s + 5 → z ≠ s + 6 → z ≠ s + 7 → z ≠ s + 10 → I2 z = I1 z) → (∀ c, c < i → I2 (s + 6) c = 0) → (∀ c, c < i → I2 (s + 7) c = 0) → (∀ c, c < i → I2 (s + 10) c = 0) → LW xX6_clear (0, 0) 44 [(0, .ref s), (1, .int (nI i))] [] Λ I2 L R (Qf (fun z => s ≤ z ∧ z < s + 18) (fun z => z = s + 1) (fun _ => False) none (fun I' L' R' => St Λ I' L' R' s (aNew (fun w m => L (s + 12 + w) m))) Λ I L R) := by
      refine hc_down ?_ ?_
      · intro I2 hI2 q6 q7 q10
        refine LW_iloadn 1 dX6_clear_44 rfl rfl ?_
        refine LW_bipush (v := 12) dX6_clear_45 (by decide) ?_
        refine LW_icmp_ge (tgt := 84) dX6_clear_47 (by decide) (fun c47 => ?_) (fun c47 => absurd (Int32.le_refl _) c47)
        exact tail I2 (fun z hz => by rw [hI2 z (by omega) (by omega) (by omega) (by omega)]; exact hI z hz) (fun c hc => by rw [hI2 _ (by omega) (by omega) (by omega) (by omega)]; exact k2 c hc) (fun c hc => by rw [hI2 _ (by omega) (by omega) (by omega) (by omega)]; exact k3 c hc) q6 q7 q10
      · intro i hi0 ih I2 hI2 q6 q7 q10
        refine LW_iloadn 1 dX6_clear_44 rfl rfl ?_
        refine LW_bipush (v := 12) dX6_clear_45 (by decide) ?_
        refine LW_icmp_ge (tgt := 84) dX6_clear_47 (by decide) (fun c47 => absurd c47 (hc_nle (a := 12) (by omega) (by omega) hi0)) (fun c47 => ?_)
        refine LW_aloadn 0 dX6_clear_50 rfl rfl ?_
        refine gX6_4 dX6_clear_51 flX6_25 hS.lt0 hS.2.1 (hS.f 4 (by decide)) ?_
        refine LW_iloadn 1 dX6_clear_54 rfl rfl ?_
        refine LW_iconst (v := 0) dX6_clear_55 (by decide) ?_
        refine LW_zast dX6_clear_56 (hS.lt 5 (by decide)) hS.2.2.2.2.2.2.1 rfl (by omega) (Nat.le_of_ble_eq_true rfl) ?_
        generalize hI56 : hc_u I2 (s + 5) i (vp_nar .boolean 0) = I56
        refine LW_aloadn 0 dX6_clear_57 rfl rfl ?_
        refine gX6_5 dX6_clear_58 flX6_29 hS.lt0 hS.2.1 (hS.f 5 (by decide)) ?_
        refine LW_iloadn 1 dX6_clear_61 rfl rfl ?_
        refine LW_iconst (v := 0) dX6_clear_62 (by decide) ?_
        refine LW_zast dX6_clear_63 (hS.lt 6 (by decide)) hS.2.2.2.2.2.2.2.1 rfl (by omega) (Nat.le_of_ble_eq_true rfl) ?_
        generalize hI63 : hc_u I56 (s + 6) i (vp_nar .boolean 0) = I63
        refine LW_aloadn 0 dX6_clear_64 rfl rfl ?_
        refine gX6_6 dX6_clear_65 flX6_32 hS.lt0 hS.2.1 (hS.f 6 (by decide)) ?_
        refine LW_iloadn 1 dX6_clear_68 rfl rfl ?_
        refine LW_iconst (v := 0) dX6_clear_69 (by decide) ?_
        refine LW_iast dX6_clear_70 (hS.lt 7 (by decide)) hS.2.2.2.2.2.2.2.2.1 rfl (by omega) (Nat.le_of_ble_eq_true rfl) ?_
        generalize hI70 : hc_u I63 (s + 7) i 0 = I70
        refine LW_aloadn 0 dX6_clear_71 rfl rfl ?_
        refine gX6_9 dX6_clear_72 flX6_47 hS.lt0 hS.2.1 (hS.f 9 (by decide)) ?_
        refine LW_iloadn 1 dX6_clear_75 rfl rfl ?_
        refine LW_iconst (v := 0) dX6_clear_76 (by decide) ?_
        refine LW_zast dX6_clear_77 (hS.lt 10 (by decide)) hS.2.2.2.2.2.2.2.2.2.2.2.1 rfl (by omega) (Nat.le_of_ble_eq_true rfl) ?_
        generalize hI77 : hc_u I70 (s + 10) i (vp_nar .boolean 0) = I77
        refine LW_iinc (n := 1) (v := nI (i + 1)) (ls' := [(0, .ref s), (1, .int (nI (i + 1)))]) dX6_clear_78 rfl (hc_inc _) (by decide) rfl ?_
        refine LW_goto (tgt := 44) dX6_clear_81 (by decide) ?_
        exact ih _ (fun z z5 z6 z7 z10 => by rw [← hI77, hc_u_row _ _ _ _ (by omega), ← hI70, hc_u_row _ _ _ _ (by omega), ← hI63, hc_u_row _ _ _ _ (by omega), ← hI56, hc_u_row _ _ _ _ (by omega)]; exact hI2 z z5 z6 z7 z10) (fun c hc => by
          rw [← hI77, hc_u_row _ _ _ _ (by omega), ← hI70, hc_u_row _ _ _ _ (by omega), ← hI63, hc_u_at]
          by_cases e : c = i
          · rw [if_pos e]; rfl
          · rw [if_neg e, ← hI56, hc_u_row _ _ _ _ (by omega)]; exact q6 c (by omega)) (fun c hc => by
          rw [← hI77, hc_u_row _ _ _ _ (by omega), ← hI70, hc_u_at]
          by_cases e : c = i
          · rw [if_pos e]
          · rw [if_neg e, ← hI63, hc_u_row _ _ _ _ (by omega), ← hI56, hc_u_row _ _ _ _ (by omega)]; exact q7 c (by omega)) (fun c hc => by
          rw [← hI77, hc_u_at]
          by_cases e : c = i
          · rw [if_pos e]; rfl
          · rw [if_neg e, ← hI70, hc_u_row _ _ _ _ (by omega), ← hI63, hc_u_row _ _ _ _ (by omega), ← hI56, hc_u_row _ _ _ _ (by omega)]; exact q10 c (by omega))
    refine LW_iconst (v := 0) dX6_clear_42 (by decide) ?_
    refine LW_istoren (ls' := [(0, .ref s), (1, .int 0)]) dX6_clear_43 rfl (by decide) rfl ?_
    exact l3 0 (Nat.zero_le _) I1 (fun _ _ _ _ _ => rfl) (fun c hc => absurd hc (Nat.not_lt_zero _)) (fun c hc => absurd hc (Nat.not_lt_zero _)) (fun c hc => absurd hc (Nat.not_lt_zero _))
  have m2 : ∀ I1 : hc_I, (∀ z, ¬ (s ≤ z ∧ z < s + 18) → I1 z = I z) → (∀ c, c < 64 → I1 (s + 2) c = 1) → LW xX6_clear (0, 0) 21 [(0, .ref s), (1, .int (nI 64))] [] Λ I1 L R (Qf (fun z => s ≤ z ∧ z < s + 18) (fun z => z = s + 1) (fun _ => False) none (fun I' L' R' => St Λ I' L' R' s (aNew (fun w m => L (s + 12 + w) m))) Λ I L R) := by
    intro I1 hI k2
    have l2 : ∀ i, i ≤ 4 → ∀ I2 : hc_I, (∀ z, z ≠ s + 3 → I2 z = I1 z) → (∀ c, c < i → I2 (s + 3) c = 100) → LW xX6_clear (0, 0) 23 [(0, .ref s), (1, .int (nI i))] [] Λ I2 L R (Qf (fun z => s ≤ z ∧ z < s + 18) (fun z => z = s + 1) (fun _ => False) none (fun I' L' R' => St Λ I' L' R' s (aNew (fun w m => L (s + 12 + w) m))) Λ I L R) := by
      refine hc_down ?_ ?_
      · intro I2 hI2 kk
        refine LW_iloadn 1 dX6_clear_23 rfl rfl ?_
        refine LW_iconst (v := 4) dX6_clear_24 (by decide) ?_
        refine LW_icmp_ge (tgt := 42) dX6_clear_25 (by decide) (fun c25 => ?_) (fun c25 => absurd (Int32.le_refl _) c25)
        exact m3 I2 (fun z hz => by rw [hI2 z (by omega)]; exact hI z hz) (fun c hc => by rw [hI2 _ (by omega)]; exact k2 c hc) kk
      · intro i hi0 ih I2 hI2 kk
        refine LW_iloadn 1 dX6_clear_23 rfl rfl ?_
        refine LW_iconst (v := 4) dX6_clear_24 (by decide) ?_
        refine LW_icmp_ge (tgt := 42) dX6_clear_25 (by decide) (fun c25 => absurd c25 (hc_nle (a := 4) (by omega) (by omega) hi0)) (fun c25 => ?_)
        refine LW_aloadn 0 dX6_clear_28 rfl rfl ?_
        refine gX6_2 dX6_clear_29 flX6_19 hS.lt0 hS.2.1 (hS.f 2 (by decide)) ?_
        refine LW_iloadn 1 dX6_clear_32 rfl rfl ?_
        refine LW_bipush (v := 100) dX6_clear_33 (by decide) ?_
        refine LW_iast dX6_clear_35 (hS.lt 3 (by decide)) hS.2.2.2.2.1 rfl (by omega) (Nat.le_of_ble_eq_true rfl) ?_
        generalize hI35 : hc_u I2 (s + 3) i 100 = I35
        refine LW_iinc (n := 1) (v := nI (i + 1)) (ls' := [(0, .ref s), (1, .int (nI (i + 1)))]) dX6_clear_36 rfl (hc_inc _) (by decide) rfl ?_
        refine LW_goto (tgt := 23) dX6_clear_39 (by decide) ?_
        exact ih _ (fun z hz => by rw [← hI35, hc_u_row _ _ _ _ hz]; exact hI2 z hz) (fun c hc => by
          rw [← hI35, hc_u_at]
          by_cases q : c = i
          · rw [if_pos q]
          · rw [if_neg q]; exact kk c (by omega))
    refine LW_iconst (v := 0) dX6_clear_21 (by decide) ?_
    refine LW_istoren (ls' := [(0, .ref s), (1, .int 0)]) dX6_clear_22 rfl (by decide) rfl ?_
    exact l2 0 (Nat.zero_le _) I1 (fun _ _ => rfl) (fun c hc => absurd hc (Nat.not_lt_zero _))
  have l1 : ∀ i, i ≤ 64 → ∀ I2 : hc_I, (∀ z, z ≠ s + 2 → I2 z = I z) → (∀ c, c < i → I2 (s + 2) c = 1) → LW xX6_clear (0, 0) 2 [(0, .ref s), (1, .int (nI i))] [] Λ I2 L R (Qf (fun z => s ≤ z ∧ z < s + 18) (fun z => z = s + 1) (fun _ => False) none (fun I' L' R' => St Λ I' L' R' s (aNew (fun w m => L (s + 12 + w) m))) Λ I L R) := by
    refine hc_down ?_ ?_
    · intro I2 hI2 kk
      refine LW_iloadn 1 dX6_clear_2 rfl rfl ?_
      refine LW_bipush (v := 64) dX6_clear_3 (by decide) ?_
      refine LW_icmp_ge (tgt := 21) dX6_clear_5 (by decide) (fun c5 => ?_) (fun c5 => absurd (Int32.le_refl _) c5)
      exact m2 I2 (fun z hz => hI2 z (by omega)) kk
    · intro i hi0 ih I2 hI2 kk
      refine LW_iloadn 1 dX6_clear_2 rfl rfl ?_
      refine LW_bipush (v := 64) dX6_clear_3 (by decide) ?_
      refine LW_icmp_ge (tgt := 21) dX6_clear_5 (by decide) (fun c5 => absurd c5 (hc_nle (a := 64) (by omega) (by omega) hi0)) (fun c5 => ?_)
      refine LW_aloadn 0 dX6_clear_8 rfl rfl ?_
      refine gX6_1 dX6_clear_9 flX6_15 hS.lt0 hS.2.1 (hS.f 1 (by decide)) ?_
      refine LW_iloadn 1 dX6_clear_12 rfl rfl ?_
      refine LW_iconst (v := 1) dX6_clear_13 (by decide) ?_
      refine LW_iast dX6_clear_14 (hS.lt 2 (by decide)) hS.2.2.2.1 rfl (by omega) (Nat.le_of_ble_eq_true rfl) ?_
      generalize hI14 : hc_u I2 (s + 2) i 1 = I14
      refine LW_iinc (n := 1) (v := nI (i + 1)) (ls' := [(0, .ref s), (1, .int (nI (i + 1)))]) dX6_clear_15 rfl (hc_inc _) (by decide) rfl ?_
      refine LW_goto (tgt := 2) dX6_clear_18 (by decide) ?_
      exact ih _ (fun z hz => by rw [← hI14, hc_u_row _ _ _ _ hz]; exact hI2 z hz) (fun c hc => by
        rw [← hI14, hc_u_at]
        by_cases q : c = i
        · rw [if_pos q]
        · rw [if_neg q]; exact kk c (by omega))
  refine LW_iconst (v := 0) dX6_clear_0 (by decide) ?_
  refine LW_istoren (ls' := [(0, .ref s), (1, .int 0)]) dX6_clear_1 rfl (by decide) rfl ?_
  exact l1 0 (Nat.zero_le _) I (fun _ _ => rfl) (fun c hc => absurd hc (Nat.not_lt_zero _))
set_option maxRecDepth 100000 in
theorem r_setSoft {Λ : hc_L} {I : hc_I} {L : hc_J} {R : hc_R} {s : Nat} (hS : StL Λ s) {c : Nat} (hc : c < 4) (v : Int32) : Run xX6_setSoft [.ref s, .int (nI c), .int v] Λ I L R (Qf (fun z => z = s + 3) (fun _ => False) (fun _ => False) none (fun I' _ _ => ∀ j, I' (s + 3) j = if j = c then v else I (s + 3) j) Λ I L R) := by
  refine Run.of (by decide +kernel) (Nat.le_of_ble_eq_true rfl) ?_
  show LW _ _ _ [(0, .ref s), (1, .int (nI c)), (2, .int v)] _ _ _ _ _ _
  refine LW_iloadn 1 dX6_setSoft_0 rfl rfl ?_
  refine LW_if_lt (tgt := 16) dX6_setSoft_1 (by decide) (fun c1 => absurd c1 (Int32.not_lt.mpr (nI_nn (by omega)))) (fun c1 => ?_)
  refine LW_iloadn 1 dX6_setSoft_4 rfl rfl ?_
  refine LW_iconst (v := 4) dX6_setSoft_5 (by decide) ?_
  refine LW_icmp_ge (tgt := 16) dX6_setSoft_6 (by decide) (fun c6 => absurd c6 (hc_nle (a := 4) (by omega) (by omega) hc)) (fun c6 => ?_)
  refine LW_aloadn 0 dX6_setSoft_9 rfl rfl ?_
  refine gX6_2 dX6_setSoft_10 flX6_19 hS.lt0 hS.2.1 (hS.f 2 (by decide)) ?_
  refine LW_iloadn 1 dX6_setSoft_13 rfl rfl ?_
  refine LW_iloadn 2 dX6_setSoft_14 rfl rfl ?_
  refine LW_iast dX6_setSoft_15 (hS.lt 3 (by decide)) hS.2.2.2.2.1 rfl hc (Nat.le_of_ble_eq_true rfl) ?_
  generalize hI15 : hc_u I (s + 3) c v = I15
  refine LW_vret dX6_setSoft_16 rfl (Nat.le_of_ble_eq_true rfl) (Nat.le_of_ble_eq_true rfl) ?_
  refine ⟨rfl, rfl, fun z hz => ?_, fun _ _ => rfl, fun _ _ => rfl, fun j => ?_⟩
  · rw [← hI15, hc_u_row _ _ _ _ hz]
  · rw [← hI15, hc_u_at]
/-- the cell lies in the part of the map -/
def hzIn (x y tx ty c : Nat) : Bool := decide (x ≤ c % 8) && (decide (c % 8 ≤ tx) && (decide (y ≤ c / 8) && decide (c / 8 ≤ ty)))
def hzB (x tx v u c : Nat) : Bool := decide (c / 8 = v) && (decide (x ≤ c % 8) && decide (c % 8 < u))
theorem hzB_s {x tx v u c : Nat} (hu : u < 8) (hv : v < 8) (hx : x ≤ u) : hzB x tx v (u + 1) c = (decide (c = v * 8 + u) || hzB x tx v u c) := by
  unfold hzB
  rw [Bool.eq_iff_iff]
  simp only [Bool.and_eq_true, Bool.or_eq_true, decide_eq_true_eq]
  omega
set_option maxRecDepth 100000 in
theorem r_setHazards {Λ : hc_L} {I : hc_I} {L : hc_J} {R : hc_R} {s : Nat} (hS : StL Λ s) {x y tx ty : Nat} (hx : x ≤ tx) (hy : y ≤ ty) (htx : tx < 8) (hty : ty < 8) (g : Int32) : Run xX6_setHazards [.ref s, .int (nI x), .int (nI y), .int (nI tx), .int (nI ty), .int g] Λ I L R (Qf (fun z => z = s + 2) (fun _ => False) (fun _ => False) none (fun I' _ _ => ∀ c, c < 64 → I' (s + 2) c = if hzIn x y tx ty c = true then g else I (s + 2) c) Λ I L R) := by
  refine Run.of (by decide +kernel) (Nat.le_of_ble_eq_true rfl) ?_
  show LW _ _ _ [(0, .ref s), (1, .int (nI x)), (2, .int (nI y)), (3, .int (nI tx)), (4, .int (nI ty)), (5, .int g)] _ _ _ _ _ _
  have outer : ∀ v, v ≤ ty + 1 → y ≤ v → ∀ I1 : hc_I, (∀ z, z ≠ s + 2 → I1 z = I z) → (∀ c, c < 64 → I1 (s + 2) c = if hzIn x y tx ty c = true ∧ c / 8 < v then g else I (s + 2) c) → LW xX6_setHazards (0, 0) 3 [(0, .ref s), (1, .int (nI x)), (2, .int (nI y)), (3, .int (nI tx)), (4, .int (nI ty)), (5, .int g), (6, .int (nI v))] [] Λ I1 L R (Qf (fun z => z = s + 2) (fun _ => False) (fun _ => False) none (fun I' _ _ => ∀ c, c < 64 → I' (s + 2) c = if hzIn x y tx ty c = true then g else I (s + 2) c) Λ I L R) := by
    refine hc_down ?_ ?_
    · intro hv0 I1 hI1 hk
      refine LW_iload 6 dX6_setHazards_3 rfl ?_
      refine LW_iload 4 dX6_setHazards_5 rfl ?_
      refine LW_icmp_gt (tgt := 56) dX6_setHazards_7 (by decide) (fun c7 => ?_) (fun c7 => absurd ((hc_lt (by omega) (by omega)).mpr (by omega)) c7)
      refine LW_vret dX6_setHazards_56 rfl (Nat.le_of_ble_eq_true rfl) (Nat.le_of_ble_eq_true rfl) ?_
      refine ⟨rfl, rfl, hI1, fun _ _ => rfl, fun _ _ => rfl, fun c hc => ?_⟩
      rw [hk c hc]
      by_cases q : hzIn x y tx ty c = true
      · have q2 : hzIn x y tx ty c = true ∧ c / 8 < ty + 1 := ⟨q, by simp only [hzIn, Bool.and_eq_true, decide_eq_true_eq] at q; omega⟩
        rw [if_pos q, if_pos q2]
      · rw [if_neg q, if_neg (fun w => q w.1)]
    · intro v hv0 ih hyv I1 hI1 hk
      have inner : ∀ u, u ≤ tx + 1 → x ≤ u → ∀ I2 : hc_I, (∀ z, z ≠ s + 2 → I2 z = I z) → (∀ c, c < 64 → I2 (s + 2) c = if hzB x tx v u c = true then g else I1 (s + 2) c) → LW xX6_setHazards (0, 0) 13 [(0, .ref s), (1, .int (nI x)), (2, .int (nI y)), (3, .int (nI tx)), (4, .int (nI ty)), (5, .int g), (6, .int (nI v)), (7, .int (nI u))] [] Λ I2 L R (Qf (fun z => z = s + 2) (fun _ => False) (fun _ => False) none (fun I' _ _ => ∀ c, c < 64 → I' (s + 2) c = if hzIn x y tx ty c = true then g else I (s + 2) c) Λ I L R) := by
        refine hc_down ?_ ?_
        · intro hu0 I2 hI2 hk2
          refine LW_iload 7 dX6_setHazards_13 rfl ?_
          refine LW_iloadn 3 dX6_setHazards_15 rfl rfl ?_
          refine LW_icmp_gt (tgt := 50) dX6_setHazards_16 (by decide) (fun c16 => ?_) (fun c16 => absurd ((hc_lt (by omega) (by omega)).mpr (by omega)) c16)
          refine LW_iinc (n := 6) (v := nI (v + 1)) (ls' := [(0, .ref s), (1, .int (nI x)), (2, .int (nI y)), (3, .int (nI tx)), (4, .int (nI ty)), (5, .int g), (6, .int (nI (v + 1))), (7, .int (nI (tx + 1)))]) dX6_setHazards_50 rfl (hc_inc _) (by decide) rfl ?_
          refine LW_goto (tgt := 3) dX6_setHazards_53 (by decide) ?_
          exact LW_ls [0, 1, 2, 3, 4, 5, 6] rfl (ih (by omega) I2 hI2 (fun c hc => by
            rw [hk2 c hc]
            by_cases q : hzB x tx v (tx + 1) c = true
            · rw [if_pos q, if_pos]
              simp only [hzB, Bool.and_eq_true, decide_eq_true_eq] at q
              simp only [hzIn, Bool.and_eq_true, decide_eq_true_eq]
              omega
            · rw [if_neg q, hk c hc]
              by_cases q2 : hzIn x y tx ty c = true ∧ c / 8 < v
              · rw [if_pos q2, if_pos ⟨q2.1, by omega⟩]
              · rw [if_neg q2, if_neg]
                simp only [hzB, hzIn, Bool.and_eq_true, decide_eq_true_eq] at q q2 ⊢
                omega))
        · intro u hu0 ih2 hxu I2 hI2 hk2
          refine LW_iload 7 dX6_setHazards_13 rfl ?_
          refine LW_iloadn 3 dX6_setHazards_15 rfl rfl ?_
          refine LW_icmp_gt (tgt := 50) dX6_setHazards_16 (by decide) (fun c16 => absurd c16 (hc_nlt (by omega) (by omega) (by omega))) (fun c16 => ?_)
          refine LW_iload 7 dX6_setHazards_19 rfl ?_
          refine LW_iload 6 dX6_setHazards_21 rfl ?_
          refine LW_callSN (As := [.int (nI u), .int (nI v)]) (st := []) (r_isCell (nI u) (nI v)) YX10_isCell rfl dX6_setHazards_23 nlX6_116 (by decide) ⟨Nat.le_refl _, Nat.le_refl _⟩ (Nat.le_of_ble_eq_true rfl) rfl (fun r23 Λc23 Ic23 Lc23 Rc23 hq23 => ?_)
          obtain ⟨rfl, rfl, rfl, rfl, rfl⟩ := hq23
          refine LW_bif_eq (tgt := 44) dX6_setHazards_26 (by decide) (fun c26 => absurd (c26.symm.trans (aCell_n (x := u) (y := v) (by omega) (by omega))) (by decide)) (fun c26 => ?_)
          refine LW_aloadn 0 dX6_setHazards_29 rfl rfl ?_
          refine gX6_1 dX6_setHazards_30 flX6_15 hS.lt0 hS.2.1 (hS.f 1 (by decide)) ?_
          refine LW_iload 6 dX6_setHazards_33 rfl ?_
          refine LW_bipush (v := 8) dX6_setHazards_35 (by decide) ?_
          refine LW_imul dX6_setHazards_37 ?_
          refine LW_iload 7 dX6_setHazards_38 rfl ?_
          refine LW_iadd dX6_setHazards_40 ?_
          refine LW_iload 5 dX6_setHazards_41 rfl ?_
          refine LW_iast dX6_setHazards_43 (hS.lt 2 (by decide)) hS.2.2.2.1 (by rw [show (8 : Int32) = nI 8 from rfl, nI_mul, nI_add]) (by omega) (Nat.le_of_ble_eq_true rfl) ?_
          generalize hI43 : hc_u I2 (s + 2) (v * 8 + u) g = I43
          refine LW_iinc (n := 7) (v := nI (u + 1)) (ls' := [(0, .ref s), (1, .int (nI x)), (2, .int (nI y)), (3, .int (nI tx)), (4, .int (nI ty)), (5, .int g), (6, .int (nI v)), (7, .int (nI (u + 1)))]) dX6_setHazards_44 rfl (hc_inc _) (by decide) rfl ?_
          refine LW_goto (tgt := 13) dX6_setHazards_47 (by decide) ?_
          exact ih2 (by omega) _ (fun z hz => by rw [← hI43, hc_u_row _ _ _ _ hz]; exact hI2 z hz) (fun c hc => by
            rw [← hI43, hc_u_at, hzB_s (by omega) (by omega) hxu]
            by_cases q : c = v * 8 + u
            · rw [if_pos q, decide_eq_true q, Bool.true_or, if_pos rfl]
            · rw [if_neg q, decide_eq_false q, Bool.false_or, hk2 c hc])
      refine LW_iload 6 dX6_setHazards_3 rfl ?_
      refine LW_iload 4 dX6_setHazards_5 rfl ?_
      refine LW_icmp_gt (tgt := 56) dX6_setHazards_7 (by decide) (fun c7 => absurd c7 (hc_nlt (by omega) (by omega) (by omega))) (fun c7 => ?_)
      refine LW_iloadn 1 dX6_setHazards_10 rfl rfl ?_
      refine LW_istore (ls' := [(0, .ref s), (1, .int (nI x)), (2, .int (nI y)), (3, .int (nI tx)), (4, .int (nI ty)), (5, .int g), (6, .int (nI v)), (7, .int (nI x))]) dX6_setHazards_11 (by decide) rfl ?_
      exact inner x (by omega) (Nat.le_refl _) I1 hI1 (fun c hc => by rw [if_neg]; simp only [hzB, Bool.and_eq_true, decide_eq_true_eq]; omega)
  refine LW_iloadn 2 dX6_setHazards_0 rfl rfl ?_
  refine LW_istore (ls' := [(0, .ref s), (1, .int (nI x)), (2, .int (nI y)), (3, .int (nI tx)), (4, .int (nI ty)), (5, .int g), (6, .int (nI y))]) dX6_setHazards_1 (by decide) rfl ?_
  exact outer y (by omega) (Nat.le_refl _) I (fun _ _ => rfl) (fun c hc => by rw [if_neg]; simp only [hzIn, Bool.and_eq_true, decide_eq_true_eq]; omega)
