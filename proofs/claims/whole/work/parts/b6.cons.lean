/-! the constructor of HailClubModel -/
abbrev tX11 : List (Nat × Nat) := [(3, 210), (3, 1680), (3, 24), (2, 294), (2, 128), (2, 8), (2, 6), (3, 1400), (2, 1400), (2, 700), (3, 700), (3, 4), (3, 12), (3, 12), (3, 12), (0, 12), (3, 72), (3, 12), (3, 11), (0, 12)]
abbrev fX11 : List (Nat × Nat × Nat) := [(0, 0, 218), (0, 1, 219), (0, 3, 220), (0, 4, 221), (0, 5, 222), (0, 6, 223), (0, 7, 224), (0, 8, 225), (0, 9, 226), (0, 19, 227), (0, 33, 228), (0, 34, 229), (0, 36, 230), (0, 37, 231), (0, 38, 232), (0, 39, 233), (0, 40, 234), (0, 41, 235), (0, 42, 236), (0, 43, 237)]
/-- what both hold when new -/
def S0 (er : Nat → Nat → Int64) (ek : Nat → Nat → Nat → Int64) : HS := (aNew er, lp0, fun _ => 0, 0, fun k => aNew (ek k), 0, 0, -1)
theorem CR.hw {Λ : hc_L} {I : hc_I} {L : hc_J} {R : hc_R} (h : CR Λ I L R) (hY : LY Λ) : ∃ er ek, HW Λ I L R (S0 er ek) := by
  obtain ⟨h1, ⟨e3, h3⟩, ⟨e21, h21⟩, h39, ⟨h45, h45'⟩, h51, ⟨h52, h52'⟩, hH⟩ := h
  have ax : ∀ j, ∃ er, j < 8 → St Λ I L R (54 + 18 * j) (aNew er) := fun j => by
    by_cases c : j < 8
    · obtain ⟨er, q⟩ := hH j c; exact ⟨er, fun _ => q⟩
    · exact ⟨fun _ _ => 0, fun q => absurd q c⟩
  obtain ⟨ek, hk⟩ := Classical.axiomOfChoice ax
  exact ⟨e3, ek, hY, h3, ⟨⟨hY.lw39, h39, fun i hi => absurd hi (Nat.not_lt_zero i)⟩, Nat.zero_le _, Or.inl rfl⟩, ⟨fun k => aNew (ek k), 0, ⟨hY.hs, Nat.zero_lt_succ 7, Nat.zero_le 8, h52, h52', fun i hi => hk i hi⟩, fun k hk => absurd hk (Nat.not_lt_zero k)⟩, ⟨hY.tp, h1, Nat.zero_le _, fun j hj => absurd hj (Nat.not_lt_zero j)⟩, h51, ⟨_, h21⟩, h45, h45'⟩
theorem lpOk_0 : lpOk lp0 := ⟨Nat.zero_le _, fun i hi => absurd hi (Nat.not_lt_zero i), fun h => absurd h (by decide)⟩
set_option maxRecDepth 100000 in
theorem k_X11 {Λ : hc_L} {I : hc_I} {L : hc_J} {R : hc_R} {b : Nat} (hn : Λ.1 = b + 1) (hl : Λ.2.1 b = (111, 0)) (h217 : b = 217) {Λp : hc_L} {Ip : hc_I} {Lp : hc_J} {Rp : hc_R} (gx : Nx 111 0 217 Λp Ip Lp Rp Λ I L R) (hT : ∀ (k : Nat) (q : Nat × Nat), k < 217 → lyT[k]? = some q → Λp.2.1 k = q) (hF : ∀ q ∈ lyF, q.1 < 217 → Λp.2.2 q.1 q.2.1 = some q.2.2) (hC : CR Λp Ip Lp Rp)  : Run xX11_init [.ref b] Λ I L R (fun r Λ' I' L' R' => r = none ∧ Λ'.1 = 238 ∧ ∃ er ek, HW Λ' I' L' R' (S0 er ek) ∧ MW Λ' I' L' (S0 er ek)) := by
  refine Run.of (by decide +kernel) (Nat.le_of_ble_eq_true rfl) ?_
  show LW _ _ _ [(0, .ref b)] _ _ _ _ _ _
  have g := Gr.s0 (I := I) (L := L) (R := R) hn
  refine LW_aloadn 0 dX11_init_0 rfl rfl ?_
  refine LW_objInit dX11_init_1 mlX11_3 hc_oi hc_oc (by decide) (Nat.le_of_ble_eq_true rfl) ?_
  refine LW_aloadn 0 dX11_init_4 rfl rfl ?_
  refine LW_sipush (v := 210) dX11_init_5 (by decide) ?_
  refine CN_new g (t := 3) (m := 210) (fun k => LW_newl dX11_init_8 hc_acl rfl (by decide) (by rw [g.1]; omega) ⟨Nat.le_of_ble_eq_true rfl, Nat.le_of_ble_eq_true rfl⟩ k) (fun r1 Λ1 I1 L1 R1 hr1 g => ?_)
  subst hr1
  refine CN_put g (j := 0) (r := b + 1 + 0) (fun k => pX11_0 dX11_init_10 flX11_9 (by rw [g.1]; omega) ((g.2.1 _ (Nat.le_refl _)).trans hl) rfl rfl k) (fun Λ1 g => ?_)
  refine LW_aloadn 0 dX11_init_13 rfl rfl ?_
  refine LW_sipush (v := 1680) dX11_init_14 (by decide) ?_
  refine CN_new g (t := 3) (m := 1680) (fun k => LW_newl dX11_init_17 hc_acl rfl (by decide) (by rw [g.1]; omega) ⟨Nat.le_of_ble_eq_true rfl, Nat.le_of_ble_eq_true rfl⟩ k) (fun r1 Λ1 I1 L1 R1 hr1 g => ?_)
  subst hr1
  refine CN_put g (j := 1) (r := b + 1 + 1) (fun k => pX11_1 dX11_init_19 flX11_15 (by rw [g.1]; omega) ((g.2.1 _ (Nat.le_refl _)).trans hl) rfl rfl k) (fun Λ1 g => ?_)
  refine LW_aloadn 0 dX11_init_22 rfl rfl ?_
  refine LW_bipush (v := 24) dX11_init_23 (by decide) ?_
  refine CN_new g (t := 3) (m := 24) (fun k => LW_newl dX11_init_25 hc_acl rfl (by decide) (by rw [g.1]; omega) ⟨Nat.le_of_ble_eq_true rfl, Nat.le_of_ble_eq_true rfl⟩ k) (fun r1 Λ1 I1 L1 R1 hr1 g => ?_)
  subst hr1
  refine CN_put g (j := 3) (r := b + 1 + 2) (fun k => pX11_3 dX11_init_27 flX11_18 (by rw [g.1]; omega) ((g.2.1 _ (Nat.le_refl _)).trans hl) rfl rfl k) (fun Λ1 g => ?_)
  refine LW_aloadn 0 dX11_init_30 rfl rfl ?_
  refine LW_sipush (v := 294) dX11_init_31 (by decide) ?_
  refine CN_new g (t := 2) (m := 294) (fun k => LW_newi dX11_init_34 hc_aci rfl (by decide) (by rw [g.1]; omega) ⟨Nat.le_of_ble_eq_true rfl, Nat.le_of_ble_eq_true rfl⟩ k) (fun r1 Λ1 I1 L1 R1 hr1 g => ?_)
  subst hr1
  refine CN_put g (j := 4) (r := b + 1 + 3) (fun k => pX11_4 dX11_init_36 flX11_21 (by rw [g.1]; omega) ((g.2.1 _ (Nat.le_refl _)).trans hl) rfl rfl k) (fun Λ1 g => ?_)
  refine LW_aloadn 0 dX11_init_39 rfl rfl ?_
  refine LW_sipush (v := 128) dX11_init_40 (by decide) ?_
  refine CN_new g (t := 2) (m := 128) (fun k => LW_newi dX11_init_43 hc_aci rfl (by decide) (by rw [g.1]; omega) ⟨Nat.le_of_ble_eq_true rfl, Nat.le_of_ble_eq_true rfl⟩ k) (fun r1 Λ1 I1 L1 R1 hr1 g => ?_)
  subst hr1
  refine CN_put g (j := 5) (r := b + 1 + 4) (fun k => pX11_5 dX11_init_45 flX11_25 (by rw [g.1]; omega) ((g.2.1 _ (Nat.le_refl _)).trans hl) rfl rfl k) (fun Λ1 g => ?_)
  refine LW_aloadn 0 dX11_init_48 rfl rfl ?_
  refine LW_bipush (v := 8) dX11_init_49 (by decide) ?_
  refine CN_new g (t := 2) (m := 8) (fun k => LW_newi dX11_init_51 hc_aci rfl (by decide) (by rw [g.1]; omega) ⟨Nat.le_of_ble_eq_true rfl, Nat.le_of_ble_eq_true rfl⟩ k) (fun r1 Λ1 I1 L1 R1 hr1 g => ?_)
  subst hr1
  refine CN_put g (j := 6) (r := b + 1 + 5) (fun k => pX11_6 dX11_init_53 flX11_28 (by rw [g.1]; omega) ((g.2.1 _ (Nat.le_refl _)).trans hl) rfl rfl k) (fun Λ1 g => ?_)
  refine LW_aloadn 0 dX11_init_56 rfl rfl ?_
  refine LW_bipush (v := 6) dX11_init_57 (by decide) ?_
  refine CN_new g (t := 2) (m := 6) (fun k => LW_newi dX11_init_59 hc_aci rfl (by decide) (by rw [g.1]; omega) ⟨Nat.le_of_ble_eq_true rfl, Nat.le_of_ble_eq_true rfl⟩ k) (fun r1 Λ1 I1 L1 R1 hr1 g => ?_)
  subst hr1
  refine CN_put g (j := 7) (r := b + 1 + 6) (fun k => pX11_7 dX11_init_61 flX11_31 (by rw [g.1]; omega) ((g.2.1 _ (Nat.le_refl _)).trans hl) rfl rfl k) (fun Λ1 g => ?_)
  refine LW_aloadn 0 dX11_init_64 rfl rfl ?_
  refine LW_sipush (v := 1400) dX11_init_65 (by decide) ?_
  refine CN_new g (t := 3) (m := 1400) (fun k => LW_newl dX11_init_68 hc_acl rfl (by decide) (by rw [g.1]; omega) ⟨Nat.le_of_ble_eq_true rfl, Nat.le_of_ble_eq_true rfl⟩ k) (fun r1 Λ1 I1 L1 R1 hr1 g => ?_)
  subst hr1
  refine CN_put g (j := 8) (r := b + 1 + 7) (fun k => pX11_8 dX11_init_70 flX11_34 (by rw [g.1]; omega) ((g.2.1 _ (Nat.le_refl _)).trans hl) rfl rfl k) (fun Λ1 g => ?_)
  refine LW_aloadn 0 dX11_init_73 rfl rfl ?_
  refine LW_sipush (v := 1400) dX11_init_74 (by decide) ?_
  refine CN_new g (t := 2) (m := 1400) (fun k => LW_newi dX11_init_77 hc_aci rfl (by decide) (by rw [g.1]; omega) ⟨Nat.le_of_ble_eq_true rfl, Nat.le_of_ble_eq_true rfl⟩ k) (fun r1 Λ1 I1 L1 R1 hr1 g => ?_)
  subst hr1
  refine CN_put g (j := 9) (r := b + 1 + 8) (fun k => pX11_9 dX11_init_79 flX11_37 (by rw [g.1]; omega) ((g.2.1 _ (Nat.le_refl _)).trans hl) rfl rfl k) (fun Λ1 g => ?_)
  refine LW_aloadn 0 dX11_init_82 rfl rfl ?_
  refine LW_sipush (v := 700) dX11_init_83 (by decide) ?_
  refine CN_new g (t := 2) (m := 700) (fun k => LW_newi dX11_init_86 hc_aci rfl (by decide) (by rw [g.1]; omega) ⟨Nat.le_of_ble_eq_true rfl, Nat.le_of_ble_eq_true rfl⟩ k) (fun r1 Λ1 I1 L1 R1 hr1 g => ?_)
  subst hr1
  refine CN_put g (j := 19) (r := b + 1 + 9) (fun k => pX11_19 dX11_init_88 flX11_40 (by rw [g.1]; omega) ((g.2.1 _ (Nat.le_refl _)).trans hl) rfl rfl k) (fun Λ1 g => ?_)
  refine LW_aloadn 0 dX11_init_91 rfl rfl ?_
  refine LW_iconst (v := -1) dX11_init_92 (by decide) ?_
  refine CN_puti g (j := 22) (v := -1) (fun k => pX11_22 dX11_init_93 flX11_43 (by rw [g.1]; omega) ((g.2.1 _ (Nat.le_refl _)).trans hl) k) (fun I1 g => ?_)
  refine LW_aloadn 0 dX11_init_96 rfl rfl ?_
  refine LW_sipush (v := 700) dX11_init_97 (by decide) ?_
  refine CN_new g (t := 3) (m := 700) (fun k => LW_newl dX11_init_100 hc_acl rfl (by decide) (by rw [g.1]; omega) ⟨Nat.le_of_ble_eq_true rfl, Nat.le_of_ble_eq_true rfl⟩ k) (fun r1 Λ1 I1 L1 R1 hr1 g => ?_)
  subst hr1
  refine CN_put g (j := 33) (r := b + 1 + 10) (fun k => pX11_33 dX11_init_102 flX11_47 (by rw [g.1]; omega) ((g.2.1 _ (Nat.le_refl _)).trans hl) rfl rfl k) (fun Λ1 g => ?_)
  refine LW_aloadn 0 dX11_init_105 rfl rfl ?_
  refine LW_iconst (v := 4) dX11_init_106 (by decide) ?_
  refine CN_new g (t := 3) (m := 4) (fun k => LW_newl dX11_init_107 hc_acl rfl (by decide) (by rw [g.1]; omega) ⟨Nat.le_of_ble_eq_true rfl, Nat.le_of_ble_eq_true rfl⟩ k) (fun r1 Λ1 I1 L1 R1 hr1 g => ?_)
  subst hr1
  refine CN_put g (j := 34) (r := b + 1 + 11) (fun k => pX11_34 dX11_init_109 flX11_50 (by rw [g.1]; omega) ((g.2.1 _ (Nat.le_refl _)).trans hl) rfl rfl k) (fun Λ1 g => ?_)
  refine LW_aloadn 0 dX11_init_112 rfl rfl ?_
  refine LW_iconst (v := -1) dX11_init_113 (by decide) ?_
  refine CN_puti g (j := 35) (v := -1) (fun k => pX11_35 dX11_init_114 flX11_53 (by rw [g.1]; omega) ((g.2.1 _ (Nat.le_refl _)).trans hl) k) (fun I1 g => ?_)
  refine LW_aloadn 0 dX11_init_117 rfl rfl ?_
  refine LW_bipush (v := 12) dX11_init_118 (by decide) ?_
  refine CN_new g (t := 3) (m := 12) (fun k => LW_newl dX11_init_120 hc_acl rfl (by decide) (by rw [g.1]; omega) ⟨Nat.le_of_ble_eq_true rfl, Nat.le_of_ble_eq_true rfl⟩ k) (fun r1 Λ1 I1 L1 R1 hr1 g => ?_)
  subst hr1
  refine CN_put g (j := 36) (r := b + 1 + 12) (fun k => pX11_36 dX11_init_122 flX11_56 (by rw [g.1]; omega) ((g.2.1 _ (Nat.le_refl _)).trans hl) rfl rfl k) (fun Λ1 g => ?_)
  refine LW_aloadn 0 dX11_init_125 rfl rfl ?_
  refine LW_bipush (v := 12) dX11_init_126 (by decide) ?_
  refine CN_new g (t := 3) (m := 12) (fun k => LW_newl dX11_init_128 hc_acl rfl (by decide) (by rw [g.1]; omega) ⟨Nat.le_of_ble_eq_true rfl, Nat.le_of_ble_eq_true rfl⟩ k) (fun r1 Λ1 I1 L1 R1 hr1 g => ?_)
  subst hr1
  refine CN_put g (j := 37) (r := b + 1 + 13) (fun k => pX11_37 dX11_init_130 flX11_59 (by rw [g.1]; omega) ((g.2.1 _ (Nat.le_refl _)).trans hl) rfl rfl k) (fun Λ1 g => ?_)
  refine LW_aloadn 0 dX11_init_133 rfl rfl ?_
  refine LW_bipush (v := 12) dX11_init_134 (by decide) ?_
  refine CN_new g (t := 3) (m := 12) (fun k => LW_newl dX11_init_136 hc_acl rfl (by decide) (by rw [g.1]; omega) ⟨Nat.le_of_ble_eq_true rfl, Nat.le_of_ble_eq_true rfl⟩ k) (fun r1 Λ1 I1 L1 R1 hr1 g => ?_)
  subst hr1
  refine CN_put g (j := 38) (r := b + 1 + 14) (fun k => pX11_38 dX11_init_138 flX11_62 (by rw [g.1]; omega) ((g.2.1 _ (Nat.le_refl _)).trans hl) rfl rfl k) (fun Λ1 g => ?_)
  refine LW_aloadn 0 dX11_init_141 rfl rfl ?_
  refine LW_bipush (v := 12) dX11_init_142 (by decide) ?_
  refine CN_new g (t := 0) (m := 12) (fun k => LW_newz dX11_init_144 hc_acz rfl (by decide) (by rw [g.1]; omega) ⟨Nat.le_of_ble_eq_true rfl, Nat.le_of_ble_eq_true rfl⟩ k) (fun r1 Λ1 I1 L1 R1 hr1 g => ?_)
  subst hr1
  refine CN_put g (j := 39) (r := b + 1 + 15) (fun k => pX11_39 dX11_init_146 flX11_65 (by rw [g.1]; omega) ((g.2.1 _ (Nat.le_refl _)).trans hl) rfl rfl k) (fun Λ1 g => ?_)
  refine LW_aloadn 0 dX11_init_149 rfl rfl ?_
  refine LW_bipush (v := 72) dX11_init_150 (by decide) ?_
  refine CN_new g (t := 3) (m := 72) (fun k => LW_newl dX11_init_152 hc_acl rfl (by decide) (by rw [g.1]; omega) ⟨Nat.le_of_ble_eq_true rfl, Nat.le_of_ble_eq_true rfl⟩ k) (fun r1 Λ1 I1 L1 R1 hr1 g => ?_)
  subst hr1
  refine CN_put g (j := 40) (r := b + 1 + 16) (fun k => pX11_40 dX11_init_154 flX11_69 (by rw [g.1]; omega) ((g.2.1 _ (Nat.le_refl _)).trans hl) rfl rfl k) (fun Λ1 g => ?_)
  refine LW_aloadn 0 dX11_init_157 rfl rfl ?_
  refine LW_bipush (v := 12) dX11_init_158 (by decide) ?_
  refine CN_new g (t := 3) (m := 12) (fun k => LW_newl dX11_init_160 hc_acl rfl (by decide) (by rw [g.1]; omega) ⟨Nat.le_of_ble_eq_true rfl, Nat.le_of_ble_eq_true rfl⟩ k) (fun r1 Λ1 I1 L1 R1 hr1 g => ?_)
  subst hr1
  refine CN_put g (j := 41) (r := b + 1 + 17) (fun k => pX11_41 dX11_init_162 flX11_72 (by rw [g.1]; omega) ((g.2.1 _ (Nat.le_refl _)).trans hl) rfl rfl k) (fun Λ1 g => ?_)
  refine LW_aloadn 0 dX11_init_165 rfl rfl ?_
  refine LW_bipush (v := 11) dX11_init_166 (by decide) ?_
  refine CN_new g (t := 3) (m := 11) (fun k => LW_newl dX11_init_168 hc_acl rfl (by decide) (by rw [g.1]; omega) ⟨Nat.le_of_ble_eq_true rfl, Nat.le_of_ble_eq_true rfl⟩ k) (fun r1 Λ1 I1 L1 R1 hr1 g => ?_)
  subst hr1
  refine CN_put g (j := 42) (r := b + 1 + 18) (fun k => pX11_42 dX11_init_170 flX11_75 (by rw [g.1]; omega) ((g.2.1 _ (Nat.le_refl _)).trans hl) rfl rfl k) (fun Λ1 g => ?_)
  refine LW_aloadn 0 dX11_init_173 rfl rfl ?_
  refine LW_bipush (v := 12) dX11_init_174 (by decide) ?_
  refine CN_new g (t := 0) (m := 12) (fun k => LW_newz dX11_init_176 hc_acz rfl (by decide) (by rw [g.1]; omega) ⟨Nat.le_of_ble_eq_true rfl, Nat.le_of_ble_eq_true rfl⟩ k) (fun r1 Λ1 I1 L1 R1 hr1 g => ?_)
  subst hr1
  refine CN_put g (j := 43) (r := b + 1 + 19) (fun k => pX11_43 dX11_init_178 flX11_78 (by rw [g.1]; omega) ((g.2.1 _ (Nat.le_refl _)).trans hl) rfl rfl k) (fun Λ1 g => ?_)
  subst h217
  have hd : Λ1.1 = 238 := g.1
  have ct : Ct 20 tX11 fX11 217 Λ1 := ⟨g.tl (by decide), List.forall_mem_cons.mpr ⟨(congrFun g.2.2.2.1 0).trans rfl, List.forall_mem_cons.mpr ⟨(congrFun g.2.2.2.1 1).trans rfl, List.forall_mem_cons.mpr ⟨(congrFun g.2.2.2.1 3).trans rfl, List.forall_mem_cons.mpr ⟨(congrFun g.2.2.2.1 4).trans rfl, List.forall_mem_cons.mpr ⟨(congrFun g.2.2.2.1 5).trans rfl, List.forall_mem_cons.mpr ⟨(congrFun g.2.2.2.1 6).trans rfl, List.forall_mem_cons.mpr ⟨(congrFun g.2.2.2.1 7).trans rfl, List.forall_mem_cons.mpr ⟨(congrFun g.2.2.2.1 8).trans rfl, List.forall_mem_cons.mpr ⟨(congrFun g.2.2.2.1 9).trans rfl, List.forall_mem_cons.mpr ⟨(congrFun g.2.2.2.1 19).trans rfl, List.forall_mem_cons.mpr ⟨(congrFun g.2.2.2.1 33).trans rfl, List.forall_mem_cons.mpr ⟨(congrFun g.2.2.2.1 34).trans rfl, List.forall_mem_cons.mpr ⟨(congrFun g.2.2.2.1 36).trans rfl, List.forall_mem_cons.mpr ⟨(congrFun g.2.2.2.1 37).trans rfl, List.forall_mem_cons.mpr ⟨(congrFun g.2.2.2.1 38).trans rfl, List.forall_mem_cons.mpr ⟨(congrFun g.2.2.2.1 39).trans rfl, List.forall_mem_cons.mpr ⟨(congrFun g.2.2.2.1 40).trans rfl, List.forall_mem_cons.mpr ⟨(congrFun g.2.2.2.1 41).trans rfl, List.forall_mem_cons.mpr ⟨(congrFun g.2.2.2.1 42).trans rfl, List.forall_mem_cons.mpr ⟨(congrFun g.2.2.2.1 43).trans rfl, fun _ h => absurd h List.not_mem_nil⟩⟩⟩⟩⟩⟩⟩⟩⟩⟩⟩⟩⟩⟩⟩⟩⟩⟩⟩⟩⟩
  have t217 : Λ1.2.1 217 = (111, 0) := (g.2.1 _ (Nat.le_refl _)).trans hl
  have cT := ct.T t217 (by decide +kernel) (by decide)
  have cF := ct.F (by decide +kernel)
  have hY : LY Λ1 := by
    refine ⟨by rw [hd]; decide, fun k q hq => ?_, fun i k j r hr => ?_⟩
    · have hk : k < 238 := (List.getElem?_eq_some_iff.mp hq).1
      by_cases c : k < 217
      · rw [g.2.1 k (Nat.le_of_lt c), (gx.2.1 k c).1]; exact hT k q c hq
      · exact cT k q (by omega) hk hq
    · have hm := List.mem_of_getElem? hr
      have chk : ∀ q ∈ lyF, q.1 < 238 := by decide +kernel
      have hk : k < 238 := chk _ hm
      by_cases c : k < 217
      · rw [g.2.2.1 k c, (gx.2.1 k c).2]; exact hF _ hm c
      · exact cF _ hm (by show 217 ≤ k; omega) hk
  have G : Gx (fun _ => False) Λp Ip Lp Rp Λ1 I1 L1 R1 := Gx.nw gx ⟨g.2.1, g.2.2.1, g.2.2.2.2.2.1⟩ (by rw [hd]; decide)
  obtain ⟨er, ek, hw⟩ := (hC.gx (by rw [gx.1.1]; decide) G (fun z q => q.elim)).hw hY
  have j0 : ∀ j, j ≠ 22 → j ≠ 35 → I1 217 j = 0 := fun j n1 n2 => by
    rw [g.2.2.2.2.2.2.1]
    show (if j = 35 then _ else if j = 22 then _ else I 217 j) = _
    rw [if_neg n2, if_neg n1, gx.2.2.2]
  have j22 : I1 217 22 = -1 := (congrFun g.2.2.2.2.2.2.1 22).trans rfl
  have j35 : I1 217 35 = -1 := (congrFun g.2.2.2.2.2.2.1 35).trans rfl
  refine LW_aloadn 0 dX11_init_181 rfl rfl ?_
  refine LW_callV (As := []) (b := 217) (st := []) (ci := 11) (r := (RX11, TX11, 44)) (r_plain hY) YX11_plain rfl dX11_init_182 mlX11_81 (by rw [hd]; decide) t217 ⟨rfl, rfl⟩ (by decide) ⟨Nat.le_of_ble_eq_true rfl, Nat.le_of_ble_eq_true rfl⟩ (Nat.le_of_ble_eq_true rfl) rfl (fun r182 Λc Ic Lc Rc hq => ?_)
  obtain ⟨rfl, rfl, rfl, rfl, p1, p2, p3⟩ := hq
  refine LW_aloadn 0 dX11_init_185 rfl rfl ?_
  refine LW_callV (As := []) (b := 217) (st := []) (ci := 11) (r := (RX11, TX11, 44)) (r_takesOver (A := aNew er) (P := lp0) (Bt := fun _ => 0) (H := fun k => aNew (ek k)) (fc := 0) (q := -1) hY (p3 er) (wf_new er) lpOk_0 ((p2 20 (by decide)).trans (j0 20 (by decide) (by decide))) ((p2 21 (by decide)).trans (j0 21 (by decide) (by decide))) ((p2 22 (by decide)).trans j22) ((p2 35 (by decide)).trans j35)) YX11_takesOver rfl dX11_init_186 mlX11_84 (by rw [hd]; decide) t217 ⟨rfl, rfl⟩ (by decide) ⟨Nat.le_of_ble_eq_true rfl, Nat.le_of_ble_eq_true rfl⟩ (Nat.le_of_ble_eq_true rfl) rfl (fun r186 Λc Id Ld Rc hq => ?_)
  obtain ⟨rfl, rfl, rfl, t1, t2, t3, -⟩ := hq
  refine LW_vret dX11_init_189 rfl (Nat.le_of_ble_eq_true rfl) (Nat.le_of_ble_eq_true rfl) ?_
  exact ⟨rfl, hd, er, ek, hw.fr (J := MJ) ⟨⟨Nat.le_refl _, fun _ _ => ⟨rfl, rfl⟩⟩, fun z _ hz => (t1 z hz).trans (p1.1 z (by unfold rfZ; unfold MJ at hz; omega)), fun z _ hz => t2 z hz, fun _ _ _ => rfl⟩ (fun z hz => by unfold MJ at hz; omega), t3⟩
