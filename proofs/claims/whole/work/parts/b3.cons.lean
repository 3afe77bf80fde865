/-! constructors: State, Tokens -/
/-- what was there ahead of the object at b, and the shapes up to it, stay -/
def Nw (b : Nat) (Λ : hc_L) (I : hc_I) (L : hc_J) (R : hc_R) (Λ' : hc_L) (I' : hc_I) (L' : hc_J) (R' : hc_R) : Prop := (∀ z, z ≤ b → Λ'.2.1 z = Λ.2.1 z) ∧ (∀ z, z < b → Λ'.2.2 z = Λ.2.2 z) ∧ ∀ z, z < b → I' z = I z ∧ L' z = L z ∧ R' z = R z
set_option maxRecDepth 100000 in
theorem k_X6 {Λ : hc_L} {I : hc_I} {L : hc_J} {R : hc_R} {b : Nat} (hn : Λ.1 = b + 1) (hl : Λ.2.1 b = (106, 0)) (hb : b + 300 < 1000000)  : Run xX6_init [.ref b] Λ I L R (fun r Λ' I' L' R' => r = none ∧ Λ'.1 = b + 18 ∧ Nw b Λ I L R Λ' I' L' R' ∧ ∃ er, St Λ' I' L' R' b (aNew er)) := by
  refine Run.of (by decide +kernel) (Nat.le_of_ble_eq_true rfl) ?_
  show LW _ _ _ [(0, .ref b)] _ _ _ _ _ _
  have g := Gr.s0 (I := I) (L := L) (R := R) hn
  refine LW_aloadn 0 dX6_init_0 rfl rfl ?_
  refine LW_objInit dX6_init_1 mlX6_3 hc_oi hc_oc (by decide) (Nat.le_of_ble_eq_true rfl) ?_
  refine LW_aloadn 0 dX6_init_4 rfl rfl ?_
  refine LW_bipush (v := 7) dX6_init_5 (by decide) ?_
  refine CN_new g (t := 3) (m := 7) (fun k => LW_newl dX6_init_7 hc_acl rfl (by decide) (by rw [g.1]; omega) ⟨Nat.le_of_ble_eq_true rfl, Nat.le_of_ble_eq_true rfl⟩ k) (fun r1 Λ1 I1 L1 R1 hr1 g => ?_)
  subst hr1
  refine CN_put g (j := 0) (r := b + 1 + 0) (fun k => pX6_0 dX6_init_9 flX6_9 (by rw [g.1]; omega) ((g.2.1 _ (Nat.le_refl _)).trans hl) rfl rfl k) (fun Λ1 g => ?_)
  refine LW_aloadn 0 dX6_init_12 rfl rfl ?_
  refine LW_bipush (v := 64) dX6_init_13 (by decide) ?_
  refine CN_new g (t := 2) (m := 64) (fun k => LW_newi dX6_init_15 hc_aci rfl (by decide) (by rw [g.1]; omega) ⟨Nat.le_of_ble_eq_true rfl, Nat.le_of_ble_eq_true rfl⟩ k) (fun r1 Λ1 I1 L1 R1 hr1 g => ?_)
  subst hr1
  refine CN_put g (j := 1) (r := b + 1 + 1) (fun k => pX6_1 dX6_init_17 flX6_15 (by rw [g.1]; omega) ((g.2.1 _ (Nat.le_refl _)).trans hl) rfl rfl k) (fun Λ1 g => ?_)
  refine LW_aloadn 0 dX6_init_20 rfl rfl ?_
  refine LW_iconst (v := 4) dX6_init_21 (by decide) ?_
  refine CN_new g (t := 2) (m := 4) (fun k => LW_newi dX6_init_22 hc_aci rfl (by decide) (by rw [g.1]; omega) ⟨Nat.le_of_ble_eq_true rfl, Nat.le_of_ble_eq_true rfl⟩ k) (fun r1 Λ1 I1 L1 R1 hr1 g => ?_)
  subst hr1
  refine CN_put g (j := 2) (r := b + 1 + 2) (fun k => pX6_2 dX6_init_24 flX6_19 (by rw [g.1]; omega) ((g.2.1 _ (Nat.le_refl _)).trans hl) rfl rfl k) (fun Λ1 g => ?_)
  refine LW_aloadn 0 dX6_init_27 rfl rfl ?_
  refine LW_bipush (v := 12) dX6_init_28 (by decide) ?_
  refine CN_new g (t := 3) (m := 12) (fun k => LW_newl dX6_init_30 hc_acl rfl (by decide) (by rw [g.1]; omega) ⟨Nat.le_of_ble_eq_true rfl, Nat.le_of_ble_eq_true rfl⟩ k) (fun r1 Λ1 I1 L1 R1 hr1 g => ?_)
  subst hr1
  refine CN_put g (j := 3) (r := b + 1 + 3) (fun k => pX6_3 dX6_init_32 flX6_22 (by rw [g.1]; omega) ((g.2.1 _ (Nat.le_refl _)).trans hl) rfl rfl k) (fun Λ1 g => ?_)
  refine LW_aloadn 0 dX6_init_35 rfl rfl ?_
  refine LW_bipush (v := 12) dX6_init_36 (by decide) ?_
  refine CN_new g (t := 0) (m := 12) (fun k => LW_newz dX6_init_38 hc_acz rfl (by decide) (by rw [g.1]; omega) ⟨Nat.le_of_ble_eq_true rfl, Nat.le_of_ble_eq_true rfl⟩ k) (fun r1 Λ1 I1 L1 R1 hr1 g => ?_)
  subst hr1
  refine CN_put g (j := 4) (r := b + 1 + 4) (fun k => pX6_4 dX6_init_40 flX6_25 (by rw [g.1]; omega) ((g.2.1 _ (Nat.le_refl _)).trans hl) rfl rfl k) (fun Λ1 g => ?_)
  refine LW_aloadn 0 dX6_init_43 rfl rfl ?_
  refine LW_bipush (v := 12) dX6_init_44 (by decide) ?_
  refine CN_new g (t := 0) (m := 12) (fun k => LW_newz dX6_init_46 hc_acz rfl (by decide) (by rw [g.1]; omega) ⟨Nat.le_of_ble_eq_true rfl, Nat.le_of_ble_eq_true rfl⟩ k) (fun r1 Λ1 I1 L1 R1 hr1 g => ?_)
  subst hr1
  refine CN_put g (j := 5) (r := b + 1 + 5) (fun k => pX6_5 dX6_init_48 flX6_29 (by rw [g.1]; omega) ((g.2.1 _ (Nat.le_refl _)).trans hl) rfl rfl k) (fun Λ1 g => ?_)
  refine LW_aloadn 0 dX6_init_51 rfl rfl ?_
  refine LW_bipush (v := 12) dX6_init_52 (by decide) ?_
  refine CN_new g (t := 2) (m := 12) (fun k => LW_newi dX6_init_54 hc_aci rfl (by decide) (by rw [g.1]; omega) ⟨Nat.le_of_ble_eq_true rfl, Nat.le_of_ble_eq_true rfl⟩ k) (fun r1 Λ1 I1 L1 R1 hr1 g => ?_)
  subst hr1
  refine CN_put g (j := 6) (r := b + 1 + 6) (fun k => pX6_6 dX6_init_56 flX6_32 (by rw [g.1]; omega) ((g.2.1 _ (Nat.le_refl _)).trans hl) rfl rfl k) (fun Λ1 g => ?_)
  refine LW_aloadn 0 dX6_init_59 rfl rfl ?_
  refine LW_bipush (v := 24) dX6_init_60 (by decide) ?_
  refine CN_new g (t := 4) (m := 24) (fun k => LW_anew4 dX6_init_62 clX6_35 rfl (by decide) (by rw [g.1]; omega) ⟨Nat.le_of_ble_eq_true rfl, Nat.le_of_ble_eq_true rfl⟩ k) (fun r1 Λ1 I1 L1 R1 hr1 g => ?_)
  subst hr1
  refine CN_put g (j := 7) (r := b + 1 + 7) (fun k => pX6_7 dX6_init_65 flX6_37 (by rw [g.1]; omega) ((g.2.1 _ (Nat.le_refl _)).trans hl) rfl rfl k) (fun Λ1 g => ?_)
  refine LW_aloadn 0 dX6_init_68 rfl rfl ?_
  refine LW_bipush (v := 16) dX6_init_69 (by decide) ?_
  refine CN_new g (t := 5) (m := 16) (fun k => LW_anew5 dX6_init_71 clX6_41 rfl (by decide) (by rw [g.1]; omega) ⟨Nat.le_of_ble_eq_true rfl, Nat.le_of_ble_eq_true rfl⟩ k) (fun r1 Λ1 I1 L1 R1 hr1 g => ?_)
  subst hr1
  refine CN_put g (j := 8) (r := b + 1 + 8) (fun k => pX6_8 dX6_init_74 flX6_43 (by rw [g.1]; omega) ((g.2.1 _ (Nat.le_refl _)).trans hl) rfl rfl k) (fun Λ1 g => ?_)
  refine LW_aloadn 0 dX6_init_77 rfl rfl ?_
  refine LW_bipush (v := 12) dX6_init_78 (by decide) ?_
  refine CN_new g (t := 0) (m := 12) (fun k => LW_newz dX6_init_80 hc_acz rfl (by decide) (by rw [g.1]; omega) ⟨Nat.le_of_ble_eq_true rfl, Nat.le_of_ble_eq_true rfl⟩ k) (fun r1 Λ1 I1 L1 R1 hr1 g => ?_)
  subst hr1
  refine CN_put g (j := 9) (r := b + 1 + 9) (fun k => pX6_9 dX6_init_82 flX6_47 (by rw [g.1]; omega) ((g.2.1 _ (Nat.le_refl _)).trans hl) rfl rfl k) (fun Λ1 g => ?_)
  refine LW_aloadn 0 dX6_init_85 rfl rfl ?_
  refine LW_bipush (v := 6) dX6_init_86 (by decide) ?_
  refine LW_bipush (v := 12) dX6_init_88 (by decide) ?_
  refine CN_mna g (fun k => LW_mna (n := 6) (k := 12) dX6_init_90 clX6_50 hc_acl rfl rfl (by decide) (by decide) (by rw [g.1]; omega) ⟨Nat.le_of_ble_eq_true rfl, Nat.le_of_ble_eq_true rfl⟩ k) (fun r1 Λ1 I1 L1 R1 hr1 g => ?_)
  subst hr1
  refine CN_put g (j := 10) (r := b + 1 + 10) (fun k => pX6_10 dX6_init_94 flX6_52 (by rw [g.1]; omega) ((g.2.1 _ (Nat.le_refl _)).trans hl) rfl rfl k) (fun Λ1 g => ?_)
  refine LW_aloadn 0 dX6_init_97 rfl rfl ?_
  have hS : StL Λ1 b := by
    refine ⟨by rw [g.1]; omega, (g.2.1 _ (Nat.le_refl _)).trans hl, (g.sh (j := 0) (by decide)).trans rfl, (g.sh (j := 1) (by decide)).trans rfl, (g.sh (j := 2) (by decide)).trans rfl, (g.sh (j := 3) (by decide)).trans rfl, (g.sh (j := 4) (by decide)).trans rfl, (g.sh (j := 5) (by decide)).trans rfl, (g.sh (j := 6) (by decide)).trans rfl, (g.sh (j := 7) (by decide)).trans rfl, (g.sh (j := 8) (by decide)).trans rfl, (g.sh (j := 9) (by decide)).trans rfl, (g.sh (j := 10) (by decide)).trans rfl, fun i hi => ?_, fun j hj => ?_, fun i hi => ?_⟩
    · rcases (show i = 0 ∨ i = 1 ∨ i = 2 ∨ i = 3 ∨ i = 4 ∨ i = 5 by omega) with rfl | rfl | rfl | rfl | rfl | rfl
      · exact (g.sh (j := 11) (by decide)).trans rfl
      · exact (g.sh (j := 12) (by decide)).trans rfl
      · exact (g.sh (j := 13) (by decide)).trans rfl
      · exact (g.sh (j := 14) (by decide)).trans rfl
      · exact (g.sh (j := 15) (by decide)).trans rfl
      · exact (g.sh (j := 16) (by decide)).trans rfl
    · rcases (show j = 0 ∨ j = 1 ∨ j = 2 ∨ j = 3 ∨ j = 4 ∨ j = 5 ∨ j = 6 ∨ j = 7 ∨ j = 8 ∨ j = 9 ∨ j = 10 by omega) with rfl | rfl | rfl | rfl | rfl | rfl | rfl | rfl | rfl | rfl | rfl
      · exact (congrFun g.2.2.2.1 0).trans rfl
      · exact (congrFun g.2.2.2.1 1).trans rfl
      · exact (congrFun g.2.2.2.1 2).trans rfl
      · exact (congrFun g.2.2.2.1 3).trans rfl
      · exact (congrFun g.2.2.2.1 4).trans rfl
      · exact (congrFun g.2.2.2.1 5).trans rfl
      · exact (congrFun g.2.2.2.1 6).trans rfl
      · exact (congrFun g.2.2.2.1 7).trans rfl
      · exact (congrFun g.2.2.2.1 8).trans rfl
      · exact (congrFun g.2.2.2.1 9).trans rfl
      · exact (congrFun g.2.2.2.1 10).trans rfl
    · rcases (show i = 0 ∨ i = 1 ∨ i = 2 ∨ i = 3 ∨ i = 4 ∨ i = 5 by omega) with rfl | rfl | rfl | rfl | rfl | rfl
      · exact (g.gf (j := 10) (by decide) 0).trans rfl
      · exact (g.gf (j := 10) (by decide) 1).trans rfl
      · exact (g.gf (j := 10) (by decide) 2).trans rfl
      · exact (g.gf (j := 10) (by decide) 3).trans rfl
      · exact (g.gf (j := 10) (by decide) 4).trans rfl
      · exact (g.gf (j := 10) (by decide) 5).trans rfl
  have hE : StE Λ1 R1 b := ⟨fun i r hi hr => (by rw [(g.2.2.2.2.2.2.2 7 (by decide)).2.2] at hr; cases hr), fun i r hi hr => (by rw [(g.2.2.2.2.2.2.2 8 (by decide)).2.2] at hr; cases hr)⟩
  refine LW_callV (As := []) (b := b) (st := []) (ci := 6) (r := (RX6, TX6, 15)) (r_clear hS hE) YX6_clear rfl dX6_init_98 mlX6_55 (by rw [g.1]; omega) ((g.2.1 _ (Nat.le_refl _)).trans hl) ⟨rfl, rfl⟩ (by decide) ⟨Nat.le_of_ble_eq_true rfl, Nat.le_of_ble_eq_true rfl⟩ (Nat.le_of_ble_eq_true rfl) rfl (fun r98 Λc98 Ic98 Lc98 Rc98 hq98 => ?_)
  obtain ⟨rfl, rfl, hI, hL, hR, hF⟩ := hq98
  refine LW_vret dX6_init_101 rfl (Nat.le_of_ble_eq_true rfl) (Nat.le_of_ble_eq_true rfl) ?_
  exact ⟨rfl, g.1, ⟨g.2.1, g.2.2.1, fun z hz => ⟨(hI z (by omega)).trans (g.2.2.2.2.2.1 z hz).1, (hL z (by omega)).trans (g.2.2.2.2.2.1 z hz).2.1, (hR z (fun q => q)).trans (g.2.2.2.2.2.1 z hz).2.2⟩⟩, _, hF⟩
def wB (i : Nat) : Nat := ((hc_byt.getD 0 []).getD i 0).toNatClampNeg
def wIx : Nat → Nat
  | 0 => 0
  | i + 1 => if wB i = 32 then wIx i + 1 else wIx i
def wAx : Nat → Nat → Nat
  | 0, _ => 0
  | i + 1, j => if wB i = 32 then wAx i j else if j = wIx i then wAx i j * 32 + (wB i - 96) else wAx i j
theorem wS : ∀ i, i < 97 → chV 0 i = sb (wB i) ∧ Jvm.narrow .char (.int (chV 0 i)) = .int (chV 0 i) ∧ (wB i = 32 ∨ ¬ wB i = 32 ∧ isL (wB i) = true ∧ wIx i < 18) ∧ wB i < 256 ∧ wIx i ≤ 18 := by decide +kernel
theorem wE : wIx 97 = 18 ∧ ∀ j, j < 18 → wAx 97 j = qw j := by decide +kernel
theorem wAx_sp {i : Nat} (h : wB i = 32) (j : Nat) : wAx (i + 1) j = wAx i j := if_pos h
theorem wAx_ch {i : Nat} (h : ¬ wB i = 32) (j : Nat) : wAx (i + 1) j = if j = wIx i then wAx i j * 32 + (wB i - 96) else wAx i j := if_neg h
theorem wIx_sp {i : Nat} (h : wB i = 32) : wIx (i + 1) = wIx i + 1 := if_pos h
theorem wIx_ch {i : Nat} (h : ¬ wB i = 32) : wIx (i + 1) = wIx i := if_neg h
set_option maxRecDepth 100000 in
theorem k_X9l {Λ : hc_L} {I : hc_I} {R : hc_R} {b t a1 a2 : Nat} (h1 : a1 ≤ 4) (h2 : a2 ≤ 2121) (hb : b < Λ.1) (hl : Λ.2.1 b = (109, 0)) (hF : Λ.2.2 b 4 = some (b + 4)) (h4 : b + 4 < Λ.1) (hl4 : Λ.2.1 (b + 4) = (3, 18)) {Q : hc_Q} {L0 : hc_J} (kk : ∀ L', (∀ z, z ≠ b + 4 → L' z = L0 z) → (∀ i, i < 18 → L' (b + 4) i = lN (qw i)) → Q none Λ I L' R) : ∀ i, i ≤ 97 → ∀ L : hc_J, (∀ z, z ≠ b + 4 → L z = L0 z) → (∀ j, j < 18 → L (b + 4) j = lN (wAx i j)) → LW xX9_init (a1, a2) 48 [(0, .ref b), (1, .ref t), (2, .int (nI (wIx i))), (3, .int (nI i))] [] Λ I L R Q := by
  refine hc_down ?_ ?_
  · intro L hL hA
    refine LW_iloadn 3 dX9_init_48 rfl rfl ?_
    refine LW_ldcS (i := 0) dX9_init_49 rfl ?_
    refine LW_callT (As := []) (b := 0) (st := [.int (nI 97)]) (by omega) (r_slength (i := 0) (by decide)) YJ0_length_8abf5 rfl dX9_init_51 mlX9_31 rfl (by decide) ⟨h1, h2⟩ (Nat.le_of_ble_eq_true rfl) rfl (fun r51 Λc51 Ic51 Lc51 Rc51 hq51 => ?_)
    obtain ⟨rfl, rfl, rfl, rfl, rfl⟩ := hq51
    refine LW_icmp_ge (tgt := 107) dX9_init_54 (by decide) (fun c54 => ?_) (fun c54 => absurd (Int32.le_refl _) c54)
    refine LW_vret dX9_init_107 rfl h1 h2 ?_
    exact kk L hL (fun j hj => by rw [hA j hj, wE.2 j hj])
  · intro i hi ih L hL hA
    obtain ⟨e1, e2, e3, e4, e5⟩ := wS i hi
    rcases e3 with f1 | ⟨f1, f2, f3⟩
    · refine LW_iloadn 3 dX9_init_48 rfl rfl ?_
      refine LW_ldcS (i := 0) dX9_init_49 rfl ?_
      refine LW_callT (As := []) (b := 0) (st := [.int (nI i)]) (by omega) (r_slength (i := 0) (by decide)) YJ0_length_8abf5 rfl dX9_init_51 mlX9_31 rfl (by decide) ⟨h1, h2⟩ (Nat.le_of_ble_eq_true rfl) rfl (fun r51 Λc51 Ic51 Lc51 Rc51 hq51 => ?_)
      obtain ⟨rfl, rfl, rfl, rfl, rfl⟩ := hq51
      refine LW_icmp_ge (tgt := 107) dX9_init_54 (by decide) (fun c54 => absurd c54 (hc_nle (a := 97) (b := i) (by decide) (by omega) hi)) (fun c54 => ?_)
      refine LW_ldcS (i := 0) dX9_init_57 rfl ?_
      refine LW_iloadn 3 dX9_init_59 rfl rfl ?_
      refine LW_callT (As := [.int (nI i)]) (b := 0) (st := []) (by omega) (r_schar (i := 0) (by decide) hi (by decide) e2) YJ0_charAt_5068e rfl dX9_init_60 mlX9_37 rfl (by decide) ⟨h1, h2⟩ (Nat.le_of_ble_eq_true rfl) rfl (fun r60 Λc60 Ic60 Lc60 Rc60 hq60 => ?_)
      obtain ⟨rfl, rfl, rfl, rfl, rfl⟩ := hq60
      rw [e1]
      refine LW_istore (ls' := [(0, .ref b), (1, .ref t), (2, .int (nI (wIx i))), (3, .int (nI i)), (4, .int (sb (wB i)))]) dX9_init_63 (by decide) rfl ?_
      refine LW_iload 4 dX9_init_65 rfl ?_
      refine LW_bipush (v := 32) dX9_init_67 (by decide) ?_
      refine LW_icmp_ne (tgt := 78) dX9_init_69 (by decide) (fun c69 => absurd c69 (fun q => q (by rw [f1]; rfl))) (fun c69 => ?_)
      refine LW_iinc (n := 2) (v := nI ((wIx i) + 1)) (ls' := [(0, .ref b), (1, .ref t), (2, .int (nI ((wIx i) + 1))), (3, .int (nI i)), (4, .int (sb (wB i)))]) dX9_init_72 rfl (hc_inc _) (by decide) rfl ?_
      refine LW_goto (tgt := 101) dX9_init_75 (by decide) ?_
      refine LW_iinc (n := 3) (v := nI (i + 1)) (ls' := [(0, .ref b), (1, .ref t), (2, .int (nI ((wIx i) + 1))), (3, .int (nI (i + 1))), (4, .int (sb (wB i)))]) dX9_init_101 rfl (hc_inc _) (by decide) rfl ?_
      refine LW_goto (tgt := 48) dX9_init_104 (by decide) ?_
      have ih' := ih L hL (fun j hj => by rw [hA j hj, wAx_sp f1])
      rw [wIx_sp f1] at ih'
      exact LW_ls [0, 1, 2, 3] rfl ih'
    · refine LW_iloadn 3 dX9_init_48 rfl rfl ?_
      refine LW_ldcS (i := 0) dX9_init_49 rfl ?_
      refine LW_callT (As := []) (b := 0) (st := [.int (nI i)]) (by omega) (r_slength (i := 0) (by decide)) YJ0_length_8abf5 rfl dX9_init_51 mlX9_31 rfl (by decide) ⟨h1, h2⟩ (Nat.le_of_ble_eq_true rfl) rfl (fun r51 Λc51 Ic51 Lc51 Rc51 hq51 => ?_)
      obtain ⟨rfl, rfl, rfl, rfl, rfl⟩ := hq51
      refine LW_icmp_ge (tgt := 107) dX9_init_54 (by decide) (fun c54 => absurd c54 (hc_nle (a := 97) (b := i) (by decide) (by omega) hi)) (fun c54 => ?_)
      refine LW_ldcS (i := 0) dX9_init_57 rfl ?_
      refine LW_iloadn 3 dX9_init_59 rfl rfl ?_
      refine LW_callT (As := [.int (nI i)]) (b := 0) (st := []) (by omega) (r_schar (i := 0) (by decide) hi (by decide) e2) YJ0_charAt_5068e rfl dX9_init_60 mlX9_37 rfl (by decide) ⟨h1, h2⟩ (Nat.le_of_ble_eq_true rfl) rfl (fun r60 Λc60 Ic60 Lc60 Rc60 hq60 => ?_)
      obtain ⟨rfl, rfl, rfl, rfl, rfl⟩ := hq60
      rw [e1]
      refine LW_istore (ls' := [(0, .ref b), (1, .ref t), (2, .int (nI (wIx i))), (3, .int (nI i)), (4, .int (sb (wB i)))]) dX9_init_63 (by decide) rfl ?_
      refine LW_iload 4 dX9_init_65 rfl ?_
      refine LW_bipush (v := 32) dX9_init_67 (by decide) ?_
      refine LW_icmp_ne (tgt := 78) dX9_init_69 (by decide) (fun c69 => ?_) (fun c69 => absurd (fun q => f1 ((sb_eq e4 (d := 32) (by decide)).mp q)) c69)
      refine LW_iloadn 2 dX9_init_78 rfl rfl ?_
      refine LW_bipush (v := 18) dX9_init_79 (by decide) ?_
      refine LW_icmp_ge (tgt := 101) dX9_init_81 (by decide) (fun c81 => absurd c81 (hc_nle (a := 18) (b := wIx i) (by decide) (by omega) f3)) (fun c81 => ?_)
      refine LW_aloadn 0 dX9_init_84 rfl rfl ?_
      refine gX9_4 dX9_init_85 flX9_22 hb hl hF ?_
      refine LW_iloadn 2 dX9_init_88 rfl rfl ?_
      refine LW_aloadn 0 dX9_init_89 rfl rfl ?_
      refine gX9_4 dX9_init_90 flX9_22 hb hl hF ?_
      refine LW_iloadn 2 dX9_init_93 rfl rfl ?_
      refine LW_lald dX9_init_94 h4 hl4 rfl f3 (Nat.le_of_ble_eq_true rfl) ?_
      rw [show L (b + 4) (wIx i) = lN (wAx i (wIx i)) from (hA _ f3)]
      refine LW_iload 4 dX9_init_95 rfl ?_
      refine LW_callS (As := [.long (lN (wAx i (wIx i))), .int (sb (wB i))]) (st := [.int (nI (wIx i)), .ref (b + 4)]) (r_packed e4 f2) YX9_packed rfl dX9_init_97 mlX9_41 (by decide) ⟨h1, h2⟩ (Nat.le_of_ble_eq_true rfl) rfl (fun r97 Λc97 Ic97 Lc97 Rc97 hq97 => ?_)
      obtain ⟨rfl, rfl, rfl, rfl, rfl⟩ := hq97
      refine LW_last dX9_init_100 h4 hl4 rfl f3 (Nat.le_of_ble_eq_true rfl) ?_
      generalize hL100 : hc_u L (b + 4) (wIx i) (lN (wAx i (wIx i) * 32 + (wB i - 96))) = L100
      refine LW_iinc (n := 3) (v := nI (i + 1)) (ls' := [(0, .ref b), (1, .ref t), (2, .int (nI (wIx i))), (3, .int (nI (i + 1))), (4, .int (sb (wB i)))]) dX9_init_101 rfl (hc_inc _) (by decide) rfl ?_
      refine LW_goto (tgt := 48) dX9_init_104 (by decide) ?_
      have ih' := ih L100 (fun z hz => by rw [← hL100, hc_u_row _ _ _ _ hz]; exact hL z hz) (fun j hj => by
        rw [← hL100, hc_u_at, wAx_ch f1]
        by_cases q : j = wIx i
        · rw [if_pos q, if_pos q, q]
        · rw [if_neg q, if_neg q]; exact hA j hj)
      rw [wIx_ch f1] at ih'
      exact LW_ls [0, 1, 2, 3] rfl ih'
set_option maxRecDepth 100000 in
theorem k_X9 {Λ : hc_L} {I : hc_I} {L : hc_J} {R : hc_R} {b : Nat} (hn : Λ.1 = b + 1) (hl : Λ.2.1 b = (109, 0)) (hb : b + 300 < 1000000) (t : Nat) (ht : t + 2 ≤ b) : Run xX9_init [.ref b, .ref t] Λ I L R (fun r Λ' I' L' R' => r = none ∧ Λ'.1 = b + 5 ∧ Nw b Λ I L R Λ' I' L' R' ∧ TkL Λ' b t ∧ ∀ i, i < 18 → L' (b + 4) i = lN (qw i)) := by
  refine Run.of (by decide +kernel) (Nat.le_of_ble_eq_true rfl) ?_
  show LW _ _ _ [(0, .ref b), (1, .ref t)] _ _ _ _ _ _
  have g := Gr.s0 (I := I) (L := L) (R := R) hn
  refine LW_aloadn 0 dX9_init_0 rfl rfl ?_
  refine LW_objInit dX9_init_1 mlX9_3 hc_oi hc_oc (by decide) (Nat.le_of_ble_eq_true rfl) ?_
  refine LW_aloadn 0 dX9_init_4 rfl rfl ?_
  refine LW_sipush (v := 701) dX9_init_5 (by decide) ?_
  refine CN_new g (t := 2) (m := 701) (fun k => LW_newi dX9_init_8 hc_aci rfl (by decide) (by rw [g.1]; omega) ⟨Nat.le_of_ble_eq_true rfl, Nat.le_of_ble_eq_true rfl⟩ k) (fun r1 Λ1 I1 L1 R1 hr1 g => ?_)
  subst hr1
  refine CN_put g (j := 0) (r := b + 1 + 0) (fun k => pX9_0 dX9_init_10 flX9_9 (by rw [g.1]; omega) ((g.2.1 _ (Nat.le_refl _)).trans hl) rfl rfl k) (fun Λ1 g => ?_)
  refine LW_aloadn 0 dX9_init_13 rfl rfl ?_
  refine LW_sipush (v := 701) dX9_init_14 (by decide) ?_
  refine CN_new g (t := 2) (m := 701) (fun k => LW_newi dX9_init_17 hc_aci rfl (by decide) (by rw [g.1]; omega) ⟨Nat.le_of_ble_eq_true rfl, Nat.le_of_ble_eq_true rfl⟩ k) (fun r1 Λ1 I1 L1 R1 hr1 g => ?_)
  subst hr1
  refine CN_put g (j := 1) (r := b + 1 + 1) (fun k => pX9_1 dX9_init_19 flX9_15 (by rw [g.1]; omega) ((g.2.1 _ (Nat.le_refl _)).trans hl) rfl rfl k) (fun Λ1 g => ?_)
  refine LW_aloadn 0 dX9_init_22 rfl rfl ?_
  refine LW_sipush (v := 701) dX9_init_23 (by decide) ?_
  refine CN_new g (t := 3) (m := 701) (fun k => LW_newl dX9_init_26 hc_acl rfl (by decide) (by rw [g.1]; omega) ⟨Nat.le_of_ble_eq_true rfl, Nat.le_of_ble_eq_true rfl⟩ k) (fun r1 Λ1 I1 L1 R1 hr1 g => ?_)
  subst hr1
  refine CN_put g (j := 2) (r := b + 1 + 2) (fun k => pX9_2 dX9_init_28 flX9_18 (by rw [g.1]; omega) ((g.2.1 _ (Nat.le_refl _)).trans hl) rfl rfl k) (fun Λ1 g => ?_)
  refine LW_aloadn 0 dX9_init_31 rfl rfl ?_
  refine LW_bipush (v := 18) dX9_init_32 (by decide) ?_
  refine CN_new g (t := 3) (m := 18) (fun k => LW_newl dX9_init_34 hc_acl rfl (by decide) (by rw [g.1]; omega) ⟨Nat.le_of_ble_eq_true rfl, Nat.le_of_ble_eq_true rfl⟩ k) (fun r1 Λ1 I1 L1 R1 hr1 g => ?_)
  subst hr1
  refine CN_put g (j := 4) (r := b + 1 + 3) (fun k => pX9_4 dX9_init_36 flX9_22 (by rw [g.1]; omega) ((g.2.1 _ (Nat.le_refl _)).trans hl) rfl rfl k) (fun Λ1 g => ?_)
  refine LW_aloadn 0 dX9_init_39 rfl rfl ?_
  refine LW_aloadn 1 dX9_init_40 rfl rfl ?_
  refine CN_put g (j := 5) (r := t) (fun k => pX9_5 dX9_init_41 flX9_25 (by rw [g.1]; omega) ((g.2.1 _ (Nat.le_refl _)).trans hl) rfl rfl k) (fun Λ1 g => ?_)
  refine LW_iconst (v := 0) dX9_init_44 (by decide) ?_
  refine LW_istoren (ls' := [(0, .ref b), (1, .ref t), (2, .int 0)]) dX9_init_45 rfl (by decide) rfl ?_
  refine LW_iconst (v := 0) dX9_init_46 (by decide) ?_
  refine LW_istoren (ls' := [(0, .ref b), (1, .ref t), (2, .int 0), (3, .int 0)]) dX9_init_47 rfl (by decide) rfl ?_
  exact k_X9l (Nat.le_of_ble_eq_true rfl) (Nat.le_of_ble_eq_true rfl) (by rw [g.1]; omega) ((g.2.1 _ (Nat.le_refl _)).trans hl) ((congrFun g.2.2.2.1 4).trans rfl) (by rw [g.1]; omega) ((g.sh (j := 3) (by decide)).trans rfl) (fun L' h1 h2 => ⟨rfl, g.1, ⟨g.2.1, g.2.2.1, fun z hz => ⟨(g.2.2.2.2.2.1 z hz).1, (h1 z (by omega)).trans (g.2.2.2.2.2.1 z hz).2.1, (g.2.2.2.2.2.1 z hz).2.2⟩⟩, ⟨by rw [g.1]; omega, (g.2.1 _ (Nat.le_refl _)).trans hl, (g.sh (j := 0) (by decide)).trans rfl, (g.sh (j := 1) (by decide)).trans rfl, (g.sh (j := 2) (by decide)).trans rfl, (g.sh (j := 3) (by decide)).trans rfl, (congrFun g.2.2.2.1 0).trans rfl, (congrFun g.2.2.2.1 1).trans rfl, (congrFun g.2.2.2.1 2).trans rfl, (congrFun g.2.2.2.1 4).trans rfl, (congrFun g.2.2.2.1 5).trans rfl, Or.inl ht⟩, h2⟩) 0 (Nat.zero_le _) _ (fun _ _ => rfl) (fun j hj => congrFun (g.2.2.2.2.2.2.2 3 (by decide)).2.1 j)
