/-! State: a whole state copied, laid anew -/
/-- a state's cells have other tags than Fields and Storms -/
theorem StL.cell {Λ : hc_L} {s r : Nat} (h : StL Λ s) (h1 : s ≤ r) (h2 : r < s + 18) : (Λ.2.1 r).1 = 106 ∨ (Λ.2.1 r).1 < 8 := by
  obtain ⟨k, rfl⟩ := Nat.exists_eq_add_of_le h1
  obtain ⟨-, l0, l1, l2, l3, l4, l5, l6, l7, l8, l9, l10, l11, l12, -, -⟩ := h
  rcases (show k = 0 ∨ k = 1 ∨ k = 2 ∨ k = 3 ∨ k = 4 ∨ k = 5 ∨ k = 6 ∨ k = 7 ∨ k = 8 ∨ k = 9 ∨ k = 10 ∨ k = 11 ∨ 12 ≤ k by omega) with q | q | q | q | q | q | q | q | q | q | q | q | q
  · subst q; exact Or.inl (by rw [Nat.add_zero, l0])
  · subst q; exact Or.inr (by rw [l1]; show 3 < 8; decide)
  · subst q; exact Or.inr (by rw [l2]; show 2 < 8; decide)
  · subst q; exact Or.inr (by rw [l3]; show 2 < 8; decide)
  · subst q; exact Or.inr (by rw [l4]; show 3 < 8; decide)
  · subst q; exact Or.inr (by rw [l5]; show 0 < 8; decide)
  · subst q; exact Or.inr (by rw [l6]; show 0 < 8; decide)
  · subst q; exact Or.inr (by rw [l7]; show 2 < 8; decide)
  · subst q; exact Or.inr (by rw [l8]; show 4 < 8; decide)
  · subst q; exact Or.inr (by rw [l9]; show 5 < 8; decide)
  · subst q; exact Or.inr (by rw [l10]; show 0 < 8; decide)
  · subst q; exact Or.inr (by rw [l11]; show 7 < 8; decide)
  · have := l12 (k - 12) (by omega)
    rw [show s + 12 + (k - 12) = s + k by omega] at this
    exact Or.inr (by rw [this]; show 3 < 8; decide)
theorem StL.nf {Λ : hc_L} {s r : Nat} (h : StL Λ s) (hr : Λ.2.1 r = (102, 0) ∨ Λ.2.1 r = (107, 0)) : ¬ (s ≤ r ∧ r < s + 18) := by
  intro q
  have := h.cell q.1 q.2
  rcases hr with hr | hr <;> rw [hr] at this <;> omega
theorem FdAt.kp {Λ : hc_L} {I I' : hc_I} {r : Nat} {f : Nat → Nat} (h : FdAt Λ I r f) (e : I' r = I r) : FdAt Λ I' r f := ⟨h.1, h.2.1, fun a ha => by rw [e]; exact h.2.2 a ha⟩
theorem SdAt.kp {Λ : hc_L} {I I' : hc_I} {r : Nat} {f : Nat → Nat} (h : SdAt Λ I r f) (e : I' r = I r) : SdAt Λ I' r f := ⟨h.1, h.2.1, fun a ha => by rw [e]; exact h.2.2 a ha⟩
theorem St.rf {Λ : hc_L} {I : hc_I} {L : hc_J} {R : hc_R} {s i r : Nat} {A : AS} (h : St Λ I L R s A) (hi : i < 24) (hr : R (s + 8) i = some r) : r < Λ.1 ∧ Λ.2.1 r = (102, 0) := h.2.2.2.2.2.2.2.2.2.1 i r hi hr
theorem St.rs {Λ : hc_L} {I : hc_I} {L : hc_J} {R : hc_R} {s i r : Nat} {A : AS} (h : St Λ I L R s A) (hi : i < 16) (hr : R (s + 9) i = some r) : r < Λ.1 ∧ Λ.2.1 r = (107, 0) := h.2.2.2.2.2.2.2.2.2.2.1 i r hi hr
/-- a state that is laid, whatever it holds -/
def StE (Λ : hc_L) (R : hc_R) (s : Nat) : Prop := (∀ i r, i < 24 → R (s + 8) i = some r → r < Λ.1 ∧ Λ.2.1 r = (102, 0)) ∧ (∀ i r, i < 16 → R (s + 9) i = some r → r < Λ.1 ∧ Λ.2.1 r = (107, 0))
theorem St.e {Λ : hc_L} {I : hc_I} {L : hc_J} {R : hc_R} {s : Nat} {A : AS} (h : St Λ I L R s A) : StE Λ R s := ⟨fun _ _ hi hr => h.rf hi hr, fun _ _ hi hr => h.rs hi hr⟩
set_option maxRecDepth 100000 in
theorem r_copyFrom {Λ : hc_L} {I : hc_I} {L : hc_J} {R : hc_R} {s t : Nat} {A : AS} (hS : StL Λ s) (h : St Λ I L R t A) (hap : s + 18 ≤ t ∨ t + 18 ≤ s) : Run xX6_copyFrom [.ref s, .ref t] Λ I L R (Qf (fun z => s ≤ z ∧ z < s + 18) (fun z => s ≤ z ∧ z < s + 18) (fun z => z = s + 8 ∨ z = s + 9) none (fun I' L' R' => St Λ I' L' R' s A) Λ I L R) := by
  refine Run.of (by decide +kernel) (Nat.le_of_ble_eq_true rfl) ?_
  show LW _ _ _ [(0, .ref s), (1, .ref t)] _ _ _ _ _ _
  have tail : ∀ (I1 : hc_I) (L1 : hc_J) (R1 : hc_R), (∀ z, ¬ (s ≤ z ∧ z < s + 18) → I1 z = I z) → (∀ z, ¬ (s ≤ z ∧ z < s + 18) → L1 z = L z) → (∀ z, z ≠ s + 8 → z ≠ s + 9 → R1 z = R z) → (L1 (s + 1) = L (t + 1)) → (I1 (s + 2) = I (t + 2)) → (I1 (s + 3) = I (t + 3)) → (L1 (s + 4) = L (t + 4)) → (I1 (s + 7) = I (t + 7)) → (∀ j, j < 12 → I1 (s + 5) j = vp_nar .boolean (I (t + 5) j)) → (∀ j, j < 12 → I1 (s + 6) j = vp_nar .boolean (I (t + 6) j)) → (∀ j, j < 12 → I1 (s + 10) j = vp_nar .boolean (I (t + 10) j)) → (∀ j, j < 24 → R1 (s + 8) j = R (t + 8) j) → (∀ j, j < 16 → R1 (s + 9) j = R (t + 9) j) → LW xX6_copyFrom (0, 0) 176 [(0, .ref s), (1, .ref t), (2, .int (nI 16))] [] Λ I1 L1 R1 (Qf (fun z => s ≤ z ∧ z < s + 18) (fun z => s ≤ z ∧ z < s + 18) (fun z => z = s + 8 ∨ z = s + 9) none (fun I' L' R' => St Λ I' L' R' s A) Λ I L R) := by
    intro I1 L1 R1 hI hL hR k1 k2 k3 k4 k7 k5 k6 k10 k8 k9
    refine LW_aloadn 0 dX6_copyFrom_176 rfl rfl ?_
    refine LW_aloadn 1 dX6_copyFrom_177 rfl rfl ?_
    refine gX6_10 dX6_copyFrom_178 flX6_52 h.l.lt0 h.l.2.1 (h.l.f 10 (by decide)) ?_
    refine LW_callV (As := [.ref (t + 11)]) (b := s) (st := []) (ci := 6) (r := (RX6, TX6, 15)) (r_copyEndRows (Λ := Λ) (q := t + 11) (b := t + 12) hS (h.l.lt 11 (by decide)) (h.l.2.2.2.2.2.2.2.2.2.2.2.2.1) (fun w hw => h.l.f2 w hw) (fun w hw => Nat.lt_of_lt_of_le (by omega) h.l.1) (fun w hw => h.l.l12 w hw) (fun w hw => by omega)) YX6_copyEndRows rfl dX6_copyFrom_181 mlX6_85 hS.lt0 hS.2.1 ⟨rfl, rfl⟩ (by decide) ⟨Nat.le_refl _, Nat.le_refl _⟩ (Nat.le_of_ble_eq_true rfl) rfl (fun r181 Λc181 Ic181 Lc181 Rc181 hq181 => ?_)
    obtain ⟨rfl, rfl, hX181, hL181, hY181, hcr⟩ := hq181
    obtain rfl : I1 = Ic181 := funext fun z => (hX181 z (fun q => q)).symm
    obtain rfl : R1 = Rc181 := funext fun z => (hY181 z (fun q => q)).symm
    refine LW_aloadn 0 dX6_copyFrom_184 rfl rfl ?_
    refine LW_aloadn 1 dX6_copyFrom_185 rfl rfl ?_
    refine gX6_11 dX6_copyFrom_186 flX6_66 h.l.lt0 h.l.2.1 ?_
    rw [show I1 t 11 = nI (aM A) from by rw [hI _ (by omega)]; exact h.m]
    refine pX6_11 dX6_copyFrom_189 flX6_66 hS.lt0 hS.2.1 ?_
    generalize hI189 : hc_u I1 s 11 (nI (aM A)) = I189
    refine LW_aloadn 0 dX6_copyFrom_192 rfl rfl ?_
    refine LW_aloadn 1 dX6_copyFrom_193 rfl rfl ?_
    refine gX6_12 dX6_copyFrom_194 flX6_70 h.l.lt0 h.l.2.1 ?_
    rw [show I189 t 12 = nI (aF A) from by rw [← hI189, hc_u_row _ _ _ _ (by omega), hI _ (by omega)]; exact h.fc]
    refine pX6_12 dX6_copyFrom_197 flX6_70 hS.lt0 hS.2.1 ?_
    generalize hI197 : hc_u I189 s 12 (nI (aF A)) = I197
    refine LW_aloadn 0 dX6_copyFrom_200 rfl rfl ?_
    refine LW_aloadn 1 dX6_copyFrom_201 rfl rfl ?_
    refine gX6_13 dX6_copyFrom_202 flX6_73 h.l.lt0 h.l.2.1 ?_
    rw [show I197 t 13 = nI (aS A) from by rw [← hI197, hc_u_row _ _ _ _ (by omega), ← hI189, hc_u_row _ _ _ _ (by omega), hI _ (by omega)]; exact h.sc]
    refine pX6_13 dX6_copyFrom_205 flX6_73 hS.lt0 hS.2.1 ?_
    generalize hI205 : hc_u I197 s 13 (nI (aS A)) = I205
    refine LW_aloadn 0 dX6_copyFrom_208 rfl rfl ?_
    refine LW_aloadn 1 dX6_copyFrom_209 rfl rfl ?_
    refine gX6_14 dX6_copyFrom_210 flX6_76 h.l.lt0 h.l.2.1 ?_
    rw [show I205 t 14 = nI (aY A) from by rw [← hI205, hc_u_row _ _ _ _ (by omega), ← hI197, hc_u_row _ _ _ _ (by omega), ← hI189, hc_u_row _ _ _ _ (by omega), hI _ (by omega)]; exact h.yr]
    refine pX6_14 dX6_copyFrom_213 flX6_76 hS.lt0 hS.2.1 ?_
    generalize hI213 : hc_u I205 s 14 (nI (aY A)) = I213
    refine LW_vret dX6_copyFrom_216 rfl (Nat.le_of_ble_eq_true rfl) (Nat.le_of_ble_eq_true rfl) ?_
    have eI : ∀ z, z ≠ s → I213 z = I1 z := fun z hz => by rw [← hI213, hc_u_row _ _ _ _ hz, ← hI205, hc_u_row _ _ _ _ hz, ← hI197, hc_u_row _ _ _ _ hz, ← hI189, hc_u_row _ _ _ _ hz]
    have eL : ∀ z, ¬ (s + 12 ≤ z ∧ z < s + 18) → Lc181 z = L1 z := hL181
    have eF : ∀ r, (Λ.2.1 r = (102, 0) ∨ Λ.2.1 r = (107, 0)) → I213 r = I r := fun r hr => by
      have := hS.nf hr
      rw [eI r (by omega), hI r this]
    refine ⟨rfl, rfl, fun z hz => ?_, fun z hz => ?_, fun z hz => ?_, hS, h.w, ⟨?_, ?_, ?_, ?_⟩, fun j hj => ?_, fun c hc => ?_, fun c hc => ?_, fun m hm => ?_, fun i hi => ?_, fun i hi => ?_, fun i r hi hr => ?_, fun i r hi hr => ?_, fun m hm => ?_, fun w m hw hm => ?_⟩
    · rw [eI z (by omega), hI z hz]
    · rw [eL z (by omega), hL z hz]
    · exact hR z (fun e => hz (Or.inl e)) (fun e => hz (Or.inr e))
    · rw [← hI213, hc_u_at, if_neg (by decide), ← hI205, hc_u_at, if_neg (by decide), ← hI197, hc_u_at, if_neg (by decide), ← hI189, hc_u_at, if_pos rfl]
    · rw [← hI213, hc_u_at, if_neg (by decide), ← hI205, hc_u_at, if_neg (by decide), ← hI197, hc_u_at, if_pos rfl]
    · rw [← hI213, hc_u_at, if_neg (by decide), ← hI205, hc_u_at, if_pos rfl]
    · rw [← hI213, hc_u_at, if_pos rfl]
    · rw [eL _ (by omega), k1]; exact h.ru hj
    · rw [eI _ (by omega), k2]; exact h.hz hc
    · rw [eI _ (by omega), k3]; exact h.so hc
    · have hm12 : m < 12 := Nat.lt_of_lt_of_le hm h.w.m
      rw [eL _ (by omega), k4, eI _ (by omega), eI _ (by omega), eI _ (by omega), k5 m hm12, k6 m hm12, k7]
      exact ⟨h.nm hm, by rw [h.th hm, narb], by rw [h.lv hm, narb], h.ys hm⟩
    · obtain ⟨r, hr, hf⟩ := h.fd hi
      exact ⟨r, by rw [k8 i (Nat.lt_of_lt_of_le hi h.w.f)]; exact hr, hf.kp (eF r (Or.inl hf.2.1))⟩
    · obtain ⟨r, hr, hf⟩ := h.sd hi
      exact ⟨r, by rw [k9 i (Nat.lt_of_lt_of_le hi h.w.s)]; exact hr, hf.kp (eF r (Or.inr hf.2.1))⟩
    · rw [k8 i hi] at hr; exact h.rf hi hr
    · rw [k9 i hi] at hr; exact h.rs hi hr
    · refine ⟨by rw [eI _ (by omega), k10 m hm, h.et hm, narb], fun hk => ?_⟩
      obtain ⟨a1, a2, a3⟩ := h.rest hm hk
      exact ⟨by rw [eI _ (by omega), k6 m hm, a1]; rfl, by rw [eI _ (by omega), k7]; exact a2, a3⟩
    · rw [hcr w hw, hL _ (by omega)]; exact h.er hw hm
  have mid : ∀ (I1 : hc_I) (L1 : hc_J), (∀ z, ¬ (s ≤ z ∧ z < s + 18) → I1 z = I z) → (∀ z, ¬ (s ≤ z ∧ z < s + 18) → L1 z = L z) → (L1 (s + 1) = L (t + 1)) → (I1 (s + 2) = I (t + 2)) → (I1 (s + 3) = I (t + 3)) → (L1 (s + 4) = L (t + 4)) → (I1 (s + 7) = I (t + 7)) → (∀ j, j < 12 → I1 (s + 5) j = vp_nar .boolean (I (t + 5) j)) → (∀ j, j < 12 → I1 (s + 6) j = vp_nar .boolean (I (t + 6) j)) → (∀ j, j < 12 → I1 (s + 10) j = vp_nar .boolean (I (t + 10) j)) → LW xX6_copyFrom (0, 0) 124 [(0, .ref s), (1, .ref t), (2, .int (nI 12))] [] Λ I1 L1 R (Qf (fun z => s ≤ z ∧ z < s + 18) (fun z => s ≤ z ∧ z < s + 18) (fun z => z = s + 8 ∨ z = s + 9) none (fun I' L' R' => St Λ I' L' R' s A) Λ I L R) := by
    intro I1 L1 hI hL k1 k2 k3 k4 k7 k5 k6 k10
    have sto : ∀ R1 : hc_R, (∀ z, z ≠ s + 8 → R1 z = R z) → (∀ j, j < 24 → R1 (s + 8) j = R (t + 8) j) → LW xX6_copyFrom (0, 0) 150 [(0, .ref s), (1, .ref t), (2, .int (nI 24))] [] Λ I1 L1 R1 (Qf (fun z => s ≤ z ∧ z < s + 18) (fun z => s ≤ z ∧ z < s + 18) (fun z => z = s + 8 ∨ z = s + 9) none (fun I' L' R' => St Λ I' L' R' s A) Λ I L R) := by
      intro R1 hR1 k8
      have loop9 : ∀ i, i ≤ 16 → ∀ R2 : hc_R, (∀ z, z ≠ s + 9 → R2 z = R1 z) → (∀ j, j < i → R2 (s + 9) j = R (t + 9) j) → LW xX6_copyFrom (0, 0) 152 [(0, .ref s), (1, .ref t), (2, .int (nI i))] [] Λ I1 L1 R2 (Qf (fun z => s ≤ z ∧ z < s + 18) (fun z => s ≤ z ∧ z < s + 18) (fun z => z = s + 8 ∨ z = s + 9) none (fun I' L' R' => St Λ I' L' R' s A) Λ I L R) := by
        refine hc_down ?_ ?_
        · intro R2 hR2 hk2
          refine LW_iloadn 2 dX6_copyFrom_152 rfl rfl ?_
          refine LW_bipush (v := 16) dX6_copyFrom_153 (by decide) ?_
          refine LW_icmp_ge (tgt := 176) dX6_copyFrom_155 (by decide) (fun c155 => ?_) (fun c155 => absurd (Int32.le_refl _) c155)
          exact tail I1 L1 R2 hI hL (fun z h8 h9 => by rw [hR2 z h9]; exact hR1 z h8) k1 k2 k3 k4 k7 k5 k6 k10 (fun j hj => by rw [hR2 _ (by omega)]; exact k8 j hj) hk2
        · intro i hi0 ih R2 hR2 hk2
          refine LW_iloadn 2 dX6_copyFrom_152 rfl rfl ?_
          refine LW_bipush (v := 16) dX6_copyFrom_153 (by decide) ?_
          refine LW_icmp_ge (tgt := 176) dX6_copyFrom_155 (by decide) (fun c155 => absurd c155 (hc_nle (a := 16) (by omega) (by omega) hi0)) (fun c155 => ?_)
          refine LW_aloadn 0 dX6_copyFrom_158 rfl rfl ?_
          refine gX6_8 dX6_copyFrom_159 flX6_43 hS.lt0 hS.2.1 (hS.f 8 (by decide)) ?_
          refine LW_iloadn 2 dX6_copyFrom_162 rfl rfl ?_
          refine LW_aloadn 1 dX6_copyFrom_163 rfl rfl ?_
          refine gX6_8 dX6_copyFrom_164 flX6_43 h.l.lt0 h.l.2.1 (h.l.f 8 (by decide)) ?_
          refine LW_iloadn 2 dX6_copyFrom_167 rfl rfl ?_
          refine LW_aald5 dX6_copyFrom_168 (h.l.lt 9 (by decide)) h.l.2.2.2.2.2.2.2.2.2.2.1 rfl (by omega) (Nat.le_of_ble_eq_true rfl) ?_
          have hv0 : R2 (t + 9) i = R (t + 9) i := by rw [hR2 _ (by omega), hR1 _ (by omega)]
          rcases hv : R2 (t + 9) i with _ | q
          · refine LW_aast5N dX6_copyFrom_169 (hS.lt 9 (by decide)) hS.2.2.2.2.2.2.2.2.2.2.1 rfl (by omega) (Nat.le_of_ble_eq_true rfl) ?_
            generalize hR169 : hc_u R2 (s + 9) i none = R169
            refine LW_iinc (n := 2) (v := nI (i + 1)) (ls' := [(0, .ref s), (1, .ref t), (2, .int (nI (i + 1)))]) dX6_copyFrom_170 rfl (hc_inc _) (by decide) rfl ?_
            refine LW_goto (tgt := 152) dX6_copyFrom_173 (by decide) ?_
            exact ih _ (fun z hz => by rw [← hR169, hc_u_row _ _ _ _ hz]; exact hR2 z hz) (fun j hj => by
              rw [← hR169, hc_u_at]
              by_cases c : j = i
              · rw [if_pos c, c, ← hv0, hv]
              · rw [if_neg c]; exact hk2 j (by omega))
          · have hr := h.rs (i := i) (r := q) (by omega) (hv0.symm.trans hv)
            refine LW_aast5 dX6_copyFrom_169 (hS.lt 9 (by decide)) hS.2.2.2.2.2.2.2.2.2.2.1 rfl (by omega) (Nat.le_of_ble_eq_true rfl) hr.1 hr.2 ?_
            generalize hR169 : hc_u R2 (s + 9) i (some q) = R169
            refine LW_iinc (n := 2) (v := nI (i + 1)) (ls' := [(0, .ref s), (1, .ref t), (2, .int (nI (i + 1)))]) dX6_copyFrom_170 rfl (hc_inc _) (by decide) rfl ?_
            refine LW_goto (tgt := 152) dX6_copyFrom_173 (by decide) ?_
            exact ih _ (fun z hz => by rw [← hR169, hc_u_row _ _ _ _ hz]; exact hR2 z hz) (fun j hj => by
              rw [← hR169, hc_u_at]
              by_cases c : j = i
              · rw [if_pos c, c, ← hv0, hv]
              · rw [if_neg c]; exact hk2 j (by omega))
      refine LW_iconst (v := 0) dX6_copyFrom_150 (by decide) ?_
      refine LW_istoren (ls' := [(0, .ref s), (1, .ref t), (2, .int 0)]) dX6_copyFrom_151 rfl (by decide) rfl ?_
      exact loop9 0 (Nat.zero_le _) R1 (fun _ _ => rfl) (fun j hj => absurd hj (Nat.not_lt_zero _))
    have loop8 : ∀ i, i ≤ 24 → ∀ R2 : hc_R, (∀ z, z ≠ s + 8 → R2 z = R z) → (∀ j, j < i → R2 (s + 8) j = R (t + 8) j) → LW xX6_copyFrom (0, 0) 126 [(0, .ref s), (1, .ref t), (2, .int (nI i))] [] Λ I1 L1 R2 (Qf (fun z => s ≤ z ∧ z < s + 18) (fun z => s ≤ z ∧ z < s + 18) (fun z => z = s + 8 ∨ z = s + 9) none (fun I' L' R' => St Λ I' L' R' s A) Λ I L R) := by
      refine hc_down ?_ ?_
      · intro R2 hR2 hk2
        refine LW_iloadn 2 dX6_copyFrom_126 rfl rfl ?_
        refine LW_bipush (v := 24) dX6_copyFrom_127 (by decide) ?_
        refine LW_icmp_ge (tgt := 150) dX6_copyFrom_129 (by decide) (fun c129 => ?_) (fun c129 => absurd (Int32.le_refl _) c129)
        exact sto R2 hR2 hk2
      · intro i hi0 ih R2 hR2 hk2
        refine LW_iloadn 2 dX6_copyFrom_126 rfl rfl ?_
        refine LW_bipush (v := 24) dX6_copyFrom_127 (by decide) ?_
        refine LW_icmp_ge (tgt := 150) dX6_copyFrom_129 (by decide) (fun c129 => absurd c129 (hc_nle (a := 24) (by omega) (by omega) hi0)) (fun c129 => ?_)
        refine LW_aloadn 0 dX6_copyFrom_132 rfl rfl ?_
        refine gX6_7 dX6_copyFrom_133 flX6_37 hS.lt0 hS.2.1 (hS.f 7 (by decide)) ?_
        refine LW_iloadn 2 dX6_copyFrom_136 rfl rfl ?_
        refine LW_aloadn 1 dX6_copyFrom_137 rfl rfl ?_
        refine gX6_7 dX6_copyFrom_138 flX6_37 h.l.lt0 h.l.2.1 (h.l.f 7 (by decide)) ?_
        refine LW_iloadn 2 dX6_copyFrom_141 rfl rfl ?_
        refine LW_aald4 dX6_copyFrom_142 (h.l.lt 8 (by decide)) h.l.2.2.2.2.2.2.2.2.2.1 rfl (by omega) (Nat.le_of_ble_eq_true rfl) ?_
        have hv0 : R2 (t + 8) i = R (t + 8) i := by rw [hR2 _ (by omega)]
        rcases hv : R2 (t + 8) i with _ | r
        · refine LW_aast4N dX6_copyFrom_143 (hS.lt 8 (by decide)) hS.2.2.2.2.2.2.2.2.2.1 rfl (by omega) (Nat.le_of_ble_eq_true rfl) ?_
          generalize hR143 : hc_u R2 (s + 8) i none = R143
          refine LW_iinc (n := 2) (v := nI (i + 1)) (ls' := [(0, .ref s), (1, .ref t), (2, .int (nI (i + 1)))]) dX6_copyFrom_144 rfl (hc_inc _) (by decide) rfl ?_
          refine LW_goto (tgt := 126) dX6_copyFrom_147 (by decide) ?_
          exact ih _ (fun z hz => by rw [← hR143, hc_u_row _ _ _ _ hz]; exact hR2 z hz) (fun j hj => by
            rw [← hR143, hc_u_at]
            by_cases c : j = i
            · rw [if_pos c, c, ← hv0, hv]
            · rw [if_neg c]; exact hk2 j (by omega))
        · have hr := h.rf (i := i) (r := r) (by omega) (hv0.symm.trans hv)
          refine LW_aast4 dX6_copyFrom_143 (hS.lt 8 (by decide)) hS.2.2.2.2.2.2.2.2.2.1 rfl (by omega) (Nat.le_of_ble_eq_true rfl) hr.1 hr.2 ?_
          generalize hR143 : hc_u R2 (s + 8) i (some r) = R143
          refine LW_iinc (n := 2) (v := nI (i + 1)) (ls' := [(0, .ref s), (1, .ref t), (2, .int (nI (i + 1)))]) dX6_copyFrom_144 rfl (hc_inc _) (by decide) rfl ?_
          refine LW_goto (tgt := 126) dX6_copyFrom_147 (by decide) ?_
          exact ih _ (fun z hz => by rw [← hR143, hc_u_row _ _ _ _ hz]; exact hR2 z hz) (fun j hj => by
            rw [← hR143, hc_u_at]
            by_cases c : j = i
            · rw [if_pos c, c, ← hv0, hv]
            · rw [if_neg c]; exact hk2 j (by omega))
    refine LW_iconst (v := 0) dX6_copyFrom_124 (by decide) ?_
    refine LW_istoren (ls' := [(0, .ref s), (1, .ref t), (2, .int 0)]) dX6_copyFrom_125 rfl (by decide) rfl ?_
    exact loop8 0 (Nat.zero_le _) R (fun _ _ => rfl) (fun j hj => absurd hj (Nat.not_lt_zero _))
  refine LW_aloadn 1 dX6_copyFrom_0 rfl rfl ?_
  refine gX6_0 dX6_copyFrom_1 flX6_9 h.l.lt0 h.l.2.1 (h.l.f 0 (by decide)) ?_
  refine LW_iconst (v := 0) dX6_copyFrom_4 (by decide) ?_
  refine LW_aloadn 0 dX6_copyFrom_5 rfl rfl ?_
  refine gX6_0 dX6_copyFrom_6 flX6_9 hS.lt0 hS.2.1 (hS.f 0 (by decide)) ?_
  refine LW_iconst (v := 0) dX6_copyFrom_9 (by decide) ?_
  refine LW_bipush (v := 7) dX6_copyFrom_10 (by decide) ?_
  refine LW_copyl (N := 7) dX6_copyFrom_12 mlX6_79 (h.l.lt 1 (by decide)) h.l.2.2.1 (hS.lt 1 (by decide)) hS.2.2.1 rfl (Nat.le_of_ble_eq_true rfl) (by decide) (Nat.le_of_ble_eq_true rfl) ?_
  generalize hL12 : hc_r L (s + 1) (L (t + 1)) = L12
  refine LW_aloadn 1 dX6_copyFrom_15 rfl rfl ?_
  refine gX6_1 dX6_copyFrom_16 flX6_15 h.l.lt0 h.l.2.1 (h.l.f 1 (by decide)) ?_
  refine LW_iconst (v := 0) dX6_copyFrom_19 (by decide) ?_
  refine LW_aloadn 0 dX6_copyFrom_20 rfl rfl ?_
  refine gX6_1 dX6_copyFrom_21 flX6_15 hS.lt0 hS.2.1 (hS.f 1 (by decide)) ?_
  refine LW_iconst (v := 0) dX6_copyFrom_24 (by decide) ?_
  refine LW_bipush (v := 64) dX6_copyFrom_25 (by decide) ?_
  refine LW_copyi (N := 64) dX6_copyFrom_27 mlX6_79 (h.l.lt 2 (by decide)) h.l.2.2.2.1 (hS.lt 2 (by decide)) hS.2.2.2.1 rfl (Nat.le_of_ble_eq_true rfl) (by decide) (Nat.le_of_ble_eq_true rfl) ?_
  generalize hI27 : hc_r I (s + 2) (I (t + 2)) = I27
  refine LW_aloadn 1 dX6_copyFrom_30 rfl rfl ?_
  refine gX6_2 dX6_copyFrom_31 flX6_19 h.l.lt0 h.l.2.1 (h.l.f 2 (by decide)) ?_
  refine LW_iconst (v := 0) dX6_copyFrom_34 (by decide) ?_
  refine LW_aloadn 0 dX6_copyFrom_35 rfl rfl ?_
  refine gX6_2 dX6_copyFrom_36 flX6_19 hS.lt0 hS.2.1 (hS.f 2 (by decide)) ?_
  refine LW_iconst (v := 0) dX6_copyFrom_39 (by decide) ?_
  refine LW_iconst (v := 4) dX6_copyFrom_40 (by decide) ?_
  refine LW_copyi (N := 4) dX6_copyFrom_41 mlX6_79 (h.l.lt 3 (by decide)) h.l.2.2.2.2.1 (hS.lt 3 (by decide)) hS.2.2.2.2.1 rfl (Nat.le_of_ble_eq_true rfl) (by decide) (Nat.le_of_ble_eq_true rfl) ?_
  generalize hI41 : hc_r I27 (s + 3) (I27 (t + 3)) = I41
  refine LW_aloadn 1 dX6_copyFrom_44 rfl rfl ?_
  refine gX6_3 dX6_copyFrom_45 flX6_22 h.l.lt0 h.l.2.1 (h.l.f 3 (by decide)) ?_
  refine LW_iconst (v := 0) dX6_copyFrom_48 (by decide) ?_
  refine LW_aloadn 0 dX6_copyFrom_49 rfl rfl ?_
  refine gX6_3 dX6_copyFrom_50 flX6_22 hS.lt0 hS.2.1 (hS.f 3 (by decide)) ?_
  refine LW_iconst (v := 0) dX6_copyFrom_53 (by decide) ?_
  refine LW_bipush (v := 12) dX6_copyFrom_54 (by decide) ?_
  refine LW_copyl (N := 12) dX6_copyFrom_56 mlX6_79 (h.l.lt 4 (by decide)) h.l.2.2.2.2.2.1 (hS.lt 4 (by decide)) hS.2.2.2.2.2.1 rfl (Nat.le_of_ble_eq_true rfl) (by decide) (Nat.le_of_ble_eq_true rfl) ?_
  generalize hL56 : hc_r L12 (s + 4) (L12 (t + 4)) = L56
  refine LW_aloadn 1 dX6_copyFrom_59 rfl rfl ?_
  refine gX6_6 dX6_copyFrom_60 flX6_32 h.l.lt0 h.l.2.1 (h.l.f 6 (by decide)) ?_
  refine LW_iconst (v := 0) dX6_copyFrom_63 (by decide) ?_
  refine LW_aloadn 0 dX6_copyFrom_64 rfl rfl ?_
  refine gX6_6 dX6_copyFrom_65 flX6_32 hS.lt0 hS.2.1 (hS.f 6 (by decide)) ?_
  refine LW_iconst (v := 0) dX6_copyFrom_68 (by decide) ?_
  refine LW_bipush (v := 12) dX6_copyFrom_69 (by decide) ?_
  refine LW_copyi (N := 12) dX6_copyFrom_71 mlX6_79 (h.l.lt 7 (by decide)) h.l.2.2.2.2.2.2.2.2.1 (hS.lt 7 (by decide)) hS.2.2.2.2.2.2.2.2.1 rfl (Nat.le_of_ble_eq_true rfl) (by decide) (Nat.le_of_ble_eq_true rfl) ?_
  generalize hI71 : hc_r I41 (s + 7) (I41 (t + 7)) = I71
  refine LW_iconst (v := 0) dX6_copyFrom_74 (by decide) ?_
  refine LW_istoren (ls' := [(0, .ref s), (1, .ref t), (2, .int 0)]) dX6_copyFrom_75 rfl (by decide) rfl ?_
  have hL56f : ∀ z, ¬ (s ≤ z ∧ z < s + 18) → L56 z = L z := fun z hz => by rw [← hL56, hc_r_ne _ _ _ (by omega), ← hL12, hc_r_ne _ _ _ (by omega)]
  have k1 : L56 (s + 1) = L (t + 1) := by rw [← hL56, hc_r_ne _ _ _ (by omega), ← hL12, hc_r_eq]
  have k4 : L56 (s + 4) = L (t + 4) := by rw [← hL56, hc_r_eq, ← hL12, hc_r_ne _ _ _ (by omega)]
  have loopb : ∀ i, i ≤ 12 → ∀ I2 : hc_I, (∀ z, ¬ (s ≤ z ∧ z < s + 18) → I2 z = I z) → (I2 (s + 2) = I (t + 2)) → (I2 (s + 3) = I (t + 3)) → (I2 (s + 7) = I (t + 7)) → (∀ j, j < i → I2 (s + 5) j = vp_nar .boolean (I (t + 5) j)) → (∀ j, j < i → I2 (s + 6) j = vp_nar .boolean (I (t + 6) j)) → (∀ j, j < i → I2 (s + 10) j = vp_nar .boolean (I (t + 10) j)) → LW xX6_copyFrom (0, 0) 76 [(0, .ref s), (1, .ref t), (2, .int (nI i))] [] Λ I2 L56 R (Qf (fun z => s ≤ z ∧ z < s + 18) (fun z => s ≤ z ∧ z < s + 18) (fun z => z = s + 8 ∨ z = s + 9) none (fun I' L' R' => St Λ I' L' R' s A) Λ I L R) := by
    refine hc_down ?_ ?_
    · intro I2 hI k2 k3 k7 k5 k6 k10
      refine LW_iloadn 2 dX6_copyFrom_76 rfl rfl ?_
      refine LW_bipush (v := 12) dX6_copyFrom_77 (by decide) ?_
      refine LW_icmp_ge (tgt := 124) dX6_copyFrom_79 (by decide) (fun c79 => ?_) (fun c79 => absurd (Int32.le_refl _) c79)
      exact mid I2 L56 hI hL56f k1 k2 k3 k4 k7 k5 k6 k10
    · intro i hi0 ih I2 hI k2 k3 k7 k5 k6 k10
      refine LW_iloadn 2 dX6_copyFrom_76 rfl rfl ?_
      refine LW_bipush (v := 12) dX6_copyFrom_77 (by decide) ?_
      refine LW_icmp_ge (tgt := 124) dX6_copyFrom_79 (by decide) (fun c79 => absurd c79 (hc_nle (a := 12) (by omega) (by omega) hi0)) (fun c79 => ?_)
      refine LW_aloadn 0 dX6_copyFrom_82 rfl rfl ?_
      refine gX6_4 dX6_copyFrom_83 flX6_25 hS.lt0 hS.2.1 (hS.f 4 (by decide)) ?_
      refine LW_iloadn 2 dX6_copyFrom_86 rfl rfl ?_
      refine LW_aloadn 1 dX6_copyFrom_87 rfl rfl ?_
      refine gX6_4 dX6_copyFrom_88 flX6_25 h.l.lt0 h.l.2.1 (h.l.f 4 (by decide)) ?_
      refine LW_iloadn 2 dX6_copyFrom_91 rfl rfl ?_
      refine LW_zald dX6_copyFrom_92 (h.l.lt 5 (by decide)) h.l.2.2.2.2.2.2.1 rfl (by omega) (Nat.le_of_ble_eq_true rfl) ?_
      refine LW_zast dX6_copyFrom_93 (hS.lt 5 (by decide)) hS.2.2.2.2.2.2.1 rfl (by omega) (Nat.le_of_ble_eq_true rfl) ?_
      generalize hI93 : hc_u I2 (s + 5) i (vp_nar .boolean (I2 (t + 5) i)) = I93
      refine LW_aloadn 0 dX6_copyFrom_94 rfl rfl ?_
      refine gX6_5 dX6_copyFrom_95 flX6_29 hS.lt0 hS.2.1 (hS.f 5 (by decide)) ?_
      refine LW_iloadn 2 dX6_copyFrom_98 rfl rfl ?_
      refine LW_aloadn 1 dX6_copyFrom_99 rfl rfl ?_
      refine gX6_5 dX6_copyFrom_100 flX6_29 h.l.lt0 h.l.2.1 (h.l.f 5 (by decide)) ?_
      refine LW_iloadn 2 dX6_copyFrom_103 rfl rfl ?_
      refine LW_zald dX6_copyFrom_104 (h.l.lt 6 (by decide)) h.l.2.2.2.2.2.2.2.1 rfl (by omega) (Nat.le_of_ble_eq_true rfl) ?_
      refine LW_zast dX6_copyFrom_105 (hS.lt 6 (by decide)) hS.2.2.2.2.2.2.2.1 rfl (by omega) (Nat.le_of_ble_eq_true rfl) ?_
      generalize hI105 : hc_u I93 (s + 6) i (vp_nar .boolean (I93 (t + 6) i)) = I105
      refine LW_aloadn 0 dX6_copyFrom_106 rfl rfl ?_
      refine gX6_9 dX6_copyFrom_107 flX6_47 hS.lt0 hS.2.1 (hS.f 9 (by decide)) ?_
      refine LW_iloadn 2 dX6_copyFrom_110 rfl rfl ?_
      refine LW_aloadn 1 dX6_copyFrom_111 rfl rfl ?_
      refine gX6_9 dX6_copyFrom_112 flX6_47 h.l.lt0 h.l.2.1 (h.l.f 9 (by decide)) ?_
      refine LW_iloadn 2 dX6_copyFrom_115 rfl rfl ?_
      refine LW_zald dX6_copyFrom_116 (h.l.lt 10 (by decide)) h.l.2.2.2.2.2.2.2.2.2.2.2.1 rfl (by omega) (Nat.le_of_ble_eq_true rfl) ?_
      refine LW_zast dX6_copyFrom_117 (hS.lt 10 (by decide)) hS.2.2.2.2.2.2.2.2.2.2.2.1 rfl (by omega) (Nat.le_of_ble_eq_true rfl) ?_
      generalize hI117 : hc_u I105 (s + 10) i (vp_nar .boolean (I105 (t + 10) i)) = I117
      refine LW_iinc (n := 2) (v := nI (i + 1)) (ls' := [(0, .ref s), (1, .ref t), (2, .int (nI (i + 1)))]) dX6_copyFrom_118 rfl (hc_inc _) (by decide) rfl ?_
      refine LW_goto (tgt := 76) dX6_copyFrom_121 (by decide) ?_
      have g5 : I2 (t + 5) = I (t + 5) := hI _ (by omega)
      have g6 : I93 (t + 6) = I (t + 6) := by rw [← hI93, hc_u_row _ _ _ _ (by omega), hI _ (by omega)]
      have g10 : I105 (t + 10) = I (t + 10) := by rw [← hI105, hc_u_row _ _ _ _ (by omega), ← hI93, hc_u_row _ _ _ _ (by omega), hI _ (by omega)]
      exact ih _ (fun z hz => by rw [← hI117, hc_u_row _ _ _ _ (by omega), ← hI105, hc_u_row _ _ _ _ (by omega), ← hI93, hc_u_row _ _ _ _ (by omega)]; exact hI z hz) (by rw [← hI117, hc_u_row _ _ _ _ (by omega), ← hI105, hc_u_row _ _ _ _ (by omega), ← hI93, hc_u_row _ _ _ _ (by omega)]; exact k2) (by rw [← hI117, hc_u_row _ _ _ _ (by omega), ← hI105, hc_u_row _ _ _ _ (by omega), ← hI93, hc_u_row _ _ _ _ (by omega)]; exact k3) (by rw [← hI117, hc_u_row _ _ _ _ (by omega), ← hI105, hc_u_row _ _ _ _ (by omega), ← hI93, hc_u_row _ _ _ _ (by omega)]; exact k7) (fun j hj => by
        rw [← hI117, hc_u_row _ _ _ _ (by omega), ← hI105, hc_u_row _ _ _ _ (by omega), ← hI93, hc_u_at]
        by_cases c : j = i
        · rw [if_pos c, c, g5]
        · rw [if_neg c]; exact k5 j (by omega)) (fun j hj => by
        rw [← hI117, hc_u_row _ _ _ _ (by omega), ← hI105, hc_u_at]
        by_cases c : j = i
        · rw [if_pos c, c, g6]
        · rw [if_neg c]; rw [← hI93, hc_u_row _ _ _ _ (by omega)]; exact k6 j (by omega)) (fun j hj => by
        rw [← hI117, hc_u_at]
        by_cases c : j = i
        · rw [if_pos c, c, g10]
        · rw [if_neg c]; rw [← hI105, hc_u_row _ _ _ _ (by omega), ← hI93, hc_u_row _ _ _ _ (by omega)]; exact k10 j (by omega))
  exact loopb 0 (Nat.zero_le _) I71 (fun z hz => by rw [← hI71, hc_r_ne _ _ _ (by omega), ← hI41, hc_r_ne _ _ _ (by omega), ← hI27, hc_r_ne _ _ _ (by omega)])
    (by rw [← hI71, hc_r_ne _ _ _ (by omega), ← hI41, hc_r_ne _ _ _ (by omega), ← hI27, hc_r_eq])
    (by rw [← hI71, hc_r_ne _ _ _ (by omega), ← hI41, hc_r_eq, ← hI27, hc_r_ne _ _ _ (by omega)])
    (by rw [← hI71, hc_r_eq, ← hI41, hc_r_ne _ _ _ (by omega), ← hI27, hc_r_ne _ _ _ (by omega)])
    (fun j hj => absurd hj (Nat.not_lt_zero _)) (fun j hj => absurd hj (Nat.not_lt_zero _)) (fun j hj => absurd hj (Nat.not_lt_zero _))
