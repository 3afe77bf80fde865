/-! the reference reads: its world at a token -/
def LxJ (j : Nat) : Prop := 23 ≤ j ∧ j ≤ 31
/-- what reading tokens changes -/
def LxFr (I I' : hc_I) (L L' : hc_J) : Prop := (∀ z, z ≠ 217 → I' z = I z) ∧ (∀ j, ¬ LxJ j → I' 217 j = I 217 j) ∧ ∀ z, z ≠ 217 → L' z = L z
theorem LxFr.rf {I : hc_I} {L : hc_J} : LxFr I I L L := ⟨fun _ _ => rfl, fun _ _ => rfl, fun _ _ => rfl⟩
theorem LxFr.trans {I I1 I2 : hc_I} {L L1 L2 : hc_J} (a : LxFr I I1 L L1) (b : LxFr I1 I2 L1 L2) : LxFr I I2 L L2 := ⟨fun z hz => (b.1 z hz).trans (a.1 z hz), fun j hj => (b.2.1 j hj).trans (a.2.1 j hj), fun z hz => (b.2.2 z hz).trans (a.2.2 z hz)⟩
def rfJ (z j : Nat) : Prop := (z = 221 ∧ j < 144) ∨ (z = 222 ∧ j < 64) ∨ (z = 223 ∧ j < 4) ∨ (z = 224 ∧ j < 3) ∨ (z = 226 ∧ j < 700) ∨ (z = 217 ∧ (j = 2 ∨ j = 10 ∨ j = 20 ∨ j = 21 ∨ j = 22 ∨ j = 35))
def rfZ (z : Nat) : Prop := z ≠ 217 ∧ ¬ (221 ≤ z ∧ z ≤ 224) ∧ z ≠ 226
def rfL (z j : Nat) : Prop := (z = 220 ∧ j < 12) ∨ (z = 225 ∧ j < 700)
def rfY (z : Nat) : Prop := z ≠ 217 ∧ z ≠ 220 ∧ z ≠ 225
/-- what a reader leaves as it was -/
def RFr (I I' : hc_I) (L L' : hc_J) : Prop := (∀ z, rfZ z → I' z = I z) ∧ (∀ z j, rfJ z j → I' z j = I z j) ∧ (∀ z, rfY z → L' z = L z) ∧ ∀ z j, rfL z j → L' z j = L z j
theorem RFr.rf {I : hc_I} {L : hc_J} : RFr I I L L := ⟨fun _ _ => rfl, fun _ _ _ => rfl, fun _ _ => rfl, fun _ _ _ => rfl⟩
theorem RFr.trans {I I1 I2 : hc_I} {L L1 L2 : hc_J} (a : RFr I I1 L L1) (b : RFr I1 I2 L1 L2) : RFr I I2 L L2 := ⟨fun z hz => (b.1 z hz).trans (a.1 z hz), fun z j hj => (b.2.1 z j hj).trans (a.2.1 z j hj), fun z hz => (b.2.2.1 z hz).trans (a.2.2.1 z hz), fun z j hj => (b.2.2.2 z j hj).trans (a.2.2.2 z j hj)⟩
theorem LxFr.r {I I' : hc_I} {L L' : hc_J} (a : LxFr I I' L L') : RFr I I' L L' := by
  refine ⟨fun z hz => a.1 z hz.1, fun z j hj => ?_, fun z hz => a.2.2 z hz.1, fun z j hj => ?_⟩
  · by_cases h : z = 217
    · subst h
      exact a.2.1 j (by unfold rfJ at hj; unfold LxJ; omega)
    · rw [a.1 z h]
  · rw [a.2.2 z (by unfold rfL at hj; omega)]
/-- the reader looks at token i; nothing is refused so far -/
def TK (I0 : hc_I) (L0 : hc_J) (n : Nat) (B : Nat → Nat) (Λ : hc_L) (I : hc_I) (L : hc_J) (i : Nat) : Prop := LY Λ ∧ RFr I0 I L0 L ∧ TpB I n B ∧ LxAt I L n B (tp B n i) ∧ I 217 23 = 0 ∧ I 217 24 = -1
/-- refused: which, at which token -/
def TF (I0 : hc_I) (L0 : hc_J) (n : Nat) (B : Nat → Nat) (Λ : hc_L) (I : hc_I) (L : hc_J) (e : Nat × Nat) : Prop := LY Λ ∧ RFr I0 I L0 L ∧ (I 217 23 = nI e.1 ∧ 0 < e.1 ∧ e.1 < 6) ∧ I 217 24 = nI (tp B n e.2)
section TKA
variable {Λ : hc_L} {I : hc_I} {L : hc_J} {I0 : hc_I} {L0 : hc_J} {n i : Nat} {B : Nat → Nat}
theorem TK.y (h : TK I0 L0 n B Λ I L i) : LY Λ := h.1
theorem TK.b (h : TK I0 L0 n B Λ I L i) : ∀ j, j < n → B j < 256 := fun j hj => (h.2.2.1.2.2 j hj).2
theorem TK.n7 (h : TK I0 L0 n B Λ I L i) : n ≤ 700 := h.2.2.1.2.1
theorem TK.q (_h : TK I0 L0 n B Λ I L i) : tp B n i ≤ n := tp_le B n i
theorem TK.x (h : TK I0 L0 n B Λ I L i) : LxAt I L n B (tp B n i) := h.2.2.2.1
/-- the same token, other draft -/
theorem TK.kp {I' : hc_I} {L' : hc_J} (h : TK I0 L0 n B Λ I L i) (f : RFr I I' L L') (g : ∀ j, LxJ j → I' 217 j = I 217 j) (g2 : L' 217 = L 217) : TK I0 L0 n B Λ I' L' i := by
  obtain ⟨h1, h2, h3, h4, h5⟩ := h
  refine ⟨h1, h2.trans f, ⟨(f.2.1 217 20 (Or.inr (Or.inr (Or.inr (Or.inr (Or.inr ⟨rfl, by decide⟩)))))).trans h3.1, h3.2.1, fun j hj => by rw [f.1 227 ⟨by decide, by decide, by decide⟩]; exact h3.2.2 j hj⟩, ?_, (g 23 ⟨by decide, by decide⟩).trans h5.1, (g 24 ⟨by decide, by decide⟩).trans h5.2⟩
  obtain ⟨x1, x2, x3, x4, x5, x6⟩ := h4
  exact ⟨(g 26 ⟨by decide, by decide⟩).trans x1, (g 27 ⟨by decide, by decide⟩).trans x2, (g 25 ⟨by decide, by decide⟩).trans x3, by rw [g2]; exact x4, (g 29 ⟨by decide, by decide⟩).trans x5, (g 30 ⟨by decide, by decide⟩).trans x6⟩
end TKA
/-! sorts and kinds -/
theorem srt_le (B : Nat → Nat) (n q : Nat) : srt B n q ≤ 3 := by unfold srt; split <;> (try split) <;> (try split) <;> omega
theorem srt_2 {B : Nat → Nat} {n q : Nat} : srt B n q = 2 ↔ (q < n ∧ isL (B q) = false ∧ isD (B q) = true) := by
  unfold srt
  by_cases h : q < n
  · rw [if_pos h]
    by_cases c : isL (B q) = true
    · rw [if_pos c]; exact ⟨fun z => by omega, fun z => by rw [c] at z; exact absurd z.2.1 (by decide)⟩
    · rw [if_neg c]
      by_cases d : isD (B q) = true
      · rw [if_pos d]; exact ⟨fun _ => ⟨h, eq_false_of_ne_true c, d⟩, fun _ => rfl⟩
      · rw [if_neg d]; exact ⟨fun z => by omega, fun z => absurd z.2.2 d⟩
  · rw [if_neg h]; exact ⟨fun z => by omega, fun z => absurd z.1 h⟩
theorem srt_3 {B : Nat → Nat} {n q : Nat} : srt B n q = 3 ↔ (q < n ∧ isL (B q) = false ∧ isD (B q) = false) := by
  unfold srt
  by_cases h : q < n
  · rw [if_pos h]
    by_cases c : isL (B q) = true
    · rw [if_pos c]; exact ⟨fun z => by omega, fun z => by rw [c] at z; exact absurd z.2.1 (by decide)⟩
    · rw [if_neg c]
      by_cases d : isD (B q) = true
      · rw [if_pos d]; exact ⟨fun z => by omega, fun z => by rw [d] at z; exact absurd z.2.2 (by decide)⟩
      · rw [if_neg d]; exact ⟨fun _ => ⟨h, eq_false_of_ne_true c, eq_false_of_ne_true d⟩, fun _ => rfl⟩
  · rw [if_neg h]; exact ⟨fun z => by omega, fun z => absurd z.1 h⟩
theorem srt_0 {B : Nat → Nat} {n q : Nat} : srt B n q = 0 ↔ ¬ q < n := by
  unfold srt
  by_cases h : q < n
  · rw [if_pos h]
    exact ⟨fun z => (by split at z <;> (try split at z) <;> omega), fun z => absurd h z⟩
  · rw [if_neg h]; exact ⟨fun _ => h, fun _ => rfl⟩
theorem tkK_2 {B : Nat → Nat} {n q : Nat} (h : srt B n q = 2) : tkK B n q = if 8 < tkE B n q - q then 2002 else 2001 := by
  obtain ⟨h1, h2, h3⟩ := srt_2.mp h
  unfold tkK
  rw [if_pos h1, if_neg (by rw [h2]; decide), if_pos h3]
theorem tkK_3 {B : Nat → Nat} {n q : Nat} (h : srt B n q = 3) : tkK B n q = B q := by
  obtain ⟨h1, h2, h3⟩ := srt_3.mp h
  unfold tkK
  rw [if_pos h1, if_neg (by rw [h2]; decide), if_neg (by rw [h3]; decide)]
theorem tkK_0 {B : Nat → Nat} {n q : Nat} (h : srt B n q = 0) : tkK B n q = 2003 := by
  unfold tkK
  rw [if_neg (srt_0.mp h)]
/-- which sort, and what is told of its kind -/
theorem tk_all {B : Nat → Nat} {n q : Nat} (hB : ∀ j, j < n → B j < 256) : (srt B n q = 0 ∧ tkK B n q = 2003) ∨ (srt B n q = 1 ∧ ((7 < tkE B n q - q ∧ tkK B n q = 2002) ∨ (tkE B n q - q ≤ 7 ∧ tkK B n q = wkd (wdV B q (tkE B n q - q)) ∧ 1000 ≤ tkK B n q ∧ tkK B n q ≤ 2000 ∧ (tkK B n q < 1018 ∨ tkK B n q = 2000)))) ∨ (srt B n q = 2 ∧ ((8 < tkE B n q - q ∧ tkK B n q = 2002) ∨ (tkE B n q - q ≤ 8 ∧ tkK B n q = 2001))) ∨ (srt B n q = 3 ∧ tkK B n q = B q ∧ B q < 256) := by
  have h3 := srt_le B n q
  rcases (show srt B n q = 0 ∨ srt B n q = 1 ∨ srt B n q = 2 ∨ srt B n q = 3 by omega) with s | s | s | s
  · exact Or.inl ⟨s, tkK_0 s⟩
  · refine Or.inr (Or.inl ⟨s, ?_⟩)
    have e := tkK_1 s
    by_cases c : 7 < tkE B n q - q
    · rw [if_pos c] at e; exact Or.inl ⟨c, e⟩
    · rw [if_neg c] at e
      refine Or.inr ⟨by omega, e, ?_⟩
      rcases wkd_r (wdV B q (tkE B n q - q)) with z | ⟨z1, z2, -⟩ <;> omega
  · refine Or.inr (Or.inr (Or.inl ⟨s, ?_⟩))
    have e := tkK_2 s
    by_cases c : 8 < tkE B n q - q
    · rw [if_pos c] at e; exact Or.inl ⟨c, e⟩
    · rw [if_neg c] at e; exact Or.inr ⟨by omega, e⟩
  · exact Or.inr (Or.inr (Or.inr ⟨s, tkK_3 s, hB _ (srt_3.mp s).1⟩))
section TKS
variable {B : Nat → Nat} {n i : Nat}
theorem kd_0 (hB : ∀ j, j < n → B j < 256) : kd B n i = 2003 ↔ srt B n (tp B n i) = 0 := by
  have h := tk_all (q := tp B n i) hB
  show tkK B n (tp B n i) = 2003 ↔ _
  omega
theorem kd_2 (hB : ∀ j, j < n → B j < 256) : kd B n i = 2001 ↔ (srt B n (tp B n i) = 2 ∧ tkE B n (tp B n i) - tp B n i ≤ 8) := by
  have h := tk_all (q := tp B n i) hB
  show tkK B n (tp B n i) = 2001 ↔ _
  omega
theorem kd_3 (hB : ∀ j, j < n → B j < 256) {c : Nat} (hc : c < 256) : kd B n i = c ↔ (srt B n (tp B n i) = 3 ∧ B (tp B n i) = c) := by
  have h := tk_all (q := tp B n i) hB
  show tkK B n (tp B n i) = c ↔ _
  omega
theorem kd_1 (hB : ∀ j, j < n → B j < 256) : kd B n i = 2000 ↔ (srt B n (tp B n i) = 1 ∧ tkE B n (tp B n i) - tp B n i ≤ 7 ∧ ¬ (1000 ≤ kd B n i ∧ kd B n i < 1018)) := by
  have h := tk_all (q := tp B n i) hB
  show tkK B n (tp B n i) = 2000 ↔ (_ ∧ _ ∧ ¬ (1000 ≤ tkK B n (tp B n i) ∧ tkK B n (tp B n i) < 1018))
  omega
end TKS
theorem vl_2 {B : Nat → Nat} {n i : Nat} (h : srt B n (tp B n i) = 2) : vl B n i = nmV B (tp B n i) (tkE B n (tp B n i) - tp B n i) := by
  obtain ⟨h1, h2, h3⟩ := srt_2.mp h
  unfold vl tkV
  rw [if_pos h1, if_neg (by rw [h2]; decide), if_pos h3]
theorem vl_1 {B : Nat → Nat} {n i : Nat} (h : srt B n (tp B n i) = 1) : vl B n i = wdV B (tp B n i) (tkE B n (tp B n i) - tp B n i) := by
  obtain ⟨h1, h2⟩ := srt_1.mp h
  unfold vl tkV
  rw [if_pos h1, if_pos h2]
section TKV
variable {Λ : hc_L} {I : hc_I} {L : hc_J} {I0 : hc_I} {L0 : hc_J} {n i : Nat} {B : Nat → Nat}
theorem TK.num (h : TK I0 L0 n B Λ I L i) (hk : kd B n i = 2001) : I 217 29 = nI (vl B n i) := by
  obtain ⟨s, l⟩ := (kd_2 h.b).mp hk
  rw [h.x.2.2.2.2.1, if_pos s, vl_2 s, Nat.min_eq_right l]
theorem TK.wd (h : TK I0 L0 n B Λ I L i) (hk : kd B n i = 2000) : L 217 28 = lN (vl B n i) := by
  obtain ⟨s, l, -⟩ := (kd_1 h.b).mp hk
  rw [h.x.2.2.2.1, if_pos s, vl_1 s, Nat.min_eq_right l]
theorem TK.srt (h : TK I0 L0 n B Λ I L i) : I 217 25 = nI (srt B n (tp B n i)) := h.x.2.2.1
theorem TK.len (h : TK I0 L0 n B Λ I L i) : nI (tkE B n (tp B n i)) - nI (tp B n i) = nI (tkE B n (tp B n i) - tp B n i) := nI_sb (tkE_le h.q).1
end TKV
theorem r_isW {Λ : hc_L} {I : hc_I} {L : hc_J} {R : hc_R} {I0 : hc_I} {L0 : hc_J} {n i : Nat} {B : Nat → Nat} (hT : TK I0 L0 n B Λ I L i) {j k : Nat} (h1 : 1 ≤ j) (h2 : j < 19) (hk : 1000 + wI j = k) : Run xX11_isWord [.ref 217, .ref (1000000 + j)] Λ I L R (Qr (some (.int (hc_b (decide (kd B n i = k))))) Λ I L R) := by
  subst hk
  exact r_isWord hT.y hT.b hT.n7 hT.q hT.x h1 h2
def askV (k : Nat) : Int32 := if k = 1011 then 0 else if k = 1002 then 1 else if k = 1012 then 2 else if k = 1003 then 3 else -1
theorem askV_no {k : Nat} : askV k = -1 ↔ (k ≠ 1011 ∧ k ≠ 1002 ∧ k ≠ 1012 ∧ k ≠ 1003) := by
  unfold askV
  by_cases a : k = 1011
  · rw [if_pos a]; exact ⟨fun z => absurd z (by decide), fun z => absurd a z.1⟩
  by_cases b : k = 1002
  · rw [if_neg a, if_pos b]; exact ⟨fun z => absurd z (by decide), fun z => absurd b z.2.1⟩
  by_cases c : k = 1012
  · rw [if_neg a, if_neg b, if_pos c]; exact ⟨fun z => absurd z (by decide), fun z => absurd c z.2.2.1⟩
  by_cases d : k = 1003
  · rw [if_neg a, if_neg b, if_neg c, if_pos d]; exact ⟨fun z => absurd z (by decide), fun z => absurd d z.2.2.2⟩
  rw [if_neg a, if_neg b, if_neg c, if_neg d]
  exact ⟨fun _ => ⟨a, b, c, d⟩, fun _ => rfl⟩
set_option maxRecDepth 100000 in
theorem r_askedHere {Λ : hc_L} {I : hc_I} {L : hc_J} {R : hc_R} {I0 : hc_I} {L0 : hc_J} {n i : Nat} {B : Nat → Nat} (hT : TK I0 L0 n B Λ I L i) : Run xX11_askedHere [.ref 217] Λ I L R (Qr (some (.int (askV (kd B n i)))) Λ I L R) := by
  refine Run.of (by decide +kernel) (Nat.le_of_ble_eq_true rfl) ?_
  show LW _ _ _ [(0, .ref 217)] _ _ _ _ _ _
  have hY := hT.y
  refine LW_aloadn 0 dX11_askedHere_0 rfl rfl ?_
  refine LW_ldcS (i := 2) dX11_askedHere_1 rfl ?_
  refine LW_callV (As := [.ref (1000000 + 2)]) (b := 217) (st := []) (ci := 11) (r := (RX11, TX11, 44)) (r_isW hT (j := 2) (k := 1011) (by decide) (by decide) rfl) YX11_isWord rfl dX11_askedHere_3 mlX11_183 (hY.lt (k := 217) (by decide)) (ly217 hY) ⟨rfl, rfl⟩ (by decide) ⟨Nat.le_of_ble_eq_true rfl, Nat.le_of_ble_eq_true rfl⟩ (Nat.le_of_ble_eq_true rfl) rfl (fun r3 Λc3 Ic3 Lc3 Rc3 hq3 => ?_)
  obtain ⟨rfl, rfl, rfl, rfl, rfl⟩ := hq3
  refine LW_bif_eq (tgt := 13) dX11_askedHere_6 (by decide) (fun c6 => ?_) (fun c6 => ?_)
  · refine LW_aloadn 0 dX11_askedHere_13 rfl rfl ?_
    refine LW_ldcS (i := 3) dX11_askedHere_14 rfl ?_
    refine LW_callV (As := [.ref (1000000 + 3)]) (b := 217) (st := []) (ci := 11) (r := (RX11, TX11, 44)) (r_isW hT (j := 3) (k := 1002) (by decide) (by decide) rfl) YX11_isWord rfl dX11_askedHere_16 mlX11_183 (hY.lt (k := 217) (by decide)) (ly217 hY) ⟨rfl, rfl⟩ (by decide) ⟨Nat.le_of_ble_eq_true rfl, Nat.le_of_ble_eq_true rfl⟩ (Nat.le_of_ble_eq_true rfl) rfl (fun r16 Λc16 Ic16 Lc16 Rc16 hq16 => ?_)
    obtain ⟨rfl, rfl, rfl, rfl, rfl⟩ := hq16
    refine LW_bif_eq (tgt := 26) dX11_askedHere_19 (by decide) (fun c19 => ?_) (fun c19 => ?_)
    · refine LW_aloadn 0 dX11_askedHere_26 rfl rfl ?_
      refine LW_ldcS (i := 4) dX11_askedHere_27 rfl ?_
      refine LW_callV (As := [.ref (1000000 + 4)]) (b := 217) (st := []) (ci := 11) (r := (RX11, TX11, 44)) (r_isW hT (j := 4) (k := 1012) (by decide) (by decide) rfl) YX11_isWord rfl dX11_askedHere_29 mlX11_183 (hY.lt (k := 217) (by decide)) (ly217 hY) ⟨rfl, rfl⟩ (by decide) ⟨Nat.le_of_ble_eq_true rfl, Nat.le_of_ble_eq_true rfl⟩ (Nat.le_of_ble_eq_true rfl) rfl (fun r29 Λc29 Ic29 Lc29 Rc29 hq29 => ?_)
      obtain ⟨rfl, rfl, rfl, rfl, rfl⟩ := hq29
      refine LW_bif_eq (tgt := 39) dX11_askedHere_32 (by decide) (fun c32 => ?_) (fun c32 => ?_)
      · refine LW_aloadn 0 dX11_askedHere_39 rfl rfl ?_
        refine LW_ldcS (i := 5) dX11_askedHere_40 rfl ?_
        refine LW_callV (As := [.ref (1000000 + 5)]) (b := 217) (st := []) (ci := 11) (r := (RX11, TX11, 44)) (r_isW hT (j := 5) (k := 1003) (by decide) (by decide) rfl) YX11_isWord rfl dX11_askedHere_42 mlX11_183 (hY.lt (k := 217) (by decide)) (ly217 hY) ⟨rfl, rfl⟩ (by decide) ⟨Nat.le_of_ble_eq_true rfl, Nat.le_of_ble_eq_true rfl⟩ (Nat.le_of_ble_eq_true rfl) rfl (fun r42 Λc42 Ic42 Lc42 Rc42 hq42 => ?_)
        obtain ⟨rfl, rfl, rfl, rfl, rfl⟩ := hq42
        refine LW_bif_eq (tgt := 52) dX11_askedHere_45 (by decide) (fun c45 => ?_) (fun c45 => ?_)
        · refine LW_iconst (v := -1) dX11_askedHere_52 (by decide) ?_
          refine LW_iret dX11_askedHere_53 rfl (Nat.le_of_ble_eq_true rfl) (Nat.le_of_ble_eq_true rfl) ?_
          refine Qr.mk ?_
          simp only [decide_eq_true_eq, decide_eq_false_iff_not] at *
          unfold askV
          first
            | (rw [if_pos (by omega)])
            | (rw [if_neg (by omega), if_pos (by omega)])
            | (rw [if_neg (by omega), if_neg (by omega), if_pos (by omega)])
            | (rw [if_neg (by omega), if_neg (by omega), if_neg (by omega), if_pos (by omega)])
            | (rw [if_neg (by omega), if_neg (by omega), if_neg (by omega), if_neg (by omega)])
        · refine LW_iconst (v := 3) dX11_askedHere_48 (by decide) ?_
          refine LW_goto (tgt := 53) dX11_askedHere_49 (by decide) ?_
          refine LW_iret dX11_askedHere_53 rfl (Nat.le_of_ble_eq_true rfl) (Nat.le_of_ble_eq_true rfl) ?_
          refine Qr.mk ?_
          simp only [decide_eq_true_eq, decide_eq_false_iff_not] at *
          unfold askV
          first
            | (rw [if_pos (by omega)])
            | (rw [if_neg (by omega), if_pos (by omega)])
            | (rw [if_neg (by omega), if_neg (by omega), if_pos (by omega)])
            | (rw [if_neg (by omega), if_neg (by omega), if_neg (by omega), if_pos (by omega)])
            | (rw [if_neg (by omega), if_neg (by omega), if_neg (by omega), if_neg (by omega)])
      · refine LW_iconst (v := 2) dX11_askedHere_35 (by decide) ?_
        refine LW_goto (tgt := 53) dX11_askedHere_36 (by decide) ?_
        refine LW_iret dX11_askedHere_53 rfl (Nat.le_of_ble_eq_true rfl) (Nat.le_of_ble_eq_true rfl) ?_
        refine Qr.mk ?_
        simp only [decide_eq_true_eq, decide_eq_false_iff_not] at *
        unfold askV
        first
          | (rw [if_pos (by omega)])
          | (rw [if_neg (by omega), if_pos (by omega)])
          | (rw [if_neg (by omega), if_neg (by omega), if_pos (by omega)])
          | (rw [if_neg (by omega), if_neg (by omega), if_neg (by omega), if_pos (by omega)])
          | (rw [if_neg (by omega), if_neg (by omega), if_neg (by omega), if_neg (by omega)])
    · refine LW_iconst (v := 1) dX11_askedHere_22 (by decide) ?_
      refine LW_goto (tgt := 53) dX11_askedHere_23 (by decide) ?_
      refine LW_iret dX11_askedHere_53 rfl (Nat.le_of_ble_eq_true rfl) (Nat.le_of_ble_eq_true rfl) ?_
      refine Qr.mk ?_
      simp only [decide_eq_true_eq, decide_eq_false_iff_not] at *
      unfold askV
      first
        | (rw [if_pos (by omega)])
        | (rw [if_neg (by omega), if_pos (by omega)])
        | (rw [if_neg (by omega), if_neg (by omega), if_pos (by omega)])
        | (rw [if_neg (by omega), if_neg (by omega), if_neg (by omega), if_pos (by omega)])
        | (rw [if_neg (by omega), if_neg (by omega), if_neg (by omega), if_neg (by omega)])
  · refine LW_iconst (v := 0) dX11_askedHere_9 (by decide) ?_
    refine LW_goto (tgt := 53) dX11_askedHere_10 (by decide) ?_
    refine LW_iret dX11_askedHere_53 rfl (Nat.le_of_ble_eq_true rfl) (Nat.le_of_ble_eq_true rfl) ?_
    refine Qr.mk ?_
    simp only [decide_eq_true_eq, decide_eq_false_iff_not] at *
    unfold askV
    first
      | (rw [if_pos (by omega)])
      | (rw [if_neg (by omega), if_pos (by omega)])
      | (rw [if_neg (by omega), if_neg (by omega), if_pos (by omega)])
      | (rw [if_neg (by omega), if_neg (by omega), if_neg (by omega), if_pos (by omega)])
      | (rw [if_neg (by omega), if_neg (by omega), if_neg (by omega), if_neg (by omega)])
theorem not_askV {k : Nat} (h : ¬ askV k = -1) : k = 1011 ∨ k = 1002 ∨ k = 1012 ∨ k = 1003 := by
  rw [askV_no] at h
  omega
set_option maxRecDepth 100000 in
theorem r_isOwn {Λ : hc_L} {I : hc_I} {L : hc_J} {R : hc_R} {I0 : hc_I} {L0 : hc_J} {n i : Nat} {B : Nat → Nat} (hT : TK I0 L0 n B Λ I L i) : Run xX11_isOwn [.ref 217] Λ I L R (Qr (some (.int (hc_b (decide (1000 ≤ kd B n i ∧ kd B n i < 1018))))) Λ I L R) := by
  refine Run.of (by decide +kernel) (Nat.le_of_ble_eq_true rfl) ?_
  show LW _ _ _ [(0, .ref 217)] _ _ _ _ _ _
  have hY := hT.y
  refine LW_aloadn 0 dX11_isOwn_0 rfl rfl ?_
  refine LW_callV (As := []) (b := 217) (st := []) (ci := 11) (r := (RX11, TX11, 44)) (r_askedHere hT) YX11_askedHere rfl dX11_isOwn_1 mlX11_193 (hY.lt (k := 217) (by decide)) (ly217 hY) ⟨rfl, rfl⟩ (by decide) ⟨Nat.le_of_ble_eq_true rfl, Nat.le_of_ble_eq_true rfl⟩ (Nat.le_of_ble_eq_true rfl) rfl (fun r1 Λc1 Ic1 Lc1 Rc1 hq1 => ?_)
  obtain ⟨rfl, rfl, rfl, rfl, rfl⟩ := hq1
  refine LW_iconst (v := -1) dX11_isOwn_4 (by decide) ?_
  refine LW_icmp_ne (tgt := 89) dX11_isOwn_5 (by decide) (fun c5 => ?_) (fun c5 => ?_)
  · refine LW_iconst (v := 1) dX11_isOwn_89 (by decide) ?_
    refine LW_zret dX11_isOwn_90 rfl (Nat.le_of_ble_eq_true rfl) (Nat.le_of_ble_eq_true rfl) (Or.inr rfl) ?_
    try simp only [decide_eq_true_eq, decide_eq_false_iff_not] at *
    first
      | (rw [show decide (1000 ≤ kd B n i ∧ kd B n i < 1018) = true from decide_eq_true (by omega)]; exact Qr.mk rfl)
      | (have hs := not_askV c5
         rw [show decide (1000 ≤ kd B n i ∧ kd B n i < 1018) = true from decide_eq_true (by omega)]; exact Qr.mk rfl)
      | (have hs := askV_no.mp (Classical.not_not.mp c5)
         rw [show decide (1000 ≤ kd B n i ∧ kd B n i < 1018) = false from decide_eq_false (by omega)]; exact Qr.mk rfl)
  · refine LW_aloadn 0 dX11_isOwn_8 rfl rfl ?_
    refine LW_ldcS (i := 1) dX11_isOwn_9 rfl ?_
    refine LW_callV (As := [.ref (1000000 + 1)]) (b := 217) (st := []) (ci := 11) (r := (RX11, TX11, 44)) (r_isW hT (j := 1) (k := 1000) (by decide) (by decide) rfl) YX11_isWord rfl dX11_isOwn_11 mlX11_183 (hY.lt (k := 217) (by decide)) (ly217 hY) ⟨rfl, rfl⟩ (by decide) ⟨Nat.le_of_ble_eq_true rfl, Nat.le_of_ble_eq_true rfl⟩ (Nat.le_of_ble_eq_true rfl) rfl (fun r11 Λc11 Ic11 Lc11 Rc11 hq11 => ?_)
    obtain ⟨rfl, rfl, rfl, rfl, rfl⟩ := hq11
    refine LW_bif_ne (tgt := 89) dX11_isOwn_14 (by decide) (fun c14 => ?_) (fun c14 => ?_)
    · refine LW_iconst (v := 1) dX11_isOwn_89 (by decide) ?_
      refine LW_zret dX11_isOwn_90 rfl (Nat.le_of_ble_eq_true rfl) (Nat.le_of_ble_eq_true rfl) (Or.inr rfl) ?_
      try simp only [decide_eq_true_eq, decide_eq_false_iff_not] at *
      first
        | (rw [show decide (1000 ≤ kd B n i ∧ kd B n i < 1018) = true from decide_eq_true (by omega)]; exact Qr.mk rfl)
        | (have hs := not_askV c5
           rw [show decide (1000 ≤ kd B n i ∧ kd B n i < 1018) = true from decide_eq_true (by omega)]; exact Qr.mk rfl)
        | (have hs := askV_no.mp (Classical.not_not.mp c5)
           rw [show decide (1000 ≤ kd B n i ∧ kd B n i < 1018) = false from decide_eq_false (by omega)]; exact Qr.mk rfl)
    · refine LW_aloadn 0 dX11_isOwn_17 rfl rfl ?_
      refine LW_ldcS (i := 6) dX11_isOwn_18 rfl ?_
      refine LW_callV (As := [.ref (1000000 + 6)]) (b := 217) (st := []) (ci := 11) (r := (RX11, TX11, 44)) (r_isW hT (j := 6) (k := 1001) (by decide) (by decide) rfl) YX11_isWord rfl dX11_isOwn_20 mlX11_183 (hY.lt (k := 217) (by decide)) (ly217 hY) ⟨rfl, rfl⟩ (by decide) ⟨Nat.le_of_ble_eq_true rfl, Nat.le_of_ble_eq_true rfl⟩ (Nat.le_of_ble_eq_true rfl) rfl (fun r20 Λc20 Ic20 Lc20 Rc20 hq20 => ?_)
      obtain ⟨rfl, rfl, rfl, rfl, rfl⟩ := hq20
      refine LW_bif_ne (tgt := 89) dX11_isOwn_23 (by decide) (fun c23 => ?_) (fun c23 => ?_)
      · refine LW_iconst (v := 1) dX11_isOwn_89 (by decide) ?_
        refine LW_zret dX11_isOwn_90 rfl (Nat.le_of_ble_eq_true rfl) (Nat.le_of_ble_eq_true rfl) (Or.inr rfl) ?_
        try simp only [decide_eq_true_eq, decide_eq_false_iff_not] at *
        first
          | (rw [show decide (1000 ≤ kd B n i ∧ kd B n i < 1018) = true from decide_eq_true (by omega)]; exact Qr.mk rfl)
          | (have hs := not_askV c5
             rw [show decide (1000 ≤ kd B n i ∧ kd B n i < 1018) = true from decide_eq_true (by omega)]; exact Qr.mk rfl)
          | (have hs := askV_no.mp (Classical.not_not.mp c5)
             rw [show decide (1000 ≤ kd B n i ∧ kd B n i < 1018) = false from decide_eq_false (by omega)]; exact Qr.mk rfl)
      · refine LW_aloadn 0 dX11_isOwn_26 rfl rfl ?_
        refine LW_ldcS (i := 7) dX11_isOwn_27 rfl ?_
        refine LW_callV (As := [.ref (1000000 + 7)]) (b := 217) (st := []) (ci := 11) (r := (RX11, TX11, 44)) (r_isW hT (j := 7) (k := 1004) (by decide) (by decide) rfl) YX11_isWord rfl dX11_isOwn_29 mlX11_183 (hY.lt (k := 217) (by decide)) (ly217 hY) ⟨rfl, rfl⟩ (by decide) ⟨Nat.le_of_ble_eq_true rfl, Nat.le_of_ble_eq_true rfl⟩ (Nat.le_of_ble_eq_true rfl) rfl (fun r29 Λc29 Ic29 Lc29 Rc29 hq29 => ?_)
        obtain ⟨rfl, rfl, rfl, rfl, rfl⟩ := hq29
        refine LW_bif_ne (tgt := 89) dX11_isOwn_32 (by decide) (fun c32 => ?_) (fun c32 => ?_)
        · refine LW_iconst (v := 1) dX11_isOwn_89 (by decide) ?_
          refine LW_zret dX11_isOwn_90 rfl (Nat.le_of_ble_eq_true rfl) (Nat.le_of_ble_eq_true rfl) (Or.inr rfl) ?_
          try simp only [decide_eq_true_eq, decide_eq_false_iff_not] at *
          first
            | (rw [show decide (1000 ≤ kd B n i ∧ kd B n i < 1018) = true from decide_eq_true (by omega)]; exact Qr.mk rfl)
            | (have hs := not_askV c5
               rw [show decide (1000 ≤ kd B n i ∧ kd B n i < 1018) = true from decide_eq_true (by omega)]; exact Qr.mk rfl)
            | (have hs := askV_no.mp (Classical.not_not.mp c5)
               rw [show decide (1000 ≤ kd B n i ∧ kd B n i < 1018) = false from decide_eq_false (by omega)]; exact Qr.mk rfl)
        · refine LW_aloadn 0 dX11_isOwn_35 rfl rfl ?_
          refine LW_ldcS (i := 8) dX11_isOwn_36 rfl ?_
          refine LW_callV (As := [.ref (1000000 + 8)]) (b := 217) (st := []) (ci := 11) (r := (RX11, TX11, 44)) (r_isW hT (j := 8) (k := 1005) (by decide) (by decide) rfl) YX11_isWord rfl dX11_isOwn_38 mlX11_183 (hY.lt (k := 217) (by decide)) (ly217 hY) ⟨rfl, rfl⟩ (by decide) ⟨Nat.le_of_ble_eq_true rfl, Nat.le_of_ble_eq_true rfl⟩ (Nat.le_of_ble_eq_true rfl) rfl (fun r38 Λc38 Ic38 Lc38 Rc38 hq38 => ?_)
          obtain ⟨rfl, rfl, rfl, rfl, rfl⟩ := hq38
          refine LW_bif_ne (tgt := 89) dX11_isOwn_41 (by decide) (fun c41 => ?_) (fun c41 => ?_)
          · refine LW_iconst (v := 1) dX11_isOwn_89 (by decide) ?_
            refine LW_zret dX11_isOwn_90 rfl (Nat.le_of_ble_eq_true rfl) (Nat.le_of_ble_eq_true rfl) (Or.inr rfl) ?_
            try simp only [decide_eq_true_eq, decide_eq_false_iff_not] at *
            first
              | (rw [show decide (1000 ≤ kd B n i ∧ kd B n i < 1018) = true from decide_eq_true (by omega)]; exact Qr.mk rfl)
              | (have hs := not_askV c5
                 rw [show decide (1000 ≤ kd B n i ∧ kd B n i < 1018) = true from decide_eq_true (by omega)]; exact Qr.mk rfl)
              | (have hs := askV_no.mp (Classical.not_not.mp c5)
                 rw [show decide (1000 ≤ kd B n i ∧ kd B n i < 1018) = false from decide_eq_false (by omega)]; exact Qr.mk rfl)
          · refine LW_aloadn 0 dX11_isOwn_44 rfl rfl ?_
            refine LW_ldcS (i := 9) dX11_isOwn_45 rfl ?_
            refine LW_callV (As := [.ref (1000000 + 9)]) (b := 217) (st := []) (ci := 11) (r := (RX11, TX11, 44)) (r_isW hT (j := 9) (k := 1006) (by decide) (by decide) rfl) YX11_isWord rfl dX11_isOwn_47 mlX11_183 (hY.lt (k := 217) (by decide)) (ly217 hY) ⟨rfl, rfl⟩ (by decide) ⟨Nat.le_of_ble_eq_true rfl, Nat.le_of_ble_eq_true rfl⟩ (Nat.le_of_ble_eq_true rfl) rfl (fun r47 Λc47 Ic47 Lc47 Rc47 hq47 => ?_)
            obtain ⟨rfl, rfl, rfl, rfl, rfl⟩ := hq47
            refine LW_bif_ne (tgt := 89) dX11_isOwn_50 (by decide) (fun c50 => ?_) (fun c50 => ?_)
            · refine LW_iconst (v := 1) dX11_isOwn_89 (by decide) ?_
              refine LW_zret dX11_isOwn_90 rfl (Nat.le_of_ble_eq_true rfl) (Nat.le_of_ble_eq_true rfl) (Or.inr rfl) ?_
              try simp only [decide_eq_true_eq, decide_eq_false_iff_not] at *
              first
                | (rw [show decide (1000 ≤ kd B n i ∧ kd B n i < 1018) = true from decide_eq_true (by omega)]; exact Qr.mk rfl)
                | (have hs := not_askV c5
                   rw [show decide (1000 ≤ kd B n i ∧ kd B n i < 1018) = true from decide_eq_true (by omega)]; exact Qr.mk rfl)
                | (have hs := askV_no.mp (Classical.not_not.mp c5)
                   rw [show decide (1000 ≤ kd B n i ∧ kd B n i < 1018) = false from decide_eq_false (by omega)]; exact Qr.mk rfl)
            · refine LW_aloadn 0 dX11_isOwn_53 rfl rfl ?_
              refine LW_ldcS (i := 10) dX11_isOwn_54 rfl ?_
              refine LW_callV (As := [.ref (1000000 + 10)]) (b := 217) (st := []) (ci := 11) (r := (RX11, TX11, 44)) (r_isW hT (j := 10) (k := 1007) (by decide) (by decide) rfl) YX11_isWord rfl dX11_isOwn_56 mlX11_183 (hY.lt (k := 217) (by decide)) (ly217 hY) ⟨rfl, rfl⟩ (by decide) ⟨Nat.le_of_ble_eq_true rfl, Nat.le_of_ble_eq_true rfl⟩ (Nat.le_of_ble_eq_true rfl) rfl (fun r56 Λc56 Ic56 Lc56 Rc56 hq56 => ?_)
              obtain ⟨rfl, rfl, rfl, rfl, rfl⟩ := hq56
              refine LW_bif_ne (tgt := 89) dX11_isOwn_59 (by decide) (fun c59 => ?_) (fun c59 => ?_)
              · refine LW_iconst (v := 1) dX11_isOwn_89 (by decide) ?_
                refine LW_zret dX11_isOwn_90 rfl (Nat.le_of_ble_eq_true rfl) (Nat.le_of_ble_eq_true rfl) (Or.inr rfl) ?_
                try simp only [decide_eq_true_eq, decide_eq_false_iff_not] at *
                first
                  | (rw [show decide (1000 ≤ kd B n i ∧ kd B n i < 1018) = true from decide_eq_true (by omega)]; exact Qr.mk rfl)
                  | (have hs := not_askV c5
                     rw [show decide (1000 ≤ kd B n i ∧ kd B n i < 1018) = true from decide_eq_true (by omega)]; exact Qr.mk rfl)
                  | (have hs := askV_no.mp (Classical.not_not.mp c5)
                     rw [show decide (1000 ≤ kd B n i ∧ kd B n i < 1018) = false from decide_eq_false (by omega)]; exact Qr.mk rfl)
              · refine LW_aloadn 0 dX11_isOwn_62 rfl rfl ?_
                refine LW_ldcS (i := 11) dX11_isOwn_63 rfl ?_
                refine LW_callV (As := [.ref (1000000 + 11)]) (b := 217) (st := []) (ci := 11) (r := (RX11, TX11, 44)) (r_isW hT (j := 11) (k := 1008) (by decide) (by decide) rfl) YX11_isWord rfl dX11_isOwn_65 mlX11_183 (hY.lt (k := 217) (by decide)) (ly217 hY) ⟨rfl, rfl⟩ (by decide) ⟨Nat.le_of_ble_eq_true rfl, Nat.le_of_ble_eq_true rfl⟩ (Nat.le_of_ble_eq_true rfl) rfl (fun r65 Λc65 Ic65 Lc65 Rc65 hq65 => ?_)
                obtain ⟨rfl, rfl, rfl, rfl, rfl⟩ := hq65
                refine LW_bif_ne (tgt := 89) dX11_isOwn_68 (by decide) (fun c68 => ?_) (fun c68 => ?_)
                · refine LW_iconst (v := 1) dX11_isOwn_89 (by decide) ?_
                  refine LW_zret dX11_isOwn_90 rfl (Nat.le_of_ble_eq_true rfl) (Nat.le_of_ble_eq_true rfl) (Or.inr rfl) ?_
                  try simp only [decide_eq_true_eq, decide_eq_false_iff_not] at *
                  first
                    | (rw [show decide (1000 ≤ kd B n i ∧ kd B n i < 1018) = true from decide_eq_true (by omega)]; exact Qr.mk rfl)
                    | (have hs := not_askV c5
                       rw [show decide (1000 ≤ kd B n i ∧ kd B n i < 1018) = true from decide_eq_true (by omega)]; exact Qr.mk rfl)
                    | (have hs := askV_no.mp (Classical.not_not.mp c5)
                       rw [show decide (1000 ≤ kd B n i ∧ kd B n i < 1018) = false from decide_eq_false (by omega)]; exact Qr.mk rfl)
                · refine LW_aloadn 0 dX11_isOwn_71 rfl rfl ?_
                  refine LW_ldcS (i := 12) dX11_isOwn_72 rfl ?_
                  refine LW_callV (As := [.ref (1000000 + 12)]) (b := 217) (st := []) (ci := 11) (r := (RX11, TX11, 44)) (r_isW hT (j := 12) (k := 1009) (by decide) (by decide) rfl) YX11_isWord rfl dX11_isOwn_74 mlX11_183 (hY.lt (k := 217) (by decide)) (ly217 hY) ⟨rfl, rfl⟩ (by decide) ⟨Nat.le_of_ble_eq_true rfl, Nat.le_of_ble_eq_true rfl⟩ (Nat.le_of_ble_eq_true rfl) rfl (fun r74 Λc74 Ic74 Lc74 Rc74 hq74 => ?_)
                  obtain ⟨rfl, rfl, rfl, rfl, rfl⟩ := hq74
                  refine LW_bif_ne (tgt := 89) dX11_isOwn_77 (by decide) (fun c77 => ?_) (fun c77 => ?_)
                  · refine LW_iconst (v := 1) dX11_isOwn_89 (by decide) ?_
                    refine LW_zret dX11_isOwn_90 rfl (Nat.le_of_ble_eq_true rfl) (Nat.le_of_ble_eq_true rfl) (Or.inr rfl) ?_
                    try simp only [decide_eq_true_eq, decide_eq_false_iff_not] at *
                    first
                      | (rw [show decide (1000 ≤ kd B n i ∧ kd B n i < 1018) = true from decide_eq_true (by omega)]; exact Qr.mk rfl)
                      | (have hs := not_askV c5
                         rw [show decide (1000 ≤ kd B n i ∧ kd B n i < 1018) = true from decide_eq_true (by omega)]; exact Qr.mk rfl)
                      | (have hs := askV_no.mp (Classical.not_not.mp c5)
                         rw [show decide (1000 ≤ kd B n i ∧ kd B n i < 1018) = false from decide_eq_false (by omega)]; exact Qr.mk rfl)
                  · refine LW_aloadn 0 dX11_isOwn_80 rfl rfl ?_
                    refine LW_ldcS (i := 13) dX11_isOwn_81 rfl ?_
                    refine LW_callV (As := [.ref (1000000 + 13)]) (b := 217) (st := []) (ci := 11) (r := (RX11, TX11, 44)) (r_isW hT (j := 13) (k := 1010) (by decide) (by decide) rfl) YX11_isWord rfl dX11_isOwn_83 mlX11_183 (hY.lt (k := 217) (by decide)) (ly217 hY) ⟨rfl, rfl⟩ (by decide) ⟨Nat.le_of_ble_eq_true rfl, Nat.le_of_ble_eq_true rfl⟩ (Nat.le_of_ble_eq_true rfl) rfl (fun r83 Λc83 Ic83 Lc83 Rc83 hq83 => ?_)
                    obtain ⟨rfl, rfl, rfl, rfl, rfl⟩ := hq83
                    refine LW_bif_eq (tgt := 91) dX11_isOwn_86 (by decide) (fun c86 => ?_) (fun c86 => ?_)
                    · refine LW_aloadn 0 dX11_isOwn_91 rfl rfl ?_
                      refine LW_ldcS (i := 14) dX11_isOwn_92 rfl ?_
                      refine LW_callV (As := [.ref (1000000 + 14)]) (b := 217) (st := []) (ci := 11) (r := (RX11, TX11, 44)) (r_isW hT (j := 14) (k := 1013) (by decide) (by decide) rfl) YX11_isWord rfl dX11_isOwn_94 mlX11_183 (hY.lt (k := 217) (by decide)) (ly217 hY) ⟨rfl, rfl⟩ (by decide) ⟨Nat.le_of_ble_eq_true rfl, Nat.le_of_ble_eq_true rfl⟩ (Nat.le_of_ble_eq_true rfl) rfl (fun r94 Λc94 Ic94 Lc94 Rc94 hq94 => ?_)
                      obtain ⟨rfl, rfl, rfl, rfl, rfl⟩ := hq94
                      refine LW_bif_ne (tgt := 136) dX11_isOwn_97 (by decide) (fun c97 => ?_) (fun c97 => ?_)
                      · refine LW_iconst (v := 1) dX11_isOwn_136 (by decide) ?_
                        refine LW_goto (tgt := 141) dX11_isOwn_137 (by decide) ?_
                        refine LW_zret dX11_isOwn_141 rfl (Nat.le_of_ble_eq_true rfl) (Nat.le_of_ble_eq_true rfl) (Or.inr rfl) ?_
                        try simp only [decide_eq_true_eq, decide_eq_false_iff_not] at *
                        first
                          | (rw [show decide (1000 ≤ kd B n i ∧ kd B n i < 1018) = true from decide_eq_true (by omega)]; exact Qr.mk rfl)
                          | (have hs := not_askV c5
                             rw [show decide (1000 ≤ kd B n i ∧ kd B n i < 1018) = true from decide_eq_true (by omega)]; exact Qr.mk rfl)
                          | (have hs := askV_no.mp (Classical.not_not.mp c5)
                             rw [show decide (1000 ≤ kd B n i ∧ kd B n i < 1018) = false from decide_eq_false (by omega)]; exact Qr.mk rfl)
                      · refine LW_aloadn 0 dX11_isOwn_100 rfl rfl ?_
                        refine LW_ldcS (i := 15) dX11_isOwn_101 rfl ?_
                        refine LW_callV (As := [.ref (1000000 + 15)]) (b := 217) (st := []) (ci := 11) (r := (RX11, TX11, 44)) (r_isW hT (j := 15) (k := 1014) (by decide) (by decide) rfl) YX11_isWord rfl dX11_isOwn_103 mlX11_183 (hY.lt (k := 217) (by decide)) (ly217 hY) ⟨rfl, rfl⟩ (by decide) ⟨Nat.le_of_ble_eq_true rfl, Nat.le_of_ble_eq_true rfl⟩ (Nat.le_of_ble_eq_true rfl) rfl (fun r103 Λc103 Ic103 Lc103 Rc103 hq103 => ?_)
                        obtain ⟨rfl, rfl, rfl, rfl, rfl⟩ := hq103
                        refine LW_bif_ne (tgt := 136) dX11_isOwn_106 (by decide) (fun c106 => ?_) (fun c106 => ?_)
                        · refine LW_iconst (v := 1) dX11_isOwn_136 (by decide) ?_
                          refine LW_goto (tgt := 141) dX11_isOwn_137 (by decide) ?_
                          refine LW_zret dX11_isOwn_141 rfl (Nat.le_of_ble_eq_true rfl) (Nat.le_of_ble_eq_true rfl) (Or.inr rfl) ?_
                          try simp only [decide_eq_true_eq, decide_eq_false_iff_not] at *
                          first
                            | (rw [show decide (1000 ≤ kd B n i ∧ kd B n i < 1018) = true from decide_eq_true (by omega)]; exact Qr.mk rfl)
                            | (have hs := not_askV c5
                               rw [show decide (1000 ≤ kd B n i ∧ kd B n i < 1018) = true from decide_eq_true (by omega)]; exact Qr.mk rfl)
                            | (have hs := askV_no.mp (Classical.not_not.mp c5)
                               rw [show decide (1000 ≤ kd B n i ∧ kd B n i < 1018) = false from decide_eq_false (by omega)]; exact Qr.mk rfl)
                        · refine LW_aloadn 0 dX11_isOwn_109 rfl rfl ?_
                          refine LW_ldcS (i := 16) dX11_isOwn_110 rfl ?_
                          refine LW_callV (As := [.ref (1000000 + 16)]) (b := 217) (st := []) (ci := 11) (r := (RX11, TX11, 44)) (r_isW hT (j := 16) (k := 1015) (by decide) (by decide) rfl) YX11_isWord rfl dX11_isOwn_112 mlX11_183 (hY.lt (k := 217) (by decide)) (ly217 hY) ⟨rfl, rfl⟩ (by decide) ⟨Nat.le_of_ble_eq_true rfl, Nat.le_of_ble_eq_true rfl⟩ (Nat.le_of_ble_eq_true rfl) rfl (fun r112 Λc112 Ic112 Lc112 Rc112 hq112 => ?_)
                          obtain ⟨rfl, rfl, rfl, rfl, rfl⟩ := hq112
                          refine LW_bif_ne (tgt := 136) dX11_isOwn_115 (by decide) (fun c115 => ?_) (fun c115 => ?_)
                          · refine LW_iconst (v := 1) dX11_isOwn_136 (by decide) ?_
                            refine LW_goto (tgt := 141) dX11_isOwn_137 (by decide) ?_
                            refine LW_zret dX11_isOwn_141 rfl (Nat.le_of_ble_eq_true rfl) (Nat.le_of_ble_eq_true rfl) (Or.inr rfl) ?_
                            try simp only [decide_eq_true_eq, decide_eq_false_iff_not] at *
                            first
                              | (rw [show decide (1000 ≤ kd B n i ∧ kd B n i < 1018) = true from decide_eq_true (by omega)]; exact Qr.mk rfl)
                              | (have hs := not_askV c5
                                 rw [show decide (1000 ≤ kd B n i ∧ kd B n i < 1018) = true from decide_eq_true (by omega)]; exact Qr.mk rfl)
                              | (have hs := askV_no.mp (Classical.not_not.mp c5)
                                 rw [show decide (1000 ≤ kd B n i ∧ kd B n i < 1018) = false from decide_eq_false (by omega)]; exact Qr.mk rfl)
                          · refine LW_aloadn 0 dX11_isOwn_118 rfl rfl ?_
                            refine LW_ldcS (i := 17) dX11_isOwn_119 rfl ?_
                            refine LW_callV (As := [.ref (1000000 + 17)]) (b := 217) (st := []) (ci := 11) (r := (RX11, TX11, 44)) (r_isW hT (j := 17) (k := 1016) (by decide) (by decide) rfl) YX11_isWord rfl dX11_isOwn_121 mlX11_183 (hY.lt (k := 217) (by decide)) (ly217 hY) ⟨rfl, rfl⟩ (by decide) ⟨Nat.le_of_ble_eq_true rfl, Nat.le_of_ble_eq_true rfl⟩ (Nat.le_of_ble_eq_true rfl) rfl (fun r121 Λc121 Ic121 Lc121 Rc121 hq121 => ?_)
                            obtain ⟨rfl, rfl, rfl, rfl, rfl⟩ := hq121
                            refine LW_bif_ne (tgt := 136) dX11_isOwn_124 (by decide) (fun c124 => ?_) (fun c124 => ?_)
                            · refine LW_iconst (v := 1) dX11_isOwn_136 (by decide) ?_
                              refine LW_goto (tgt := 141) dX11_isOwn_137 (by decide) ?_
                              refine LW_zret dX11_isOwn_141 rfl (Nat.le_of_ble_eq_true rfl) (Nat.le_of_ble_eq_true rfl) (Or.inr rfl) ?_
                              try simp only [decide_eq_true_eq, decide_eq_false_iff_not] at *
                              first
                                | (rw [show decide (1000 ≤ kd B n i ∧ kd B n i < 1018) = true from decide_eq_true (by omega)]; exact Qr.mk rfl)
                                | (have hs := not_askV c5
                                   rw [show decide (1000 ≤ kd B n i ∧ kd B n i < 1018) = true from decide_eq_true (by omega)]; exact Qr.mk rfl)
                                | (have hs := askV_no.mp (Classical.not_not.mp c5)
                                   rw [show decide (1000 ≤ kd B n i ∧ kd B n i < 1018) = false from decide_eq_false (by omega)]; exact Qr.mk rfl)
                            · refine LW_aloadn 0 dX11_isOwn_127 rfl rfl ?_
                              refine LW_ldcS (i := 18) dX11_isOwn_128 rfl ?_
                              refine LW_callV (As := [.ref (1000000 + 18)]) (b := 217) (st := []) (ci := 11) (r := (RX11, TX11, 44)) (r_isW hT (j := 18) (k := 1017) (by decide) (by decide) rfl) YX11_isWord rfl dX11_isOwn_130 mlX11_183 (hY.lt (k := 217) (by decide)) (ly217 hY) ⟨rfl, rfl⟩ (by decide) ⟨Nat.le_of_ble_eq_true rfl, Nat.le_of_ble_eq_true rfl⟩ (Nat.le_of_ble_eq_true rfl) rfl (fun r130 Λc130 Ic130 Lc130 Rc130 hq130 => ?_)
                              obtain ⟨rfl, rfl, rfl, rfl, rfl⟩ := hq130
                              refine LW_bif_eq (tgt := 140) dX11_isOwn_133 (by decide) (fun c133 => ?_) (fun c133 => ?_)
                              · refine LW_iconst (v := 0) dX11_isOwn_140 (by decide) ?_
                                refine LW_zret dX11_isOwn_141 rfl (Nat.le_of_ble_eq_true rfl) (Nat.le_of_ble_eq_true rfl) (Or.inl rfl) ?_
                                try simp only [decide_eq_true_eq, decide_eq_false_iff_not] at *
                                first
                                  | (rw [show decide (1000 ≤ kd B n i ∧ kd B n i < 1018) = true from decide_eq_true (by omega)]; exact Qr.mk rfl)
                                  | (have hs := not_askV c5
                                     rw [show decide (1000 ≤ kd B n i ∧ kd B n i < 1018) = true from decide_eq_true (by omega)]; exact Qr.mk rfl)
                                  | (have hs := askV_no.mp (Classical.not_not.mp c5)
                                     rw [show decide (1000 ≤ kd B n i ∧ kd B n i < 1018) = false from decide_eq_false (by omega)]; exact Qr.mk rfl)
                              · refine LW_iconst (v := 1) dX11_isOwn_136 (by decide) ?_
                                refine LW_goto (tgt := 141) dX11_isOwn_137 (by decide) ?_
                                refine LW_zret dX11_isOwn_141 rfl (Nat.le_of_ble_eq_true rfl) (Nat.le_of_ble_eq_true rfl) (Or.inr rfl) ?_
                                try simp only [decide_eq_true_eq, decide_eq_false_iff_not] at *
                                first
                                  | (rw [show decide (1000 ≤ kd B n i ∧ kd B n i < 1018) = true from decide_eq_true (by omega)]; exact Qr.mk rfl)
                                  | (have hs := not_askV c5
                                     rw [show decide (1000 ≤ kd B n i ∧ kd B n i < 1018) = true from decide_eq_true (by omega)]; exact Qr.mk rfl)
                                  | (have hs := askV_no.mp (Classical.not_not.mp c5)
                                     rw [show decide (1000 ≤ kd B n i ∧ kd B n i < 1018) = false from decide_eq_false (by omega)]; exact Qr.mk rfl)
                    · refine LW_iconst (v := 1) dX11_isOwn_89 (by decide) ?_
                      refine LW_zret dX11_isOwn_90 rfl (Nat.le_of_ble_eq_true rfl) (Nat.le_of_ble_eq_true rfl) (Or.inr rfl) ?_
                      try simp only [decide_eq_true_eq, decide_eq_false_iff_not] at *
                      first
                        | (rw [show decide (1000 ≤ kd B n i ∧ kd B n i < 1018) = true from decide_eq_true (by omega)]; exact Qr.mk rfl)
                        | (have hs := not_askV c5
                           rw [show decide (1000 ≤ kd B n i ∧ kd B n i < 1018) = true from decide_eq_true (by omega)]; exact Qr.mk rfl)
                        | (have hs := askV_no.mp (Classical.not_not.mp c5)
                           rw [show decide (1000 ≤ kd B n i ∧ kd B n i < 1018) = false from decide_eq_false (by omega)]; exact Qr.mk rfl)
set_option maxRecDepth 100000 in
theorem r_isName {Λ : hc_L} {I : hc_I} {L : hc_J} {R : hc_R} {I0 : hc_I} {L0 : hc_J} {n i : Nat} {B : Nat → Nat} (hT : TK I0 L0 n B Λ I L i) : Run xX11_isName [.ref 217] Λ I L R (Qr (some (.int (hc_b (decide (kd B n i = 2000))))) Λ I L R) := by
  refine Run.of (by decide +kernel) (Nat.le_of_ble_eq_true rfl) ?_
  show LW _ _ _ [(0, .ref 217)] _ _ _ _ _ _
  have hY := hT.y
  refine LW_aloadn 0 dX11_isName_0 rfl rfl ?_
  refine gX11_25 dX11_isName_1 flX11_150 (hY.lt (k := 217) (by decide)) (ly217 hY) ?_
  rw [show I 217 25 = nI (srt B n (tp B n i)) from hT.srt]
  refine LW_iconst (v := 1) dX11_isName_4 (by decide) ?_
  refine LW_icmp_ne (tgt := 33) dX11_isName_5 (by decide) (fun c5 => ?_) (fun c5 => ?_)
  · refine LW_iconst (v := 0) dX11_isName_33 (by decide) ?_
    refine LW_zret dX11_isName_34 rfl (Nat.le_of_ble_eq_true rfl) (Nat.le_of_ble_eq_true rfl) (Or.inl rfl) ?_
    have hk := kd_1 (i := i) hT.b
    have hl3 := srt_le B n (tp B n i)
    have hE := tkE_le (B := B) hT.q
    have h7 := hT.n7
    have e : ¬ kd B n i = 2000 := fun z => by
      obtain ⟨s, l, o⟩ := hk.mp z
      first
        | exact absurd (show decide (1000 ≤ kd B n i ∧ kd B n i < 1018) = true from c26) (by rw [decide_eq_false o]; decide)
        | exact Int32.not_lt.mpr ((hc_le (a := tkE B n (tp B n i) - tp B n i) (b := 7) (by omega) (by decide)).mpr l) c19
        | exact c5 (by rw [s]; rfl)
    rw [decide_eq_false e]
    exact Qr.mk rfl
  · refine LW_aloadn 0 dX11_isName_8 rfl rfl ?_
    refine gX11_27 dX11_isName_9 flX11_130 (hY.lt (k := 217) (by decide)) (ly217 hY) ?_
    rw [show I 217 27 = nI (tkE B n (tp B n i)) from hT.x.2.1]
    refine LW_aloadn 0 dX11_isName_12 rfl rfl ?_
    refine gX11_26 dX11_isName_13 flX11_137 (hY.lt (k := 217) (by decide)) (ly217 hY) ?_
    rw [show I 217 26 = nI (tp B n i) from hT.x.1]
    refine LW_isub dX11_isName_16 ?_
    rw [show ((nI (tkE B n (tp B n i))) - (nI (tp B n i))) = nI (tkE B n (tp B n i) - tp B n i) from hT.len]
    refine LW_bipush (v := 7) dX11_isName_17 (by decide) ?_
    refine LW_icmp_gt (tgt := 33) dX11_isName_19 (by decide) (fun c19 => ?_) (fun c19 => ?_)
    · refine LW_iconst (v := 0) dX11_isName_33 (by decide) ?_
      refine LW_zret dX11_isName_34 rfl (Nat.le_of_ble_eq_true rfl) (Nat.le_of_ble_eq_true rfl) (Or.inl rfl) ?_
      have hk := kd_1 (i := i) hT.b
      have hl3 := srt_le B n (tp B n i)
      have hE := tkE_le (B := B) hT.q
      have h7 := hT.n7
      have e : ¬ kd B n i = 2000 := fun z => by
        obtain ⟨s, l, o⟩ := hk.mp z
        first
          | exact absurd (show decide (1000 ≤ kd B n i ∧ kd B n i < 1018) = true from c26) (by rw [decide_eq_false o]; decide)
          | exact Int32.not_lt.mpr ((hc_le (a := tkE B n (tp B n i) - tp B n i) (b := 7) (by omega) (by decide)).mpr l) c19
          | exact c5 (by rw [s]; rfl)
      rw [decide_eq_false e]
      exact Qr.mk rfl
    · refine LW_aloadn 0 dX11_isName_22 rfl rfl ?_
      refine LW_callV (As := []) (b := 217) (st := []) (ci := 11) (r := (RX11, TX11, 44)) (r_isOwn hT) YX11_isOwn rfl dX11_isName_23 mlX11_223 (hY.lt (k := 217) (by decide)) (ly217 hY) ⟨rfl, rfl⟩ (by decide) ⟨Nat.le_of_ble_eq_true rfl, Nat.le_of_ble_eq_true rfl⟩ (Nat.le_of_ble_eq_true rfl) rfl (fun r23 Λc23 Ic23 Lc23 Rc23 hq23 => ?_)
      obtain ⟨rfl, rfl, rfl, rfl, rfl⟩ := hq23
      refine LW_bif_ne (tgt := 33) dX11_isName_26 (by decide) (fun c26 => ?_) (fun c26 => ?_)
      · refine LW_iconst (v := 0) dX11_isName_33 (by decide) ?_
        refine LW_zret dX11_isName_34 rfl (Nat.le_of_ble_eq_true rfl) (Nat.le_of_ble_eq_true rfl) (Or.inl rfl) ?_
        have hk := kd_1 (i := i) hT.b
        have hl3 := srt_le B n (tp B n i)
        have hE := tkE_le (B := B) hT.q
        have h7 := hT.n7
        have e : ¬ kd B n i = 2000 := fun z => by
          obtain ⟨s, l, o⟩ := hk.mp z
          first
            | exact absurd (show decide (1000 ≤ kd B n i ∧ kd B n i < 1018) = true from c26) (by rw [decide_eq_false o]; decide)
            | exact Int32.not_lt.mpr ((hc_le (a := tkE B n (tp B n i) - tp B n i) (b := 7) (by omega) (by decide)).mpr l) c19
            | exact c5 (by rw [s]; rfl)
        rw [decide_eq_false e]
        exact Qr.mk rfl
      · refine LW_iconst (v := 1) dX11_isName_29 (by decide) ?_
        refine LW_goto (tgt := 34) dX11_isName_30 (by decide) ?_
        refine LW_zret dX11_isName_34 rfl (Nat.le_of_ble_eq_true rfl) (Nat.le_of_ble_eq_true rfl) (Or.inr rfl) ?_
        have hk := kd_1 (i := i) hT.b
        have hl3 := srt_le B n (tp B n i)
        have hE := tkE_le (B := B) hT.q
        have h7 := hT.n7
        have e : kd B n i = 2000 := hk.mpr ⟨(hc_eq (a := srt B n (tp B n i)) (b := 1) (by omega) (by decide)).mp (Classical.not_not.mp c5), (hc_le (a := tkE B n (tp B n i) - tp B n i) (b := 7) (by omega) (by decide)).mp (Int32.not_lt.mp c19), of_decide_eq_false c26⟩
        rw [decide_eq_true e]
        exact Qr.mk rfl
theorem r_isSg {Λ : hc_L} {I : hc_I} {L : hc_J} {R : hc_R} {I0 : hc_I} {L0 : hc_J} {n i : Nat} {B : Nat → Nat} (hT : TK I0 L0 n B Λ I L i) {c : Nat} (hc : c < 256) : Run xX11_isSign [.ref 217, .int (nI c)] Λ I L R (Qr (some (.int (hc_b (decide (kd B n i = c))))) Λ I L R) := by
  have h := r_isSign (R := R) (I := I) (L := L) hT.y (nI c)
  have e : (decide (I 217 25 = 3) && decide (I 217 30 = nI c)) = decide (kd B n i = c) := by
    have hl3 := srt_le B n (tp B n i)
    have k := kd_3 (i := i) hT.b hc
    have e1 : I 217 25 = 3 ↔ srt B n (tp B n i) = 3 := by rw [hT.srt]; exact hc_eq (a := srt B n (tp B n i)) (b := 3) (by omega) (by decide)
    by_cases s : srt B n (tp B n i) = 3
    · have hb := hT.b _ (srt_3.mp s).1
      have e2 : I 217 30 = nI c ↔ B (tp B n i) = c := by rw [hT.x.2.2.2.2.2, if_pos s]; exact hc_eq (by omega) (by omega)
      rw [decide_eq_true (e1.mpr s), Bool.true_and]
      by_cases z : B (tp B n i) = c
      · rw [decide_eq_true (e2.mpr z), decide_eq_true (k.mpr ⟨s, z⟩)]
      · rw [decide_eq_false (fun y => z (e2.mp y)), decide_eq_false (fun y => z (k.mp y).2)]
    · rw [decide_eq_false (fun y => s (e1.mp y)), Bool.false_and, decide_eq_false (fun y => s (k.mp y).1)]
  rw [e] at h
  exact h
/-- a token ahead -/
theorem r_nx {Λ : hc_L} {I : hc_I} {L : hc_J} {R : hc_R} {I0 : hc_I} {L0 : hc_J} {n i : Nat} {B : Nat → Nat} (hT : TK I0 L0 n B Λ I L i) : Run xX11_next [.ref 217] Λ I L R (fun r Λ' I' L' R' => r = none ∧ Λ = Λ' ∧ R = R' ∧ LxFr I I' L L' ∧ TK I0 L0 n B Λ I' L' (i + 1) ∧ I' 217 31 = I 217 31) := by
  refine Run.mono (r_next hT.y hT.2.2.1 (tkE_le hT.q).2 hT.x.2.1) (fun r Λ' I' L' R' h => ?_)
  obtain ⟨rfl, rfl, rfl, h1, h2, h3, h4, h5⟩ := h
  have hf : LxFr I I' L L' := ⟨h1, fun j hj => h2 j (by unfold LxJ at hj; unfold LxI; omega), h3⟩
  refine ⟨rfl, rfl, rfl, hf, ⟨hT.y, hT.2.1.trans hf.r, ⟨(h2 20 (by unfold LxI; omega)).trans hT.2.2.1.1, hT.n7, fun j hj => by rw [h1 227 (by decide)]; exact hT.2.2.1.2.2 j hj⟩, h5, (h2 23 (by unfold LxI; omega)).trans hT.2.2.2.2.1, (h2 24 (by unfold LxI; omega)).trans hT.2.2.2.2.2⟩, h2 31 (by unfold LxI; omega)⟩
theorem r_fl {Λ : hc_L} {I : hc_I} {L : hc_J} {R : hc_R} {I0 : hc_I} {L0 : hc_J} {n i : Nat} {B : Nat → Nat} (hT : TK I0 L0 n B Λ I L i) {c : Nat} (h0 : 0 < c) (h6 : c < 6) : Run xX11_fails [.ref 217, .int (nI c)] Λ I L R (fun r Λ' I' L' R' => r = some (.int (hc_b false)) ∧ Λ = Λ' ∧ R = R' ∧ LxFr I I' L L' ∧ TF I0 L0 n B Λ I' L' (c, i)) := by
  refine Run.mono (r_failsT hT.y hT.2.2.2.2.1 (nI c)) (fun r Λ' I' L' R' h => ?_)
  obtain ⟨rfl, rfl, rfl, rfl, h1, h2⟩ := h
  have hf : LxFr I I' L L := ⟨h1, fun j hj => by rw [h2 j, if_neg (by unfold LxJ at hj; omega), if_neg (by unfold LxJ at hj; omega)], fun _ _ => rfl⟩
  exact ⟨rfl, rfl, rfl, hf, hT.y, hT.2.1.trans hf.r, ⟨by rw [h2 23, if_pos rfl], h0, h6⟩, by rw [h2 24, if_neg (by decide), if_pos rfl]; exact hT.x.1⟩
/-- read on, or refused -/
def KP (I0 : hc_I) (L0 : hc_J) (n : Nat) (B : Nat → Nat) (b : Bool) (e : Nat × Nat) (i' : Nat) (Z : hc_I → Prop) (Λ : hc_L) (I : hc_I) (L : hc_J) (R : hc_R) : hc_Q := fun r Λ' I' L' R' => r = some (.int (hc_b b)) ∧ Λ = Λ' ∧ R = R' ∧ LxFr I I' L L' ∧ (b = true → TK I0 L0 n B Λ I' L' i' ∧ Z I') ∧ (b = false → TF I0 L0 n B Λ I' L' e)
set_option maxRecDepth 100000 in
theorem r_tkS {Λ : hc_L} {I : hc_I} {L : hc_J} {R : hc_R} {I0 : hc_I} {L0 : hc_J} {n i : Nat} {B : Nat → Nat} (hT : TK I0 L0 n B Λ I L i) {c : Nat} (hc : c < 256) : Run xX11_takesSign [.ref 217, .int (nI c)] Λ I L R (KP I0 L0 n B (decide (kd B n i = c)) (1, i) (i + 1) (fun _ => True) Λ I L R) := by
  refine Run.of (by decide +kernel) (Nat.le_of_ble_eq_true rfl) ?_
  show LW _ _ _ [(0, .ref 217), (1, .int (nI c))] _ _ _ _ _ _
  have hY := hT.y
  refine LW_aloadn 0 dX11_takesSign_0 rfl rfl ?_
  refine LW_iloadn 1 dX11_takesSign_1 rfl rfl ?_
  refine LW_callV (As := [.int (nI c)]) (b := 217) (st := []) (ci := 11) (r := (RX11, TX11, 44)) (r_isSg hT hc) YX11_isSign rfl dX11_takesSign_2 mlX11_227 (hY.lt (k := 217) (by decide)) (ly217 hY) ⟨rfl, rfl⟩ (by decide) ⟨Nat.le_of_ble_eq_true rfl, Nat.le_of_ble_eq_true rfl⟩ (Nat.le_of_ble_eq_true rfl) rfl (fun r2 Λc2 Ic2 Lc2 Rc2 hq2 => ?_)
  obtain ⟨rfl, rfl, rfl, rfl, rfl⟩ := hq2
  refine LW_bif_ne (tgt := 14) dX11_takesSign_5 (by decide) (fun c5 => ?_) (fun c5 => ?_)
  · refine LW_aloadn 0 dX11_takesSign_14 rfl rfl ?_
    refine LW_callV (As := []) (b := 217) (st := []) (ci := 11) (r := (RX11, TX11, 44)) (r_nx hT) YX11_next rfl dX11_takesSign_15 mlX11_234 (hY.lt (k := 217) (by decide)) (ly217 hY) ⟨rfl, rfl⟩ (by decide) ⟨Nat.le_of_ble_eq_true rfl, Nat.le_of_ble_eq_true rfl⟩ (Nat.le_of_ble_eq_true rfl) rfl (fun r15 Λc15 Ic15 Lc15 Rc15 hq15 => ?_)
    obtain ⟨rfl, rfl, rfl, hl15, hT15, hr15⟩ := hq15
    refine LW_iconst (v := 1) dX11_takesSign_18 (by decide) ?_
    refine LW_zret dX11_takesSign_19 rfl (Nat.le_of_ble_eq_true rfl) (Nat.le_of_ble_eq_true rfl) (Or.inr rfl) ?_
    have hc5 : decide (kd B n i = c) = true := c5
    rw [hc5]
    exact ⟨rfl, rfl, rfl, hl15, fun _ => ⟨hT15, trivial⟩, fun z => absurd z (by decide)⟩
  · refine LW_aloadn 0 dX11_takesSign_8 rfl rfl ?_
    refine LW_iconst (v := 1) dX11_takesSign_9 (by decide) ?_
    refine LW_callV (As := [.int 1]) (b := 217) (st := []) (ci := 11) (r := (RX11, TX11, 44)) (r_fl hT (c := 1) (by decide) (by decide)) YX11_fails rfl dX11_takesSign_10 mlX11_231 (hY.lt (k := 217) (by decide)) (ly217 hY) ⟨rfl, rfl⟩ (by decide) ⟨Nat.le_of_ble_eq_true rfl, Nat.le_of_ble_eq_true rfl⟩ (Nat.le_of_ble_eq_true rfl) rfl (fun r10 Λc10 Ic10 Lc10 Rc10 hq10 => ?_)
    obtain ⟨rfl, rfl, rfl, hl10, hF10⟩ := hq10
    refine LW_zret dX11_takesSign_13 rfl (Nat.le_of_ble_eq_true rfl) (Nat.le_of_ble_eq_true rfl) (hc_b01 _) ?_
    have hc5 : decide (kd B n i = c) = false := c5
    rw [hc5]
    exact ⟨rfl, rfl, rfl, hl10, fun z => absurd z (by decide), fun _ => hF10⟩
set_option maxRecDepth 100000 in
theorem r_num {Λ : hc_L} {I : hc_I} {L : hc_J} {R : hc_R} {I0 : hc_I} {L0 : hc_J} {n i : Nat} {B : Nat → Nat} (hT : TK I0 L0 n B Λ I L i) {lo hi : Nat} (hlo : lo < 2 ^ 31) (hhi : hi < 2 ^ 31) : Run xX11_readNumber [.ref 217, .int (nI lo), .int (nI hi)] Λ I L R (KP I0 L0 n B (decide (pNum (kd B n) (vl B n) i lo hi = 0)) (pNum (kd B n) (vl B n) i lo hi, i) (i + 1) (fun I' => I' 217 31 = nI (vl B n i)) Λ I L R) := by
  refine Run.of (by decide +kernel) (Nat.le_of_ble_eq_true rfl) ?_
  show LW _ _ _ [(0, .ref 217), (1, .int (nI lo)), (2, .int (nI hi))] _ _ _ _ _ _
  have hY := hT.y
  have hl3 := srt_le B n (tp B n i)
  have hE := tkE_le (B := B) hT.q
  have h7 := hT.n7
  refine LW_aloadn 0 dX11_readNumber_0 rfl rfl ?_
  refine gX11_25 dX11_readNumber_1 flX11_150 (hY.lt (k := 217) (by decide)) (ly217 hY) ?_
  rw [show I 217 25 = nI (srt B n (tp B n i)) from hT.srt]
  refine LW_iconst (v := 2) dX11_readNumber_4 (by decide) ?_
  refine LW_icmp_ne (tgt := 22) dX11_readNumber_5 (by decide) (fun c5 => ?_) (fun c5 => ?_)
  · refine LW_aloadn 0 dX11_readNumber_22 rfl rfl ?_
    refine LW_iconst (v := 1) dX11_readNumber_23 (by decide) ?_
    refine LW_callV (As := [.int 1]) (b := 217) (st := []) (ci := 11) (r := (RX11, TX11, 44)) (r_fl hT (c := 1) (by decide) (by decide)) YX11_fails rfl dX11_readNumber_24 mlX11_231 (hY.lt (k := 217) (by decide)) (ly217 hY) ⟨rfl, rfl⟩ (by decide) ⟨Nat.le_of_ble_eq_true rfl, Nat.le_of_ble_eq_true rfl⟩ (Nat.le_of_ble_eq_true rfl) rfl (fun r24 Λc24 Ic24 Lc24 Rc24 hq24 => ?_)
    obtain ⟨rfl, rfl, rfl, hl24, hF24⟩ := hq24
    refine LW_zret dX11_readNumber_27 rfl (Nat.le_of_ble_eq_true rfl) (Nat.le_of_ble_eq_true rfl) (hc_b01 _) ?_
    have hk : ¬ kd B n i = 2001 := fun z => by
      obtain ⟨s, l⟩ := (kd_2 hT.b).mp z
      first
        | exact c5 (by rw [s]; rfl)
        | exact c19 ((hc_le (a := tkE B n (tp B n i) - tp B n i) (b := 8) (by omega) (by decide)).mpr l)
    have e : pNum (kd B n) (vl B n) i lo hi = 1 := if_neg hk
    rw [e]
    exact ⟨rfl, rfl, rfl, hl24, fun z => absurd z (by decide), fun _ => hF24⟩
  · refine LW_aloadn 0 dX11_readNumber_8 rfl rfl ?_
    refine gX11_27 dX11_readNumber_9 flX11_130 (hY.lt (k := 217) (by decide)) (ly217 hY) ?_
    rw [show I 217 27 = nI (tkE B n (tp B n i)) from hT.x.2.1]
    refine LW_aloadn 0 dX11_readNumber_12 rfl rfl ?_
    refine gX11_26 dX11_readNumber_13 flX11_137 (hY.lt (k := 217) (by decide)) (ly217 hY) ?_
    rw [show I 217 26 = nI (tp B n i) from hT.x.1]
    refine LW_isub dX11_readNumber_16 ?_
    rw [show ((nI (tkE B n (tp B n i))) - (nI (tp B n i))) = nI (tkE B n (tp B n i) - tp B n i) from hT.len]
    refine LW_bipush (v := 8) dX11_readNumber_17 (by decide) ?_
    refine LW_icmp_le (tgt := 28) dX11_readNumber_19 (by decide) (fun c19 => ?_) (fun c19 => ?_)
    · have hk : kd B n i = 2001 := (kd_2 hT.b).mpr ⟨(hc_eq (a := srt B n (tp B n i)) (b := 2) (by omega) (by decide)).mp (Classical.not_not.mp c5), (hc_le (a := tkE B n (tp B n i) - tp B n i) (b := 8) (by omega) (by decide)).mp c19⟩
      have hv8 := vl_n hT.b hk
      refine LW_aloadn 0 dX11_readNumber_28 rfl rfl ?_
      refine gX11_29 dX11_readNumber_29 flX11_144 (hY.lt (k := 217) (by decide)) (ly217 hY) ?_
      rw [show I 217 29 = nI (vl B n i) from (hT.num hk)]
      refine LW_i2l dX11_readNumber_32 ?_
      rw [show (nI (vl B n i)).toInt64 = lN (vl B n i) from (nI_l (by omega))]
      refine LW_iloadn 1 dX11_readNumber_33 rfl rfl ?_
      refine LW_i2l dX11_readNumber_34 ?_
      rw [show (nI lo).toInt64 = lN lo from (nI_l hlo)]
      refine LW_iloadn 2 dX11_readNumber_35 rfl rfl ?_
      refine LW_i2l dX11_readNumber_36 ?_
      rw [show (nI hi).toInt64 = lN hi from (nI_l hhi)]
      have hin : lIn (lN (vl B n i)) (lN lo) (lN hi) = (decide (lo ≤ vl B n i) && decide (vl B n i ≤ hi)) := lIn_n (by omega) hlo hhi
      refine LW_callS (As := [.long (lN (vl B n i)), .long (lN lo), .long (lN hi)]) (st := []) (r_isIn (lN (vl B n i)) (lN lo) (lN hi)) YX11_isIn rfl dX11_readNumber_37 mlX11_126 (by decide) ⟨Nat.le_of_ble_eq_true rfl, Nat.le_of_ble_eq_true rfl⟩ (Nat.le_of_ble_eq_true rfl) rfl (fun r37 Λc37 Ic37 Lc37 Rc37 hq37 => ?_)
      obtain ⟨rfl, rfl, rfl, rfl, rfl⟩ := hq37
      refine LW_bif_ne (tgt := 49) dX11_readNumber_40 (by decide) (fun c40 => ?_) (fun c40 => ?_)
      · refine LW_aloadn 0 dX11_readNumber_49 rfl rfl ?_
        refine LW_aloadn 0 dX11_readNumber_50 rfl rfl ?_
        refine gX11_29 dX11_readNumber_51 flX11_144 (hY.lt (k := 217) (by decide)) (ly217 hY) ?_
        rw [show I 217 29 = nI (vl B n i) from (hT.num hk)]
        refine pX11_31 dX11_readNumber_54 flX11_237 (hY.lt (k := 217) (by decide)) (ly217 hY) ?_
        generalize hI54 : hc_u I 217 31 (nI (vl B n i)) = I54
        have hf54 : LxFr I I54 L L := ⟨fun z hz => by rw [← hI54, hc_u_row _ _ _ _ hz], fun j hj => by rw [← hI54, hc_u_at, if_neg (by unfold LxJ at hj; omega)], fun _ _ => rfl⟩
        have hT0 := hT
        have hT : TK I0 L0 n B Λ I54 L i := by
          refine ⟨hY, hT0.2.1.trans hf54.r, ⟨by rw [← hI54, hc_u_at, if_neg (by decide)]; exact hT0.2.2.1.1, h7, fun j hj => by rw [← hI54, hc_u_row _ _ _ _ (by decide)]; exact hT0.2.2.1.2.2 j hj⟩, ?_, by rw [← hI54, hc_u_at, if_neg (by decide)]; exact hT0.2.2.2.2.1, by rw [← hI54, hc_u_at, if_neg (by decide)]; exact hT0.2.2.2.2.2⟩
          obtain ⟨x1, x2, x3, x4, x5, x6⟩ := hT0.x
          exact ⟨by rw [← hI54, hc_u_at, if_neg (by decide)]; exact x1, by rw [← hI54, hc_u_at, if_neg (by decide)]; exact x2, by rw [← hI54, hc_u_at, if_neg (by decide)]; exact x3, x4, by rw [← hI54, hc_u_at, if_neg (by decide)]; exact x5, by rw [← hI54, hc_u_at, if_neg (by decide)]; exact x6⟩
        refine LW_aloadn 0 dX11_readNumber_57 rfl rfl ?_
        refine LW_callV (As := []) (b := 217) (st := []) (ci := 11) (r := (RX11, TX11, 44)) (r_nx hT) YX11_next rfl dX11_readNumber_58 mlX11_234 (hY.lt (k := 217) (by decide)) (ly217 hY) ⟨rfl, rfl⟩ (by decide) ⟨Nat.le_of_ble_eq_true rfl, Nat.le_of_ble_eq_true rfl⟩ (Nat.le_of_ble_eq_true rfl) rfl (fun r58 Λc58 Ic58 Lc58 Rc58 hq58 => ?_)
        obtain ⟨rfl, rfl, rfl, hl58, hT58, hr58⟩ := hq58
        refine LW_iconst (v := 1) dX11_readNumber_61 (by decide) ?_
        refine LW_zret dX11_readNumber_62 rfl (Nat.le_of_ble_eq_true rfl) (Nat.le_of_ble_eq_true rfl) (Or.inr rfl) ?_
        have hc40 : lIn (lN (vl B n i)) (lN lo) (lN hi) = true := c40
        rw [hin, Bool.and_eq_true, decide_eq_true_eq, decide_eq_true_eq] at hc40
        have e : pNum (kd B n) (vl B n) i lo hi = 0 := by
          unfold pNum
          rw [if_pos hk, if_pos hc40]
        rw [e]
        exact ⟨rfl, rfl, rfl, hf54.trans hl58, fun _ => ⟨hT58, by show Ic58 217 31 = _; rw [hr58, ← hI54, hc_u_at, if_pos rfl]⟩, fun z => absurd z (by decide)⟩
      · refine LW_aloadn 0 dX11_readNumber_43 rfl rfl ?_
        refine LW_iconst (v := 4) dX11_readNumber_44 (by decide) ?_
        refine LW_callV (As := [.int 4]) (b := 217) (st := []) (ci := 11) (r := (RX11, TX11, 44)) (r_fl hT (c := 4) (by decide) (by decide)) YX11_fails rfl dX11_readNumber_45 mlX11_231 (hY.lt (k := 217) (by decide)) (ly217 hY) ⟨rfl, rfl⟩ (by decide) ⟨Nat.le_of_ble_eq_true rfl, Nat.le_of_ble_eq_true rfl⟩ (Nat.le_of_ble_eq_true rfl) rfl (fun r45 Λc45 Ic45 Lc45 Rc45 hq45 => ?_)
        obtain ⟨rfl, rfl, rfl, hl45, hF45⟩ := hq45
        refine LW_zret dX11_readNumber_48 rfl (Nat.le_of_ble_eq_true rfl) (Nat.le_of_ble_eq_true rfl) (hc_b01 _) ?_
        have hc40 : lIn (lN (vl B n i)) (lN lo) (lN hi) = false := c40
        rw [hin] at hc40
        have e : pNum (kd B n) (vl B n) i lo hi = 4 := by
          unfold pNum
          rw [if_pos hk, if_neg (fun z => by rw [decide_eq_true z.1, decide_eq_true z.2] at hc40; cases hc40)]
        rw [e]
        exact ⟨rfl, rfl, rfl, hl45, fun z => absurd z (by decide), fun _ => hF45⟩
    · refine LW_aloadn 0 dX11_readNumber_22 rfl rfl ?_
      refine LW_iconst (v := 1) dX11_readNumber_23 (by decide) ?_
      refine LW_callV (As := [.int 1]) (b := 217) (st := []) (ci := 11) (r := (RX11, TX11, 44)) (r_fl hT (c := 1) (by decide) (by decide)) YX11_fails rfl dX11_readNumber_24 mlX11_231 (hY.lt (k := 217) (by decide)) (ly217 hY) ⟨rfl, rfl⟩ (by decide) ⟨Nat.le_of_ble_eq_true rfl, Nat.le_of_ble_eq_true rfl⟩ (Nat.le_of_ble_eq_true rfl) rfl (fun r24 Λc24 Ic24 Lc24 Rc24 hq24 => ?_)
      obtain ⟨rfl, rfl, rfl, hl24, hF24⟩ := hq24
      refine LW_zret dX11_readNumber_27 rfl (Nat.le_of_ble_eq_true rfl) (Nat.le_of_ble_eq_true rfl) (hc_b01 _) ?_
      have hk : ¬ kd B n i = 2001 := fun z => by
        obtain ⟨s, l⟩ := (kd_2 hT.b).mp z
        first
          | exact c5 (by rw [s]; rfl)
          | exact c19 ((hc_le (a := tkE B n (tp B n i) - tp B n i) (b := 8) (by omega) (by decide)).mpr l)
      have e : pNum (kd B n) (vl B n) i lo hi = 1 := if_neg hk
      rw [e]
      exact ⟨rfl, rfl, rfl, hl24, fun z => absurd z (by decide), fun _ => hF24⟩
