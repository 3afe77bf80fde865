/-! the reference reads: next, all of it -/
set_option maxRecDepth 100000 in
theorem r_next {Λ : hc_L} {I : hc_I} {L : hc_J} {R : hc_R} (hY : LY Λ) {n p : Nat} {B : Nat → Nat} (hb : TpB I n B) (hpn : p ≤ n) (h27 : I 217 27 = nI p) : Run xX11_next [.ref 217] Λ I L R (NX n B (tkF B n p) Λ I L R) := by
  refine Run.of (by decide +kernel) (Nat.le_of_ble_eq_true rfl) ?_
  show LW _ _ _ [(0, .ref 217)] _ _ _ _ _ _
  obtain ⟨hq0, hqn⟩ := tkF_le (B := B) (n := n) (p := p) hpn
  exact nx_sp hY hb (q := tkF B n p) (fun I3 a b c => nx_39 hY hb hqn a b c) (tkF B n p - p) p rfl (by omega) hpn I (fun _ _ => rfl) (fun _ _ => rfl) h27
