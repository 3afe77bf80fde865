/-! from the law's entry -/
set_option maxRecDepth 100000 in
theorem GW_start {g : hc_G} {Ln : Nat} {xs : Nat → Int32} (G : GA g Ln xs) {I : hc_I} {L : hc_J} {R : hc_R} {Λ : hc_L} (hn : Λ.1 = 0) : GW g (0, 0) 0 [(0, .ref 1000200)] [] Λ I L R := by
  have gx0 := Nx.of (I := I) (L := L) (R := R) hn 110 0
  refine GW_new G (ci := 10) (N := 9) rfl inX10 tyX10_ok dvX10 dL_law_0 clL_7 insX10 iniX10 (by omega) ⟨Nat.le_of_ble_eq_true rfl, Nat.le_of_ble_eq_true rfl⟩ ?_
  rw [hn] at gx0 ⊢
  generalize hc_nw Λ (100 + 10) 0 = Λ1 at gx0 ⊢
  generalize hc_r I 0 (fun _ => 0) = I1 at gx0 ⊢
  generalize hc_r L 0 (fun _ => 0) = L1 at gx0 ⊢
  generalize hc_r R 0 (fun _ => none) = R1 at gx0 ⊢
  refine GW_dup G dL_law_3 rfl ?_
  refine GW_callI G (cx' := xX10_init) (As := []) (st := [.ref 0]) (k_X10 gx0.1.2.1 gx0.1.2.2) YX10_init rfl dL_law_4 mlL_9 (by rw [gx0.1.2.1]; decide) (Nat.le_of_ble_eq_true rfl) ⟨Nat.le_of_ble_eq_true rfl, Nat.le_of_ble_eq_true rfl⟩ (Nat.le_of_ble_eq_true rfl) rfl ?_
  intro r Λ2 I2 L2 R2 q
  obtain ⟨hr, hn2, hT2, hF2, hC2⟩ := q
  subst hr
  refine GW_astoren G (ls' := [(0, .ref 1000200), (1, .ref 0)]) dL_law_7 rfl (by decide) rfl ?_
  have gx1 := Nx.of (I := I2) (L := L2) (R := R2) hn2 111 0
  refine GW_new G (ci := 11) (N := 44) rfl inX11 tyX11_ok dvX11 dL_law_8 clL_10 insX11 iniX11 (by omega) ⟨Nat.le_of_ble_eq_true rfl, Nat.le_of_ble_eq_true rfl⟩ ?_
  rw [hn2] at gx1 ⊢
  generalize hc_nw Λ2 (100 + 11) 0 = Λ3 at gx1 ⊢
  generalize hc_r I2 217 (fun _ => 0) = I3 at gx1 ⊢
  generalize hc_r L2 217 (fun _ => 0) = L3 at gx1 ⊢
  generalize hc_r R2 217 (fun _ => none) = R3 at gx1 ⊢
  refine GW_dup G dL_law_11 rfl ?_
  refine GW_callI G (cx' := xX11_init) (As := []) (st := [.ref 217]) (k_X11 gx1.1.2.1 gx1.1.2.2 rfl gx1 hT2 hF2 hC2) YX11_init rfl dL_law_12 mlL_12 (by rw [gx1.1.2.1]; decide) (Nat.le_of_ble_eq_true rfl) ⟨Nat.le_of_ble_eq_true rfl, Nat.le_of_ble_eq_true rfl⟩ (Nat.le_of_ble_eq_true rfl) rfl ?_
  intro r Λ4 I4 L4 R4 q
  obtain ⟨hr, hn4, er, ek, hH, hM⟩ := q
  subst hr
  refine GW_astoren G (ls' := [(0, .ref 1000200), (1, .ref 0), (2, .ref 217)]) dL_law_15 rfl (by decide) rfl ?_
  refine GW_iconst G dL_law_16 (v := nI 0) rfl ?_
  refine GW_istoren G (ls' := lS (6 * 0)) dL_law_17 rfl (by decide) rfl ?_
  exact GW_loop G (Ln / 6) 0 _ _ _ _ _ _ (by omega) (by omega) ⟨Nat.le_of_ble_eq_true rfl, Nat.le_of_ble_eq_true rfl, by rw [hn4]; decide⟩ hH hM (PI.s0 er ek)
/-- from the entry -/
theorem whole_start {p : Program} {e : Env} {s : State} {m : MethodId} {below : List Frame} {meth : Method} {c : Code} (l : Launch) (hflags : l.flags = flags0) {b L : Nat} {xs : Nat → Int32} (hL : L ≤ 3072) (C0 : lw_At p s m meth c b L xs) : W p l e room_1 s m #[Value.ref b] below meth c s.heap [] 0 0 (lw_Z below #[Value.ref b] s) (entryFrame m ([Value.ref b] : List Value).toArray 4) := by
  obtain ⟨hx, hb, hr, hml, hown, hts, hX, hbl, hlocks, hgv⟩ := id C0
  obtain ⟨E, hK, hB, hS200⟩ := hcK_start hts hgv
  have G : GA (p, l, e, s, m, below, meth, c, b, E) L xs := ⟨C0, hK, hB, hS200, hL⟩
  have hl := lv_entry ([.ref b]) (n := 4) (Nat.le_of_ble_eq_true rfl)
  rw [lg_entry_eq]
  generalize (lg_sl ([.ref b]) ++ List.replicate (4 - (lg_sl ([.ref b])).length) Slot.unset).toArray = la at hl ⊢
  have hl : lv_has la 4 [(0, .ref b)] := hl
  have h := GW_start G (I := fun _ _ => 0) (L := fun _ _ => 0) (R := fun _ _ => none) (Λ := (0, fun _ => (0, 0), fun _ _ => none)) rfl s.heap [] la ⟨by show s.heap.size = eB E + 0; rw [hB]; rfl, Nat.zero_le _, fun k hk => absurd hk (Nat.not_lt_zero k)⟩ ?_ ?_
  · exact h
  · exact va_S.rf
  · have e0 : hc_ls E [(0, .ref 1000200)] = [(0, .ref b)] := by
      show [(0, Value.ref (hc_ad E 1000200))] = _
      rw [show hc_ad E 1000200 = b from (if_neg (by decide)).trans hS200]
    show lv_has la 4 (hc_ls E [(0, .ref 1000200)])
    rw [e0]
    exact hl
