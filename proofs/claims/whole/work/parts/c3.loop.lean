/-! the law's loop -/
set_option maxRecDepth 100000 in
theorem sub6 (n : Nat) (h : n < 3073) : (nI n - 6).toInt = (n : Int) - 6 := by
  rw [Int32.toInt_sub, toInt_of (n := nI n) rfl (by omega), show (6 : Int32).toInt = 6 by decide]
  have h2 : ∀ r : Int, r = ((n : Int) - 6) % 4294967296 → (if r < 2147483648 then r else r - 4294967296) = (n : Int) - 6 := by
    intro r hr
    split
    · omega
    · omega
  exact h2 _ rfl
set_option maxRecDepth 100000 in
theorem GW_case {g : hc_G} {Ln : Nat} {xs : Nat → Int32} {k : Nat} {ac : Nat × Nat} {Λ : hc_L} {I : hc_I} {L : hc_J} {R : hc_R} {S : HS} (a : AtK g Ln xs k ac Λ I L R S) (K : Kt g k) : GW g ac 33 (lS (6 * k)) [.int (xs (6 * k) &&& 31)] Λ I L R := by
  obtain ⟨j, hj, e⟩ := pk_andE (xs (6 * k)) (m := 31) 5 (by decide)
  rw [e]
  have G := a.1
  rcases (show j = 0 ∨ j = 1 ∨ j = 2 ∨ j = 3 ∨ j = 4 ∨ j = 5 ∨ j = 6 ∨ j = 7 ∨ j = 8 ∨ j = 9 ∨ j = 10 ∨ j = 11 ∨ j = 12 ∨ j = 13 ∨ j = 14 ∨ j = 15 ∨ j = 16 ∨ j = 17 ∨ j = 18 ∨ j = 19 ∨ j = 20 ∨ j = 21 ∨ j = 22 ∨ j = 23 ∨ j = 24 ∨ j = 25 ∨ 26 ≤ j by omega) with rfl | rfl | rfl | rfl | rfl | rfl | rfl | rfl | rfl | rfl | rfl | rfl | rfl | rfl | rfl | rfl | rfl | rfl | rfl | rfl | rfl | rfl | rfl | rfl | rfl | rfl | h26
  · exact GW_tableIn G dL_law_33 (by decide) (by decide) (off := 119) rfl (tgt := 152) rfl (cs_feed a K)
  · exact GW_tableIn G dL_law_33 (by decide) (by decide) (off := 182) rfl (tgt := 215) rfl (cs_end a K)
  · exact GW_tableIn G dL_law_33 (by decide) (by decide) (off := 205) rfl (tgt := 238) rfl (cs_book a K)
  · exact GW_tableIn G dL_law_33 (by decide) (by decide) (off := 218) rfl (tgt := 251) rfl (cs_join a K)
  · exact GW_tableIn G dL_law_33 (by decide) (by decide) (off := 231) rfl (tgt := 264) rfl (cs_fault a K)
  · exact GW_tableIn G dL_law_33 (by decide) (by decide) (off := 254) rfl (tgt := 287) rfl (cs_named a K)
  · exact GW_tableIn G dL_law_33 (by decide) (by decide) (off := 267) rfl (tgt := 300) rfl (cs_storm a K)
  · exact GW_tableIn G dL_law_33 (by decide) (by decide) (off := 330) rfl (tgt := 363) rfl (cs_leave a K)
  · exact GW_tableIn G dL_law_33 (by decide) (by decide) (off := 353) rfl (tgt := 386) rfl (cs_close a K)
  · exact GW_tableIn G dL_law_33 (by decide) (by decide) (off := 367) rfl (tgt := 400) rfl (cs_undo a K)
  · exact GW_tableIn G dL_law_33 (by decide) (by decide) (off := 380) rfl (tgt := 413) rfl (cs_member a K)
  · exact GW_tableIn G dL_law_33 (by decide) (by decide) (off := 414) rfl (tgt := 447) rfl (cs_field a K)
  · exact GW_tableIn G dL_law_33 (by decide) (by decide) (off := 448) rfl (tgt := 481) rfl (cs_hazard a K)
  · exact GW_tableIn G dL_law_33 (by decide) (by decide) (off := 481) rfl (tgt := 514) rfl (cs_now a K)
  · exact GW_tableIn G dL_law_33 (by decide) (by decide) (off := 505) rfl (tgt := 538) rfl (cs_mine a K)
  · exact GW_tableIn G dL_law_33 (by decide) (by decide) (off := 539) rfl (tgt := 572) rfl (cs_then a K)
  · exact GW_tableIn G dL_law_33 (by decide) (by decide) (off := 573) rfl (tgt := 606) rfl (cs_club a K)
  · exact GW_tableIn G dL_law_33 (by decide) (by decide) (off := 597) rfl (tgt := 630) rfl (cs_set a K)
  · exact GW_tableIn G dL_law_33 (by decide) (by decide) (off := 630) rfl (tgt := 663) rfl (cs_worst a K)
  · exact GW_tableIn G dL_law_33 (by decide) (by decide) (off := 684) rfl (tgt := 717) rfl (cs_rate a K)
  · exact GW_tableIn G dL_law_33 (by decide) (by decide) (off := 697) rfl (tgt := 730) rfl (cs_reserve a K)
  · exact GW_tableIn G dL_law_33 (by decide) (by decide) (off := 711) rfl (tgt := 744) rfl (cs_without a K)
  · exact GW_tableIn G dL_law_33 (by decide) (by decide) (off := 745) rfl (tgt := 778) rfl (cs_near a K)
  · exact GW_tableIn G dL_law_33 (by decide) (by decide) (off := 778) rfl (tgt := 811) rfl (cs_rank a K)
  · exact GW_tableIn G dL_law_33 (by decide) (by decide) (off := 801) rfl (tgt := 834) rfl (cs_alone a K)
  · exact GW_tableIn G dL_law_33 (by decide) (by decide) (off := 835) rfl (tgt := 868) rfl (cs_look a K)
  · obtain ⟨-, -, hk, ⟨b1, b2, b3⟩, hH, hM, hP⟩ := a
    refine GW_tableOut G dL_law_33 (Or.inr ?_) (tgt := 891) rfl (K ac Λ I L R S ⟨by omega, by omega, by omega⟩ hH hM (hP.mono (Nat.le_succ k)))
    rw [toInt_of (n := nI j) rfl (by omega)]
    omega
set_option maxRecDepth 100000 in
theorem GW_loop {g : hc_G} {Ln : Nat} {xs : Nat → Int32} (G : GA g Ln xs) : ∀ (c k : Nat) (ac : Nat × Nat) (Λ : hc_L) (I : hc_I) (L : hc_J) (R : hc_R) (S : HS), 6 * (k + c) ≤ Ln → Ln < 6 * (k + c) + 6 → Kb k ac Λ → HW Λ I L R S → MW Λ I L S → PI k S → GW g ac 18 (lS (6 * k)) [] Λ I L R := by
  intro c
  have h3 := G.2.2.2.2
  induction c with
  | zero =>
    intro k ac Λ I L R S hle hlt hb hH hM hP
    obtain ⟨b1, b2, b3⟩ := hb
    refine GW_iloadn G 3 dL_law_18 rfl rfl ?_
    refine GW_aloadn G 0 dL_law_19 rfl rfl ?_
    refine GW_slen G dL_law_20 ?_
    refine GW_bipush G dL_law_21 (v := 6) (by decide) ?_
    refine GW_isub G dL_law_23 ?_
    refine GW_icmp_gt G dL_law_24 (tgt := 897) rfl (fun _ => ?_) (fun q => absurd ?_ q)
    · refine GW_iconst G dL_law_897 (v := 1) (by decide) ?_
      exact GW_ret G dL_law_898 (by omega) (by omega)
    · rw [Int32.lt_iff_toInt_lt, sub6 Ln (by omega), toInt_of (n := nI (6 * k)) rfl (by omega)]
      omega
  | succ c ih =>
    intro k ac Λ I L R S hle hlt hb hH hM hP
    refine GW_iloadn G 3 dL_law_18 rfl rfl ?_
    refine GW_aloadn G 0 dL_law_19 rfl rfl ?_
    refine GW_slen G dL_law_20 ?_
    refine GW_bipush G dL_law_21 (v := 6) (by decide) ?_
    refine GW_isub G dL_law_23 ?_
    refine GW_icmp_gt G dL_law_24 (tgt := 897) rfl (fun q => absurd q ?_) (fun _ => ?_)
    · rw [Int32.lt_iff_toInt_lt, sub6 Ln (by omega), toInt_of (n := nI (6 * k)) rfl (by omega)]
      omega
    · refine GW_aloadn G 0 dL_law_27 rfl rfl ?_
      refine GW_iloadn G 3 dL_law_28 rfl rfl ?_
      refine GW_sld G dL_law_29 (n := 6 * k) rfl (by omega) ?_
      refine GW_bipush G dL_law_30 (v := 31) (by decide) ?_
      refine GW_iand G dL_law_32 ?_
      refine GW_case ⟨G, by omega, by omega, hb, hH, hM, hP⟩ ?_
      intro ac2 Λ2 I2 L2 R2 S2 hb2 hH2 hM2 hP2
      refine GW_iinc G dL_law_891 (n := 3) (ls' := lS (6 * (k + 1))) rfl (v := nI (6 * (k + 1))) (by rw [show Int32.ofInt 6 = nI 6 by decide, nI_add]; rfl) (by decide) rfl ?_
      refine GW_goto G dL_law_894 (tgt := 18) rfl ?_
      exact ih (k + 1) ac2 Λ2 I2 L2 R2 S2 (by omega) (by omega) hb2 hH2 hM2 hP2
