/-! the law's cases 18 to 25 -/
set_option maxRecDepth 100000 in
theorem cs_worst {g : hc_G} {Ln : Nat} {xs : Nat → Int32} {k : Nat} {ac : Nat × Nat} {Λ : hc_L} {I : hc_I} {L : hc_J} {R : hc_R} {S : HS} (a : AtK g Ln xs k ac Λ I L R S) (K : Kt g k) : GW g ac 663 (lS (6 * k)) [] Λ I L R := by
  obtain ⟨G, hL, hk, hb0, hH, hM, hP⟩ := id a
  refine GW_aloadn G 1 dL_law_663 rfl rfl ?_
  refine GW_arg G (i := 6 * k) (n := 1) dL_law_664 dL_law_665 dL_law_666 dL_law_667 dL_law_668 rfl (by decide) rfl (by omega) ?_
  refine GW_arg G (i := 6 * k) (n := 2) dL_law_669 dL_law_670 dL_law_671 dL_law_672 dL_law_673 rfl (by decide) rfl (by omega) ?_
  refine GW_arg G (i := 6 * k) (n := 3) dL_law_674 dL_law_675 dL_law_676 dL_law_677 dL_law_678 rfl (by decide) rfl (by omega) ?_
  refine GW_arg G (i := 6 * k) (n := 4) dL_law_679 dL_law_680 dL_law_681 dL_law_682 dL_law_683 rfl (by decide) rfl (by omega) ?_
  refine GW_y a (As := [.int (xs (6 * k + 1)), .int (xs (6 * k + 2)), .int (xs (6 * k + 3)), .int (xs (6 * k + 4))]) (T := fun v' S2 => v' = .long (qWorst (sA S) (sP S) (xs (6 * k + 1)) (xs (6 * k + 2)) (xs (6 * k + 3)) (xs (6 * k + 4)) 0 0) ∧ S2 = S) (h_worst hH (xs (6 * k + 1)) (xs (6 * k + 2)) (xs (6 * k + 3)) (xs (6 * k + 4))) (fun r Λ' I' L' R' q => by obtain ⟨x, y, q⟩ := q; exact ⟨_, S, ⟨by rw [qWorst_ab a.w], rfl⟩, q⟩) YX10_worst rfl dL_law_684 mlL_95 rfl (Nat.le_of_ble_eq_true rfl) ⟨Nat.le_of_ble_eq_true rfl, Nat.le_of_ble_eq_true rfl⟩ rfl (fun v S2 ac2 Λ2 I2 L2 R2 hT hb hH2 hM2 => ?_)
  obtain ⟨rfl, rfl⟩ := hT
  refine GW_aloadn G 2 dL_law_687 rfl rfl ?_
  refine GW_arg G (i := 6 * k) (n := 1) dL_law_688 dL_law_689 dL_law_690 dL_law_691 dL_law_692 rfl (by decide) rfl (by omega) ?_
  refine GW_arg G (i := 6 * k) (n := 2) dL_law_693 dL_law_694 dL_law_695 dL_law_696 dL_law_697 rfl (by decide) rfl (by omega) ?_
  refine GW_arg G (i := 6 * k) (n := 3) dL_law_698 dL_law_699 dL_law_700 dL_law_701 dL_law_702 rfl (by decide) rfl (by omega) ?_
  refine GW_arg G (i := 6 * k) (n := 4) dL_law_703 dL_law_704 dL_law_705 dL_law_706 dL_law_707 rfl (by decide) rfl (by omega) ?_
  refine GW_m G hk hb hH2 (As := [.int (xs (6 * k + 1)), .int (xs (6 * k + 2)), .int (xs (6 * k + 3)), .int (xs (6 * k + 4))]) (m_worst hM2 (xs (6 * k + 1)) (xs (6 * k + 2)) (xs (6 * k + 3)) (xs (6 * k + 4))) YX11_worst rfl dL_law_708 mlL_99 rfl (Nat.le_of_ble_eq_true rfl) ⟨rfl, rfl⟩ (Nat.le_of_ble_eq_true rfl) rfl (fun I3 L3 hH3 hM3 => ?_)
  exact GW_tL G dL_law_711 dL_law_712 rfl (K _ _ _ _ _ _ hb hH3 hM3 (hP.mono (Nat.le_succ k)))
set_option maxRecDepth 100000 in
theorem cs_rate {g : hc_G} {Ln : Nat} {xs : Nat → Int32} {k : Nat} {ac : Nat × Nat} {Λ : hc_L} {I : hc_I} {L : hc_J} {R : hc_R} {S : HS} (a : AtK g Ln xs k ac Λ I L R S) (K : Kt g k) : GW g ac 717 (lS (6 * k)) [] Λ I L R := by
  obtain ⟨G, hL, hk, hb0, hH, hM, hP⟩ := id a
  refine GW_aloadn G 1 dL_law_717 rfl rfl ?_
  refine GW_x a (As := []) (h_rate hH) YX10_rate rfl dL_law_718 mlL_100 rfl (Nat.le_of_ble_eq_true rfl) ⟨Nat.le_of_ble_eq_true rfl, Nat.le_of_ble_eq_true rfl⟩ rfl (fun ac2 Λ2 I2 L2 R2 hb hH2 hM2 => ?_)
  refine GW_aloadn G 2 dL_law_721 rfl rfl ?_
  refine GW_m G hk hb hH2 (As := []) (m_rate hM2 a.rb) YX11_rate rfl dL_law_722 mlL_103 rfl (Nat.le_of_ble_eq_true rfl) ⟨rfl, rfl⟩ (Nat.le_of_ble_eq_true rfl) rfl (fun I3 L3 hH3 hM3 => ?_)
  exact GW_tI G dL_law_725 rfl (K _ _ _ _ _ _ hb hH3 hM3 (hP.mono (Nat.le_succ k)))
set_option maxRecDepth 100000 in
theorem cs_reserve {g : hc_G} {Ln : Nat} {xs : Nat → Int32} {k : Nat} {ac : Nat × Nat} {Λ : hc_L} {I : hc_I} {L : hc_J} {R : hc_R} {S : HS} (a : AtK g Ln xs k ac Λ I L R S) (K : Kt g k) : GW g ac 730 (lS (6 * k)) [] Λ I L R := by
  obtain ⟨G, hL, hk, hb0, hH, hM, hP⟩ := id a
  refine GW_aloadn G 1 dL_law_730 rfl rfl ?_
  refine GW_x a (As := []) (h_reserve hH) YX10_reserve rfl dL_law_731 mlL_104 rfl (Nat.le_of_ble_eq_true rfl) ⟨Nat.le_of_ble_eq_true rfl, Nat.le_of_ble_eq_true rfl⟩ rfl (fun ac2 Λ2 I2 L2 R2 hb hH2 hM2 => ?_)
  refine GW_aloadn G 2 dL_law_734 rfl rfl ?_
  refine GW_m G hk hb hH2 (As := []) (m_reserve hM2) YX11_reserve rfl dL_law_735 mlL_107 rfl (Nat.le_of_ble_eq_true rfl) ⟨rfl, rfl⟩ (Nat.le_of_ble_eq_true rfl) rfl (fun I3 L3 hH3 hM3 => ?_)
  exact GW_tL G dL_law_738 dL_law_739 rfl (K _ _ _ _ _ _ hb hH3 hM3 (hP.mono (Nat.le_succ k)))
set_option maxRecDepth 100000 in
theorem cs_without {g : hc_G} {Ln : Nat} {xs : Nat → Int32} {k : Nat} {ac : Nat × Nat} {Λ : hc_L} {I : hc_I} {L : hc_J} {R : hc_R} {S : HS} (a : AtK g Ln xs k ac Λ I L R S) (K : Kt g k) : GW g ac 744 (lS (6 * k)) [] Λ I L R := by
  obtain ⟨G, hL, hk, hb0, hH, hM, hP⟩ := id a
  refine GW_aloadn G 1 dL_law_744 rfl rfl ?_
  refine GW_arg G (i := 6 * k) (n := 1) dL_law_745 dL_law_746 dL_law_747 dL_law_748 dL_law_749 rfl (by decide) rfl (by omega) ?_
  refine GW_arg G (i := 6 * k) (n := 2) dL_law_750 dL_law_751 dL_law_752 dL_law_753 dL_law_754 rfl (by decide) rfl (by omega) ?_
  refine GW_x a (As := [.int (xs (6 * k + 1)), .int (xs (6 * k + 2))]) (h_without hH (xs (6 * k + 1)) (xs (6 * k + 2))) YX10_without rfl dL_law_755 mlL_108 rfl (Nat.le_of_ble_eq_true rfl) ⟨Nat.le_of_ble_eq_true rfl, Nat.le_of_ble_eq_true rfl⟩ rfl (fun ac2 Λ2 I2 L2 R2 hb hH2 hM2 => ?_)
  refine GW_aloadn G 2 dL_law_758 rfl rfl ?_
  refine GW_arg G (i := 6 * k) (n := 1) dL_law_759 dL_law_760 dL_law_761 dL_law_762 dL_law_763 rfl (by decide) rfl (by omega) ?_
  refine GW_arg G (i := 6 * k) (n := 2) dL_law_764 dL_law_765 dL_law_766 dL_law_767 dL_law_768 rfl (by decide) rfl (by omega) ?_
  refine GW_m G hk hb hH2 (As := [.int (xs (6 * k + 1)), .int (xs (6 * k + 2))]) (m_without hM2 a.rb (xs (6 * k + 1)) (xs (6 * k + 2))) YX11_without rfl dL_law_769 mlL_111 rfl (Nat.le_of_ble_eq_true rfl) ⟨rfl, rfl⟩ (Nat.le_of_ble_eq_true rfl) rfl (fun I3 L3 hH3 hM3 => ?_)
  exact GW_tL G dL_law_772 dL_law_773 rfl (K _ _ _ _ _ _ hb hH3 hM3 (hP.mono (Nat.le_succ k)))
set_option maxRecDepth 100000 in
theorem cs_near {g : hc_G} {Ln : Nat} {xs : Nat → Int32} {k : Nat} {ac : Nat × Nat} {Λ : hc_L} {I : hc_I} {L : hc_J} {R : hc_R} {S : HS} (a : AtK g Ln xs k ac Λ I L R S) (K : Kt g k) : GW g ac 778 (lS (6 * k)) [] Λ I L R := by
  obtain ⟨G, hL, hk, hb0, hH, hM, hP⟩ := id a
  refine GW_aloadn G 1 dL_law_778 rfl rfl ?_
  refine GW_arg G (i := 6 * k) (n := 1) dL_law_779 dL_law_780 dL_law_781 dL_law_782 dL_law_783 rfl (by decide) rfl (by omega) ?_
  refine GW_arg G (i := 6 * k) (n := 2) dL_law_784 dL_law_785 dL_law_786 dL_law_787 dL_law_788 rfl (by decide) rfl (by omega) ?_
  refine GW_x a (As := [.int (xs (6 * k + 1)), .int (xs (6 * k + 2))]) (h_near hH (xs (6 * k + 1)) (xs (6 * k + 2))) YX10_near rfl dL_law_789 mlL_112 rfl (Nat.le_of_ble_eq_true rfl) ⟨Nat.le_of_ble_eq_true rfl, Nat.le_of_ble_eq_true rfl⟩ rfl (fun ac2 Λ2 I2 L2 R2 hb hH2 hM2 => ?_)
  refine GW_aloadn G 2 dL_law_792 rfl rfl ?_
  refine GW_arg G (i := 6 * k) (n := 1) dL_law_793 dL_law_794 dL_law_795 dL_law_796 dL_law_797 rfl (by decide) rfl (by omega) ?_
  refine GW_arg G (i := 6 * k) (n := 2) dL_law_798 dL_law_799 dL_law_800 dL_law_801 dL_law_802 rfl (by decide) rfl (by omega) ?_
  refine GW_m G hk hb hH2 (As := [.int (xs (6 * k + 1)), .int (xs (6 * k + 2))]) (m_near hM2 (xs (6 * k + 1)) (xs (6 * k + 2))) YX11_near rfl dL_law_803 mlL_115 rfl (Nat.le_of_ble_eq_true rfl) ⟨rfl, rfl⟩ (Nat.le_of_ble_eq_true rfl) rfl (fun I3 L3 hH3 hM3 => ?_)
  exact GW_tI G dL_law_806 rfl (K _ _ _ _ _ _ hb hH3 hM3 (hP.mono (Nat.le_succ k)))
set_option maxRecDepth 100000 in
theorem cs_rank {g : hc_G} {Ln : Nat} {xs : Nat → Int32} {k : Nat} {ac : Nat × Nat} {Λ : hc_L} {I : hc_I} {L : hc_J} {R : hc_R} {S : HS} (a : AtK g Ln xs k ac Λ I L R S) (K : Kt g k) : GW g ac 811 (lS (6 * k)) [] Λ I L R := by
  obtain ⟨G, hL, hk, hb0, hH, hM, hP⟩ := id a
  refine GW_aloadn G 1 dL_law_811 rfl rfl ?_
  refine GW_arg G (i := 6 * k) (n := 1) dL_law_812 dL_law_813 dL_law_814 dL_law_815 dL_law_816 rfl (by decide) rfl (by omega) ?_
  refine GW_x a (As := [.int (xs (6 * k + 1))]) (h_rank hH (xs (6 * k + 1))) YX10_rank rfl dL_law_817 mlL_116 rfl (Nat.le_of_ble_eq_true rfl) ⟨Nat.le_of_ble_eq_true rfl, Nat.le_of_ble_eq_true rfl⟩ rfl (fun ac2 Λ2 I2 L2 R2 hb hH2 hM2 => ?_)
  refine GW_aloadn G 2 dL_law_820 rfl rfl ?_
  refine GW_arg G (i := 6 * k) (n := 1) dL_law_821 dL_law_822 dL_law_823 dL_law_824 dL_law_825 rfl (by decide) rfl (by omega) ?_
  refine GW_m G hk hb hH2 (As := [.int (xs (6 * k + 1))]) (m_rank hM2 a.rb (xs (6 * k + 1))) YX11_rank rfl dL_law_826 mlL_119 rfl (Nat.le_of_ble_eq_true rfl) ⟨rfl, rfl⟩ (Nat.le_of_ble_eq_true rfl) rfl (fun I3 L3 hH3 hM3 => ?_)
  exact GW_tI G dL_law_829 rfl (K _ _ _ _ _ _ hb hH3 hM3 (hP.mono (Nat.le_succ k)))
set_option maxRecDepth 100000 in
theorem cs_alone {g : hc_G} {Ln : Nat} {xs : Nat → Int32} {k : Nat} {ac : Nat × Nat} {Λ : hc_L} {I : hc_I} {L : hc_J} {R : hc_R} {S : HS} (a : AtK g Ln xs k ac Λ I L R S) (K : Kt g k) : GW g ac 834 (lS (6 * k)) [] Λ I L R := by
  obtain ⟨G, hL, hk, hb0, hH, hM, hP⟩ := id a
  refine GW_aloadn G 1 dL_law_834 rfl rfl ?_
  refine GW_arg G (i := 6 * k) (n := 1) dL_law_835 dL_law_836 dL_law_837 dL_law_838 dL_law_839 rfl (by decide) rfl (by omega) ?_
  refine GW_arg G (i := 6 * k) (n := 2) dL_law_840 dL_law_841 dL_law_842 dL_law_843 dL_law_844 rfl (by decide) rfl (by omega) ?_
  refine GW_x a (As := [.int (xs (6 * k + 1)), .int (xs (6 * k + 2))]) (h_alone hH (xs (6 * k + 1)) (xs (6 * k + 2))) YX10_alone rfl dL_law_845 mlL_120 rfl (Nat.le_of_ble_eq_true rfl) ⟨Nat.le_of_ble_eq_true rfl, Nat.le_of_ble_eq_true rfl⟩ rfl (fun ac2 Λ2 I2 L2 R2 hb hH2 hM2 => ?_)
  refine GW_aloadn G 2 dL_law_848 rfl rfl ?_
  refine GW_arg G (i := 6 * k) (n := 1) dL_law_849 dL_law_850 dL_law_851 dL_law_852 dL_law_853 rfl (by decide) rfl (by omega) ?_
  refine GW_arg G (i := 6 * k) (n := 2) dL_law_854 dL_law_855 dL_law_856 dL_law_857 dL_law_858 rfl (by decide) rfl (by omega) ?_
  refine GW_m G hk hb hH2 (As := [.int (xs (6 * k + 1)), .int (xs (6 * k + 2))]) (m_alone hM2 (xs (6 * k + 1)) (xs (6 * k + 2))) YX11_alone rfl dL_law_859 mlL_123 rfl (Nat.le_of_ble_eq_true rfl) ⟨rfl, rfl⟩ (Nat.le_of_ble_eq_true rfl) rfl (fun I3 L3 hH3 hM3 => ?_)
  exact GW_tL G dL_law_862 dL_law_863 rfl (K _ _ _ _ _ _ hb hH3 hM3 (hP.mono (Nat.le_succ k)))
set_option maxRecDepth 100000 in
theorem cs_look {g : hc_G} {Ln : Nat} {xs : Nat → Int32} {k : Nat} {ac : Nat × Nat} {Λ : hc_L} {I : hc_I} {L : hc_J} {R : hc_R} {S : HS} (a : AtK g Ln xs k ac Λ I L R S) (K : Kt g k) : GW g ac 868 (lS (6 * k)) [] Λ I L R := by
  obtain ⟨G, hL, hk, hb0, hH, hM, hP⟩ := id a
  refine GW_aloadn G 1 dL_law_868 rfl rfl ?_
  refine GW_arg G (i := 6 * k) (n := 1) dL_law_869 dL_law_870 dL_law_871 dL_law_872 dL_law_873 rfl (by decide) rfl (by omega) ?_
  refine GW_x a (As := [.int (xs (6 * k + 1))]) (h_look hH (xs (6 * k + 1))) YX10_look rfl dL_law_874 mlL_124 rfl (Nat.le_of_ble_eq_true rfl) ⟨Nat.le_of_ble_eq_true rfl, Nat.le_of_ble_eq_true rfl⟩ rfl (fun ac2 Λ2 I2 L2 R2 hb hH2 hM2 => ?_)
  refine GW_aloadn G 2 dL_law_877 rfl rfl ?_
  refine GW_arg G (i := 6 * k) (n := 1) dL_law_878 dL_law_879 dL_law_880 dL_law_881 dL_law_882 rfl (by decide) rfl (by omega) ?_
  refine GW_m G hk hb hH2 (As := [.int (xs (6 * k + 1))]) (m_look hM2 (xs (6 * k + 1))) YX11_look rfl dL_law_883 mlL_127 rfl (Nat.le_of_ble_eq_true rfl) ⟨rfl, rfl⟩ (Nat.le_of_ble_eq_true rfl) rfl (fun I3 L3 hH3 hM3 => ?_)
  exact GW_tI G dL_law_886 rfl (K _ _ _ _ _ _ hb hH3 hM3 (hP.mono (Nat.le_succ k)))
