/-! the law: calls 14 to 21 -/
theorem dL_law_780 : decode cL_law 780 = .ok (.aload_n 1, 1) := by decide +kernel
theorem dL_law_781 : decode cL_law 781 = .ok (.aload_n 0, 1) := by decide +kernel
theorem dL_law_782 : decode cL_law 782 = .ok (.iload_n 3, 1) := by decide +kernel
theorem dL_law_783 : decode cL_law 783 = .ok (.iconst 1, 1) := by decide +kernel
theorem dL_law_784 : decode cL_law 784 = .ok (.iadd, 1) := by decide +kernel
theorem dL_law_785 : decode cL_law 785 = .ok (.iaload, 1) := by decide +kernel
theorem dL_law_786 : decode cL_law 786 = .ok (.invokevirtual 78, 3) := by decide +kernel
theorem dL_law_789 : decode cL_law 789 = .ok (.aload_n 2, 1) := by decide +kernel
theorem dL_law_790 : decode cL_law 790 = .ok (.aload_n 0, 1) := by decide +kernel
theorem dL_law_791 : decode cL_law 791 = .ok (.iload_n 3, 1) := by decide +kernel
theorem dL_law_792 : decode cL_law 792 = .ok (.iconst 1, 1) := by decide +kernel
theorem dL_law_793 : decode cL_law 793 = .ok (.iadd, 1) := by decide +kernel
theorem dL_law_794 : decode cL_law 794 = .ok (.iaload, 1) := by decide +kernel
theorem dL_law_795 : decode cL_law 795 = .ok (.invokevirtual 81, 3) := by decide +kernel
theorem dL_law_798 : decode cL_law 798 = .ok (.if_icmp .eq 1281, 3) := by decide +kernel
set_option maxHeartbeats 400000 in
set_option maxRecDepth 20000 in
theorem law_14 {E : EV} (hE : EOK E) {q v0 : Nat} (hXS : EXS E q v0) {X : TX} {b L : Nat} {xs : Nat → Int32} (h : CX E X cL_law RL ret room_1 4) (hX : LX X b L xs) (hL : L ≤ 3072) {z : Int} (h0 : 0 ≤ z) (h1 : z ≤ L - 6) {A : AS} (K : ∀ A2 : AS, JL E (LQP E) X 2079 [(3, .int (iI z)), (2, eA E 76), (1, eA E 74), (0, .ref b)] [] (A2, A2)) : JL E (LQP E) X 780 [(3, .int (iI z)), (2, eA E 76), (1, eA E 74), (0, .ref b)] [] (A, A) := by
  refine j_aload_n h 2 dL_law_780 rfl rfl ?_
  refine j_aload_n h 3 dL_law_781 rfl rfl ?_
  refine j_iload_n h 0 dL_law_782 rfl rfl ?_
  refine j_iconst h dL_law_783 ?_
  refine j_iadd h dL_law_784 ?_
  refine j_sld h hX hL (by omega) (by omega) dL_law_785 ?_
  refine j_callV h (ct_L (fun g0 => p_hash hE (okI_of (xs (z + 1).toNat)))) m_X3_hash a_l_L_78 rfl rfl ⟨Nat.le_of_ble_eq_true rfl, Nat.le_of_ble_eq_true rfl⟩ (ci := 3) rfl (by omega) rcL3 rfl rfl (Nat.le_of_ble_eq_true rfl) dL_law_786 ?_
  refine j_aload_n h 1 dL_law_789 rfl rfl ?_
  refine j_aload_n h 3 dL_law_790 rfl rfl ?_
  refine j_iload_n h 0 dL_law_791 rfl rfl ?_
  refine j_iconst h dL_law_792 ?_
  refine j_iadd h dL_law_793 ?_
  refine j_sld h hX hL (by omega) (by omega) dL_law_794 ?_
  refine j_callV h (ct_R (fun g0 => q_hash hE (okI_of (xs (z + 1).toNat)))) m_X4_hash a_l_L_81 rfl rfl ⟨Nat.le_of_ble_eq_true rfl, Nat.le_of_ble_eq_true rfl⟩ (ci := 4) rfl (by omega) rcL4 rfl rfl (Nat.le_of_ble_eq_true rfl) dL_law_795 ?_
  exact j_rcmp_eq h 2079 dL_law_798 (by decide) (fun _ => K _) (fun w => absurd rfl w)
theorem dL_law_803 : decode cL_law 803 = .ok (.aload_n 1, 1) := by decide +kernel
theorem dL_law_804 : decode cL_law 804 = .ok (.aload_n 0, 1) := by decide +kernel
theorem dL_law_805 : decode cL_law 805 = .ok (.iload_n 3, 1) := by decide +kernel
theorem dL_law_806 : decode cL_law 806 = .ok (.iconst 1, 1) := by decide +kernel
theorem dL_law_807 : decode cL_law 807 = .ok (.iadd, 1) := by decide +kernel
theorem dL_law_808 : decode cL_law 808 = .ok (.iaload, 1) := by decide +kernel
theorem dL_law_809 : decode cL_law 809 = .ok (.aload_n 0, 1) := by decide +kernel
theorem dL_law_810 : decode cL_law 810 = .ok (.iload_n 3, 1) := by decide +kernel
theorem dL_law_811 : decode cL_law 811 = .ok (.iconst 2, 1) := by decide +kernel
theorem dL_law_812 : decode cL_law 812 = .ok (.iadd, 1) := by decide +kernel
theorem dL_law_813 : decode cL_law 813 = .ok (.iaload, 1) := by decide +kernel
theorem dL_law_814 : decode cL_law 814 = .ok (.invokevirtual 82, 3) := by decide +kernel
theorem dL_law_817 : decode cL_law 817 = .ok (.aload_n 2, 1) := by decide +kernel
theorem dL_law_818 : decode cL_law 818 = .ok (.aload_n 0, 1) := by decide +kernel
theorem dL_law_819 : decode cL_law 819 = .ok (.iload_n 3, 1) := by decide +kernel
theorem dL_law_820 : decode cL_law 820 = .ok (.iconst 1, 1) := by decide +kernel
theorem dL_law_821 : decode cL_law 821 = .ok (.iadd, 1) := by decide +kernel
theorem dL_law_822 : decode cL_law 822 = .ok (.iaload, 1) := by decide +kernel
theorem dL_law_823 : decode cL_law 823 = .ok (.aload_n 0, 1) := by decide +kernel
theorem dL_law_824 : decode cL_law 824 = .ok (.iload_n 3, 1) := by decide +kernel
theorem dL_law_825 : decode cL_law 825 = .ok (.iconst 2, 1) := by decide +kernel
theorem dL_law_826 : decode cL_law 826 = .ok (.iadd, 1) := by decide +kernel
theorem dL_law_827 : decode cL_law 827 = .ok (.iaload, 1) := by decide +kernel
theorem dL_law_828 : decode cL_law 828 = .ok (.invokevirtual 85, 3) := by decide +kernel
theorem dL_law_831 : decode cL_law 831 = .ok (.if_icmp .eq 1248, 3) := by decide +kernel
set_option maxHeartbeats 400000 in
set_option maxRecDepth 20000 in
theorem law_15 {E : EV} (hE : EOK E) {q v0 : Nat} (hXS : EXS E q v0) {X : TX} {b L : Nat} {xs : Nat → Int32} (h : CX E X cL_law RL ret room_1 4) (hX : LX X b L xs) (hL : L ≤ 3072) {z : Int} (h0 : 0 ≤ z) (h1 : z ≤ L - 6) {A : AS} (K : ∀ A2 : AS, JL E (LQP E) X 2079 [(3, .int (iI z)), (2, eA E 76), (1, eA E 74), (0, .ref b)] [] (A2, A2)) : JL E (LQP E) X 803 [(3, .int (iI z)), (2, eA E 76), (1, eA E 74), (0, .ref b)] [] (A, A) := by
  refine j_aload_n h 2 dL_law_803 rfl rfl ?_
  refine j_aload_n h 3 dL_law_804 rfl rfl ?_
  refine j_iload_n h 0 dL_law_805 rfl rfl ?_
  refine j_iconst h dL_law_806 ?_
  refine j_iadd h dL_law_807 ?_
  refine j_sld h hX hL (by omega) (by omega) dL_law_808 ?_
  refine j_aload_n h 3 dL_law_809 rfl rfl ?_
  refine j_iload_n h 0 dL_law_810 rfl rfl ?_
  refine j_iconst h dL_law_811 ?_
  refine j_iadd h dL_law_812 ?_
  refine j_sld h hX hL (by omega) (by omega) dL_law_813 ?_
  refine j_callV h (ct_L (fun g0 => p_first hE (okI_of (xs (z + 1).toNat)))) m_X3_first a_l_L_82 rfl rfl ⟨Nat.le_of_ble_eq_true rfl, Nat.le_of_ble_eq_true rfl⟩ (ci := 3) rfl (by omega) rcL3 rfl rfl (Nat.le_of_ble_eq_true rfl) dL_law_814 ?_
  refine j_aload_n h 1 dL_law_817 rfl rfl ?_
  refine j_aload_n h 3 dL_law_818 rfl rfl ?_
  refine j_iload_n h 0 dL_law_819 rfl rfl ?_
  refine j_iconst h dL_law_820 ?_
  refine j_iadd h dL_law_821 ?_
  refine j_sld h hX hL (by omega) (by omega) dL_law_822 ?_
  refine j_aload_n h 3 dL_law_823 rfl rfl ?_
  refine j_iload_n h 0 dL_law_824 rfl rfl ?_
  refine j_iconst h dL_law_825 ?_
  refine j_iadd h dL_law_826 ?_
  refine j_sld h hX hL (by omega) (by omega) dL_law_827 ?_
  refine j_callV h (ct_R (fun g0 => q_first hE (okI_of (xs (z + 1).toNat)))) m_X4_first a_l_L_85 rfl rfl ⟨Nat.le_of_ble_eq_true rfl, Nat.le_of_ble_eq_true rfl⟩ (ci := 4) rfl (by omega) rcL4 rfl rfl (Nat.le_of_ble_eq_true rfl) dL_law_828 ?_
  exact j_rcmp_eq h 2079 dL_law_831 (by decide) (fun _ => K _) (fun w => absurd rfl w)
theorem dL_law_836 : decode cL_law 836 = .ok (.aload_n 1, 1) := by decide +kernel
theorem dL_law_837 : decode cL_law 837 = .ok (.aload_n 0, 1) := by decide +kernel
theorem dL_law_838 : decode cL_law 838 = .ok (.iload_n 3, 1) := by decide +kernel
theorem dL_law_839 : decode cL_law 839 = .ok (.iconst 1, 1) := by decide +kernel
theorem dL_law_840 : decode cL_law 840 = .ok (.iadd, 1) := by decide +kernel
theorem dL_law_841 : decode cL_law 841 = .ok (.iaload, 1) := by decide +kernel
theorem dL_law_842 : decode cL_law 842 = .ok (.aload_n 0, 1) := by decide +kernel
theorem dL_law_843 : decode cL_law 843 = .ok (.iload_n 3, 1) := by decide +kernel
theorem dL_law_844 : decode cL_law 844 = .ok (.iconst 2, 1) := by decide +kernel
theorem dL_law_845 : decode cL_law 845 = .ok (.iadd, 1) := by decide +kernel
theorem dL_law_846 : decode cL_law 846 = .ok (.iaload, 1) := by decide +kernel
theorem dL_law_847 : decode cL_law 847 = .ok (.aload_n 0, 1) := by decide +kernel
theorem dL_law_848 : decode cL_law 848 = .ok (.iload_n 3, 1) := by decide +kernel
theorem dL_law_849 : decode cL_law 849 = .ok (.iconst 3, 1) := by decide +kernel
theorem dL_law_850 : decode cL_law 850 = .ok (.iadd, 1) := by decide +kernel
theorem dL_law_851 : decode cL_law 851 = .ok (.iaload, 1) := by decide +kernel
theorem dL_law_852 : decode cL_law 852 = .ok (.invokevirtual 86, 3) := by decide +kernel
theorem dL_law_855 : decode cL_law 855 = .ok (.aload_n 2, 1) := by decide +kernel
theorem dL_law_856 : decode cL_law 856 = .ok (.aload_n 0, 1) := by decide +kernel
theorem dL_law_857 : decode cL_law 857 = .ok (.iload_n 3, 1) := by decide +kernel
theorem dL_law_858 : decode cL_law 858 = .ok (.iconst 1, 1) := by decide +kernel
theorem dL_law_859 : decode cL_law 859 = .ok (.iadd, 1) := by decide +kernel
theorem dL_law_860 : decode cL_law 860 = .ok (.iaload, 1) := by decide +kernel
theorem dL_law_861 : decode cL_law 861 = .ok (.aload_n 0, 1) := by decide +kernel
theorem dL_law_862 : decode cL_law 862 = .ok (.iload_n 3, 1) := by decide +kernel
theorem dL_law_863 : decode cL_law 863 = .ok (.iconst 2, 1) := by decide +kernel
theorem dL_law_864 : decode cL_law 864 = .ok (.iadd, 1) := by decide +kernel
theorem dL_law_865 : decode cL_law 865 = .ok (.iaload, 1) := by decide +kernel
theorem dL_law_866 : decode cL_law 866 = .ok (.aload_n 0, 1) := by decide +kernel
theorem dL_law_867 : decode cL_law 867 = .ok (.iload_n 3, 1) := by decide +kernel
theorem dL_law_868 : decode cL_law 868 = .ok (.iconst 3, 1) := by decide +kernel
theorem dL_law_869 : decode cL_law 869 = .ok (.iadd, 1) := by decide +kernel
theorem dL_law_870 : decode cL_law 870 = .ok (.iaload, 1) := by decide +kernel
theorem dL_law_871 : decode cL_law 871 = .ok (.invokevirtual 89, 3) := by decide +kernel
theorem dL_law_874 : decode cL_law 874 = .ok (.if_icmp .eq 1205, 3) := by decide +kernel
set_option maxHeartbeats 400000 in
set_option maxRecDepth 20000 in
theorem law_16 {E : EV} (hE : EOK E) {q v0 : Nat} (hXS : EXS E q v0) {X : TX} {b L : Nat} {xs : Nat → Int32} (h : CX E X cL_law RL ret room_1 4) (hX : LX X b L xs) (hL : L ≤ 3072) {z : Int} (h0 : 0 ≤ z) (h1 : z ≤ L - 6) {A : AS} (K : ∀ A2 : AS, JL E (LQP E) X 2079 [(3, .int (iI z)), (2, eA E 76), (1, eA E 74), (0, .ref b)] [] (A2, A2)) : JL E (LQP E) X 836 [(3, .int (iI z)), (2, eA E 76), (1, eA E 74), (0, .ref b)] [] (A, A) := by
  refine j_aload_n h 2 dL_law_836 rfl rfl ?_
  refine j_aload_n h 3 dL_law_837 rfl rfl ?_
  refine j_iload_n h 0 dL_law_838 rfl rfl ?_
  refine j_iconst h dL_law_839 ?_
  refine j_iadd h dL_law_840 ?_
  refine j_sld h hX hL (by omega) (by omega) dL_law_841 ?_
  refine j_aload_n h 3 dL_law_842 rfl rfl ?_
  refine j_iload_n h 0 dL_law_843 rfl rfl ?_
  refine j_iconst h dL_law_844 ?_
  refine j_iadd h dL_law_845 ?_
  refine j_sld h hX hL (by omega) (by omega) dL_law_846 ?_
  refine j_aload_n h 3 dL_law_847 rfl rfl ?_
  refine j_iload_n h 0 dL_law_848 rfl rfl ?_
  refine j_iconst h dL_law_849 ?_
  refine j_iadd h dL_law_850 ?_
  refine j_sld h hX hL (by omega) (by omega) dL_law_851 ?_
  refine j_callV h (ct_L (fun g0 => p_firstFrom hE (okI_of (xs (z + 1).toNat)) (okI_of (xs (z + 3).toNat)))) m_X3_firstFrom a_l_L_86 rfl rfl ⟨Nat.le_of_ble_eq_true rfl, Nat.le_of_ble_eq_true rfl⟩ (ci := 3) rfl (by omega) rcL3 rfl rfl (Nat.le_of_ble_eq_true rfl) dL_law_852 ?_
  refine j_aload_n h 1 dL_law_855 rfl rfl ?_
  refine j_aload_n h 3 dL_law_856 rfl rfl ?_
  refine j_iload_n h 0 dL_law_857 rfl rfl ?_
  refine j_iconst h dL_law_858 ?_
  refine j_iadd h dL_law_859 ?_
  refine j_sld h hX hL (by omega) (by omega) dL_law_860 ?_
  refine j_aload_n h 3 dL_law_861 rfl rfl ?_
  refine j_iload_n h 0 dL_law_862 rfl rfl ?_
  refine j_iconst h dL_law_863 ?_
  refine j_iadd h dL_law_864 ?_
  refine j_sld h hX hL (by omega) (by omega) dL_law_865 ?_
  refine j_aload_n h 3 dL_law_866 rfl rfl ?_
  refine j_iload_n h 0 dL_law_867 rfl rfl ?_
  refine j_iconst h dL_law_868 ?_
  refine j_iadd h dL_law_869 ?_
  refine j_sld h hX hL (by omega) (by omega) dL_law_870 ?_
  refine j_callV h (ct_R (fun g0 => q_firstFrom hE (okI_of (xs (z + 1).toNat)) (okI_of (xs (z + 3).toNat)))) m_X4_firstFrom a_l_L_89 rfl rfl ⟨Nat.le_of_ble_eq_true rfl, Nat.le_of_ble_eq_true rfl⟩ (ci := 4) rfl (by omega) rcL4 rfl rfl (Nat.le_of_ble_eq_true rfl) dL_law_871 ?_
  exact j_rcmp_eq h 2079 dL_law_874 (by decide) (fun _ => K _) (fun w => absurd rfl w)
theorem dL_law_879 : decode cL_law 879 = .ok (.aload_n 1, 1) := by decide +kernel
theorem dL_law_880 : decode cL_law 880 = .ok (.aload_n 0, 1) := by decide +kernel
theorem dL_law_881 : decode cL_law 881 = .ok (.iload_n 3, 1) := by decide +kernel
theorem dL_law_882 : decode cL_law 882 = .ok (.iconst 1, 1) := by decide +kernel
theorem dL_law_883 : decode cL_law 883 = .ok (.iadd, 1) := by decide +kernel
theorem dL_law_884 : decode cL_law 884 = .ok (.iaload, 1) := by decide +kernel
theorem dL_law_885 : decode cL_law 885 = .ok (.aload_n 0, 1) := by decide +kernel
theorem dL_law_886 : decode cL_law 886 = .ok (.iload_n 3, 1) := by decide +kernel
theorem dL_law_887 : decode cL_law 887 = .ok (.iconst 2, 1) := by decide +kernel
theorem dL_law_888 : decode cL_law 888 = .ok (.iadd, 1) := by decide +kernel
theorem dL_law_889 : decode cL_law 889 = .ok (.iaload, 1) := by decide +kernel
theorem dL_law_890 : decode cL_law 890 = .ok (.invokevirtual 90, 3) := by decide +kernel
theorem dL_law_893 : decode cL_law 893 = .ok (.aload_n 2, 1) := by decide +kernel
theorem dL_law_894 : decode cL_law 894 = .ok (.aload_n 0, 1) := by decide +kernel
theorem dL_law_895 : decode cL_law 895 = .ok (.iload_n 3, 1) := by decide +kernel
theorem dL_law_896 : decode cL_law 896 = .ok (.iconst 1, 1) := by decide +kernel
theorem dL_law_897 : decode cL_law 897 = .ok (.iadd, 1) := by decide +kernel
theorem dL_law_898 : decode cL_law 898 = .ok (.iaload, 1) := by decide +kernel
theorem dL_law_899 : decode cL_law 899 = .ok (.aload_n 0, 1) := by decide +kernel
theorem dL_law_900 : decode cL_law 900 = .ok (.iload_n 3, 1) := by decide +kernel
theorem dL_law_901 : decode cL_law 901 = .ok (.iconst 2, 1) := by decide +kernel
theorem dL_law_902 : decode cL_law 902 = .ok (.iadd, 1) := by decide +kernel
theorem dL_law_903 : decode cL_law 903 = .ok (.iaload, 1) := by decide +kernel
theorem dL_law_904 : decode cL_law 904 = .ok (.invokevirtual 93, 3) := by decide +kernel
theorem dL_law_907 : decode cL_law 907 = .ok (.if_icmp .eq 1172, 3) := by decide +kernel
set_option maxHeartbeats 400000 in
set_option maxRecDepth 20000 in
theorem law_17 {E : EV} (hE : EOK E) {q v0 : Nat} (hXS : EXS E q v0) {X : TX} {b L : Nat} {xs : Nat → Int32} (h : CX E X cL_law RL ret room_1 4) (hX : LX X b L xs) (hL : L ≤ 3072) {z : Int} (h0 : 0 ≤ z) (h1 : z ≤ L - 6) {A : AS} (K : ∀ A2 : AS, JL E (LQP E) X 2079 [(3, .int (iI z)), (2, eA E 76), (1, eA E 74), (0, .ref b)] [] (A2, A2)) : JL E (LQP E) X 879 [(3, .int (iI z)), (2, eA E 76), (1, eA E 74), (0, .ref b)] [] (A, A) := by
  refine j_aload_n h 2 dL_law_879 rfl rfl ?_
  refine j_aload_n h 3 dL_law_880 rfl rfl ?_
  refine j_iload_n h 0 dL_law_881 rfl rfl ?_
  refine j_iconst h dL_law_882 ?_
  refine j_iadd h dL_law_883 ?_
  refine j_sld h hX hL (by omega) (by omega) dL_law_884 ?_
  refine j_aload_n h 3 dL_law_885 rfl rfl ?_
  refine j_iload_n h 0 dL_law_886 rfl rfl ?_
  refine j_iconst h dL_law_887 ?_
  refine j_iadd h dL_law_888 ?_
  refine j_sld h hX hL (by omega) (by omega) dL_law_889 ?_
  refine j_callV h (ct_L (fun g0 => p_last hE (okI_of (xs (z + 1).toNat)))) m_X3_last a_l_L_90 rfl rfl ⟨Nat.le_of_ble_eq_true rfl, Nat.le_of_ble_eq_true rfl⟩ (ci := 3) rfl (by omega) rcL3 rfl rfl (Nat.le_of_ble_eq_true rfl) dL_law_890 ?_
  refine j_aload_n h 1 dL_law_893 rfl rfl ?_
  refine j_aload_n h 3 dL_law_894 rfl rfl ?_
  refine j_iload_n h 0 dL_law_895 rfl rfl ?_
  refine j_iconst h dL_law_896 ?_
  refine j_iadd h dL_law_897 ?_
  refine j_sld h hX hL (by omega) (by omega) dL_law_898 ?_
  refine j_aload_n h 3 dL_law_899 rfl rfl ?_
  refine j_iload_n h 0 dL_law_900 rfl rfl ?_
  refine j_iconst h dL_law_901 ?_
  refine j_iadd h dL_law_902 ?_
  refine j_sld h hX hL (by omega) (by omega) dL_law_903 ?_
  refine j_callV h (ct_R (fun g0 => q_last hE (okI_of (xs (z + 1).toNat)))) m_X4_last a_l_L_93 rfl rfl ⟨Nat.le_of_ble_eq_true rfl, Nat.le_of_ble_eq_true rfl⟩ (ci := 4) rfl (by omega) rcL4 rfl rfl (Nat.le_of_ble_eq_true rfl) dL_law_904 ?_
  exact j_rcmp_eq h 2079 dL_law_907 (by decide) (fun _ => K _) (fun w => absurd rfl w)
theorem dL_law_912 : decode cL_law 912 = .ok (.aload_n 1, 1) := by decide +kernel
theorem dL_law_913 : decode cL_law 913 = .ok (.aload_n 0, 1) := by decide +kernel
theorem dL_law_914 : decode cL_law 914 = .ok (.iload_n 3, 1) := by decide +kernel
theorem dL_law_915 : decode cL_law 915 = .ok (.iconst 1, 1) := by decide +kernel
theorem dL_law_916 : decode cL_law 916 = .ok (.iadd, 1) := by decide +kernel
theorem dL_law_917 : decode cL_law 917 = .ok (.iaload, 1) := by decide +kernel
theorem dL_law_918 : decode cL_law 918 = .ok (.aload_n 0, 1) := by decide +kernel
theorem dL_law_919 : decode cL_law 919 = .ok (.iload_n 3, 1) := by decide +kernel
theorem dL_law_920 : decode cL_law 920 = .ok (.iconst 2, 1) := by decide +kernel
theorem dL_law_921 : decode cL_law 921 = .ok (.iadd, 1) := by decide +kernel
theorem dL_law_922 : decode cL_law 922 = .ok (.iaload, 1) := by decide +kernel
theorem dL_law_923 : decode cL_law 923 = .ok (.aload_n 0, 1) := by decide +kernel
theorem dL_law_924 : decode cL_law 924 = .ok (.iload_n 3, 1) := by decide +kernel
theorem dL_law_925 : decode cL_law 925 = .ok (.iconst 3, 1) := by decide +kernel
theorem dL_law_926 : decode cL_law 926 = .ok (.iadd, 1) := by decide +kernel
theorem dL_law_927 : decode cL_law 927 = .ok (.iaload, 1) := by decide +kernel
theorem dL_law_928 : decode cL_law 928 = .ok (.invokevirtual 94, 3) := by decide +kernel
theorem dL_law_931 : decode cL_law 931 = .ok (.aload_n 2, 1) := by decide +kernel
theorem dL_law_932 : decode cL_law 932 = .ok (.aload_n 0, 1) := by decide +kernel
theorem dL_law_933 : decode cL_law 933 = .ok (.iload_n 3, 1) := by decide +kernel
theorem dL_law_934 : decode cL_law 934 = .ok (.iconst 1, 1) := by decide +kernel
theorem dL_law_935 : decode cL_law 935 = .ok (.iadd, 1) := by decide +kernel
theorem dL_law_936 : decode cL_law 936 = .ok (.iaload, 1) := by decide +kernel
theorem dL_law_937 : decode cL_law 937 = .ok (.aload_n 0, 1) := by decide +kernel
theorem dL_law_938 : decode cL_law 938 = .ok (.iload_n 3, 1) := by decide +kernel
theorem dL_law_939 : decode cL_law 939 = .ok (.iconst 2, 1) := by decide +kernel
theorem dL_law_940 : decode cL_law 940 = .ok (.iadd, 1) := by decide +kernel
theorem dL_law_941 : decode cL_law 941 = .ok (.iaload, 1) := by decide +kernel
theorem dL_law_942 : decode cL_law 942 = .ok (.aload_n 0, 1) := by decide +kernel
theorem dL_law_943 : decode cL_law 943 = .ok (.iload_n 3, 1) := by decide +kernel
theorem dL_law_944 : decode cL_law 944 = .ok (.iconst 3, 1) := by decide +kernel
theorem dL_law_945 : decode cL_law 945 = .ok (.iadd, 1) := by decide +kernel
theorem dL_law_946 : decode cL_law 946 = .ok (.iaload, 1) := by decide +kernel
theorem dL_law_947 : decode cL_law 947 = .ok (.invokevirtual 97, 3) := by decide +kernel
theorem dL_law_950 : decode cL_law 950 = .ok (.if_icmp .eq 1129, 3) := by decide +kernel
set_option maxHeartbeats 400000 in
set_option maxRecDepth 20000 in
theorem law_18 {E : EV} (hE : EOK E) {q v0 : Nat} (hXS : EXS E q v0) {X : TX} {b L : Nat} {xs : Nat → Int32} (h : CX E X cL_law RL ret room_1 4) (hX : LX X b L xs) (hL : L ≤ 3072) {z : Int} (h0 : 0 ≤ z) (h1 : z ≤ L - 6) {A : AS} (K : ∀ A2 : AS, JL E (LQP E) X 2079 [(3, .int (iI z)), (2, eA E 76), (1, eA E 74), (0, .ref b)] [] (A2, A2)) : JL E (LQP E) X 912 [(3, .int (iI z)), (2, eA E 76), (1, eA E 74), (0, .ref b)] [] (A, A) := by
  refine j_aload_n h 2 dL_law_912 rfl rfl ?_
  refine j_aload_n h 3 dL_law_913 rfl rfl ?_
  refine j_iload_n h 0 dL_law_914 rfl rfl ?_
  refine j_iconst h dL_law_915 ?_
  refine j_iadd h dL_law_916 ?_
  refine j_sld h hX hL (by omega) (by omega) dL_law_917 ?_
  refine j_aload_n h 3 dL_law_918 rfl rfl ?_
  refine j_iload_n h 0 dL_law_919 rfl rfl ?_
  refine j_iconst h dL_law_920 ?_
  refine j_iadd h dL_law_921 ?_
  refine j_sld h hX hL (by omega) (by omega) dL_law_922 ?_
  refine j_aload_n h 3 dL_law_923 rfl rfl ?_
  refine j_iload_n h 0 dL_law_924 rfl rfl ?_
  refine j_iconst h dL_law_925 ?_
  refine j_iadd h dL_law_926 ?_
  refine j_sld h hX hL (by omega) (by omega) dL_law_927 ?_
  refine j_callV h (ct_L (fun g0 => p_lastFrom hE (okI_of (xs (z + 1).toNat)) (okI_of (xs (z + 3).toNat)))) m_X3_lastFrom a_l_L_94 rfl rfl ⟨Nat.le_of_ble_eq_true rfl, Nat.le_of_ble_eq_true rfl⟩ (ci := 3) rfl (by omega) rcL3 rfl rfl (Nat.le_of_ble_eq_true rfl) dL_law_928 ?_
  refine j_aload_n h 1 dL_law_931 rfl rfl ?_
  refine j_aload_n h 3 dL_law_932 rfl rfl ?_
  refine j_iload_n h 0 dL_law_933 rfl rfl ?_
  refine j_iconst h dL_law_934 ?_
  refine j_iadd h dL_law_935 ?_
  refine j_sld h hX hL (by omega) (by omega) dL_law_936 ?_
  refine j_aload_n h 3 dL_law_937 rfl rfl ?_
  refine j_iload_n h 0 dL_law_938 rfl rfl ?_
  refine j_iconst h dL_law_939 ?_
  refine j_iadd h dL_law_940 ?_
  refine j_sld h hX hL (by omega) (by omega) dL_law_941 ?_
  refine j_aload_n h 3 dL_law_942 rfl rfl ?_
  refine j_iload_n h 0 dL_law_943 rfl rfl ?_
  refine j_iconst h dL_law_944 ?_
  refine j_iadd h dL_law_945 ?_
  refine j_sld h hX hL (by omega) (by omega) dL_law_946 ?_
  refine j_callV h (ct_R (fun g0 => q_lastFrom hE (okI_of (xs (z + 1).toNat)) (okI_of (xs (z + 3).toNat)))) m_X4_lastFrom a_l_L_97 rfl rfl ⟨Nat.le_of_ble_eq_true rfl, Nat.le_of_ble_eq_true rfl⟩ (ci := 4) rfl (by omega) rcL4 rfl rfl (Nat.le_of_ble_eq_true rfl) dL_law_947 ?_
  exact j_rcmp_eq h 2079 dL_law_950 (by decide) (fun _ => K _) (fun w => absurd rfl w)
theorem dL_law_955 : decode cL_law 955 = .ok (.aload_n 1, 1) := by decide +kernel
theorem dL_law_956 : decode cL_law 956 = .ok (.aload_n 0, 1) := by decide +kernel
theorem dL_law_957 : decode cL_law 957 = .ok (.iload_n 3, 1) := by decide +kernel
theorem dL_law_958 : decode cL_law 958 = .ok (.iconst 1, 1) := by decide +kernel
theorem dL_law_959 : decode cL_law 959 = .ok (.iadd, 1) := by decide +kernel
theorem dL_law_960 : decode cL_law 960 = .ok (.iaload, 1) := by decide +kernel
theorem dL_law_961 : decode cL_law 961 = .ok (.aload_n 0, 1) := by decide +kernel
theorem dL_law_962 : decode cL_law 962 = .ok (.iload_n 3, 1) := by decide +kernel
theorem dL_law_963 : decode cL_law 963 = .ok (.iconst 2, 1) := by decide +kernel
theorem dL_law_964 : decode cL_law 964 = .ok (.iadd, 1) := by decide +kernel
theorem dL_law_965 : decode cL_law 965 = .ok (.iaload, 1) := by decide +kernel
theorem dL_law_966 : decode cL_law 966 = .ok (.invokevirtual 98, 3) := by decide +kernel
theorem dL_law_969 : decode cL_law 969 = .ok (.aload_n 2, 1) := by decide +kernel
theorem dL_law_970 : decode cL_law 970 = .ok (.aload_n 0, 1) := by decide +kernel
theorem dL_law_971 : decode cL_law 971 = .ok (.iload_n 3, 1) := by decide +kernel
theorem dL_law_972 : decode cL_law 972 = .ok (.iconst 1, 1) := by decide +kernel
theorem dL_law_973 : decode cL_law 973 = .ok (.iadd, 1) := by decide +kernel
theorem dL_law_974 : decode cL_law 974 = .ok (.iaload, 1) := by decide +kernel
theorem dL_law_975 : decode cL_law 975 = .ok (.aload_n 0, 1) := by decide +kernel
theorem dL_law_976 : decode cL_law 976 = .ok (.iload_n 3, 1) := by decide +kernel
theorem dL_law_977 : decode cL_law 977 = .ok (.iconst 2, 1) := by decide +kernel
theorem dL_law_978 : decode cL_law 978 = .ok (.iadd, 1) := by decide +kernel
theorem dL_law_979 : decode cL_law 979 = .ok (.iaload, 1) := by decide +kernel
theorem dL_law_980 : decode cL_law 980 = .ok (.invokevirtual 101, 3) := by decide +kernel
theorem dL_law_983 : decode cL_law 983 = .ok (.if_icmp .eq 1096, 3) := by decide +kernel
set_option maxHeartbeats 400000 in
set_option maxRecDepth 20000 in
theorem law_19 {E : EV} (hE : EOK E) {q v0 : Nat} (hXS : EXS E q v0) {X : TX} {b L : Nat} {xs : Nat → Int32} (h : CX E X cL_law RL ret room_1 4) (hX : LX X b L xs) (hL : L ≤ 3072) {z : Int} (h0 : 0 ≤ z) (h1 : z ≤ L - 6) {A : AS} (K : ∀ A2 : AS, JL E (LQP E) X 2079 [(3, .int (iI z)), (2, eA E 76), (1, eA E 74), (0, .ref b)] [] (A2, A2)) : JL E (LQP E) X 955 [(3, .int (iI z)), (2, eA E 76), (1, eA E 74), (0, .ref b)] [] (A, A) := by
  refine j_aload_n h 2 dL_law_955 rfl rfl ?_
  refine j_aload_n h 3 dL_law_956 rfl rfl ?_
  refine j_iload_n h 0 dL_law_957 rfl rfl ?_
  refine j_iconst h dL_law_958 ?_
  refine j_iadd h dL_law_959 ?_
  refine j_sld h hX hL (by omega) (by omega) dL_law_960 ?_
  refine j_aload_n h 3 dL_law_961 rfl rfl ?_
  refine j_iload_n h 0 dL_law_962 rfl rfl ?_
  refine j_iconst h dL_law_963 ?_
  refine j_iadd h dL_law_964 ?_
  refine j_sld h hX hL (by omega) (by omega) dL_law_965 ?_
  refine j_callV h (ct_L (fun g0 => p_find hE (okI_of (xs (z + 1).toNat)) (okI_of (xs (z + 2).toNat)))) m_X3_find a_l_L_98 rfl rfl ⟨Nat.le_of_ble_eq_true rfl, Nat.le_of_ble_eq_true rfl⟩ (ci := 3) rfl (by omega) rcL3 rfl rfl (Nat.le_of_ble_eq_true rfl) dL_law_966 ?_
  refine j_aload_n h 1 dL_law_969 rfl rfl ?_
  refine j_aload_n h 3 dL_law_970 rfl rfl ?_
  refine j_iload_n h 0 dL_law_971 rfl rfl ?_
  refine j_iconst h dL_law_972 ?_
  refine j_iadd h dL_law_973 ?_
  refine j_sld h hX hL (by omega) (by omega) dL_law_974 ?_
  refine j_aload_n h 3 dL_law_975 rfl rfl ?_
  refine j_iload_n h 0 dL_law_976 rfl rfl ?_
  refine j_iconst h dL_law_977 ?_
  refine j_iadd h dL_law_978 ?_
  refine j_sld h hX hL (by omega) (by omega) dL_law_979 ?_
  refine j_callV h (ct_R (fun g0 => q_find hE (okI_of (xs (z + 1).toNat)) (okI_of (xs (z + 2).toNat)))) m_X4_find a_l_L_101 rfl rfl ⟨Nat.le_of_ble_eq_true rfl, Nat.le_of_ble_eq_true rfl⟩ (ci := 4) rfl (by omega) rcL4 rfl rfl (Nat.le_of_ble_eq_true rfl) dL_law_980 ?_
  exact j_rcmp_eq h 2079 dL_law_983 (by decide) (fun _ => K _) (fun w => absurd rfl w)
theorem dL_law_988 : decode cL_law 988 = .ok (.aload_n 1, 1) := by decide +kernel
theorem dL_law_989 : decode cL_law 989 = .ok (.aload_n 0, 1) := by decide +kernel
theorem dL_law_990 : decode cL_law 990 = .ok (.iload_n 3, 1) := by decide +kernel
theorem dL_law_991 : decode cL_law 991 = .ok (.iconst 1, 1) := by decide +kernel
theorem dL_law_992 : decode cL_law 992 = .ok (.iadd, 1) := by decide +kernel
theorem dL_law_993 : decode cL_law 993 = .ok (.iaload, 1) := by decide +kernel
theorem dL_law_994 : decode cL_law 994 = .ok (.aload_n 0, 1) := by decide +kernel
theorem dL_law_995 : decode cL_law 995 = .ok (.iload_n 3, 1) := by decide +kernel
theorem dL_law_996 : decode cL_law 996 = .ok (.iconst 2, 1) := by decide +kernel
theorem dL_law_997 : decode cL_law 997 = .ok (.iadd, 1) := by decide +kernel
theorem dL_law_998 : decode cL_law 998 = .ok (.iaload, 1) := by decide +kernel
theorem dL_law_999 : decode cL_law 999 = .ok (.aload_n 0, 1) := by decide +kernel
theorem dL_law_1000 : decode cL_law 1000 = .ok (.iload_n 3, 1) := by decide +kernel
theorem dL_law_1001 : decode cL_law 1001 = .ok (.iconst 3, 1) := by decide +kernel
theorem dL_law_1002 : decode cL_law 1002 = .ok (.iadd, 1) := by decide +kernel
theorem dL_law_1003 : decode cL_law 1003 = .ok (.iaload, 1) := by decide +kernel
theorem dL_law_1004 : decode cL_law 1004 = .ok (.invokevirtual 102, 3) := by decide +kernel
theorem dL_law_1007 : decode cL_law 1007 = .ok (.aload_n 2, 1) := by decide +kernel
theorem dL_law_1008 : decode cL_law 1008 = .ok (.aload_n 0, 1) := by decide +kernel
theorem dL_law_1009 : decode cL_law 1009 = .ok (.iload_n 3, 1) := by decide +kernel
theorem dL_law_1010 : decode cL_law 1010 = .ok (.iconst 1, 1) := by decide +kernel
theorem dL_law_1011 : decode cL_law 1011 = .ok (.iadd, 1) := by decide +kernel
theorem dL_law_1012 : decode cL_law 1012 = .ok (.iaload, 1) := by decide +kernel
theorem dL_law_1013 : decode cL_law 1013 = .ok (.aload_n 0, 1) := by decide +kernel
theorem dL_law_1014 : decode cL_law 1014 = .ok (.iload_n 3, 1) := by decide +kernel
theorem dL_law_1015 : decode cL_law 1015 = .ok (.iconst 2, 1) := by decide +kernel
theorem dL_law_1016 : decode cL_law 1016 = .ok (.iadd, 1) := by decide +kernel
theorem dL_law_1017 : decode cL_law 1017 = .ok (.iaload, 1) := by decide +kernel
theorem dL_law_1018 : decode cL_law 1018 = .ok (.aload_n 0, 1) := by decide +kernel
theorem dL_law_1019 : decode cL_law 1019 = .ok (.iload_n 3, 1) := by decide +kernel
theorem dL_law_1020 : decode cL_law 1020 = .ok (.iconst 3, 1) := by decide +kernel
theorem dL_law_1021 : decode cL_law 1021 = .ok (.iadd, 1) := by decide +kernel
theorem dL_law_1022 : decode cL_law 1022 = .ok (.iaload, 1) := by decide +kernel
theorem dL_law_1023 : decode cL_law 1023 = .ok (.invokevirtual 105, 3) := by decide +kernel
theorem dL_law_1026 : decode cL_law 1026 = .ok (.if_icmp .eq 1053, 3) := by decide +kernel
set_option maxHeartbeats 400000 in
set_option maxRecDepth 20000 in
theorem law_20 {E : EV} (hE : EOK E) {q v0 : Nat} (hXS : EXS E q v0) {X : TX} {b L : Nat} {xs : Nat → Int32} (h : CX E X cL_law RL ret room_1 4) (hX : LX X b L xs) (hL : L ≤ 3072) {z : Int} (h0 : 0 ≤ z) (h1 : z ≤ L - 6) {A : AS} (K : ∀ A2 : AS, JL E (LQP E) X 2079 [(3, .int (iI z)), (2, eA E 76), (1, eA E 74), (0, .ref b)] [] (A2, A2)) : JL E (LQP E) X 988 [(3, .int (iI z)), (2, eA E 76), (1, eA E 74), (0, .ref b)] [] (A, A) := by
  refine j_aload_n h 2 dL_law_988 rfl rfl ?_
  refine j_aload_n h 3 dL_law_989 rfl rfl ?_
  refine j_iload_n h 0 dL_law_990 rfl rfl ?_
  refine j_iconst h dL_law_991 ?_
  refine j_iadd h dL_law_992 ?_
  refine j_sld h hX hL (by omega) (by omega) dL_law_993 ?_
  refine j_aload_n h 3 dL_law_994 rfl rfl ?_
  refine j_iload_n h 0 dL_law_995 rfl rfl ?_
  refine j_iconst h dL_law_996 ?_
  refine j_iadd h dL_law_997 ?_
  refine j_sld h hX hL (by omega) (by omega) dL_law_998 ?_
  refine j_aload_n h 3 dL_law_999 rfl rfl ?_
  refine j_iload_n h 0 dL_law_1000 rfl rfl ?_
  refine j_iconst h dL_law_1001 ?_
  refine j_iadd h dL_law_1002 ?_
  refine j_sld h hX hL (by omega) (by omega) dL_law_1003 ?_
  refine j_callV h (ct_L (fun g0 => p_findFrom hE (okI_of (xs (z + 1).toNat)) (okI_of (xs (z + 2).toNat)) (okI_of (xs (z + 3).toNat)))) m_X3_findFrom a_l_L_102 rfl rfl ⟨Nat.le_of_ble_eq_true rfl, Nat.le_of_ble_eq_true rfl⟩ (ci := 3) rfl (by omega) rcL3 rfl rfl (Nat.le_of_ble_eq_true rfl) dL_law_1004 ?_
  refine j_aload_n h 1 dL_law_1007 rfl rfl ?_
  refine j_aload_n h 3 dL_law_1008 rfl rfl ?_
  refine j_iload_n h 0 dL_law_1009 rfl rfl ?_
  refine j_iconst h dL_law_1010 ?_
  refine j_iadd h dL_law_1011 ?_
  refine j_sld h hX hL (by omega) (by omega) dL_law_1012 ?_
  refine j_aload_n h 3 dL_law_1013 rfl rfl ?_
  refine j_iload_n h 0 dL_law_1014 rfl rfl ?_
  refine j_iconst h dL_law_1015 ?_
  refine j_iadd h dL_law_1016 ?_
  refine j_sld h hX hL (by omega) (by omega) dL_law_1017 ?_
  refine j_aload_n h 3 dL_law_1018 rfl rfl ?_
  refine j_iload_n h 0 dL_law_1019 rfl rfl ?_
  refine j_iconst h dL_law_1020 ?_
  refine j_iadd h dL_law_1021 ?_
  refine j_sld h hX hL (by omega) (by omega) dL_law_1022 ?_
  refine j_callV h (ct_R (fun g0 => q_findFrom hE (okI_of (xs (z + 1).toNat)) (okI_of (xs (z + 2).toNat)) (okI_of (xs (z + 3).toNat)))) m_X4_findFrom a_l_L_105 rfl rfl ⟨Nat.le_of_ble_eq_true rfl, Nat.le_of_ble_eq_true rfl⟩ (ci := 4) rfl (by omega) rcL4 rfl rfl (Nat.le_of_ble_eq_true rfl) dL_law_1023 ?_
  exact j_rcmp_eq h 2079 dL_law_1026 (by decide) (fun _ => K _) (fun w => absurd rfl w)
theorem dL_law_1031 : decode cL_law 1031 = .ok (.aload_n 1, 1) := by decide +kernel
theorem dL_law_1032 : decode cL_law 1032 = .ok (.aload_n 0, 1) := by decide +kernel
theorem dL_law_1033 : decode cL_law 1033 = .ok (.iload_n 3, 1) := by decide +kernel
theorem dL_law_1034 : decode cL_law 1034 = .ok (.iconst 1, 1) := by decide +kernel
theorem dL_law_1035 : decode cL_law 1035 = .ok (.iadd, 1) := by decide +kernel
theorem dL_law_1036 : decode cL_law 1036 = .ok (.iaload, 1) := by decide +kernel
theorem dL_law_1037 : decode cL_law 1037 = .ok (.aload_n 0, 1) := by decide +kernel
theorem dL_law_1038 : decode cL_law 1038 = .ok (.iload_n 3, 1) := by decide +kernel
theorem dL_law_1039 : decode cL_law 1039 = .ok (.iconst 2, 1) := by decide +kernel
theorem dL_law_1040 : decode cL_law 1040 = .ok (.iadd, 1) := by decide +kernel
theorem dL_law_1041 : decode cL_law 1041 = .ok (.iaload, 1) := by decide +kernel
theorem dL_law_1042 : decode cL_law 1042 = .ok (.invokevirtual 106, 3) := by decide +kernel
theorem dL_law_1045 : decode cL_law 1045 = .ok (.aload_n 2, 1) := by decide +kernel
theorem dL_law_1046 : decode cL_law 1046 = .ok (.aload_n 0, 1) := by decide +kernel
theorem dL_law_1047 : decode cL_law 1047 = .ok (.iload_n 3, 1) := by decide +kernel
theorem dL_law_1048 : decode cL_law 1048 = .ok (.iconst 1, 1) := by decide +kernel
theorem dL_law_1049 : decode cL_law 1049 = .ok (.iadd, 1) := by decide +kernel
theorem dL_law_1050 : decode cL_law 1050 = .ok (.iaload, 1) := by decide +kernel
theorem dL_law_1051 : decode cL_law 1051 = .ok (.aload_n 0, 1) := by decide +kernel
theorem dL_law_1052 : decode cL_law 1052 = .ok (.iload_n 3, 1) := by decide +kernel
theorem dL_law_1053 : decode cL_law 1053 = .ok (.iconst 2, 1) := by decide +kernel
theorem dL_law_1054 : decode cL_law 1054 = .ok (.iadd, 1) := by decide +kernel
theorem dL_law_1055 : decode cL_law 1055 = .ok (.iaload, 1) := by decide +kernel
theorem dL_law_1056 : decode cL_law 1056 = .ok (.invokevirtual 109, 3) := by decide +kernel
theorem dL_law_1059 : decode cL_law 1059 = .ok (.if_icmp .eq 1020, 3) := by decide +kernel
set_option maxHeartbeats 400000 in
set_option maxRecDepth 20000 in
theorem law_21 {E : EV} (hE : EOK E) {q v0 : Nat} (hXS : EXS E q v0) {X : TX} {b L : Nat} {xs : Nat → Int32} (h : CX E X cL_law RL ret room_1 4) (hX : LX X b L xs) (hL : L ≤ 3072) {z : Int} (h0 : 0 ≤ z) (h1 : z ≤ L - 6) {A : AS} (K : ∀ A2 : AS, JL E (LQP E) X 2079 [(3, .int (iI z)), (2, eA E 76), (1, eA E 74), (0, .ref b)] [] (A2, A2)) : JL E (LQP E) X 1031 [(3, .int (iI z)), (2, eA E 76), (1, eA E 74), (0, .ref b)] [] (A, A) := by
  refine j_aload_n h 2 dL_law_1031 rfl rfl ?_
  refine j_aload_n h 3 dL_law_1032 rfl rfl ?_
  refine j_iload_n h 0 dL_law_1033 rfl rfl ?_
  refine j_iconst h dL_law_1034 ?_
  refine j_iadd h dL_law_1035 ?_
  refine j_sld h hX hL (by omega) (by omega) dL_law_1036 ?_
  refine j_aload_n h 3 dL_law_1037 rfl rfl ?_
  refine j_iload_n h 0 dL_law_1038 rfl rfl ?_
  refine j_iconst h dL_law_1039 ?_
  refine j_iadd h dL_law_1040 ?_
  refine j_sld h hX hL (by omega) (by omega) dL_law_1041 ?_
  refine j_callV h (ct_L (fun g0 => p_findLast hE (okI_of (xs (z + 1).toNat)) (okI_of (xs (z + 2).toNat)))) m_X3_findLast a_l_L_106 rfl rfl ⟨Nat.le_of_ble_eq_true rfl, Nat.le_of_ble_eq_true rfl⟩ (ci := 3) rfl (by omega) rcL3 rfl rfl (Nat.le_of_ble_eq_true rfl) dL_law_1042 ?_
  refine j_aload_n h 1 dL_law_1045 rfl rfl ?_
  refine j_aload_n h 3 dL_law_1046 rfl rfl ?_
  refine j_iload_n h 0 dL_law_1047 rfl rfl ?_
  refine j_iconst h dL_law_1048 ?_
  refine j_iadd h dL_law_1049 ?_
  refine j_sld h hX hL (by omega) (by omega) dL_law_1050 ?_
  refine j_aload_n h 3 dL_law_1051 rfl rfl ?_
  refine j_iload_n h 0 dL_law_1052 rfl rfl ?_
  refine j_iconst h dL_law_1053 ?_
  refine j_iadd h dL_law_1054 ?_
  refine j_sld h hX hL (by omega) (by omega) dL_law_1055 ?_
  refine j_callV h (ct_R (fun g0 => q_findLast hE (okI_of (xs (z + 1).toNat)) (okI_of (xs (z + 2).toNat)))) m_X4_findLast a_l_L_109 rfl rfl ⟨Nat.le_of_ble_eq_true rfl, Nat.le_of_ble_eq_true rfl⟩ (ci := 4) rfl (by omega) rcL4 rfl rfl (Nat.le_of_ble_eq_true rfl) dL_law_1056 ?_
  exact j_rcmp_eq h 2079 dL_law_1059 (by decide) (fun _ => K _) (fun w => absurd rfl w)
