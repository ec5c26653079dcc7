/-! THE LAW'S TURNS, 2 -/
section LWS2
variable {PQ : Gp → List Frame → Array Value → State → State → Prop} {L RC RS cells slots i pc : Nat} {f : Nat → Int32} {v5 v6 : Value} {st : List Value} {h : Hp}
theorem w_pairFor (j : J h) (hi : i + 7 ≤ L) (hL : L ≤ 3584) (hc : Nat.ble (cells + 17) RC = true) (hs : Nat.ble (slots + 307) RS = true) (x : ∀ h2, J h2 → lwF PQ L f RC RS (cells + 17) (slots + 307) 1968 i v5 v6 [] h2) : lwF PQ L f RC RS cells slots 652 i v5 v6 [] h := by
  refine p_wide (cells + 17) (slots + 307) (by omega) (by omega) ?_
  obtain ⟨r, h1, m1, S1, n1⟩ := q_pairFor j (f (i + 1))
  refine p_aL1 dL_law_652 ?_
  refine w_arg 1 hi hL (by decide) rfl dL_law_653 dL_law_654 dL_law_656 dL_law_657 dL_law_658 ?_
  refine pe_v1i m1 lm_L_70 dL_law_659 j.1.1.1.i0 j.1.1.1.k0 rfl rfl hc hs ?_
  refine p_aL2 dL_law_662 ?_
  refine w_arg 1 hi hL (by decide) rfl dL_law_663 dL_law_664 dL_law_666 dL_law_667 dL_law_668 ?_
  refine p_v1 n1 lm_L_73 dL_law_669 S1.i50 S1.k50 rfl rfl hc hs (fun v h2 e => ?_)
  obtain ⟨rfl, j2⟩ := e
  show lwF PQ L f RC RS (cells + 17) (slots + 307) 672 i v5 v6 [.int r, .int r] h2
  exact p_iceq dL_law_672 (fun _ => x h2 j2) (fun z => absurd rfl z)
theorem w_soonest (j : J h) (hi : i + 7 ≤ L) (hL : L ≤ 3584) (hc : Nat.ble (cells + 17) RC = true) (hs : Nat.ble (slots + 307) RS = true) (x : ∀ h2, J h2 → lwF PQ L f RC RS (cells + 17) (slots + 307) 1968 i v5 v6 [] h2) : lwF PQ L f RC RS cells slots 677 i v5 v6 [] h := by
  refine p_wide (cells + 17) (slots + 307) (by omega) (by omega) ?_
  obtain ⟨r, h1, m1, S1, n1⟩ := q_soonest j (f (i + 1)) (f (i + 2))
  refine p_aL1 dL_law_677 ?_
  refine w_arg 1 hi hL (by decide) rfl dL_law_678 dL_law_679 dL_law_681 dL_law_682 dL_law_683 ?_
  refine w_arg 2 hi hL (by decide) rfl dL_law_684 dL_law_685 dL_law_687 dL_law_688 dL_law_689 ?_
  refine pe_v2i m1 lm_L_74 dL_law_690 j.1.1.1.i0 j.1.1.1.k0 rfl rfl hc hs ?_
  refine p_aL2 dL_law_693 ?_
  refine w_arg 1 hi hL (by decide) rfl dL_law_694 dL_law_695 dL_law_697 dL_law_698 dL_law_699 ?_
  refine w_arg 2 hi hL (by decide) rfl dL_law_700 dL_law_701 dL_law_703 dL_law_704 dL_law_705 ?_
  refine p_v2 n1 lm_L_77 dL_law_706 S1.i50 S1.k50 rfl rfl hc hs (fun v h2 e => ?_)
  obtain ⟨rfl, j2⟩ := e
  show lwF PQ L f RC RS (cells + 17) (slots + 307) 709 i v5 v6 [.int r, .int r] h2
  exact p_iceq dL_law_709 (fun _ => x h2 j2) (fun z => absurd rfl z)
theorem w_soonestAt (j : J h) (hi : i + 7 ≤ L) (hL : L ≤ 3584) (hc : Nat.ble (cells + 17) RC = true) (hs : Nat.ble (slots + 307) RS = true) (x : ∀ h2, J h2 → lwF PQ L f RC RS (cells + 17) (slots + 307) 1968 i v5 v6 [] h2) : lwF PQ L f RC RS cells slots 714 i v5 v6 [] h := by
  refine p_wide (cells + 17) (slots + 307) (by omega) (by omega) ?_
  obtain ⟨r, h1, m1, S1, n1⟩ := q_soonestAt j (f (i + 1)) (f (i + 2)) (f (i + 3))
  refine p_aL1 dL_law_714 ?_
  refine w_arg 1 hi hL (by decide) rfl dL_law_715 dL_law_716 dL_law_718 dL_law_719 dL_law_720 ?_
  refine w_arg 2 hi hL (by decide) rfl dL_law_721 dL_law_722 dL_law_724 dL_law_725 dL_law_726 ?_
  refine w_arg 3 hi hL (by decide) rfl dL_law_727 dL_law_728 dL_law_730 dL_law_731 dL_law_732 ?_
  refine pe_v3i m1 lm_L_78 dL_law_733 j.1.1.1.i0 j.1.1.1.k0 rfl rfl hc hs ?_
  refine p_aL2 dL_law_736 ?_
  refine w_arg 1 hi hL (by decide) rfl dL_law_737 dL_law_738 dL_law_740 dL_law_741 dL_law_742 ?_
  refine w_arg 2 hi hL (by decide) rfl dL_law_743 dL_law_744 dL_law_746 dL_law_747 dL_law_748 ?_
  refine w_arg 3 hi hL (by decide) rfl dL_law_749 dL_law_750 dL_law_752 dL_law_753 dL_law_754 ?_
  refine p_v3 n1 lm_L_82 dL_law_755 S1.i50 S1.k50 rfl rfl hc hs (fun v h2 e => ?_)
  obtain ⟨rfl, j2⟩ := e
  show lwF PQ L f RC RS (cells + 17) (slots + 307) 758 i v5 v6 [.int r, .int r] h2
  exact p_iceq dL_law_758 (fun _ => x h2 j2) (fun z => absurd rfl z)
theorem w_secret (j : J h) (hi : i + 7 ≤ L) (hL : L ≤ 3584) (hc : Nat.ble (cells + 17) RC = true) (hs : Nat.ble (slots + 307) RS = true) (x : ∀ h2, J h2 → lwF PQ L f RC RS (cells + 17) (slots + 307) 1968 i v5 v6 [] h2) : lwF PQ L f RC RS cells slots 763 i v5 v6 [] h := by
  refine p_wide (cells + 17) (slots + 307) (by omega) (by omega) ?_
  obtain ⟨r, h1, m1, S1, n1⟩ := q_secret j (f (i + 1)) (f (i + 2)) (f (i + 3))
  refine p_aL1 dL_law_763 ?_
  refine w_arg 1 hi hL (by decide) rfl dL_law_764 dL_law_765 dL_law_767 dL_law_768 dL_law_769 ?_
  refine w_arg 2 hi hL (by decide) rfl dL_law_770 dL_law_771 dL_law_773 dL_law_774 dL_law_775 ?_
  refine w_arg 3 hi hL (by decide) rfl dL_law_776 dL_law_777 dL_law_779 dL_law_780 dL_law_781 ?_
  refine pe_v3i m1 lm_L_83 dL_law_782 j.1.1.1.i0 j.1.1.1.k0 rfl rfl hc hs ?_
  refine p_aL2 dL_law_785 ?_
  refine w_arg 1 hi hL (by decide) rfl dL_law_786 dL_law_787 dL_law_789 dL_law_790 dL_law_791 ?_
  refine w_arg 2 hi hL (by decide) rfl dL_law_792 dL_law_793 dL_law_795 dL_law_796 dL_law_797 ?_
  refine w_arg 3 hi hL (by decide) rfl dL_law_798 dL_law_799 dL_law_801 dL_law_802 dL_law_803 ?_
  refine p_v3 n1 lm_L_86 dL_law_804 S1.i50 S1.k50 rfl rfl hc hs (fun v h2 e => ?_)
  obtain ⟨rfl, j2⟩ := e
  show lwF PQ L f RC RS (cells + 17) (slots + 307) 807 i v5 v6 [.int r, .int r] h2
  exact p_iceq dL_law_807 (fun _ => x h2 j2) (fun z => absurd rfl z)
theorem w_secretAt (j : J h) (hi : i + 7 ≤ L) (hL : L ≤ 3584) (hc : Nat.ble (cells + 17) RC = true) (hs : Nat.ble (slots + 307) RS = true) (x : ∀ h2, J h2 → lwF PQ L f RC RS (cells + 17) (slots + 307) 1968 i v5 v6 [] h2) : lwF PQ L f RC RS cells slots 812 i v5 v6 [] h := by
  refine p_wide (cells + 17) (slots + 307) (by omega) (by omega) ?_
  obtain ⟨r, h1, m1, S1, n1⟩ := q_secretAt j (f (i + 1)) (f (i + 2)) (f (i + 3)) (f (i + 4))
  refine p_aL1 dL_law_812 ?_
  refine w_arg 1 hi hL (by decide) rfl dL_law_813 dL_law_814 dL_law_816 dL_law_817 dL_law_818 ?_
  refine w_arg 2 hi hL (by decide) rfl dL_law_819 dL_law_820 dL_law_822 dL_law_823 dL_law_824 ?_
  refine w_arg 3 hi hL (by decide) rfl dL_law_825 dL_law_826 dL_law_828 dL_law_829 dL_law_830 ?_
  refine w_arg 4 hi hL (by decide) rfl dL_law_831 dL_law_832 dL_law_834 dL_law_835 dL_law_836 ?_
  refine pe_v4i m1 lm_L_87 dL_law_837 j.1.1.1.i0 j.1.1.1.k0 rfl rfl hc hs ?_
  refine p_aL2 dL_law_840 ?_
  refine w_arg 1 hi hL (by decide) rfl dL_law_841 dL_law_842 dL_law_844 dL_law_845 dL_law_846 ?_
  refine w_arg 2 hi hL (by decide) rfl dL_law_847 dL_law_848 dL_law_850 dL_law_851 dL_law_852 ?_
  refine w_arg 3 hi hL (by decide) rfl dL_law_853 dL_law_854 dL_law_856 dL_law_857 dL_law_858 ?_
  refine w_arg 4 hi hL (by decide) rfl dL_law_859 dL_law_860 dL_law_862 dL_law_863 dL_law_864 ?_
  refine p_v4 n1 lm_L_91 dL_law_865 S1.i50 S1.k50 rfl rfl hc hs (fun v h2 e => ?_)
  obtain ⟨rfl, j2⟩ := e
  show lwF PQ L f RC RS (cells + 17) (slots + 307) 868 i v5 v6 [.int r, .int r] h2
  exact p_iceq dL_law_868 (fun _ => x h2 j2) (fun z => absurd rfl z)
theorem w_safest (j : J h) (hi : i + 7 ≤ L) (hL : L ≤ 3584) (hc : Nat.ble (cells + 17) RC = true) (hs : Nat.ble (slots + 307) RS = true) (x : ∀ h2, J h2 → lwF PQ L f RC RS (cells + 17) (slots + 307) 1968 i v5 v6 [] h2) : lwF PQ L f RC RS cells slots 873 i v5 v6 [] h := by
  refine p_wide (cells + 17) (slots + 307) (by omega) (by omega) ?_
  obtain ⟨r, h1, m1, S1, n1⟩ := q_safest j (f (i + 1)) (f (i + 2)) (f (i + 3)) (if f (i + 4) = 0 then 0 else 1)
  refine p_aL1 dL_law_873 ?_
  refine w_arg 1 hi hL (by decide) rfl dL_law_874 dL_law_875 dL_law_877 dL_law_878 dL_law_879 ?_
  refine w_arg 2 hi hL (by decide) rfl dL_law_880 dL_law_881 dL_law_883 dL_law_884 dL_law_885 ?_
  refine w_arg 3 hi hL (by decide) rfl dL_law_886 dL_law_887 dL_law_889 dL_law_890 dL_law_891 ?_
  refine w_arg 4 hi hL (by decide) rfl dL_law_892 dL_law_893 dL_law_895 dL_law_896 dL_law_897 ?_
  refine p_bool dL_law_898 dL_law_901 dL_law_902 dL_law_905 ?_
  refine pe_v4l m1 lm_L_92 dL_law_906 j.1.1.1.i0 j.1.1.1.k0 rfl rfl hc hs ?_
  refine p_aL2 dL_law_909 ?_
  refine w_arg 1 hi hL (by decide) rfl dL_law_910 dL_law_911 dL_law_913 dL_law_914 dL_law_915 ?_
  refine w_arg 2 hi hL (by decide) rfl dL_law_916 dL_law_917 dL_law_919 dL_law_920 dL_law_921 ?_
  refine w_arg 3 hi hL (by decide) rfl dL_law_922 dL_law_923 dL_law_925 dL_law_926 dL_law_927 ?_
  refine w_arg 4 hi hL (by decide) rfl dL_law_928 dL_law_929 dL_law_931 dL_law_932 dL_law_933 ?_
  refine p_bool dL_law_934 dL_law_937 dL_law_938 dL_law_941 ?_
  refine p_v4 n1 lm_L_96 dL_law_942 S1.i50 S1.k50 rfl rfl hc hs (fun v h2 e => ?_)
  obtain ⟨rfl, j2⟩ := e
  show lwF PQ L f RC RS (cells + 17) (slots + 307) 945 i v5 v6 [.long r, .long r] h2
  refine p_lcmp dL_law_945 ?_
  exact p_ifeq dL_law_946 (fun _ => x h2 j2) (fun z => absurd (lg_cmp_rf r) z)
theorem w_safestAt (j : J h) (hi : i + 7 ≤ L) (hL : L ≤ 3584) (hc : Nat.ble (cells + 17) RC = true) (hs : Nat.ble (slots + 307) RS = true) (x : ∀ h2, J h2 → lwF PQ L f RC RS (cells + 17) (slots + 307) 1968 i v5 v6 [] h2) : lwF PQ L f RC RS cells slots 951 i v5 v6 [] h := by
  refine p_wide (cells + 17) (slots + 307) (by omega) (by omega) ?_
  obtain ⟨r, h1, m1, S1, n1⟩ := q_safestAt j (f (i + 1)) (f (i + 2)) (f (i + 3)) (f (i + 4))
  refine p_aL1 dL_law_951 ?_
  refine w_arg 1 hi hL (by decide) rfl dL_law_952 dL_law_953 dL_law_955 dL_law_956 dL_law_957 ?_
  refine w_arg 2 hi hL (by decide) rfl dL_law_958 dL_law_959 dL_law_961 dL_law_962 dL_law_963 ?_
  refine w_arg 3 hi hL (by decide) rfl dL_law_964 dL_law_965 dL_law_967 dL_law_968 dL_law_969 ?_
  refine w_arg 4 hi hL (by decide) rfl dL_law_970 dL_law_971 dL_law_973 dL_law_974 dL_law_975 ?_
  refine pe_v4i m1 lm_L_97 dL_law_976 j.1.1.1.i0 j.1.1.1.k0 rfl rfl hc hs ?_
  refine p_aL2 dL_law_979 ?_
  refine w_arg 1 hi hL (by decide) rfl dL_law_980 dL_law_981 dL_law_983 dL_law_984 dL_law_985 ?_
  refine w_arg 2 hi hL (by decide) rfl dL_law_986 dL_law_987 dL_law_989 dL_law_990 dL_law_991 ?_
  refine w_arg 3 hi hL (by decide) rfl dL_law_992 dL_law_993 dL_law_995 dL_law_996 dL_law_997 ?_
  refine w_arg 4 hi hL (by decide) rfl dL_law_998 dL_law_999 dL_law_1001 dL_law_1002 dL_law_1003 ?_
  refine p_v4 n1 lm_L_100 dL_law_1004 S1.i50 S1.k50 rfl rfl hc hs (fun v h2 e => ?_)
  obtain ⟨rfl, j2⟩ := e
  show lwF PQ L f RC RS (cells + 17) (slots + 307) 1007 i v5 v6 [.int r, .int r] h2
  exact p_iceq dL_law_1007 (fun _ => x h2 j2) (fun z => absurd rfl z)
theorem w_sent (j : J h) (hi : i + 7 ≤ L) (hL : L ≤ 3584) (hc : Nat.ble (cells + 17) RC = true) (hs : Nat.ble (slots + 307) RS = true) (x : ∀ h2, J h2 → lwF PQ L f RC RS (cells + 17) (slots + 307) 1968 i v5 v6 [] h2) : lwF PQ L f RC RS cells slots 1012 i v5 v6 [] h := by
  refine p_wide (cells + 17) (slots + 307) (by omega) (by omega) ?_
  obtain ⟨r, h1, m1, S1, n1⟩ := q_sent j (f (i + 1)) (f (i + 2))
  refine p_aL1 dL_law_1012 ?_
  refine w_arg 1 hi hL (by decide) rfl dL_law_1013 dL_law_1014 dL_law_1016 dL_law_1017 dL_law_1018 ?_
  refine w_arg 2 hi hL (by decide) rfl dL_law_1019 dL_law_1020 dL_law_1022 dL_law_1023 dL_law_1024 ?_
  refine pe_v2i m1 lm_L_101 dL_law_1025 j.1.1.1.i0 j.1.1.1.k0 rfl rfl hc hs ?_
  refine p_aL2 dL_law_1028 ?_
  refine w_arg 1 hi hL (by decide) rfl dL_law_1029 dL_law_1030 dL_law_1032 dL_law_1033 dL_law_1034 ?_
  refine w_arg 2 hi hL (by decide) rfl dL_law_1035 dL_law_1036 dL_law_1038 dL_law_1039 dL_law_1040 ?_
  refine p_v2 n1 lm_L_104 dL_law_1041 S1.i50 S1.k50 rfl rfl hc hs (fun v h2 e => ?_)
  obtain ⟨rfl, j2⟩ := e
  show lwF PQ L f RC RS (cells + 17) (slots + 307) 1044 i v5 v6 [.int r, .int r] h2
  exact p_iceq dL_law_1044 (fun _ => x h2 j2) (fun z => absurd rfl z)
theorem w_readers (j : J h) (hi : i + 7 ≤ L) (hL : L ≤ 3584) (hc : Nat.ble (cells + 17) RC = true) (hs : Nat.ble (slots + 307) RS = true) (x : ∀ h2, J h2 → lwF PQ L f RC RS (cells + 17) (slots + 307) 1968 i v5 v6 [] h2) : lwF PQ L f RC RS cells slots 1049 i v5 v6 [] h := by
  refine p_wide (cells + 17) (slots + 307) (by omega) (by omega) ?_
  obtain ⟨r, h1, m1, S1, n1⟩ := q_readers j (f (i + 1))
  refine p_aL1 dL_law_1049 ?_
  refine w_arg 1 hi hL (by decide) rfl dL_law_1050 dL_law_1051 dL_law_1053 dL_law_1054 dL_law_1055 ?_
  refine pe_v1i m1 lm_L_105 dL_law_1056 j.1.1.1.i0 j.1.1.1.k0 rfl rfl hc hs ?_
  refine p_aL2 dL_law_1059 ?_
  refine w_arg 1 hi hL (by decide) rfl dL_law_1060 dL_law_1061 dL_law_1063 dL_law_1064 dL_law_1065 ?_
  refine p_v1 n1 lm_L_108 dL_law_1066 S1.i50 S1.k50 rfl rfl hc hs (fun v h2 e => ?_)
  obtain ⟨rfl, j2⟩ := e
  show lwF PQ L f RC RS (cells + 17) (slots + 307) 1069 i v5 v6 [.int r, .int r] h2
  exact p_iceq dL_law_1069 (fun _ => x h2 j2) (fun z => absurd rfl z)
theorem w_overheard (j : J h) (hi : i + 7 ≤ L) (hL : L ≤ 3584) (hc : Nat.ble (cells + 17) RC = true) (hs : Nat.ble (slots + 307) RS = true) (x : ∀ h2, J h2 → lwF PQ L f RC RS (cells + 17) (slots + 307) 1968 i v5 v6 [] h2) : lwF PQ L f RC RS cells slots 1074 i v5 v6 [] h := by
  refine p_wide (cells + 17) (slots + 307) (by omega) (by omega) ?_
  obtain ⟨r, h1, m1, S1, n1⟩ := q_overheard j (f (i + 1))
  refine p_aL1 dL_law_1074 ?_
  refine w_arg 1 hi hL (by decide) rfl dL_law_1075 dL_law_1076 dL_law_1078 dL_law_1079 dL_law_1080 ?_
  refine pe_v1i m1 lm_L_109 dL_law_1081 j.1.1.1.i0 j.1.1.1.k0 rfl rfl hc hs ?_
  refine p_aL2 dL_law_1084 ?_
  refine w_arg 1 hi hL (by decide) rfl dL_law_1085 dL_law_1086 dL_law_1088 dL_law_1089 dL_law_1090 ?_
  refine p_v1 n1 lm_L_112 dL_law_1091 S1.i50 S1.k50 rfl rfl hc hs (fun v h2 e => ?_)
  obtain ⟨rfl, j2⟩ := e
  show lwF PQ L f RC RS (cells + 17) (slots + 307) 1094 i v5 v6 [.int r, .int r] h2
  exact p_iceq dL_law_1094 (fun _ => x h2 j2) (fun z => absurd rfl z)
theorem w_unread (j : J h) (hi : i + 7 ≤ L) (hL : L ≤ 3584) (hc : Nat.ble (cells + 17) RC = true) (hs : Nat.ble (slots + 307) RS = true) (x : ∀ h2, J h2 → lwF PQ L f RC RS (cells + 17) (slots + 307) 1968 i v5 v6 [] h2) : lwF PQ L f RC RS cells slots 1099 i v5 v6 [] h := by
  refine p_wide (cells + 17) (slots + 307) (by omega) (by omega) ?_
  obtain ⟨r, h1, m1, S1, n1⟩ := q_unread j 
  refine p_aL1 dL_law_1099 ?_
  refine pe_v0i m1 lm_L_113 dL_law_1100 j.1.1.1.i0 j.1.1.1.k0 rfl rfl hc hs ?_
  refine p_aL2 dL_law_1103 ?_
  refine p_v0 n1 lm_L_116 dL_law_1104 S1.i50 S1.k50 rfl rfl hc hs (fun v h2 e => ?_)
  obtain ⟨rfl, j2⟩ := e
  show lwF PQ L f RC RS (cells + 17) (slots + 307) 1107 i v5 v6 [.int r, .int r] h2
  exact p_iceq dL_law_1107 (fun _ => x h2 j2) (fun z => absurd rfl z)
theorem w_made (j : J h) (hi : i + 7 ≤ L) (hL : L ≤ 3584) (hc : Nat.ble (cells + 17) RC = true) (hs : Nat.ble (slots + 307) RS = true) (x : ∀ h2, J h2 → lwF PQ L f RC RS (cells + 17) (slots + 307) 1968 i v5 v6 [] h2) : lwF PQ L f RC RS cells slots 1112 i v5 v6 [] h := by
  refine p_wide (cells + 17) (slots + 307) (by omega) (by omega) ?_
  obtain ⟨r, h1, m1, S1, n1⟩ := q_made j (f (i + 1)) (f (i + 2)) (f (i + 3)) (f (i + 4)) (f (i + 5))
  refine p_aL1 dL_law_1112 ?_
  refine w_arg 1 hi hL (by decide) rfl dL_law_1113 dL_law_1114 dL_law_1116 dL_law_1117 dL_law_1118 ?_
  refine w_arg 2 hi hL (by decide) rfl dL_law_1119 dL_law_1120 dL_law_1122 dL_law_1123 dL_law_1124 ?_
  refine w_arg 3 hi hL (by decide) rfl dL_law_1125 dL_law_1126 dL_law_1128 dL_law_1129 dL_law_1130 ?_
  refine w_arg 4 hi hL (by decide) rfl dL_law_1131 dL_law_1132 dL_law_1134 dL_law_1135 dL_law_1136 ?_
  refine w_arg 5 hi hL (by decide) rfl dL_law_1137 dL_law_1138 dL_law_1140 dL_law_1141 dL_law_1142 ?_
  refine pe_v5i m1 lm_L_117 dL_law_1143 j.1.1.1.i0 j.1.1.1.k0 rfl rfl hc hs ?_
  refine p_aL2 dL_law_1146 ?_
  refine w_arg 1 hi hL (by decide) rfl dL_law_1147 dL_law_1148 dL_law_1150 dL_law_1151 dL_law_1152 ?_
  refine w_arg 2 hi hL (by decide) rfl dL_law_1153 dL_law_1154 dL_law_1156 dL_law_1157 dL_law_1158 ?_
  refine w_arg 3 hi hL (by decide) rfl dL_law_1159 dL_law_1160 dL_law_1162 dL_law_1163 dL_law_1164 ?_
  refine w_arg 4 hi hL (by decide) rfl dL_law_1165 dL_law_1166 dL_law_1168 dL_law_1169 dL_law_1170 ?_
  refine w_arg 5 hi hL (by decide) rfl dL_law_1171 dL_law_1172 dL_law_1174 dL_law_1175 dL_law_1176 ?_
  refine p_v5 n1 lm_L_120 dL_law_1177 S1.i50 S1.k50 rfl rfl hc hs (fun v h2 e => ?_)
  obtain ⟨rfl, j2⟩ := e
  show lwF PQ L f RC RS (cells + 17) (slots + 307) 1180 i v5 v6 [.int r, .int r] h2
  exact p_iceq dL_law_1180 (fun _ => x h2 j2) (fun z => absurd rfl z)
theorem w_madeOf (j : J h) (hi : i + 7 ≤ L) (hL : L ≤ 3584) (hc : Nat.ble (cells + 17) RC = true) (hs : Nat.ble (slots + 307) RS = true) (x : ∀ h2, J h2 → lwF PQ L f RC RS (cells + 17) (slots + 307) 1968 i v5 v6 [] h2) : lwF PQ L f RC RS cells slots 1185 i v5 v6 [] h := by
  refine p_wide (cells + 17) (slots + 307) (by omega) (by omega) ?_
  obtain ⟨r, h1, m1, S1, n1⟩ := q_madeOf j (f (i + 1)) (f (i + 2)) (f (i + 3)) (f (i + 4)) (f (i + 5)) (if f (i + 6) = 0 then 0 else 1)
  refine p_aL1 dL_law_1185 ?_
  refine w_arg 1 hi hL (by decide) rfl dL_law_1186 dL_law_1187 dL_law_1189 dL_law_1190 dL_law_1191 ?_
  refine w_arg 2 hi hL (by decide) rfl dL_law_1192 dL_law_1193 dL_law_1195 dL_law_1196 dL_law_1197 ?_
  refine w_arg 3 hi hL (by decide) rfl dL_law_1198 dL_law_1199 dL_law_1201 dL_law_1202 dL_law_1203 ?_
  refine w_arg 4 hi hL (by decide) rfl dL_law_1204 dL_law_1205 dL_law_1207 dL_law_1208 dL_law_1209 ?_
  refine w_arg 5 hi hL (by decide) rfl dL_law_1210 dL_law_1211 dL_law_1213 dL_law_1214 dL_law_1215 ?_
  refine w_argb 6 hi hL (by decide) rfl dL_law_1216 dL_law_1217 dL_law_1219 dL_law_1221 dL_law_1222 ?_
  refine p_bool dL_law_1223 dL_law_1226 dL_law_1227 dL_law_1230 ?_
  refine pe_v6i m1 lm_L_121 dL_law_1231 j.1.1.1.i0 j.1.1.1.k0 rfl rfl hc hs ?_
  refine p_aL2 dL_law_1234 ?_
  refine w_arg 1 hi hL (by decide) rfl dL_law_1235 dL_law_1236 dL_law_1238 dL_law_1239 dL_law_1240 ?_
  refine w_arg 2 hi hL (by decide) rfl dL_law_1241 dL_law_1242 dL_law_1244 dL_law_1245 dL_law_1246 ?_
  refine w_arg 3 hi hL (by decide) rfl dL_law_1247 dL_law_1248 dL_law_1250 dL_law_1251 dL_law_1252 ?_
  refine w_arg 4 hi hL (by decide) rfl dL_law_1253 dL_law_1254 dL_law_1256 dL_law_1257 dL_law_1258 ?_
  refine w_arg 5 hi hL (by decide) rfl dL_law_1259 dL_law_1260 dL_law_1262 dL_law_1263 dL_law_1264 ?_
  refine w_argb 6 hi hL (by decide) rfl dL_law_1265 dL_law_1266 dL_law_1268 dL_law_1270 dL_law_1271 ?_
  refine p_bool dL_law_1272 dL_law_1275 dL_law_1276 dL_law_1279 ?_
  refine p_v6 n1 lm_L_125 dL_law_1280 S1.i50 S1.k50 rfl rfl hc hs (fun v h2 e => ?_)
  obtain ⟨rfl, j2⟩ := e
  show lwF PQ L f RC RS (cells + 17) (slots + 307) 1283 i v5 v6 [.int r, .int r] h2
  exact p_iceq dL_law_1283 (fun _ => x h2 j2) (fun z => absurd rfl z)
end LWS2
