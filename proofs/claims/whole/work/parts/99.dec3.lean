/-! DECODE ROWS OF THE LAW, by program -/
theorem dL_law_785 : gd cL_law 785 (.aload_n 2) 1 786 := by decide +kernel
theorem dL_law_786 : gd cL_law 786 (.aload_n 0) 1 787 := by decide +kernel
theorem dL_law_787 : gd cL_law 787 (.iload 4) 2 789 := by decide +kernel
theorem dL_law_789 : decode cL_law 789 = .ok (.iconst 1, 1) ∧ 789 + 1 = 790 ∧ Int32.ofInt (1) = (1) := by decide +kernel
theorem dL_law_790 : gd cL_law 790 (.iadd) 1 791 := by decide +kernel
theorem dL_law_791 : gd cL_law 791 (.iaload) 1 792 := by decide +kernel
theorem dL_law_792 : gd cL_law 792 (.aload_n 0) 1 793 := by decide +kernel
theorem dL_law_793 : gd cL_law 793 (.iload 4) 2 795 := by decide +kernel
theorem dL_law_795 : decode cL_law 795 = .ok (.iconst 2, 1) ∧ 795 + 1 = 796 ∧ Int32.ofInt (2) = (2) := by decide +kernel
theorem dL_law_796 : gd cL_law 796 (.iadd) 1 797 := by decide +kernel
theorem dL_law_797 : gd cL_law 797 (.iaload) 1 798 := by decide +kernel
theorem dL_law_798 : gd cL_law 798 (.aload_n 0) 1 799 := by decide +kernel
theorem dL_law_799 : gd cL_law 799 (.iload 4) 2 801 := by decide +kernel
theorem dL_law_801 : decode cL_law 801 = .ok (.iconst 3, 1) ∧ 801 + 1 = 802 ∧ Int32.ofInt (3) = (3) := by decide +kernel
theorem dL_law_802 : gd cL_law 802 (.iadd) 1 803 := by decide +kernel
theorem dL_law_803 : gd cL_law 803 (.iaload) 1 804 := by decide +kernel
theorem dL_law_804 : gd cL_law 804 (.invokevirtual 86) 3 807 := by decide +kernel
theorem dL_law_807 : gb cL_law 807 (.if_icmp .eq 1161) (1161) 810 1968 := by decide +kernel
theorem dL_law_810 : decode cL_law 810 = .ok (.iconst 0, 1) ∧ 810 + 1 = 811 ∧ Int32.ofInt (0) = (0) := by decide +kernel
theorem dL_law_811 : gd cL_law 811 (.ireturn) 1 812 := by decide +kernel
theorem dL_law_812 : gd cL_law 812 (.aload_n 1) 1 813 := by decide +kernel
theorem dL_law_813 : gd cL_law 813 (.aload_n 0) 1 814 := by decide +kernel
theorem dL_law_814 : gd cL_law 814 (.iload 4) 2 816 := by decide +kernel
theorem dL_law_816 : decode cL_law 816 = .ok (.iconst 1, 1) ∧ 816 + 1 = 817 ∧ Int32.ofInt (1) = (1) := by decide +kernel
theorem dL_law_817 : gd cL_law 817 (.iadd) 1 818 := by decide +kernel
theorem dL_law_818 : gd cL_law 818 (.iaload) 1 819 := by decide +kernel
theorem dL_law_819 : gd cL_law 819 (.aload_n 0) 1 820 := by decide +kernel
theorem dL_law_820 : gd cL_law 820 (.iload 4) 2 822 := by decide +kernel
theorem dL_law_822 : decode cL_law 822 = .ok (.iconst 2, 1) ∧ 822 + 1 = 823 ∧ Int32.ofInt (2) = (2) := by decide +kernel
theorem dL_law_823 : gd cL_law 823 (.iadd) 1 824 := by decide +kernel
theorem dL_law_824 : gd cL_law 824 (.iaload) 1 825 := by decide +kernel
theorem dL_law_825 : gd cL_law 825 (.aload_n 0) 1 826 := by decide +kernel
theorem dL_law_826 : gd cL_law 826 (.iload 4) 2 828 := by decide +kernel
theorem dL_law_828 : decode cL_law 828 = .ok (.iconst 3, 1) ∧ 828 + 1 = 829 ∧ Int32.ofInt (3) = (3) := by decide +kernel
theorem dL_law_829 : gd cL_law 829 (.iadd) 1 830 := by decide +kernel
theorem dL_law_830 : gd cL_law 830 (.iaload) 1 831 := by decide +kernel
theorem dL_law_831 : gd cL_law 831 (.aload_n 0) 1 832 := by decide +kernel
theorem dL_law_832 : gd cL_law 832 (.iload 4) 2 834 := by decide +kernel
theorem dL_law_834 : decode cL_law 834 = .ok (.iconst 4, 1) ∧ 834 + 1 = 835 ∧ Int32.ofInt (4) = (4) := by decide +kernel
theorem dL_law_835 : gd cL_law 835 (.iadd) 1 836 := by decide +kernel
theorem dL_law_836 : gd cL_law 836 (.iaload) 1 837 := by decide +kernel
theorem dL_law_837 : gd cL_law 837 (.invokevirtual 87) 3 840 := by decide +kernel
theorem dL_law_840 : gd cL_law 840 (.aload_n 2) 1 841 := by decide +kernel
theorem dL_law_841 : gd cL_law 841 (.aload_n 0) 1 842 := by decide +kernel
theorem dL_law_842 : gd cL_law 842 (.iload 4) 2 844 := by decide +kernel
theorem dL_law_844 : decode cL_law 844 = .ok (.iconst 1, 1) ∧ 844 + 1 = 845 ∧ Int32.ofInt (1) = (1) := by decide +kernel
theorem dL_law_845 : gd cL_law 845 (.iadd) 1 846 := by decide +kernel
theorem dL_law_846 : gd cL_law 846 (.iaload) 1 847 := by decide +kernel
theorem dL_law_847 : gd cL_law 847 (.aload_n 0) 1 848 := by decide +kernel
theorem dL_law_848 : gd cL_law 848 (.iload 4) 2 850 := by decide +kernel
theorem dL_law_850 : decode cL_law 850 = .ok (.iconst 2, 1) ∧ 850 + 1 = 851 ∧ Int32.ofInt (2) = (2) := by decide +kernel
theorem dL_law_851 : gd cL_law 851 (.iadd) 1 852 := by decide +kernel
theorem dL_law_852 : gd cL_law 852 (.iaload) 1 853 := by decide +kernel
theorem dL_law_853 : gd cL_law 853 (.aload_n 0) 1 854 := by decide +kernel
theorem dL_law_854 : gd cL_law 854 (.iload 4) 2 856 := by decide +kernel
theorem dL_law_856 : decode cL_law 856 = .ok (.iconst 3, 1) ∧ 856 + 1 = 857 ∧ Int32.ofInt (3) = (3) := by decide +kernel
theorem dL_law_857 : gd cL_law 857 (.iadd) 1 858 := by decide +kernel
theorem dL_law_858 : gd cL_law 858 (.iaload) 1 859 := by decide +kernel
theorem dL_law_859 : gd cL_law 859 (.aload_n 0) 1 860 := by decide +kernel
theorem dL_law_860 : gd cL_law 860 (.iload 4) 2 862 := by decide +kernel
theorem dL_law_862 : decode cL_law 862 = .ok (.iconst 4, 1) ∧ 862 + 1 = 863 ∧ Int32.ofInt (4) = (4) := by decide +kernel
theorem dL_law_863 : gd cL_law 863 (.iadd) 1 864 := by decide +kernel
theorem dL_law_864 : gd cL_law 864 (.iaload) 1 865 := by decide +kernel
theorem dL_law_865 : gd cL_law 865 (.invokevirtual 91) 3 868 := by decide +kernel
theorem dL_law_868 : gb cL_law 868 (.if_icmp .eq 1100) (1100) 871 1968 := by decide +kernel
theorem dL_law_871 : decode cL_law 871 = .ok (.iconst 0, 1) ∧ 871 + 1 = 872 ∧ Int32.ofInt (0) = (0) := by decide +kernel
theorem dL_law_872 : gd cL_law 872 (.ireturn) 1 873 := by decide +kernel
theorem dL_law_873 : gd cL_law 873 (.aload_n 1) 1 874 := by decide +kernel
theorem dL_law_874 : gd cL_law 874 (.aload_n 0) 1 875 := by decide +kernel
theorem dL_law_875 : gd cL_law 875 (.iload 4) 2 877 := by decide +kernel
theorem dL_law_877 : decode cL_law 877 = .ok (.iconst 1, 1) ∧ 877 + 1 = 878 ∧ Int32.ofInt (1) = (1) := by decide +kernel
theorem dL_law_878 : gd cL_law 878 (.iadd) 1 879 := by decide +kernel
theorem dL_law_879 : gd cL_law 879 (.iaload) 1 880 := by decide +kernel
theorem dL_law_880 : gd cL_law 880 (.aload_n 0) 1 881 := by decide +kernel
theorem dL_law_881 : gd cL_law 881 (.iload 4) 2 883 := by decide +kernel
theorem dL_law_883 : decode cL_law 883 = .ok (.iconst 2, 1) ∧ 883 + 1 = 884 ∧ Int32.ofInt (2) = (2) := by decide +kernel
theorem dL_law_884 : gd cL_law 884 (.iadd) 1 885 := by decide +kernel
theorem dL_law_885 : gd cL_law 885 (.iaload) 1 886 := by decide +kernel
theorem dL_law_886 : gd cL_law 886 (.aload_n 0) 1 887 := by decide +kernel
theorem dL_law_887 : gd cL_law 887 (.iload 4) 2 889 := by decide +kernel
theorem dL_law_889 : decode cL_law 889 = .ok (.iconst 3, 1) ∧ 889 + 1 = 890 ∧ Int32.ofInt (3) = (3) := by decide +kernel
theorem dL_law_890 : gd cL_law 890 (.iadd) 1 891 := by decide +kernel
theorem dL_law_891 : gd cL_law 891 (.iaload) 1 892 := by decide +kernel
theorem dL_law_892 : gd cL_law 892 (.aload_n 0) 1 893 := by decide +kernel
theorem dL_law_893 : gd cL_law 893 (.iload 4) 2 895 := by decide +kernel
theorem dL_law_895 : decode cL_law 895 = .ok (.iconst 4, 1) ∧ 895 + 1 = 896 ∧ Int32.ofInt (4) = (4) := by decide +kernel
theorem dL_law_896 : gd cL_law 896 (.iadd) 1 897 := by decide +kernel
theorem dL_law_897 : gd cL_law 897 (.iaload) 1 898 := by decide +kernel
theorem dL_law_898 : gb cL_law 898 (.ifCond .eq 7) (7) 901 905 := by decide +kernel
theorem dL_law_901 : decode cL_law 901 = .ok (.iconst 1, 1) ∧ 901 + 1 = 902 ∧ Int32.ofInt (1) = (1) := by decide +kernel
theorem dL_law_902 : gb cL_law 902 (.goto 4) (4) 905 906 := by decide +kernel
theorem dL_law_905 : decode cL_law 905 = .ok (.iconst 0, 1) ∧ 905 + 1 = 906 ∧ Int32.ofInt (0) = (0) := by decide +kernel
theorem dL_law_906 : gd cL_law 906 (.invokevirtual 92) 3 909 := by decide +kernel
theorem dL_law_909 : gd cL_law 909 (.aload_n 2) 1 910 := by decide +kernel
theorem dL_law_910 : gd cL_law 910 (.aload_n 0) 1 911 := by decide +kernel
theorem dL_law_911 : gd cL_law 911 (.iload 4) 2 913 := by decide +kernel
theorem dL_law_913 : decode cL_law 913 = .ok (.iconst 1, 1) ∧ 913 + 1 = 914 ∧ Int32.ofInt (1) = (1) := by decide +kernel
theorem dL_law_914 : gd cL_law 914 (.iadd) 1 915 := by decide +kernel
theorem dL_law_915 : gd cL_law 915 (.iaload) 1 916 := by decide +kernel
theorem dL_law_916 : gd cL_law 916 (.aload_n 0) 1 917 := by decide +kernel
theorem dL_law_917 : gd cL_law 917 (.iload 4) 2 919 := by decide +kernel
theorem dL_law_919 : decode cL_law 919 = .ok (.iconst 2, 1) ∧ 919 + 1 = 920 ∧ Int32.ofInt (2) = (2) := by decide +kernel
theorem dL_law_920 : gd cL_law 920 (.iadd) 1 921 := by decide +kernel
theorem dL_law_921 : gd cL_law 921 (.iaload) 1 922 := by decide +kernel
theorem dL_law_922 : gd cL_law 922 (.aload_n 0) 1 923 := by decide +kernel
theorem dL_law_923 : gd cL_law 923 (.iload 4) 2 925 := by decide +kernel
theorem dL_law_925 : decode cL_law 925 = .ok (.iconst 3, 1) ∧ 925 + 1 = 926 ∧ Int32.ofInt (3) = (3) := by decide +kernel
theorem dL_law_926 : gd cL_law 926 (.iadd) 1 927 := by decide +kernel
theorem dL_law_927 : gd cL_law 927 (.iaload) 1 928 := by decide +kernel
theorem dL_law_928 : gd cL_law 928 (.aload_n 0) 1 929 := by decide +kernel
theorem dL_law_929 : gd cL_law 929 (.iload 4) 2 931 := by decide +kernel
theorem dL_law_931 : decode cL_law 931 = .ok (.iconst 4, 1) ∧ 931 + 1 = 932 ∧ Int32.ofInt (4) = (4) := by decide +kernel
theorem dL_law_932 : gd cL_law 932 (.iadd) 1 933 := by decide +kernel
theorem dL_law_933 : gd cL_law 933 (.iaload) 1 934 := by decide +kernel
theorem dL_law_934 : gb cL_law 934 (.ifCond .eq 7) (7) 937 941 := by decide +kernel
theorem dL_law_937 : decode cL_law 937 = .ok (.iconst 1, 1) ∧ 937 + 1 = 938 ∧ Int32.ofInt (1) = (1) := by decide +kernel
theorem dL_law_938 : gb cL_law 938 (.goto 4) (4) 941 942 := by decide +kernel
theorem dL_law_941 : decode cL_law 941 = .ok (.iconst 0, 1) ∧ 941 + 1 = 942 ∧ Int32.ofInt (0) = (0) := by decide +kernel
theorem dL_law_942 : gd cL_law 942 (.invokevirtual 96) 3 945 := by decide +kernel
theorem dL_law_945 : gd cL_law 945 (.lcmp) 1 946 := by decide +kernel
theorem dL_law_946 : gb cL_law 946 (.ifCond .eq 1022) (1022) 949 1968 := by decide +kernel
theorem dL_law_949 : decode cL_law 949 = .ok (.iconst 0, 1) ∧ 949 + 1 = 950 ∧ Int32.ofInt (0) = (0) := by decide +kernel
theorem dL_law_950 : gd cL_law 950 (.ireturn) 1 951 := by decide +kernel
theorem dL_law_951 : gd cL_law 951 (.aload_n 1) 1 952 := by decide +kernel
theorem dL_law_952 : gd cL_law 952 (.aload_n 0) 1 953 := by decide +kernel
theorem dL_law_953 : gd cL_law 953 (.iload 4) 2 955 := by decide +kernel
theorem dL_law_955 : decode cL_law 955 = .ok (.iconst 1, 1) ∧ 955 + 1 = 956 ∧ Int32.ofInt (1) = (1) := by decide +kernel
theorem dL_law_956 : gd cL_law 956 (.iadd) 1 957 := by decide +kernel
theorem dL_law_957 : gd cL_law 957 (.iaload) 1 958 := by decide +kernel
theorem dL_law_958 : gd cL_law 958 (.aload_n 0) 1 959 := by decide +kernel
theorem dL_law_959 : gd cL_law 959 (.iload 4) 2 961 := by decide +kernel
theorem dL_law_961 : decode cL_law 961 = .ok (.iconst 2, 1) ∧ 961 + 1 = 962 ∧ Int32.ofInt (2) = (2) := by decide +kernel
theorem dL_law_962 : gd cL_law 962 (.iadd) 1 963 := by decide +kernel
theorem dL_law_963 : gd cL_law 963 (.iaload) 1 964 := by decide +kernel
theorem dL_law_964 : gd cL_law 964 (.aload_n 0) 1 965 := by decide +kernel
theorem dL_law_965 : gd cL_law 965 (.iload 4) 2 967 := by decide +kernel
theorem dL_law_967 : decode cL_law 967 = .ok (.iconst 3, 1) ∧ 967 + 1 = 968 ∧ Int32.ofInt (3) = (3) := by decide +kernel
theorem dL_law_968 : gd cL_law 968 (.iadd) 1 969 := by decide +kernel
theorem dL_law_969 : gd cL_law 969 (.iaload) 1 970 := by decide +kernel
theorem dL_law_970 : gd cL_law 970 (.aload_n 0) 1 971 := by decide +kernel
theorem dL_law_971 : gd cL_law 971 (.iload 4) 2 973 := by decide +kernel
theorem dL_law_973 : decode cL_law 973 = .ok (.iconst 4, 1) ∧ 973 + 1 = 974 ∧ Int32.ofInt (4) = (4) := by decide +kernel
theorem dL_law_974 : gd cL_law 974 (.iadd) 1 975 := by decide +kernel
theorem dL_law_975 : gd cL_law 975 (.iaload) 1 976 := by decide +kernel
theorem dL_law_976 : gd cL_law 976 (.invokevirtual 97) 3 979 := by decide +kernel
theorem dL_law_979 : gd cL_law 979 (.aload_n 2) 1 980 := by decide +kernel
theorem dL_law_980 : gd cL_law 980 (.aload_n 0) 1 981 := by decide +kernel
theorem dL_law_981 : gd cL_law 981 (.iload 4) 2 983 := by decide +kernel
theorem dL_law_983 : decode cL_law 983 = .ok (.iconst 1, 1) ∧ 983 + 1 = 984 ∧ Int32.ofInt (1) = (1) := by decide +kernel
theorem dL_law_984 : gd cL_law 984 (.iadd) 1 985 := by decide +kernel
theorem dL_law_985 : gd cL_law 985 (.iaload) 1 986 := by decide +kernel
theorem dL_law_986 : gd cL_law 986 (.aload_n 0) 1 987 := by decide +kernel
theorem dL_law_987 : gd cL_law 987 (.iload 4) 2 989 := by decide +kernel
theorem dL_law_989 : decode cL_law 989 = .ok (.iconst 2, 1) ∧ 989 + 1 = 990 ∧ Int32.ofInt (2) = (2) := by decide +kernel
theorem dL_law_990 : gd cL_law 990 (.iadd) 1 991 := by decide +kernel
theorem dL_law_991 : gd cL_law 991 (.iaload) 1 992 := by decide +kernel
theorem dL_law_992 : gd cL_law 992 (.aload_n 0) 1 993 := by decide +kernel
theorem dL_law_993 : gd cL_law 993 (.iload 4) 2 995 := by decide +kernel
theorem dL_law_995 : decode cL_law 995 = .ok (.iconst 3, 1) ∧ 995 + 1 = 996 ∧ Int32.ofInt (3) = (3) := by decide +kernel
theorem dL_law_996 : gd cL_law 996 (.iadd) 1 997 := by decide +kernel
theorem dL_law_997 : gd cL_law 997 (.iaload) 1 998 := by decide +kernel
theorem dL_law_998 : gd cL_law 998 (.aload_n 0) 1 999 := by decide +kernel
theorem dL_law_999 : gd cL_law 999 (.iload 4) 2 1001 := by decide +kernel
theorem dL_law_1001 : decode cL_law 1001 = .ok (.iconst 4, 1) ∧ 1001 + 1 = 1002 ∧ Int32.ofInt (4) = (4) := by decide +kernel
theorem dL_law_1002 : gd cL_law 1002 (.iadd) 1 1003 := by decide +kernel
theorem dL_law_1003 : gd cL_law 1003 (.iaload) 1 1004 := by decide +kernel
theorem dL_law_1004 : gd cL_law 1004 (.invokevirtual 100) 3 1007 := by decide +kernel
theorem dL_law_1007 : gb cL_law 1007 (.if_icmp .eq 961) (961) 1010 1968 := by decide +kernel
theorem dL_law_1010 : decode cL_law 1010 = .ok (.iconst 0, 1) ∧ 1010 + 1 = 1011 ∧ Int32.ofInt (0) = (0) := by decide +kernel
theorem dL_law_1011 : gd cL_law 1011 (.ireturn) 1 1012 := by decide +kernel
theorem dL_law_1012 : gd cL_law 1012 (.aload_n 1) 1 1013 := by decide +kernel
theorem dL_law_1013 : gd cL_law 1013 (.aload_n 0) 1 1014 := by decide +kernel
theorem dL_law_1014 : gd cL_law 1014 (.iload 4) 2 1016 := by decide +kernel
theorem dL_law_1016 : decode cL_law 1016 = .ok (.iconst 1, 1) ∧ 1016 + 1 = 1017 ∧ Int32.ofInt (1) = (1) := by decide +kernel
theorem dL_law_1017 : gd cL_law 1017 (.iadd) 1 1018 := by decide +kernel
theorem dL_law_1018 : gd cL_law 1018 (.iaload) 1 1019 := by decide +kernel
theorem dL_law_1019 : gd cL_law 1019 (.aload_n 0) 1 1020 := by decide +kernel
theorem dL_law_1020 : gd cL_law 1020 (.iload 4) 2 1022 := by decide +kernel
theorem dL_law_1022 : decode cL_law 1022 = .ok (.iconst 2, 1) ∧ 1022 + 1 = 1023 ∧ Int32.ofInt (2) = (2) := by decide +kernel
theorem dL_law_1023 : gd cL_law 1023 (.iadd) 1 1024 := by decide +kernel
theorem dL_law_1024 : gd cL_law 1024 (.iaload) 1 1025 := by decide +kernel
theorem dL_law_1025 : gd cL_law 1025 (.invokevirtual 101) 3 1028 := by decide +kernel
theorem dL_law_1028 : gd cL_law 1028 (.aload_n 2) 1 1029 := by decide +kernel
theorem dL_law_1029 : gd cL_law 1029 (.aload_n 0) 1 1030 := by decide +kernel
theorem dL_law_1030 : gd cL_law 1030 (.iload 4) 2 1032 := by decide +kernel
theorem dL_law_1032 : decode cL_law 1032 = .ok (.iconst 1, 1) ∧ 1032 + 1 = 1033 ∧ Int32.ofInt (1) = (1) := by decide +kernel
theorem dL_law_1033 : gd cL_law 1033 (.iadd) 1 1034 := by decide +kernel
theorem dL_law_1034 : gd cL_law 1034 (.iaload) 1 1035 := by decide +kernel
theorem dL_law_1035 : gd cL_law 1035 (.aload_n 0) 1 1036 := by decide +kernel
theorem dL_law_1036 : gd cL_law 1036 (.iload 4) 2 1038 := by decide +kernel
theorem dL_law_1038 : decode cL_law 1038 = .ok (.iconst 2, 1) ∧ 1038 + 1 = 1039 ∧ Int32.ofInt (2) = (2) := by decide +kernel
theorem dL_law_1039 : gd cL_law 1039 (.iadd) 1 1040 := by decide +kernel
theorem dL_law_1040 : gd cL_law 1040 (.iaload) 1 1041 := by decide +kernel
theorem dL_law_1041 : gd cL_law 1041 (.invokevirtual 104) 3 1044 := by decide +kernel
theorem dL_law_1044 : gb cL_law 1044 (.if_icmp .eq 924) (924) 1047 1968 := by decide +kernel
theorem dL_law_1047 : decode cL_law 1047 = .ok (.iconst 0, 1) ∧ 1047 + 1 = 1048 ∧ Int32.ofInt (0) = (0) := by decide +kernel
theorem dL_law_1048 : gd cL_law 1048 (.ireturn) 1 1049 := by decide +kernel
theorem dL_law_1049 : gd cL_law 1049 (.aload_n 1) 1 1050 := by decide +kernel
theorem dL_law_1050 : gd cL_law 1050 (.aload_n 0) 1 1051 := by decide +kernel
theorem dL_law_1051 : gd cL_law 1051 (.iload 4) 2 1053 := by decide +kernel
theorem dL_law_1053 : decode cL_law 1053 = .ok (.iconst 1, 1) ∧ 1053 + 1 = 1054 ∧ Int32.ofInt (1) = (1) := by decide +kernel
theorem dL_law_1054 : gd cL_law 1054 (.iadd) 1 1055 := by decide +kernel
theorem dL_law_1055 : gd cL_law 1055 (.iaload) 1 1056 := by decide +kernel
theorem dL_law_1056 : gd cL_law 1056 (.invokevirtual 105) 3 1059 := by decide +kernel
theorem dL_law_1059 : gd cL_law 1059 (.aload_n 2) 1 1060 := by decide +kernel
theorem dL_law_1060 : gd cL_law 1060 (.aload_n 0) 1 1061 := by decide +kernel
theorem dL_law_1061 : gd cL_law 1061 (.iload 4) 2 1063 := by decide +kernel
theorem dL_law_1063 : decode cL_law 1063 = .ok (.iconst 1, 1) ∧ 1063 + 1 = 1064 ∧ Int32.ofInt (1) = (1) := by decide +kernel
theorem dL_law_1064 : gd cL_law 1064 (.iadd) 1 1065 := by decide +kernel
theorem dL_law_1065 : gd cL_law 1065 (.iaload) 1 1066 := by decide +kernel
