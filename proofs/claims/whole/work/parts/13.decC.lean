/-! DECODE ROWS, by program -/
theorem dX3_init_0 : gd cX3_init 0 (.aload_n 0) 1 1 := by decide +kernel
theorem dX3_init_1 : gd cX3_init 1 (.invokespecial 5) 3 4 := by decide +kernel
theorem dX3_init_4 : gd cX3_init 4 (.aload_n 0) 1 5 := by decide +kernel
theorem dX3_init_5 : gd cX3_init 5 (.new 11) 3 8 := by decide +kernel
theorem dX3_init_8 : gd cX3_init 8 (.dup) 1 9 := by decide +kernel
theorem dX3_init_9 : gd cX3_init 9 (.aload_n 1) 1 10 := by decide +kernel
theorem dX3_init_10 : gd cX3_init 10 (.invokespecial 13) 3 13 := by decide +kernel
theorem dX3_init_13 : gd cX3_init 13 (.putfield 16) 3 16 := by decide +kernel
theorem dX3_init_16 : gd cX3_init 16 (.aload_n 0) 1 17 := by decide +kernel
theorem dX3_init_17 : gd cX3_init 17 (.aload_n 2) 1 18 := by decide +kernel
theorem dX3_init_18 : gd cX3_init 18 (.putfield 22) 3 21 := by decide +kernel
theorem dX3_init_21 : gd cX3_init 21 (.aload_n 0) 1 22 := by decide +kernel
theorem dX3_init_22 : decode cX3_init 22 = .ok (.iconst (-1), 1) ∧ 22 + 1 = 23 ∧ Int32.ofInt (-1) = (-1) := by decide +kernel
theorem dX3_init_23 : gd cX3_init 23 (.putfield 26) 3 26 := by decide +kernel
theorem dX3_init_26 : gd cX3_init 26 (.aload_n 0) 1 27 := by decide +kernel
theorem dX3_init_27 : decode cX3_init 27 = .ok (.bipush 33, 2) ∧ 27 + 2 = 29 ∧ (Int8.ofInt (33)).toInt32 = (33) := by decide +kernel
theorem dX3_init_29 : gd cX3_init 29 (.newarray .long) 2 31 := by decide +kernel
theorem dX3_init_31 : gd cX3_init 31 (.putfield 30) 3 34 := by decide +kernel
theorem dX3_init_34 : gd cX3_init 34 (.aload_n 0) 1 35 := by decide +kernel
theorem dX3_init_35 : decode cX3_init 35 = .ok (.bipush 33, 2) ∧ 35 + 2 = 37 ∧ (Int8.ofInt (33)).toInt32 = (33) := by decide +kernel
theorem dX3_init_37 : gd cX3_init 37 (.newarray .int) 2 39 := by decide +kernel
theorem dX3_init_39 : gd cX3_init 39 (.putfield 34) 3 42 := by decide +kernel
theorem dX3_init_42 : gd cX3_init 42 (.aload_n 0) 1 43 := by decide +kernel
theorem dX3_init_43 : decode cX3_init 43 = .ok (.bipush 33, 2) ∧ 43 + 2 = 45 ∧ (Int8.ofInt (33)).toInt32 = (33) := by decide +kernel
theorem dX3_init_45 : gd cX3_init 45 (.newarray .int) 2 47 := by decide +kernel
theorem dX3_init_47 : gd cX3_init 47 (.putfield 38) 3 50 := by decide +kernel
theorem dX3_init_50 : gd cX3_init 50 (.return_) 1 51 := by decide +kernel
theorem dX3_parse_0 : gd cX3_parse 0 (.aload_n 0) 1 1 := by decide +kernel
theorem dX3_parse_1 : gd cX3_parse 1 (.aload_n 2) 1 2 := by decide +kernel
theorem dX3_parse_2 : gd cX3_parse 2 (.putfield 22) 3 5 := by decide +kernel
theorem dX3_parse_5 : gd cX3_parse 5 (.aload_n 0) 1 6 := by decide +kernel
theorem dX3_parse_6 : gd cX3_parse 6 (.getfield 22) 3 9 := by decide +kernel
theorem dX3_parse_9 : gd cX3_parse 9 (.invokevirtual 41) 3 12 := by decide +kernel
theorem dX3_parse_12 : gd cX3_parse 12 (.aload_n 0) 1 13 := by decide +kernel
theorem dX3_parse_13 : decode cX3_parse 13 = .ok (.iconst 0, 1) ∧ 13 + 1 = 14 ∧ Int32.ofInt (0) = (0) := by decide +kernel
theorem dX3_parse_14 : gd cX3_parse 14 (.putfield 44) 3 17 := by decide +kernel
theorem dX3_parse_17 : gd cX3_parse 17 (.aload_n 0) 1 18 := by decide +kernel
theorem dX3_parse_18 : decode cX3_parse 18 = .ok (.iconst 0, 1) ∧ 18 + 1 = 19 ∧ Int32.ofInt (0) = (0) := by decide +kernel
theorem dX3_parse_19 : gd cX3_parse 19 (.putfield 47) 3 22 := by decide +kernel
theorem dX3_parse_22 : gd cX3_parse 22 (.aload_n 0) 1 23 := by decide +kernel
theorem dX3_parse_23 : decode cX3_parse 23 = .ok (.iconst (-1), 1) ∧ 23 + 1 = 24 ∧ Int32.ofInt (-1) = (-1) := by decide +kernel
theorem dX3_parse_24 : gd cX3_parse 24 (.putfield 26) 3 27 := by decide +kernel
theorem dX3_parse_27 : gd cX3_parse 27 (.aload_n 0) 1 28 := by decide +kernel
theorem dX3_parse_28 : gd cX3_parse 28 (.getfield 16) 3 31 := by decide +kernel
theorem dX3_parse_31 : gd cX3_parse 31 (.iload_n 1) 1 32 := by decide +kernel
theorem dX3_parse_32 : gd cX3_parse 32 (.invokevirtual 50) 3 35 := by decide +kernel
theorem dX3_parse_35 : gd cX3_parse 35 (.aload_n 0) 1 36 := by decide +kernel
theorem dX3_parse_36 : gd cX3_parse 36 (.invokevirtual 54) 3 39 := by decide +kernel
theorem dX3_parse_39 : gb cX3_parse 39 (.ifCond .ne 5) (5) 42 44 := by decide +kernel
theorem dX3_parse_42 : decode cX3_parse 42 = .ok (.iconst 0, 1) ∧ 42 + 1 = 43 ∧ Int32.ofInt (0) = (0) := by decide +kernel
theorem dX3_parse_43 : gd cX3_parse 43 (.ireturn) 1 44 := by decide +kernel
theorem dX3_parse_44 : decode cX3_parse 44 = .ok (.iconst 0, 1) ∧ 44 + 1 = 45 ∧ Int32.ofInt (0) = (0) := by decide +kernel
theorem dX3_parse_45 : gd cX3_parse 45 (.istore_n 3) 1 46 := by decide +kernel
theorem dX3_parse_46 : gd cX3_parse 46 (.iload_n 3) 1 47 := by decide +kernel
theorem dX3_parse_47 : decode cX3_parse 47 = .ok (.sipush 1100, 3) ∧ 47 + 3 = 50 ∧ (Int16.ofInt (1100)).toInt32 = (1100) := by decide +kernel
theorem dX3_parse_50 : gb cX3_parse 50 (.if_icmp .ge 79) (79) 53 129 := by decide +kernel
theorem dX3_parse_53 : gd cX3_parse 53 (.aload_n 0) 1 54 := by decide +kernel
theorem dX3_parse_54 : gd cX3_parse 54 (.getfield 16) 3 57 := by decide +kernel
theorem dX3_parse_57 : gd cX3_parse 57 (.getfield 60) 3 60 := by decide +kernel
theorem dX3_parse_60 : gb cX3_parse 60 (.ifCond .ne 30) (30) 63 90 := by decide +kernel
theorem dX3_parse_63 : gd cX3_parse 63 (.aload_n 0) 1 64 := by decide +kernel
theorem dX3_parse_64 : gd cX3_parse 64 (.getfield 22) 3 67 := by decide +kernel
theorem dX3_parse_67 : gd cX3_parse 67 (.getfield 63) 3 70 := by decide +kernel
theorem dX3_parse_70 : decode cX3_parse 70 = .ok (.iconst 1, 1) ∧ 70 + 1 = 71 ∧ Int32.ofInt (1) = (1) := by decide +kernel
theorem dX3_parse_71 : gd cX3_parse 71 (.iaload) 1 72 := by decide +kernel
theorem dX3_parse_72 : gb cX3_parse 72 (.ifCond .gt 12) (12) 75 84 := by decide +kernel
theorem dX3_parse_75 : gd cX3_parse 75 (.aload_n 0) 1 76 := by decide +kernel
theorem dX3_parse_76 : decode cX3_parse 76 = .ok (.bipush 6, 2) ∧ 76 + 2 = 78 ∧ (Int8.ofInt (6)).toInt32 = (6) := by decide +kernel
theorem dX3_parse_78 : gd cX3_parse 78 (.invokevirtual 66) 3 81 := by decide +kernel
theorem dX3_parse_81 : gb cX3_parse 81 (.ifCond .eq 7) (7) 84 88 := by decide +kernel
theorem dX3_parse_84 : decode cX3_parse 84 = .ok (.iconst 1, 1) ∧ 84 + 1 = 85 ∧ Int32.ofInt (1) = (1) := by decide +kernel
theorem dX3_parse_85 : gb cX3_parse 85 (.goto 4) (4) 88 89 := by decide +kernel
theorem dX3_parse_88 : decode cX3_parse 88 = .ok (.iconst 0, 1) ∧ 88 + 1 = 89 ∧ Int32.ofInt (0) = (0) := by decide +kernel
theorem dX3_parse_89 : gd cX3_parse 89 (.ireturn) 1 90 := by decide +kernel
theorem dX3_parse_90 : gd cX3_parse 90 (.aload_n 0) 1 91 := by decide +kernel
theorem dX3_parse_91 : gd cX3_parse 91 (.getfield 16) 3 94 := by decide +kernel
theorem dX3_parse_94 : gd cX3_parse 94 (.getfield 60) 3 97 := by decide +kernel
theorem dX3_parse_97 : decode cX3_parse 97 = .ok (.iconst 3, 1) ∧ 97 + 1 = 98 ∧ Int32.ofInt (3) = (3) := by decide +kernel
theorem dX3_parse_98 : gb cX3_parse 98 (.if_icmp .eq 9) (9) 101 107 := by decide +kernel
theorem dX3_parse_101 : gd cX3_parse 101 (.aload_n 0) 1 102 := by decide +kernel
theorem dX3_parse_102 : decode cX3_parse 102 = .ok (.iconst 1, 1) ∧ 102 + 1 = 103 ∧ Int32.ofInt (1) = (1) := by decide +kernel
theorem dX3_parse_103 : gd cX3_parse 103 (.invokevirtual 66) 3 106 := by decide +kernel
theorem dX3_parse_106 : gd cX3_parse 106 (.ireturn) 1 107 := by decide +kernel
theorem dX3_parse_107 : gd cX3_parse 107 (.aload_n 0) 1 108 := by decide +kernel
theorem dX3_parse_108 : gd cX3_parse 108 (.getfield 16) 3 111 := by decide +kernel
theorem dX3_parse_111 : gd cX3_parse 111 (.invokevirtual 70) 3 114 := by decide +kernel
theorem dX3_parse_114 : gd cX3_parse 114 (.aload_n 0) 1 115 := by decide +kernel
theorem dX3_parse_115 : gd cX3_parse 115 (.invokevirtual 73) 3 118 := by decide +kernel
theorem dX3_parse_118 : gb cX3_parse 118 (.ifCond .ne 5) (5) 121 123 := by decide +kernel
theorem dX3_parse_121 : decode cX3_parse 121 = .ok (.iconst 0, 1) ∧ 121 + 1 = 122 ∧ Int32.ofInt (0) = (0) := by decide +kernel
theorem dX3_parse_122 : gd cX3_parse 122 (.ireturn) 1 123 := by decide +kernel
theorem dX3_parse_123 : decode cX3_parse 123 = .ok (.iinc 3 1, 3) ∧ 123 + 3 = 126 ∧ Int32.ofInt (1) = (1) := by decide +kernel
theorem dX3_parse_126 : gb cX3_parse 126 (.goto (-80)) (-80) 129 46 := by decide +kernel
theorem dX3_parse_129 : gd cX3_parse 129 (.aload_n 0) 1 130 := by decide +kernel
theorem dX3_parse_130 : decode cX3_parse 130 = .ok (.iconst 1, 1) ∧ 130 + 1 = 131 ∧ Int32.ofInt (1) = (1) := by decide +kernel
theorem dX3_parse_131 : gd cX3_parse 131 (.invokevirtual 66) 3 134 := by decide +kernel
theorem dX3_parse_134 : gd cX3_parse 134 (.ireturn) 1 135 := by decide +kernel
theorem dX3_fail_0 : gd cX3_fail 0 (.aload_n 0) 1 1 := by decide +kernel
theorem dX3_fail_1 : gd cX3_fail 1 (.iload_n 1) 1 2 := by decide +kernel
theorem dX3_fail_2 : gd cX3_fail 2 (.putfield 47) 3 5 := by decide +kernel
theorem dX3_fail_5 : gd cX3_fail 5 (.aload_n 0) 1 6 := by decide +kernel
theorem dX3_fail_6 : gd cX3_fail 6 (.aload_n 0) 1 7 := by decide +kernel
theorem dX3_fail_7 : gd cX3_fail 7 (.getfield 16) 3 10 := by decide +kernel
theorem dX3_fail_10 : gd cX3_fail 10 (.getfield 76) 3 13 := by decide +kernel
theorem dX3_fail_13 : gd cX3_fail 13 (.putfield 26) 3 16 := by decide +kernel
theorem dX3_fail_16 : decode cX3_fail 16 = .ok (.iconst 0, 1) ∧ 16 + 1 = 17 ∧ Int32.ofInt (0) = (0) := by decide +kernel
theorem dX3_fail_17 : gd cX3_fail 17 (.ireturn) 1 18 := by decide +kernel
theorem dX3_lineSort_0 : gd cX3_lineSort 0 (.aload_n 0) 1 1 := by decide +kernel
theorem dX3_lineSort_1 : gd cX3_lineSort 1 (.getfield 16) 3 4 := by decide +kernel
theorem dX3_lineSort_4 : gd cX3_lineSort 4 (.ldc 79) 2 6 := by decide +kernel
theorem dX3_lineSort_6 : gd cX3_lineSort 6 (.invokevirtual 80) 3 9 := by decide +kernel
theorem dX3_lineSort_9 : gb cX3_lineSort 9 (.ifCond .eq 5) (5) 12 14 := by decide +kernel
theorem dX3_lineSort_12 : decode cX3_lineSort 12 = .ok (.iconst 0, 1) ∧ 12 + 1 = 13 ∧ Int32.ofInt (0) = (0) := by decide +kernel
theorem dX3_lineSort_13 : gd cX3_lineSort 13 (.ireturn) 1 14 := by decide +kernel
theorem dX3_lineSort_14 : gd cX3_lineSort 14 (.aload_n 0) 1 15 := by decide +kernel
theorem dX3_lineSort_15 : gd cX3_lineSort 15 (.getfield 16) 3 18 := by decide +kernel
theorem dX3_lineSort_18 : gd cX3_lineSort 18 (.ldc 84) 2 20 := by decide +kernel
theorem dX3_lineSort_20 : gd cX3_lineSort 20 (.invokevirtual 80) 3 23 := by decide +kernel
theorem dX3_lineSort_23 : gb cX3_lineSort 23 (.ifCond .eq 5) (5) 26 28 := by decide +kernel
theorem dX3_lineSort_26 : decode cX3_lineSort 26 = .ok (.iconst 1, 1) ∧ 26 + 1 = 27 ∧ Int32.ofInt (1) = (1) := by decide +kernel
theorem dX3_lineSort_27 : gd cX3_lineSort 27 (.ireturn) 1 28 := by decide +kernel
theorem dX3_lineSort_28 : gd cX3_lineSort 28 (.aload_n 0) 1 29 := by decide +kernel
theorem dX3_lineSort_29 : gd cX3_lineSort 29 (.getfield 16) 3 32 := by decide +kernel
theorem dX3_lineSort_32 : gd cX3_lineSort 32 (.ldc 86) 2 34 := by decide +kernel
theorem dX3_lineSort_34 : gd cX3_lineSort 34 (.invokevirtual 80) 3 37 := by decide +kernel
theorem dX3_lineSort_37 : gb cX3_lineSort 37 (.ifCond .eq 5) (5) 40 42 := by decide +kernel
theorem dX3_lineSort_40 : decode cX3_lineSort 40 = .ok (.iconst 2, 1) ∧ 40 + 1 = 41 ∧ Int32.ofInt (2) = (2) := by decide +kernel
theorem dX3_lineSort_41 : gd cX3_lineSort 41 (.ireturn) 1 42 := by decide +kernel
theorem dX3_lineSort_42 : gd cX3_lineSort 42 (.aload_n 0) 1 43 := by decide +kernel
theorem dX3_lineSort_43 : gd cX3_lineSort 43 (.getfield 16) 3 46 := by decide +kernel
theorem dX3_lineSort_46 : gd cX3_lineSort 46 (.ldc 88) 2 48 := by decide +kernel
theorem dX3_lineSort_48 : gd cX3_lineSort 48 (.invokevirtual 80) 3 51 := by decide +kernel
theorem dX3_lineSort_51 : gb cX3_lineSort 51 (.ifCond .eq 5) (5) 54 56 := by decide +kernel
theorem dX3_lineSort_54 : decode cX3_lineSort 54 = .ok (.iconst 3, 1) ∧ 54 + 1 = 55 ∧ Int32.ofInt (3) = (3) := by decide +kernel
theorem dX3_lineSort_55 : gd cX3_lineSort 55 (.ireturn) 1 56 := by decide +kernel
theorem dX3_lineSort_56 : gd cX3_lineSort 56 (.aload_n 0) 1 57 := by decide +kernel
theorem dX3_lineSort_57 : gd cX3_lineSort 57 (.getfield 16) 3 60 := by decide +kernel
theorem dX3_lineSort_60 : gd cX3_lineSort 60 (.ldc 90) 2 62 := by decide +kernel
theorem dX3_lineSort_62 : gd cX3_lineSort 62 (.invokevirtual 80) 3 65 := by decide +kernel
theorem dX3_lineSort_65 : gb cX3_lineSort 65 (.ifCond .eq 5) (5) 68 70 := by decide +kernel
theorem dX3_lineSort_68 : decode cX3_lineSort 68 = .ok (.iconst 4, 1) ∧ 68 + 1 = 69 ∧ Int32.ofInt (4) = (4) := by decide +kernel
theorem dX3_lineSort_69 : gd cX3_lineSort 69 (.ireturn) 1 70 := by decide +kernel
theorem dX3_lineSort_70 : gd cX3_lineSort 70 (.aload_n 0) 1 71 := by decide +kernel
theorem dX3_lineSort_71 : gd cX3_lineSort 71 (.getfield 16) 3 74 := by decide +kernel
theorem dX3_lineSort_74 : gd cX3_lineSort 74 (.ldc 92) 2 76 := by decide +kernel
theorem dX3_lineSort_76 : gd cX3_lineSort 76 (.invokevirtual 80) 3 79 := by decide +kernel
theorem dX3_lineSort_79 : gb cX3_lineSort 79 (.ifCond .eq 5) (5) 82 84 := by decide +kernel
theorem dX3_lineSort_82 : decode cX3_lineSort 82 = .ok (.iconst 5, 1) ∧ 82 + 1 = 83 ∧ Int32.ofInt (5) = (5) := by decide +kernel
theorem dX3_lineSort_83 : gd cX3_lineSort 83 (.ireturn) 1 84 := by decide +kernel
theorem dX3_lineSort_84 : gd cX3_lineSort 84 (.aload_n 0) 1 85 := by decide +kernel
theorem dX3_lineSort_85 : gd cX3_lineSort 85 (.getfield 16) 3 88 := by decide +kernel
theorem dX3_lineSort_88 : gd cX3_lineSort 88 (.ldc 94) 2 90 := by decide +kernel
theorem dX3_lineSort_90 : gd cX3_lineSort 90 (.invokevirtual 80) 3 93 := by decide +kernel
theorem dX3_lineSort_93 : gb cX3_lineSort 93 (.ifCond .eq 6) (6) 96 99 := by decide +kernel
theorem dX3_lineSort_96 : decode cX3_lineSort 96 = .ok (.bipush 6, 2) ∧ 96 + 2 = 98 ∧ (Int8.ofInt (6)).toInt32 = (6) := by decide +kernel
theorem dX3_lineSort_98 : gd cX3_lineSort 98 (.ireturn) 1 99 := by decide +kernel
theorem dX3_lineSort_99 : gd cX3_lineSort 99 (.aload_n 0) 1 100 := by decide +kernel
theorem dX3_lineSort_100 : gd cX3_lineSort 100 (.getfield 16) 3 103 := by decide +kernel
theorem dX3_lineSort_103 : gd cX3_lineSort 103 (.ldc 96) 2 105 := by decide +kernel
theorem dX3_lineSort_105 : gd cX3_lineSort 105 (.invokevirtual 80) 3 108 := by decide +kernel
theorem dX3_lineSort_108 : gb cX3_lineSort 108 (.ifCond .eq 6) (6) 111 114 := by decide +kernel
theorem dX3_lineSort_111 : decode cX3_lineSort 111 = .ok (.bipush 7, 2) ∧ 111 + 2 = 113 ∧ (Int8.ofInt (7)).toInt32 = (7) := by decide +kernel
theorem dX3_lineSort_113 : gd cX3_lineSort 113 (.ireturn) 1 114 := by decide +kernel
theorem dX3_lineSort_114 : gd cX3_lineSort 114 (.aload_n 0) 1 115 := by decide +kernel
theorem dX3_lineSort_115 : gd cX3_lineSort 115 (.getfield 16) 3 118 := by decide +kernel
theorem dX3_lineSort_118 : gd cX3_lineSort 118 (.ldc 98) 2 120 := by decide +kernel
theorem dX3_lineSort_120 : gd cX3_lineSort 120 (.invokevirtual 80) 3 123 := by decide +kernel
theorem dX3_lineSort_123 : gb cX3_lineSort 123 (.ifCond .eq 6) (6) 126 129 := by decide +kernel
theorem dX3_lineSort_126 : decode cX3_lineSort 126 = .ok (.bipush 8, 2) ∧ 126 + 2 = 128 ∧ (Int8.ofInt (8)).toInt32 = (8) := by decide +kernel
theorem dX3_lineSort_128 : gd cX3_lineSort 128 (.ireturn) 1 129 := by decide +kernel
theorem dX3_lineSort_129 : gd cX3_lineSort 129 (.aload_n 0) 1 130 := by decide +kernel
theorem dX3_lineSort_130 : gd cX3_lineSort 130 (.getfield 16) 3 133 := by decide +kernel
theorem dX3_lineSort_133 : gd cX3_lineSort 133 (.ldc 100) 2 135 := by decide +kernel
theorem dX3_lineSort_135 : gd cX3_lineSort 135 (.invokevirtual 80) 3 138 := by decide +kernel
theorem dX3_lineSort_138 : gb cX3_lineSort 138 (.ifCond .eq 6) (6) 141 144 := by decide +kernel
theorem dX3_lineSort_141 : decode cX3_lineSort 141 = .ok (.bipush 9, 2) ∧ 141 + 2 = 143 ∧ (Int8.ofInt (9)).toInt32 = (9) := by decide +kernel
theorem dX3_lineSort_143 : gd cX3_lineSort 143 (.ireturn) 1 144 := by decide +kernel
theorem dX3_lineSort_144 : gd cX3_lineSort 144 (.aload_n 0) 1 145 := by decide +kernel
theorem dX3_lineSort_145 : gd cX3_lineSort 145 (.getfield 16) 3 148 := by decide +kernel
theorem dX3_lineSort_148 : gd cX3_lineSort 148 (.ldc 102) 2 150 := by decide +kernel
theorem dX3_lineSort_150 : gd cX3_lineSort 150 (.invokevirtual 80) 3 153 := by decide +kernel
theorem dX3_lineSort_153 : gb cX3_lineSort 153 (.ifCond .eq 8) (8) 156 161 := by decide +kernel
theorem dX3_lineSort_156 : decode cX3_lineSort 156 = .ok (.bipush 10, 2) ∧ 156 + 2 = 158 ∧ (Int8.ofInt (10)).toInt32 = (10) := by decide +kernel
theorem dX3_lineSort_158 : gb cX3_lineSort 158 (.goto 4) (4) 161 162 := by decide +kernel
theorem dX3_lineSort_161 : decode cX3_lineSort 161 = .ok (.iconst (-1), 1) ∧ 161 + 1 = 162 ∧ Int32.ofInt (-1) = (-1) := by decide +kernel
theorem dX3_lineSort_162 : gd cX3_lineSort 162 (.ireturn) 1 163 := by decide +kernel
theorem dX3_firstLine_0 : gd cX3_firstLine 0 (.aload_n 0) 1 1 := by decide +kernel
theorem dX3_firstLine_1 : gd cX3_firstLine 1 (.invokevirtual 104) 3 4 := by decide +kernel
theorem dX3_firstLine_4 : gd cX3_firstLine 4 (.istore_n 1) 1 5 := by decide +kernel
theorem dX3_firstLine_5 : gd cX3_firstLine 5 (.iload_n 1) 1 6 := by decide +kernel
theorem dX3_firstLine_6 : decode cX3_firstLine 6 = .ok (.iconst (-1), 1) ∧ 6 + 1 = 7 ∧ Int32.ofInt (-1) = (-1) := by decide +kernel
theorem dX3_firstLine_7 : gb cX3_firstLine 7 (.if_icmp .ne 9) (9) 10 16 := by decide +kernel
theorem dX3_firstLine_10 : gd cX3_firstLine 10 (.aload_n 0) 1 11 := by decide +kernel
theorem dX3_firstLine_11 : decode cX3_firstLine 11 = .ok (.iconst 1, 1) ∧ 11 + 1 = 12 ∧ Int32.ofInt (1) = (1) := by decide +kernel
theorem dX3_firstLine_12 : gd cX3_firstLine 12 (.invokevirtual 66) 3 15 := by decide +kernel
theorem dX3_firstLine_15 : gd cX3_firstLine 15 (.ireturn) 1 16 := by decide +kernel
theorem dX3_firstLine_16 : gd cX3_firstLine 16 (.iload_n 1) 1 17 := by decide +kernel
theorem dX3_firstLine_17 : gb cX3_firstLine 17 (.ifCond .eq 10) (10) 20 27 := by decide +kernel
theorem dX3_firstLine_20 : gd cX3_firstLine 20 (.aload_n 0) 1 21 := by decide +kernel
theorem dX3_firstLine_21 : decode cX3_firstLine 21 = .ok (.bipush 6, 2) ∧ 21 + 2 = 23 ∧ (Int8.ofInt (6)).toInt32 = (6) := by decide +kernel
theorem dX3_firstLine_23 : gd cX3_firstLine 23 (.invokevirtual 66) 3 26 := by decide +kernel
theorem dX3_firstLine_26 : gd cX3_firstLine 26 (.ireturn) 1 27 := by decide +kernel
theorem dX3_firstLine_27 : gd cX3_firstLine 27 (.aload_n 0) 1 28 := by decide +kernel
theorem dX3_firstLine_28 : gd cX3_firstLine 28 (.getfield 16) 3 31 := by decide +kernel
theorem dX3_firstLine_31 : gd cX3_firstLine 31 (.invokevirtual 70) 3 34 := by decide +kernel
theorem dX3_firstLine_34 : gd cX3_firstLine 34 (.aload_n 0) 1 35 := by decide +kernel
theorem dX3_firstLine_35 : gd cX3_firstLine 35 (.ldc 108) 2 37 := by decide +kernel
theorem dX3_firstLine_37 : gd cX3_firstLine 37 (.invokevirtual 110) 3 40 := by decide +kernel
theorem dX3_firstLine_40 : gb cX3_firstLine 40 (.ifCond .eq 12) (12) 43 52 := by decide +kernel
theorem dX3_firstLine_43 : gd cX3_firstLine 43 (.aload_n 0) 1 44 := by decide +kernel
theorem dX3_firstLine_44 : decode cX3_firstLine 44 = .ok (.iconst 2, 1) ∧ 44 + 1 = 45 ∧ Int32.ofInt (2) = (2) := by decide +kernel
theorem dX3_firstLine_45 : decode cX3_firstLine 45 = .ok (.iconst 5, 1) ∧ 45 + 1 = 46 ∧ Int32.ofInt (5) = (5) := by decide +kernel
theorem dX3_firstLine_46 : gd cX3_firstLine 46 (.invokevirtual 113) 3 49 := by decide +kernel
theorem dX3_firstLine_49 : gb cX3_firstLine 49 (.ifCond .ne 5) (5) 52 54 := by decide +kernel
theorem dX3_firstLine_52 : decode cX3_firstLine 52 = .ok (.iconst 0, 1) ∧ 52 + 1 = 53 ∧ Int32.ofInt (0) = (0) := by decide +kernel
theorem dX3_firstLine_53 : gd cX3_firstLine 53 (.ireturn) 1 54 := by decide +kernel
theorem dX3_firstLine_54 : gd cX3_firstLine 54 (.aload_n 0) 1 55 := by decide +kernel
theorem dX3_firstLine_55 : gd cX3_firstLine 55 (.getfield 22) 3 58 := by decide +kernel
theorem dX3_firstLine_58 : gd cX3_firstLine 58 (.aload_n 0) 1 59 := by decide +kernel
theorem dX3_firstLine_59 : gd cX3_firstLine 59 (.getfield 117) 3 62 := by decide +kernel
theorem dX3_firstLine_62 : gd cX3_firstLine 62 (.putfield 120) 3 65 := by decide +kernel
theorem dX3_firstLine_65 : gd cX3_firstLine 65 (.aload_n 0) 1 66 := by decide +kernel
theorem dX3_firstLine_66 : gd cX3_firstLine 66 (.ldc 122) 2 68 := by decide +kernel
theorem dX3_firstLine_68 : gd cX3_firstLine 68 (.invokevirtual 110) 3 71 := by decide +kernel
theorem dX3_firstLine_71 : gb cX3_firstLine 71 (.ifCond .eq 12) (12) 74 83 := by decide +kernel
theorem dX3_firstLine_74 : gd cX3_firstLine 74 (.aload_n 0) 1 75 := by decide +kernel
theorem dX3_firstLine_75 : decode cX3_firstLine 75 = .ok (.iconst 2, 1) ∧ 75 + 1 = 76 ∧ Int32.ofInt (2) = (2) := by decide +kernel
theorem dX3_firstLine_76 : decode cX3_firstLine 76 = .ok (.iconst 4, 1) ∧ 76 + 1 = 77 ∧ Int32.ofInt (4) = (4) := by decide +kernel
theorem dX3_firstLine_77 : gd cX3_firstLine 77 (.invokevirtual 113) 3 80 := by decide +kernel
theorem dX3_firstLine_80 : gb cX3_firstLine 80 (.ifCond .ne 5) (5) 83 85 := by decide +kernel
theorem dX3_firstLine_83 : decode cX3_firstLine 83 = .ok (.iconst 0, 1) ∧ 83 + 1 = 84 ∧ Int32.ofInt (0) = (0) := by decide +kernel
theorem dX3_firstLine_84 : gd cX3_firstLine 84 (.ireturn) 1 85 := by decide +kernel
theorem dX3_firstLine_85 : gd cX3_firstLine 85 (.aload_n 0) 1 86 := by decide +kernel
theorem dX3_firstLine_86 : gd cX3_firstLine 86 (.getfield 22) 3 89 := by decide +kernel
theorem dX3_firstLine_89 : gd cX3_firstLine 89 (.aload_n 0) 1 90 := by decide +kernel
theorem dX3_firstLine_90 : gd cX3_firstLine 90 (.getfield 117) 3 93 := by decide +kernel
theorem dX3_firstLine_93 : gd cX3_firstLine 93 (.putfield 124) 3 96 := by decide +kernel
theorem dX3_firstLine_96 : gd cX3_firstLine 96 (.aload_n 0) 1 97 := by decide +kernel
theorem dX3_firstLine_97 : gd cX3_firstLine 97 (.ldc 126) 2 99 := by decide +kernel
theorem dX3_firstLine_99 : gd cX3_firstLine 99 (.invokevirtual 110) 3 102 := by decide +kernel
theorem dX3_firstLine_102 : gb cX3_firstLine 102 (.ifCond .eq 13) (13) 105 115 := by decide +kernel
theorem dX3_firstLine_105 : gd cX3_firstLine 105 (.aload_n 0) 1 106 := by decide +kernel
theorem dX3_firstLine_106 : decode cX3_firstLine 106 = .ok (.iconst 0, 1) ∧ 106 + 1 = 107 ∧ Int32.ofInt (0) = (0) := by decide +kernel
theorem dX3_firstLine_107 : decode cX3_firstLine 107 = .ok (.bipush 99, 2) ∧ 107 + 2 = 109 ∧ (Int8.ofInt (99)).toInt32 = (99) := by decide +kernel
theorem dX3_firstLine_109 : gd cX3_firstLine 109 (.invokevirtual 113) 3 112 := by decide +kernel
theorem dX3_firstLine_112 : gb cX3_firstLine 112 (.ifCond .ne 5) (5) 115 117 := by decide +kernel
theorem dX3_firstLine_115 : decode cX3_firstLine 115 = .ok (.iconst 0, 1) ∧ 115 + 1 = 116 ∧ Int32.ofInt (0) = (0) := by decide +kernel
theorem dX3_firstLine_116 : gd cX3_firstLine 116 (.ireturn) 1 117 := by decide +kernel
theorem dX3_firstLine_117 : gd cX3_firstLine 117 (.aload_n 0) 1 118 := by decide +kernel
theorem dX3_firstLine_118 : gd cX3_firstLine 118 (.getfield 22) 3 121 := by decide +kernel
theorem dX3_firstLine_121 : gd cX3_firstLine 121 (.aload_n 0) 1 122 := by decide +kernel
theorem dX3_firstLine_122 : gd cX3_firstLine 122 (.getfield 117) 3 125 := by decide +kernel
theorem dX3_firstLine_125 : gd cX3_firstLine 125 (.putfield 128) 3 128 := by decide +kernel
theorem dX3_firstLine_128 : gd cX3_firstLine 128 (.aload_n 0) 1 129 := by decide +kernel
theorem dX3_firstLine_129 : gd cX3_firstLine 129 (.ldc 130) 2 131 := by decide +kernel
theorem dX3_firstLine_131 : gd cX3_firstLine 131 (.invokevirtual 110) 3 134 := by decide +kernel
theorem dX3_firstLine_134 : gb cX3_firstLine 134 (.ifCond .eq 13) (13) 137 147 := by decide +kernel
theorem dX3_firstLine_137 : gd cX3_firstLine 137 (.aload_n 0) 1 138 := by decide +kernel
theorem dX3_firstLine_138 : decode cX3_firstLine 138 = .ok (.iconst 1, 1) ∧ 138 + 1 = 139 ∧ Int32.ofInt (1) = (1) := by decide +kernel
theorem dX3_firstLine_139 : decode cX3_firstLine 139 = .ok (.bipush 60, 2) ∧ 139 + 2 = 141 ∧ (Int8.ofInt (60)).toInt32 = (60) := by decide +kernel
theorem dX3_firstLine_141 : gd cX3_firstLine 141 (.invokevirtual 113) 3 144 := by decide +kernel
theorem dX3_firstLine_144 : gb cX3_firstLine 144 (.ifCond .ne 5) (5) 147 149 := by decide +kernel
theorem dX3_firstLine_147 : decode cX3_firstLine 147 = .ok (.iconst 0, 1) ∧ 147 + 1 = 148 ∧ Int32.ofInt (0) = (0) := by decide +kernel
theorem dX3_firstLine_148 : gd cX3_firstLine 148 (.ireturn) 1 149 := by decide +kernel
theorem dX3_firstLine_149 : gd cX3_firstLine 149 (.aload_n 0) 1 150 := by decide +kernel
theorem dX3_firstLine_150 : gd cX3_firstLine 150 (.getfield 22) 3 153 := by decide +kernel
theorem dX3_firstLine_153 : gd cX3_firstLine 153 (.aload_n 0) 1 154 := by decide +kernel
theorem dX3_firstLine_154 : gd cX3_firstLine 154 (.getfield 117) 3 157 := by decide +kernel
theorem dX3_firstLine_157 : gd cX3_firstLine 157 (.putfield 132) 3 160 := by decide +kernel
theorem dX3_firstLine_160 : decode cX3_firstLine 160 = .ok (.iconst 1, 1) ∧ 160 + 1 = 161 ∧ Int32.ofInt (1) = (1) := by decide +kernel
theorem dX3_firstLine_161 : gd cX3_firstLine 161 (.ireturn) 1 162 := by decide +kernel
theorem dX3_line_0 : gd cX3_line 0 (.aload_n 0) 1 1 := by decide +kernel
theorem dX3_line_1 : gd cX3_line 1 (.invokevirtual 104) 3 4 := by decide +kernel
theorem dX3_line_4 : gd cX3_line 4 (.istore_n 1) 1 5 := by decide +kernel
theorem dX3_line_5 : gd cX3_line 5 (.iload_n 1) 1 6 := by decide +kernel
theorem dX3_line_6 : decode cX3_line 6 = .ok (.iconst (-1), 1) ∧ 6 + 1 = 7 ∧ Int32.ofInt (-1) = (-1) := by decide +kernel
theorem dX3_line_7 : gb cX3_line 7 (.if_icmp .ne 9) (9) 10 16 := by decide +kernel
theorem dX3_line_10 : gd cX3_line 10 (.aload_n 0) 1 11 := by decide +kernel
theorem dX3_line_11 : decode cX3_line 11 = .ok (.iconst 1, 1) ∧ 11 + 1 = 12 ∧ Int32.ofInt (1) = (1) := by decide +kernel
theorem dX3_line_12 : gd cX3_line 12 (.invokevirtual 66) 3 15 := by decide +kernel
theorem dX3_line_15 : gd cX3_line 15 (.ireturn) 1 16 := by decide +kernel
theorem dX3_line_16 : gd cX3_line 16 (.iload_n 1) 1 17 := by decide +kernel
theorem dX3_line_17 : gb cX3_line 17 (.ifCond .eq 22) (22) 20 39 := by decide +kernel
theorem dX3_line_20 : gd cX3_line 20 (.iload_n 1) 1 21 := by decide +kernel
theorem dX3_line_21 : decode cX3_line 21 = .ok (.bipush 10, 2) ∧ 21 + 2 = 23 ∧ (Int8.ofInt (10)).toInt32 = (10) := by decide +kernel
theorem dX3_line_23 : gb cX3_line 23 (.if_icmp .ne 22) (22) 26 45 := by decide +kernel
theorem dX3_line_26 : gd cX3_line 26 (.aload_n 0) 1 27 := by decide +kernel
theorem dX3_line_27 : gd cX3_line 27 (.getfield 22) 3 30 := by decide +kernel
theorem dX3_line_30 : gd cX3_line 30 (.getfield 63) 3 33 := by decide +kernel
theorem dX3_line_33 : decode cX3_line 33 = .ok (.bipush 10, 2) ∧ 33 + 2 = 35 ∧ (Int8.ofInt (10)).toInt32 = (10) := by decide +kernel
theorem dX3_line_35 : gd cX3_line 35 (.iaload) 1 36 := by decide +kernel
theorem dX3_line_36 : gb cX3_line 36 (.ifCond .le 9) (9) 39 45 := by decide +kernel
theorem dX3_line_39 : gd cX3_line 39 (.aload_n 0) 1 40 := by decide +kernel
theorem dX3_line_40 : decode cX3_line 40 = .ok (.iconst 3, 1) ∧ 40 + 1 = 41 ∧ Int32.ofInt (3) = (3) := by decide +kernel
theorem dX3_line_41 : gd cX3_line 41 (.invokevirtual 66) 3 44 := by decide +kernel
theorem dX3_line_44 : gd cX3_line 44 (.ireturn) 1 45 := by decide +kernel
theorem dX3_line_45 : gd cX3_line 45 (.aload_n 0) 1 46 := by decide +kernel
theorem dX3_line_46 : gd cX3_line 46 (.getfield 22) 3 49 := by decide +kernel
theorem dX3_line_49 : gd cX3_line 49 (.getfield 63) 3 52 := by decide +kernel
theorem dX3_line_52 : gd cX3_line 52 (.iload_n 1) 1 53 := by decide +kernel
theorem dX3_line_53 : gd cX3_line 53 (.iaload) 1 54 := by decide +kernel
theorem dX3_line_54 : gd cX3_line 54 (.iload_n 1) 1 55 := by decide +kernel
theorem dX3_line_55 : gd cX3_line 55 (.invokestatic 134) 3 58 := by decide +kernel
theorem dX3_line_58 : gb cX3_line 58 (.if_icmp .lt 9) (9) 61 67 := by decide +kernel
theorem dX3_line_61 : gd cX3_line 61 (.aload_n 0) 1 62 := by decide +kernel
theorem dX3_line_62 : decode cX3_line 62 = .ok (.iconst 5, 1) ∧ 62 + 1 = 63 ∧ Int32.ofInt (5) = (5) := by decide +kernel
theorem dX3_line_63 : gd cX3_line 63 (.invokevirtual 66) 3 66 := by decide +kernel
theorem dX3_line_66 : gd cX3_line 66 (.ireturn) 1 67 := by decide +kernel
theorem dX3_line_67 : gd cX3_line 67 (.aload_n 0) 1 68 := by decide +kernel
theorem dX3_line_68 : gd cX3_line 68 (.aload_n 0) 1 69 := by decide +kernel
theorem dX3_line_69 : gd cX3_line 69 (.getfield 16) 3 72 := by decide +kernel
theorem dX3_line_72 : gd cX3_line 72 (.getfield 76) 3 75 := by decide +kernel
theorem dX3_line_75 : gd cX3_line 75 (.putfield 138) 3 78 := by decide +kernel
theorem dX3_line_78 : gd cX3_line 78 (.aload_n 0) 1 79 := by decide +kernel
theorem dX3_line_79 : gd cX3_line 79 (.getfield 16) 3 82 := by decide +kernel
theorem dX3_line_82 : gd cX3_line 82 (.invokevirtual 70) 3 85 := by decide +kernel
theorem dX3_line_85 : gd cX3_line 85 (.iload_n 1) 1 86 := by decide +kernel
theorem dX3_line_86 : gsw cX3_line 86 (124) (1) (9) #[50, 58, 66, 74, 82, 90, 98, 106, 116] 50 [136, 144, 152, 160, 168, 176, 184, 192, 202] 210 := by unfold gsw; decide +kernel
theorem dX3_line_136 : gd cX3_line 136 (.aload_n 0) 1 137 := by decide +kernel
theorem dX3_line_137 : gd cX3_line 137 (.invokevirtual 141) 3 140 := by decide +kernel
theorem dX3_line_140 : gd cX3_line 140 (.istore_n 2) 1 141 := by decide +kernel
theorem dX3_line_141 : gb cX3_line 141 (.goto 74) (74) 144 215 := by decide +kernel
theorem dX3_line_144 : gd cX3_line 144 (.aload_n 0) 1 145 := by decide +kernel
theorem dX3_line_145 : gd cX3_line 145 (.invokevirtual 144) 3 148 := by decide +kernel
theorem dX3_line_148 : gd cX3_line 148 (.istore_n 2) 1 149 := by decide +kernel
theorem dX3_line_149 : gb cX3_line 149 (.goto 66) (66) 152 215 := by decide +kernel
theorem dX3_line_152 : gd cX3_line 152 (.aload_n 0) 1 153 := by decide +kernel
theorem dX3_line_153 : gd cX3_line 153 (.invokevirtual 147) 3 156 := by decide +kernel
theorem dX3_line_156 : gd cX3_line 156 (.istore_n 2) 1 157 := by decide +kernel
theorem dX3_line_157 : gb cX3_line 157 (.goto 58) (58) 160 215 := by decide +kernel
theorem dX3_line_160 : gd cX3_line 160 (.aload_n 0) 1 161 := by decide +kernel
theorem dX3_line_161 : gd cX3_line 161 (.invokevirtual 150) 3 164 := by decide +kernel
theorem dX3_line_164 : gd cX3_line 164 (.istore_n 2) 1 165 := by decide +kernel
theorem dX3_line_165 : gb cX3_line 165 (.goto 50) (50) 168 215 := by decide +kernel
theorem dX3_line_168 : gd cX3_line 168 (.aload_n 0) 1 169 := by decide +kernel
theorem dX3_line_169 : gd cX3_line 169 (.invokevirtual 153) 3 172 := by decide +kernel
theorem dX3_line_172 : gd cX3_line 172 (.istore_n 2) 1 173 := by decide +kernel
theorem dX3_line_173 : gb cX3_line 173 (.goto 42) (42) 176 215 := by decide +kernel
theorem dX3_line_176 : gd cX3_line 176 (.aload_n 0) 1 177 := by decide +kernel
theorem dX3_line_177 : gd cX3_line 177 (.invokevirtual 156) 3 180 := by decide +kernel
theorem dX3_line_180 : gd cX3_line 180 (.istore_n 2) 1 181 := by decide +kernel
theorem dX3_line_181 : gb cX3_line 181 (.goto 34) (34) 184 215 := by decide +kernel
theorem dX3_line_184 : gd cX3_line 184 (.aload_n 0) 1 185 := by decide +kernel
theorem dX3_line_185 : gd cX3_line 185 (.invokevirtual 159) 3 188 := by decide +kernel
theorem dX3_line_188 : gd cX3_line 188 (.istore_n 2) 1 189 := by decide +kernel
theorem dX3_line_189 : gb cX3_line 189 (.goto 26) (26) 192 215 := by decide +kernel
theorem dX3_line_192 : gd cX3_line 192 (.aload_n 0) 1 193 := by decide +kernel
theorem dX3_line_193 : decode cX3_line 193 = .ok (.bipush 8, 2) ∧ 193 + 2 = 195 ∧ (Int8.ofInt (8)).toInt32 = (8) := by decide +kernel
theorem dX3_line_195 : gd cX3_line 195 (.invokevirtual 162) 3 198 := by decide +kernel
theorem dX3_line_198 : gd cX3_line 198 (.istore_n 2) 1 199 := by decide +kernel
theorem dX3_line_199 : gb cX3_line 199 (.goto 16) (16) 202 215 := by decide +kernel
theorem dX3_line_202 : gd cX3_line 202 (.aload_n 0) 1 203 := by decide +kernel
theorem dX3_line_203 : gd cX3_line 203 (.invokevirtual 165) 3 206 := by decide +kernel
theorem dX3_line_206 : gd cX3_line 206 (.istore_n 2) 1 207 := by decide +kernel
theorem dX3_line_207 : gb cX3_line 207 (.goto 8) (8) 210 215 := by decide +kernel
theorem dX3_line_210 : gd cX3_line 210 (.aload_n 0) 1 211 := by decide +kernel
theorem dX3_line_211 : gd cX3_line 211 (.invokevirtual 168) 3 214 := by decide +kernel
theorem dX3_line_214 : gd cX3_line 214 (.istore_n 2) 1 215 := by decide +kernel
theorem dX3_line_215 : gd cX3_line 215 (.iload_n 2) 1 216 := by decide +kernel
theorem dX3_line_216 : gb cX3_line 216 (.ifCond .eq 16) (16) 219 232 := by decide +kernel
theorem dX3_line_219 : gd cX3_line 219 (.aload_n 0) 1 220 := by decide +kernel
theorem dX3_line_220 : gd cX3_line 220 (.getfield 22) 3 223 := by decide +kernel
theorem dX3_line_223 : gd cX3_line 223 (.getfield 63) 3 226 := by decide +kernel
theorem dX3_line_226 : gd cX3_line 226 (.iload_n 1) 1 227 := by decide +kernel
theorem dX3_line_227 : gd cX3_line 227 (.dup2) 1 228 := by decide +kernel
theorem dX3_line_228 : gd cX3_line 228 (.iaload) 1 229 := by decide +kernel
theorem dX3_line_229 : decode cX3_line 229 = .ok (.iconst 1, 1) ∧ 229 + 1 = 230 ∧ Int32.ofInt (1) = (1) := by decide +kernel
theorem dX3_line_230 : gd cX3_line 230 (.iadd) 1 231 := by decide +kernel
theorem dX3_line_231 : gd cX3_line 231 (.iastore) 1 232 := by decide +kernel
theorem dX3_line_232 : gd cX3_line 232 (.iload_n 2) 1 233 := by decide +kernel
theorem dX3_line_233 : gd cX3_line 233 (.ireturn) 1 234 := by decide +kernel
theorem dX3_roomFor_0 : gd cX3_roomFor 0 (.iload_n 0) 1 1 := by decide +kernel
theorem dX3_roomFor_1 : gsw cX3_roomFor 1 (74) (1) (9) #[51, 54, 57, 60, 63, 74, 66, 69, 71] 51 [52, 55, 58, 61, 64, 75, 67, 70, 72] 75 := by unfold gsw; decide +kernel
theorem dX3_roomFor_52 : decode cX3_roomFor 52 = .ok (.bipush 8, 2) ∧ 52 + 2 = 54 ∧ (Int8.ofInt (8)).toInt32 = (8) := by decide +kernel
theorem dX3_roomFor_54 : gd cX3_roomFor 54 (.ireturn) 1 55 := by decide +kernel
theorem dX3_roomFor_55 : decode cX3_roomFor 55 = .ok (.bipush 8, 2) ∧ 55 + 2 = 57 ∧ (Int8.ofInt (8)).toInt32 = (8) := by decide +kernel
theorem dX3_roomFor_57 : gd cX3_roomFor 57 (.ireturn) 1 58 := by decide +kernel
theorem dX3_roomFor_58 : decode cX3_roomFor 58 = .ok (.bipush 6, 2) ∧ 58 + 2 = 60 ∧ (Int8.ofInt (6)).toInt32 = (6) := by decide +kernel
theorem dX3_roomFor_60 : gd cX3_roomFor 60 (.ireturn) 1 61 := by decide +kernel
theorem dX3_roomFor_61 : decode cX3_roomFor 61 = .ok (.bipush 7, 2) ∧ 61 + 2 = 63 ∧ (Int8.ofInt (7)).toInt32 = (7) := by decide +kernel
theorem dX3_roomFor_63 : gd cX3_roomFor 63 (.ireturn) 1 64 := by decide +kernel
theorem dX3_roomFor_64 : decode cX3_roomFor 64 = .ok (.bipush 12, 2) ∧ 64 + 2 = 66 ∧ (Int8.ofInt (12)).toInt32 = (12) := by decide +kernel
theorem dX3_roomFor_66 : gd cX3_roomFor 66 (.ireturn) 1 67 := by decide +kernel
theorem dX3_roomFor_67 : decode cX3_roomFor 67 = .ok (.bipush 6, 2) ∧ 67 + 2 = 69 ∧ (Int8.ofInt (6)).toInt32 = (6) := by decide +kernel
theorem dX3_roomFor_69 : gd cX3_roomFor 69 (.ireturn) 1 70 := by decide +kernel
theorem dX3_roomFor_70 : decode cX3_roomFor 70 = .ok (.iconst 4, 1) ∧ 70 + 1 = 71 ∧ Int32.ofInt (4) = (4) := by decide +kernel
theorem dX3_roomFor_71 : gd cX3_roomFor 71 (.ireturn) 1 72 := by decide +kernel
theorem dX3_roomFor_72 : decode cX3_roomFor 72 = .ok (.bipush 8, 2) ∧ 72 + 2 = 74 ∧ (Int8.ofInt (8)).toInt32 = (8) := by decide +kernel
theorem dX3_roomFor_74 : gd cX3_roomFor 74 (.ireturn) 1 75 := by decide +kernel
theorem dX3_roomFor_75 : decode cX3_roomFor 75 = .ok (.sipush 1100, 3) ∧ 75 + 3 = 78 ∧ (Int16.ofInt (1100)).toInt32 = (1100) := by decide +kernel
theorem dX3_roomFor_78 : gd cX3_roomFor 78 (.ireturn) 1 79 := by decide +kernel
theorem dX3_paneLine_0 : gd cX3_paneLine 0 (.aload_n 0) 1 1 := by decide +kernel
theorem dX3_paneLine_1 : decode cX3_paneLine 1 = .ok (.iconst 1, 1) ∧ 1 + 1 = 2 ∧ Int32.ofInt (1) = (1) := by decide +kernel
theorem dX3_paneLine_2 : gd cX3_paneLine 2 (.invokevirtual 162) 3 5 := by decide +kernel
theorem dX3_paneLine_5 : gb cX3_paneLine 5 (.ifCond .eq 18) (18) 8 23 := by decide +kernel
theorem dX3_paneLine_8 : gd cX3_paneLine 8 (.aload_n 0) 1 9 := by decide +kernel
theorem dX3_paneLine_9 : gd cX3_paneLine 9 (.invokevirtual 171) 3 12 := by decide +kernel
theorem dX3_paneLine_12 : gb cX3_paneLine 12 (.ifCond .eq 11) (11) 15 23 := by decide +kernel
theorem dX3_paneLine_15 : gd cX3_paneLine 15 (.aload_n 0) 1 16 := by decide +kernel
theorem dX3_paneLine_16 : decode cX3_paneLine 16 = .ok (.iconst 0, 1) ∧ 16 + 1 = 17 ∧ Int32.ofInt (0) = (0) := by decide +kernel
theorem dX3_paneLine_17 : gd cX3_paneLine 17 (.invokevirtual 174) 3 20 := by decide +kernel
theorem dX3_paneLine_20 : gb cX3_paneLine 20 (.ifCond .ne 5) (5) 23 25 := by decide +kernel
theorem dX3_paneLine_23 : decode cX3_paneLine 23 = .ok (.iconst 0, 1) ∧ 23 + 1 = 24 ∧ Int32.ofInt (0) = (0) := by decide +kernel
theorem dX3_paneLine_24 : gd cX3_paneLine 24 (.ireturn) 1 25 := by decide +kernel
theorem dX3_paneLine_25 : gd cX3_paneLine 25 (.aload_n 0) 1 26 := by decide +kernel
theorem dX3_paneLine_26 : gd cX3_paneLine 26 (.getfield 22) 3 29 := by decide +kernel
theorem dX3_paneLine_29 : gd cX3_paneLine 29 (.getfield 178) 3 32 := by decide +kernel
theorem dX3_paneLine_32 : gd cX3_paneLine 32 (.aload_n 0) 1 33 := by decide +kernel
theorem dX3_paneLine_33 : gd cX3_paneLine 33 (.getfield 22) 3 36 := by decide +kernel
theorem dX3_paneLine_36 : gd cX3_paneLine 36 (.getfield 63) 3 39 := by decide +kernel
theorem dX3_paneLine_39 : decode cX3_paneLine 39 = .ok (.iconst 1, 1) ∧ 39 + 1 = 40 ∧ Int32.ofInt (1) = (1) := by decide +kernel
theorem dX3_paneLine_40 : gd cX3_paneLine 40 (.iaload) 1 41 := by decide +kernel
theorem dX3_paneLine_41 : gd cX3_paneLine 41 (.aload_n 0) 1 42 := by decide +kernel
theorem dX3_paneLine_42 : gd cX3_paneLine 42 (.getfield 181) 3 45 := by decide +kernel
theorem dX3_paneLine_45 : gd cX3_paneLine 45 (.iastore) 1 46 := by decide +kernel
theorem dX3_paneLine_46 : decode cX3_paneLine 46 = .ok (.iconst 1, 1) ∧ 46 + 1 = 47 ∧ Int32.ofInt (1) = (1) := by decide +kernel
theorem dX3_paneLine_47 : gd cX3_paneLine 47 (.ireturn) 1 48 := by decide +kernel
theorem dX3_kindOfPane_0 : decode cX3_kindOfPane 0 = .ok (.iconst 0, 1) ∧ 0 + 1 = 1 ∧ Int32.ofInt (0) = (0) := by decide +kernel
theorem dX3_kindOfPane_1 : gd cX3_kindOfPane 1 (.istore_n 1) 1 2 := by decide +kernel
theorem dX3_kindOfPane_2 : gd cX3_kindOfPane 2 (.aload_n 0) 1 3 := by decide +kernel
theorem dX3_kindOfPane_3 : gd cX3_kindOfPane 3 (.getfield 16) 3 6 := by decide +kernel
theorem dX3_kindOfPane_6 : gd cX3_kindOfPane 6 (.ldc 184) 2 8 := by decide +kernel
theorem dX3_kindOfPane_8 : gd cX3_kindOfPane 8 (.invokevirtual 80) 3 11 := by decide +kernel
theorem dX3_kindOfPane_11 : gb cX3_kindOfPane 11 (.ifCond .eq 8) (8) 14 19 := by decide +kernel
theorem dX3_kindOfPane_14 : decode cX3_kindOfPane 14 = .ok (.iconst 1, 1) ∧ 14 + 1 = 15 ∧ Int32.ofInt (1) = (1) := by decide +kernel
theorem dX3_kindOfPane_15 : gd cX3_kindOfPane 15 (.istore_n 1) 1 16 := by decide +kernel
theorem dX3_kindOfPane_16 : gb cX3_kindOfPane 16 (.goto 38) (38) 19 54 := by decide +kernel
theorem dX3_kindOfPane_19 : gd cX3_kindOfPane 19 (.aload_n 0) 1 20 := by decide +kernel
theorem dX3_kindOfPane_20 : gd cX3_kindOfPane 20 (.getfield 16) 3 23 := by decide +kernel
theorem dX3_kindOfPane_23 : gd cX3_kindOfPane 23 (.ldc 130) 2 25 := by decide +kernel
theorem dX3_kindOfPane_25 : gd cX3_kindOfPane 25 (.invokevirtual 80) 3 28 := by decide +kernel
theorem dX3_kindOfPane_28 : gb cX3_kindOfPane 28 (.ifCond .eq 8) (8) 31 36 := by decide +kernel
theorem dX3_kindOfPane_31 : decode cX3_kindOfPane 31 = .ok (.iconst 2, 1) ∧ 31 + 1 = 32 ∧ Int32.ofInt (2) = (2) := by decide +kernel
theorem dX3_kindOfPane_32 : gd cX3_kindOfPane 32 (.istore_n 1) 1 33 := by decide +kernel
theorem dX3_kindOfPane_33 : gb cX3_kindOfPane 33 (.goto 21) (21) 36 54 := by decide +kernel
theorem dX3_kindOfPane_36 : gd cX3_kindOfPane 36 (.aload_n 0) 1 37 := by decide +kernel
theorem dX3_kindOfPane_37 : gd cX3_kindOfPane 37 (.getfield 16) 3 40 := by decide +kernel
theorem dX3_kindOfPane_40 : gd cX3_kindOfPane 40 (.ldc 186) 2 42 := by decide +kernel
theorem dX3_kindOfPane_42 : gd cX3_kindOfPane 42 (.invokevirtual 80) 3 45 := by decide +kernel
theorem dX3_kindOfPane_45 : gb cX3_kindOfPane 45 (.ifCond .ne 9) (9) 48 54 := by decide +kernel
theorem dX3_kindOfPane_48 : gd cX3_kindOfPane 48 (.aload_n 0) 1 49 := by decide +kernel
theorem dX3_kindOfPane_49 : decode cX3_kindOfPane 49 = .ok (.iconst 1, 1) ∧ 49 + 1 = 50 ∧ Int32.ofInt (1) = (1) := by decide +kernel
theorem dX3_kindOfPane_50 : gd cX3_kindOfPane 50 (.invokevirtual 66) 3 53 := by decide +kernel
theorem dX3_kindOfPane_53 : gd cX3_kindOfPane 53 (.ireturn) 1 54 := by decide +kernel
theorem dX3_kindOfPane_54 : gd cX3_kindOfPane 54 (.aload_n 0) 1 55 := by decide +kernel
theorem dX3_kindOfPane_55 : gd cX3_kindOfPane 55 (.getfield 22) 3 58 := by decide +kernel
theorem dX3_kindOfPane_58 : gd cX3_kindOfPane 58 (.getfield 188) 3 61 := by decide +kernel
theorem dX3_kindOfPane_61 : gd cX3_kindOfPane 61 (.aload_n 0) 1 62 := by decide +kernel
theorem dX3_kindOfPane_62 : gd cX3_kindOfPane 62 (.getfield 22) 3 65 := by decide +kernel
theorem dX3_kindOfPane_65 : gd cX3_kindOfPane 65 (.getfield 63) 3 68 := by decide +kernel
theorem dX3_kindOfPane_68 : decode cX3_kindOfPane 68 = .ok (.iconst 1, 1) ∧ 68 + 1 = 69 ∧ Int32.ofInt (1) = (1) := by decide +kernel
theorem dX3_kindOfPane_69 : gd cX3_kindOfPane 69 (.iaload) 1 70 := by decide +kernel
theorem dX3_kindOfPane_70 : gd cX3_kindOfPane 70 (.iload_n 1) 1 71 := by decide +kernel
theorem dX3_kindOfPane_71 : gd cX3_kindOfPane 71 (.iastore) 1 72 := by decide +kernel
theorem dX3_kindOfPane_72 : gd cX3_kindOfPane 72 (.aload_n 0) 1 73 := by decide +kernel
theorem dX3_kindOfPane_73 : gd cX3_kindOfPane 73 (.getfield 16) 3 76 := by decide +kernel
theorem dX3_kindOfPane_76 : gd cX3_kindOfPane 76 (.invokevirtual 70) 3 79 := by decide +kernel
theorem dX3_kindOfPane_79 : decode cX3_kindOfPane 79 = .ok (.iconst 1, 1) ∧ 79 + 1 = 80 ∧ Int32.ofInt (1) = (1) := by decide +kernel
theorem dX3_kindOfPane_80 : gd cX3_kindOfPane 80 (.ireturn) 1 81 := by decide +kernel
theorem dX3_wordLine_0 : gd cX3_wordLine 0 (.aload_n 0) 1 1 := by decide +kernel
theorem dX3_wordLine_1 : decode cX3_wordLine 1 = .ok (.iconst 2, 1) ∧ 1 + 1 = 2 ∧ Int32.ofInt (2) = (2) := by decide +kernel
theorem dX3_wordLine_2 : gd cX3_wordLine 2 (.invokevirtual 162) 3 5 := by decide +kernel
theorem dX3_wordLine_5 : gb cX3_wordLine 5 (.ifCond .eq 11) (11) 8 16 := by decide +kernel
theorem dX3_wordLine_8 : gd cX3_wordLine 8 (.aload_n 0) 1 9 := by decide +kernel
theorem dX3_wordLine_9 : decode cX3_wordLine 9 = .ok (.iconst 0, 1) ∧ 9 + 1 = 10 ∧ Int32.ofInt (0) = (0) := by decide +kernel
theorem dX3_wordLine_10 : gd cX3_wordLine 10 (.invokevirtual 174) 3 13 := by decide +kernel
theorem dX3_wordLine_13 : gb cX3_wordLine 13 (.ifCond .ne 5) (5) 16 18 := by decide +kernel
theorem dX3_wordLine_16 : decode cX3_wordLine 16 = .ok (.iconst 0, 1) ∧ 16 + 1 = 17 ∧ Int32.ofInt (0) = (0) := by decide +kernel
theorem dX3_wordLine_17 : gd cX3_wordLine 17 (.ireturn) 1 18 := by decide +kernel
theorem dX3_wordLine_18 : gd cX3_wordLine 18 (.aload_n 0) 1 19 := by decide +kernel
theorem dX3_wordLine_19 : gd cX3_wordLine 19 (.getfield 22) 3 22 := by decide +kernel
theorem dX3_wordLine_22 : gd cX3_wordLine 22 (.getfield 191) 3 25 := by decide +kernel
theorem dX3_wordLine_25 : gd cX3_wordLine 25 (.aload_n 0) 1 26 := by decide +kernel
theorem dX3_wordLine_26 : gd cX3_wordLine 26 (.getfield 22) 3 29 := by decide +kernel
theorem dX3_wordLine_29 : gd cX3_wordLine 29 (.getfield 63) 3 32 := by decide +kernel
theorem dX3_wordLine_32 : decode cX3_wordLine 32 = .ok (.iconst 2, 1) ∧ 32 + 1 = 33 ∧ Int32.ofInt (2) = (2) := by decide +kernel
theorem dX3_wordLine_33 : gd cX3_wordLine 33 (.iaload) 1 34 := by decide +kernel
theorem dX3_wordLine_34 : gd cX3_wordLine 34 (.aload_n 0) 1 35 := by decide +kernel
theorem dX3_wordLine_35 : gd cX3_wordLine 35 (.getfield 181) 3 38 := by decide +kernel
theorem dX3_wordLine_38 : gd cX3_wordLine 38 (.iastore) 1 39 := by decide +kernel
theorem dX3_wordLine_39 : decode cX3_wordLine 39 = .ok (.iconst 1, 1) ∧ 39 + 1 = 40 ∧ Int32.ofInt (1) = (1) := by decide +kernel
theorem dX3_wordLine_40 : gd cX3_wordLine 40 (.ireturn) 1 41 := by decide +kernel
theorem dX3_viewLine_0 : gd cX3_viewLine 0 (.aload_n 0) 1 1 := by decide +kernel
theorem dX3_viewLine_1 : decode cX3_viewLine 1 = .ok (.iconst 3, 1) ∧ 1 + 1 = 2 ∧ Int32.ofInt (3) = (3) := by decide +kernel
theorem dX3_viewLine_2 : gd cX3_viewLine 2 (.invokevirtual 162) 3 5 := by decide +kernel
theorem dX3_viewLine_5 : gb cX3_viewLine 5 (.ifCond .eq 11) (11) 8 16 := by decide +kernel
theorem dX3_viewLine_8 : gd cX3_viewLine 8 (.aload_n 0) 1 9 := by decide +kernel
theorem dX3_viewLine_9 : decode cX3_viewLine 9 = .ok (.iconst 0, 1) ∧ 9 + 1 = 10 ∧ Int32.ofInt (0) = (0) := by decide +kernel
theorem dX3_viewLine_10 : gd cX3_viewLine 10 (.invokevirtual 174) 3 13 := by decide +kernel
theorem dX3_viewLine_13 : gb cX3_viewLine 13 (.ifCond .ne 5) (5) 16 18 := by decide +kernel
theorem dX3_viewLine_16 : decode cX3_viewLine 16 = .ok (.iconst 0, 1) ∧ 16 + 1 = 17 ∧ Int32.ofInt (0) = (0) := by decide +kernel
theorem dX3_viewLine_17 : gd cX3_viewLine 17 (.ireturn) 1 18 := by decide +kernel
theorem dX3_viewLine_18 : gd cX3_viewLine 18 (.aload_n 0) 1 19 := by decide +kernel
theorem dX3_viewLine_19 : gd cX3_viewLine 19 (.getfield 22) 3 22 := by decide +kernel
theorem dX3_viewLine_22 : gd cX3_viewLine 22 (.getfield 193) 3 25 := by decide +kernel
theorem dX3_viewLine_25 : gd cX3_viewLine 25 (.aload_n 0) 1 26 := by decide +kernel
theorem dX3_viewLine_26 : gd cX3_viewLine 26 (.getfield 22) 3 29 := by decide +kernel
theorem dX3_viewLine_29 : gd cX3_viewLine 29 (.getfield 63) 3 32 := by decide +kernel
theorem dX3_viewLine_32 : decode cX3_viewLine 32 = .ok (.iconst 3, 1) ∧ 32 + 1 = 33 ∧ Int32.ofInt (3) = (3) := by decide +kernel
theorem dX3_viewLine_33 : gd cX3_viewLine 33 (.iaload) 1 34 := by decide +kernel
theorem dX3_viewLine_34 : gd cX3_viewLine 34 (.aload_n 0) 1 35 := by decide +kernel
theorem dX3_viewLine_35 : gd cX3_viewLine 35 (.getfield 181) 3 38 := by decide +kernel
theorem dX3_viewLine_38 : gd cX3_viewLine 38 (.iastore) 1 39 := by decide +kernel
theorem dX3_viewLine_39 : decode cX3_viewLine 39 = .ok (.iconst 1, 1) ∧ 39 + 1 = 40 ∧ Int32.ofInt (1) = (1) := by decide +kernel
theorem dX3_viewLine_40 : gd cX3_viewLine 40 (.ireturn) 1 41 := by decide +kernel
theorem dX3_cornerLine_0 : gd cX3_cornerLine 0 (.aload_n 0) 1 1 := by decide +kernel
theorem dX3_cornerLine_1 : decode cX3_cornerLine 1 = .ok (.iconst 4, 1) ∧ 1 + 1 = 2 ∧ Int32.ofInt (4) = (4) := by decide +kernel
theorem dX3_cornerLine_2 : gd cX3_cornerLine 2 (.invokevirtual 162) 3 5 := by decide +kernel
theorem dX3_cornerLine_5 : gb cX3_cornerLine 5 (.ifCond .eq 11) (11) 8 16 := by decide +kernel
theorem dX3_cornerLine_8 : gd cX3_cornerLine 8 (.aload_n 0) 1 9 := by decide +kernel
theorem dX3_cornerLine_9 : decode cX3_cornerLine 9 = .ok (.iconst 3, 1) ∧ 9 + 1 = 10 ∧ Int32.ofInt (3) = (3) := by decide +kernel
theorem dX3_cornerLine_10 : gd cX3_cornerLine 10 (.invokevirtual 196) 3 13 := by decide +kernel
theorem dX3_cornerLine_13 : gb cX3_cornerLine 13 (.ifCond .ne 5) (5) 16 18 := by decide +kernel
theorem dX3_cornerLine_16 : decode cX3_cornerLine 16 = .ok (.iconst 0, 1) ∧ 16 + 1 = 17 ∧ Int32.ofInt (0) = (0) := by decide +kernel
theorem dX3_cornerLine_17 : gd cX3_cornerLine 17 (.ireturn) 1 18 := by decide +kernel
theorem dX3_cornerLine_18 : gd cX3_cornerLine 18 (.aload_n 0) 1 19 := by decide +kernel
theorem dX3_cornerLine_19 : gd cX3_cornerLine 19 (.getfield 22) 3 22 := by decide +kernel
theorem dX3_cornerLine_22 : gd cX3_cornerLine 22 (.getfield 199) 3 25 := by decide +kernel
theorem dX3_cornerLine_25 : gd cX3_cornerLine 25 (.aload_n 0) 1 26 := by decide +kernel
theorem dX3_cornerLine_26 : gd cX3_cornerLine 26 (.getfield 22) 3 29 := by decide +kernel
theorem dX3_cornerLine_29 : gd cX3_cornerLine 29 (.getfield 63) 3 32 := by decide +kernel
theorem dX3_cornerLine_32 : decode cX3_cornerLine 32 = .ok (.iconst 4, 1) ∧ 32 + 1 = 33 ∧ Int32.ofInt (4) = (4) := by decide +kernel
theorem dX3_cornerLine_33 : gd cX3_cornerLine 33 (.iaload) 1 34 := by decide +kernel
theorem dX3_cornerLine_34 : gd cX3_cornerLine 34 (.aload_n 0) 1 35 := by decide +kernel
theorem dX3_cornerLine_35 : gd cX3_cornerLine 35 (.getfield 117) 3 38 := by decide +kernel
theorem dX3_cornerLine_38 : gd cX3_cornerLine 38 (.iastore) 1 39 := by decide +kernel
theorem dX3_cornerLine_39 : gd cX3_cornerLine 39 (.aload_n 0) 1 40 := by decide +kernel
theorem dX3_cornerLine_40 : gd cX3_cornerLine 40 (.getfield 16) 3 43 := by decide +kernel
theorem dX3_cornerLine_43 : gd cX3_cornerLine 43 (.invokevirtual 70) 3 46 := by decide +kernel
theorem dX3_cornerLine_46 : decode cX3_cornerLine 46 = .ok (.iconst 1, 1) ∧ 46 + 1 = 47 ∧ Int32.ofInt (1) = (1) := by decide +kernel
theorem dX3_cornerLine_47 : gd cX3_cornerLine 47 (.ireturn) 1 48 := by decide +kernel
theorem dX3_streetLine_0 : gd cX3_streetLine 0 (.aload_n 0) 1 1 := by decide +kernel
theorem dX3_streetLine_1 : decode cX3_streetLine 1 = .ok (.iconst 4, 1) ∧ 1 + 1 = 2 ∧ Int32.ofInt (4) = (4) := by decide +kernel
theorem dX3_streetLine_2 : gd cX3_streetLine 2 (.invokevirtual 196) 3 5 := by decide +kernel
theorem dX3_streetLine_5 : gb cX3_streetLine 5 (.ifCond .ne 5) (5) 8 10 := by decide +kernel
theorem dX3_streetLine_8 : decode cX3_streetLine 8 = .ok (.iconst 0, 1) ∧ 8 + 1 = 9 ∧ Int32.ofInt (0) = (0) := by decide +kernel
theorem dX3_streetLine_9 : gd cX3_streetLine 9 (.ireturn) 1 10 := by decide +kernel
theorem dX3_streetLine_10 : gd cX3_streetLine 10 (.aload_n 0) 1 11 := by decide +kernel
theorem dX3_streetLine_11 : gd cX3_streetLine 11 (.getfield 117) 3 14 := by decide +kernel
theorem dX3_streetLine_14 : gd cX3_streetLine 14 (.istore_n 1) 1 15 := by decide +kernel
theorem dX3_streetLine_15 : gd cX3_streetLine 15 (.aload_n 0) 1 16 := by decide +kernel
theorem dX3_streetLine_16 : gd cX3_streetLine 16 (.getfield 16) 3 19 := by decide +kernel
theorem dX3_streetLine_19 : gd cX3_streetLine 19 (.invokevirtual 70) 3 22 := by decide +kernel
theorem dX3_streetLine_22 : gd cX3_streetLine 22 (.aload_n 0) 1 23 := by decide +kernel
theorem dX3_streetLine_23 : decode cX3_streetLine 23 = .ok (.iconst 4, 1) ∧ 23 + 1 = 24 ∧ Int32.ofInt (4) = (4) := by decide +kernel
theorem dX3_streetLine_24 : gd cX3_streetLine 24 (.invokevirtual 196) 3 27 := by decide +kernel
theorem dX3_streetLine_27 : gb cX3_streetLine 27 (.ifCond .ne 5) (5) 30 32 := by decide +kernel
theorem dX3_streetLine_30 : decode cX3_streetLine 30 = .ok (.iconst 0, 1) ∧ 30 + 1 = 31 ∧ Int32.ofInt (0) = (0) := by decide +kernel
theorem dX3_streetLine_31 : gd cX3_streetLine 31 (.ireturn) 1 32 := by decide +kernel
theorem dX3_streetLine_32 : gd cX3_streetLine 32 (.aload_n 0) 1 33 := by decide +kernel
theorem dX3_streetLine_33 : gd cX3_streetLine 33 (.getfield 117) 3 36 := by decide +kernel
theorem dX3_streetLine_36 : gd cX3_streetLine 36 (.istore_n 2) 1 37 := by decide +kernel
theorem dX3_streetLine_37 : gd cX3_streetLine 37 (.iload_n 2) 1 38 := by decide +kernel
theorem dX3_streetLine_38 : gd cX3_streetLine 38 (.iload_n 1) 1 39 := by decide +kernel
theorem dX3_streetLine_39 : gb cX3_streetLine 39 (.if_icmp .eq 19) (19) 42 58 := by decide +kernel
theorem dX3_streetLine_42 : gd cX3_streetLine 42 (.aload_n 0) 1 43 := by decide +kernel
theorem dX3_streetLine_43 : gd cX3_streetLine 43 (.getfield 22) 3 46 := by decide +kernel
theorem dX3_streetLine_46 : gd cX3_streetLine 46 (.getfield 202) 3 49 := by decide +kernel
theorem dX3_streetLine_49 : gd cX3_streetLine 49 (.iload_n 1) 1 50 := by decide +kernel
theorem dX3_streetLine_50 : gd cX3_streetLine 50 (.iload_n 2) 1 51 := by decide +kernel
theorem dX3_streetLine_51 : gd cX3_streetLine 51 (.invokestatic 205) 3 54 := by decide +kernel
theorem dX3_streetLine_54 : gd cX3_streetLine 54 (.iaload) 1 55 := by decide +kernel
theorem dX3_streetLine_55 : gb cX3_streetLine 55 (.ifCond .le 9) (9) 58 64 := by decide +kernel
theorem dX3_streetLine_58 : gd cX3_streetLine 58 (.aload_n 0) 1 59 := by decide +kernel
theorem dX3_streetLine_59 : decode cX3_streetLine 59 = .ok (.iconst 3, 1) ∧ 59 + 1 = 60 ∧ Int32.ofInt (3) = (3) := by decide +kernel
theorem dX3_streetLine_60 : gd cX3_streetLine 60 (.invokevirtual 66) 3 63 := by decide +kernel
theorem dX3_streetLine_63 : gd cX3_streetLine 63 (.ireturn) 1 64 := by decide +kernel
theorem dX3_streetLine_64 : gd cX3_streetLine 64 (.aload_n 0) 1 65 := by decide +kernel
theorem dX3_streetLine_65 : gd cX3_streetLine 65 (.getfield 16) 3 68 := by decide +kernel
theorem dX3_streetLine_68 : gd cX3_streetLine 68 (.invokevirtual 70) 3 71 := by decide +kernel
theorem dX3_streetLine_71 : gd cX3_streetLine 71 (.aload_n 0) 1 72 := by decide +kernel
theorem dX3_streetLine_72 : decode cX3_streetLine 72 = .ok (.iconst 1, 1) ∧ 72 + 1 = 73 ∧ Int32.ofInt (1) = (1) := by decide +kernel
theorem dX3_streetLine_73 : decode cX3_streetLine 73 = .ok (.bipush 99, 2) ∧ 73 + 2 = 75 ∧ (Int8.ofInt (99)).toInt32 = (99) := by decide +kernel
theorem dX3_streetLine_75 : gd cX3_streetLine 75 (.invokevirtual 113) 3 78 := by decide +kernel
theorem dX3_streetLine_78 : gb cX3_streetLine 78 (.ifCond .ne 5) (5) 81 83 := by decide +kernel
theorem dX3_streetLine_81 : decode cX3_streetLine 81 = .ok (.iconst 0, 1) ∧ 81 + 1 = 82 ∧ Int32.ofInt (0) = (0) := by decide +kernel
theorem dX3_streetLine_82 : gd cX3_streetLine 82 (.ireturn) 1 83 := by decide +kernel
theorem dX3_streetLine_83 : gd cX3_streetLine 83 (.aload_n 0) 1 84 := by decide +kernel
theorem dX3_streetLine_84 : gd cX3_streetLine 84 (.getfield 117) 3 87 := by decide +kernel
theorem dX3_streetLine_87 : gd cX3_streetLine 87 (.istore_n 3) 1 88 := by decide +kernel
theorem dX3_streetLine_88 : gd cX3_streetLine 88 (.aload_n 0) 1 89 := by decide +kernel
theorem dX3_streetLine_89 : gd cX3_streetLine 89 (.ldc 208) 2 91 := by decide +kernel
theorem dX3_streetLine_91 : gd cX3_streetLine 91 (.invokevirtual 110) 3 94 := by decide +kernel
theorem dX3_streetLine_94 : gb cX3_streetLine 94 (.ifCond .eq 13) (13) 97 107 := by decide +kernel
theorem dX3_streetLine_97 : gd cX3_streetLine 97 (.aload_n 0) 1 98 := by decide +kernel
theorem dX3_streetLine_98 : decode cX3_streetLine 98 = .ok (.iconst 0, 1) ∧ 98 + 1 = 99 ∧ Int32.ofInt (0) = (0) := by decide +kernel
theorem dX3_streetLine_99 : decode cX3_streetLine 99 = .ok (.bipush 50, 2) ∧ 99 + 2 = 101 ∧ (Int8.ofInt (50)).toInt32 = (50) := by decide +kernel
theorem dX3_streetLine_101 : gd cX3_streetLine 101 (.invokevirtual 113) 3 104 := by decide +kernel
theorem dX3_streetLine_104 : gb cX3_streetLine 104 (.ifCond .ne 5) (5) 107 109 := by decide +kernel
theorem dX3_streetLine_107 : decode cX3_streetLine 107 = .ok (.iconst 0, 1) ∧ 107 + 1 = 108 ∧ Int32.ofInt (0) = (0) := by decide +kernel
theorem dX3_streetLine_108 : gd cX3_streetLine 108 (.ireturn) 1 109 := by decide +kernel
theorem dX3_streetLine_109 : gd cX3_streetLine 109 (.aload_n 0) 1 110 := by decide +kernel
theorem dX3_streetLine_110 : gd cX3_streetLine 110 (.getfield 22) 3 113 := by decide +kernel
theorem dX3_streetLine_113 : gd cX3_streetLine 113 (.getfield 202) 3 116 := by decide +kernel
theorem dX3_streetLine_116 : gd cX3_streetLine 116 (.iload_n 1) 1 117 := by decide +kernel
theorem dX3_streetLine_117 : gd cX3_streetLine 117 (.iload_n 2) 1 118 := by decide +kernel
theorem dX3_streetLine_118 : gd cX3_streetLine 118 (.invokestatic 205) 3 121 := by decide +kernel
theorem dX3_streetLine_121 : gd cX3_streetLine 121 (.iload_n 3) 1 122 := by decide +kernel
theorem dX3_streetLine_122 : gd cX3_streetLine 122 (.iastore) 1 123 := by decide +kernel
theorem dX3_streetLine_123 : gd cX3_streetLine 123 (.aload_n 0) 1 124 := by decide +kernel
theorem dX3_streetLine_124 : gd cX3_streetLine 124 (.getfield 22) 3 127 := by decide +kernel
theorem dX3_streetLine_127 : gd cX3_streetLine 127 (.getfield 202) 3 130 := by decide +kernel
theorem dX3_streetLine_130 : gd cX3_streetLine 130 (.iload_n 2) 1 131 := by decide +kernel
theorem dX3_streetLine_131 : gd cX3_streetLine 131 (.iload_n 1) 1 132 := by decide +kernel
theorem dX3_streetLine_132 : gd cX3_streetLine 132 (.invokestatic 205) 3 135 := by decide +kernel
theorem dX3_streetLine_135 : gd cX3_streetLine 135 (.iload_n 3) 1 136 := by decide +kernel
theorem dX3_streetLine_136 : gd cX3_streetLine 136 (.iastore) 1 137 := by decide +kernel
theorem dX3_streetLine_137 : gd cX3_streetLine 137 (.aload_n 0) 1 138 := by decide +kernel
theorem dX3_streetLine_138 : gd cX3_streetLine 138 (.getfield 22) 3 141 := by decide +kernel
theorem dX3_streetLine_141 : gd cX3_streetLine 141 (.getfield 210) 3 144 := by decide +kernel
theorem dX3_streetLine_144 : gd cX3_streetLine 144 (.iload_n 1) 1 145 := by decide +kernel
theorem dX3_streetLine_145 : gd cX3_streetLine 145 (.iload_n 2) 1 146 := by decide +kernel
theorem dX3_streetLine_146 : gd cX3_streetLine 146 (.invokestatic 205) 3 149 := by decide +kernel
theorem dX3_streetLine_149 : gd cX3_streetLine 149 (.aload_n 0) 1 150 := by decide +kernel
theorem dX3_streetLine_150 : gd cX3_streetLine 150 (.getfield 117) 3 153 := by decide +kernel
theorem dX3_streetLine_153 : gd cX3_streetLine 153 (.iastore) 1 154 := by decide +kernel
theorem dX3_streetLine_154 : gd cX3_streetLine 154 (.aload_n 0) 1 155 := by decide +kernel
theorem dX3_streetLine_155 : gd cX3_streetLine 155 (.getfield 22) 3 158 := by decide +kernel
theorem dX3_streetLine_158 : gd cX3_streetLine 158 (.getfield 210) 3 161 := by decide +kernel
theorem dX3_streetLine_161 : gd cX3_streetLine 161 (.iload_n 2) 1 162 := by decide +kernel
theorem dX3_streetLine_162 : gd cX3_streetLine 162 (.iload_n 1) 1 163 := by decide +kernel
theorem dX3_streetLine_163 : gd cX3_streetLine 163 (.invokestatic 205) 3 166 := by decide +kernel
theorem dX3_streetLine_166 : gd cX3_streetLine 166 (.aload_n 0) 1 167 := by decide +kernel
theorem dX3_streetLine_167 : gd cX3_streetLine 167 (.getfield 117) 3 170 := by decide +kernel
theorem dX3_streetLine_170 : gd cX3_streetLine 170 (.iastore) 1 171 := by decide +kernel
theorem dX3_streetLine_171 : decode cX3_streetLine 171 = .ok (.iconst 1, 1) ∧ 171 + 1 = 172 ∧ Int32.ofInt (1) = (1) := by decide +kernel
theorem dX3_streetLine_172 : gd cX3_streetLine 172 (.ireturn) 1 173 := by decide +kernel
theorem dX3_thiefLine_0 : gd cX3_thiefLine 0 (.aload_n 0) 1 1 := by decide +kernel
theorem dX3_thiefLine_1 : decode cX3_thiefLine 1 = .ok (.iconst 4, 1) ∧ 1 + 1 = 2 ∧ Int32.ofInt (4) = (4) := by decide +kernel
theorem dX3_thiefLine_2 : gd cX3_thiefLine 2 (.invokevirtual 196) 3 5 := by decide +kernel
theorem dX3_thiefLine_5 : gb cX3_thiefLine 5 (.ifCond .ne 5) (5) 8 10 := by decide +kernel
theorem dX3_thiefLine_8 : decode cX3_thiefLine 8 = .ok (.iconst 0, 1) ∧ 8 + 1 = 9 ∧ Int32.ofInt (0) = (0) := by decide +kernel
theorem dX3_thiefLine_9 : gd cX3_thiefLine 9 (.ireturn) 1 10 := by decide +kernel
theorem dX3_thiefLine_10 : gd cX3_thiefLine 10 (.aload_n 0) 1 11 := by decide +kernel
theorem dX3_thiefLine_11 : gd cX3_thiefLine 11 (.getfield 22) 3 14 := by decide +kernel
theorem dX3_thiefLine_14 : gd cX3_thiefLine 14 (.aload_n 0) 1 15 := by decide +kernel
theorem dX3_thiefLine_15 : gd cX3_thiefLine 15 (.getfield 117) 3 18 := by decide +kernel
theorem dX3_thiefLine_18 : gd cX3_thiefLine 18 (.invokevirtual 213) 3 21 := by decide +kernel
theorem dX3_thiefLine_21 : gb cX3_thiefLine 21 (.ifCond .eq 9) (9) 24 30 := by decide +kernel
theorem dX3_thiefLine_24 : gd cX3_thiefLine 24 (.aload_n 0) 1 25 := by decide +kernel
theorem dX3_thiefLine_25 : decode cX3_thiefLine 25 = .ok (.iconst 3, 1) ∧ 25 + 1 = 26 ∧ Int32.ofInt (3) = (3) := by decide +kernel
theorem dX3_thiefLine_26 : gd cX3_thiefLine 26 (.invokevirtual 66) 3 29 := by decide +kernel
theorem dX3_thiefLine_29 : gd cX3_thiefLine 29 (.ireturn) 1 30 := by decide +kernel
theorem dX3_thiefLine_30 : gd cX3_thiefLine 30 (.aload_n 0) 1 31 := by decide +kernel
theorem dX3_thiefLine_31 : gd cX3_thiefLine 31 (.getfield 22) 3 34 := by decide +kernel
theorem dX3_thiefLine_34 : gd cX3_thiefLine 34 (.dup) 1 35 := by decide +kernel
theorem dX3_thiefLine_35 : gd cX3_thiefLine 35 (.getfield 216) 3 38 := by decide +kernel
theorem dX3_thiefLine_38 : decode cX3_thiefLine 38 = .ok (.iconst 1, 1) ∧ 38 + 1 = 39 ∧ Int32.ofInt (1) = (1) := by decide +kernel
theorem dX3_thiefLine_39 : gd cX3_thiefLine 39 (.aload_n 0) 1 40 := by decide +kernel
theorem dX3_thiefLine_40 : gd cX3_thiefLine 40 (.getfield 117) 3 43 := by decide +kernel
theorem dX3_thiefLine_43 : gd cX3_thiefLine 43 (.ishl) 1 44 := by decide +kernel
theorem dX3_thiefLine_44 : gd cX3_thiefLine 44 (.ior) 1 45 := by decide +kernel
theorem dX3_thiefLine_45 : gd cX3_thiefLine 45 (.putfield 216) 3 48 := by decide +kernel
theorem dX3_thiefLine_48 : gd cX3_thiefLine 48 (.aload_n 0) 1 49 := by decide +kernel
theorem dX3_thiefLine_49 : gd cX3_thiefLine 49 (.getfield 16) 3 52 := by decide +kernel
theorem dX3_thiefLine_52 : gd cX3_thiefLine 52 (.invokevirtual 70) 3 55 := by decide +kernel
theorem dX3_thiefLine_55 : decode cX3_thiefLine 55 = .ok (.iconst 1, 1) ∧ 55 + 1 = 56 ∧ Int32.ofInt (1) = (1) := by decide +kernel
theorem dX3_thiefLine_56 : gd cX3_thiefLine 56 (.ireturn) 1 57 := by decide +kernel
theorem dX3_sentLine_0 : gd cX3_sentLine 0 (.aload_n 0) 1 1 := by decide +kernel
theorem dX3_sentLine_1 : gd cX3_sentLine 1 (.getfield 22) 3 4 := by decide +kernel
theorem dX3_sentLine_4 : gd cX3_sentLine 4 (.getfield 63) 3 7 := by decide +kernel
theorem dX3_sentLine_7 : decode cX3_sentLine 7 = .ok (.bipush 7, 2) ∧ 7 + 2 = 9 ∧ (Int8.ofInt (7)).toInt32 = (7) := by decide +kernel
theorem dX3_sentLine_9 : gd cX3_sentLine 9 (.iaload) 1 10 := by decide +kernel
theorem dX3_sentLine_10 : gd cX3_sentLine 10 (.istore_n 1) 1 11 := by decide +kernel
theorem dX3_sentLine_11 : gd cX3_sentLine 11 (.aload_n 0) 1 12 := by decide +kernel
theorem dX3_sentLine_12 : decode cX3_sentLine 12 = .ok (.iconst 1, 1) ∧ 12 + 1 = 13 ∧ Int32.ofInt (1) = (1) := by decide +kernel
theorem dX3_sentLine_13 : gd cX3_sentLine 13 (.invokevirtual 196) 3 16 := by decide +kernel
theorem dX3_sentLine_16 : gb cX3_sentLine 16 (.ifCond .ne 5) (5) 19 21 := by decide +kernel
theorem dX3_sentLine_19 : decode cX3_sentLine 19 = .ok (.iconst 0, 1) ∧ 19 + 1 = 20 ∧ Int32.ofInt (0) = (0) := by decide +kernel
theorem dX3_sentLine_20 : gd cX3_sentLine 20 (.ireturn) 1 21 := by decide +kernel
theorem dX3_sentLine_21 : gd cX3_sentLine 21 (.aload_n 0) 1 22 := by decide +kernel
theorem dX3_sentLine_22 : gd cX3_sentLine 22 (.getfield 22) 3 25 := by decide +kernel
theorem dX3_sentLine_25 : gd cX3_sentLine 25 (.getfield 219) 3 28 := by decide +kernel
theorem dX3_sentLine_28 : gd cX3_sentLine 28 (.iload_n 1) 1 29 := by decide +kernel
theorem dX3_sentLine_29 : gd cX3_sentLine 29 (.aload_n 0) 1 30 := by decide +kernel
theorem dX3_sentLine_30 : gd cX3_sentLine 30 (.getfield 117) 3 33 := by decide +kernel
theorem dX3_sentLine_33 : gd cX3_sentLine 33 (.iastore) 1 34 := by decide +kernel
theorem dX3_sentLine_34 : gd cX3_sentLine 34 (.aload_n 0) 1 35 := by decide +kernel
theorem dX3_sentLine_35 : gd cX3_sentLine 35 (.getfield 16) 3 38 := by decide +kernel
theorem dX3_sentLine_38 : gd cX3_sentLine 38 (.invokevirtual 70) 3 41 := by decide +kernel
theorem dX3_sentLine_41 : gd cX3_sentLine 41 (.aload_n 0) 1 42 := by decide +kernel
theorem dX3_sentLine_42 : decode cX3_sentLine 42 = .ok (.iconst 4, 1) ∧ 42 + 1 = 43 ∧ Int32.ofInt (4) = (4) := by decide +kernel
theorem dX3_sentLine_43 : gd cX3_sentLine 43 (.invokevirtual 196) 3 46 := by decide +kernel
theorem dX3_sentLine_46 : gb cX3_sentLine 46 (.ifCond .ne 5) (5) 49 51 := by decide +kernel
theorem dX3_sentLine_49 : decode cX3_sentLine 49 = .ok (.iconst 0, 1) ∧ 49 + 1 = 50 ∧ Int32.ofInt (0) = (0) := by decide +kernel
theorem dX3_sentLine_50 : gd cX3_sentLine 50 (.ireturn) 1 51 := by decide +kernel
theorem dX3_sentLine_51 : gd cX3_sentLine 51 (.aload_n 0) 1 52 := by decide +kernel
theorem dX3_sentLine_52 : gd cX3_sentLine 52 (.getfield 22) 3 55 := by decide +kernel
theorem dX3_sentLine_55 : gd cX3_sentLine 55 (.getfield 222) 3 58 := by decide +kernel
theorem dX3_sentLine_58 : gd cX3_sentLine 58 (.iload_n 1) 1 59 := by decide +kernel
theorem dX3_sentLine_59 : gd cX3_sentLine 59 (.aload_n 0) 1 60 := by decide +kernel
theorem dX3_sentLine_60 : gd cX3_sentLine 60 (.getfield 117) 3 63 := by decide +kernel
theorem dX3_sentLine_63 : gd cX3_sentLine 63 (.iastore) 1 64 := by decide +kernel
theorem dX3_sentLine_64 : gd cX3_sentLine 64 (.aload_n 0) 1 65 := by decide +kernel
theorem dX3_sentLine_65 : gd cX3_sentLine 65 (.getfield 16) 3 68 := by decide +kernel
theorem dX3_sentLine_68 : gd cX3_sentLine 68 (.invokevirtual 70) 3 71 := by decide +kernel
theorem dX3_sentLine_71 : gd cX3_sentLine 71 (.aload_n 0) 1 72 := by decide +kernel
theorem dX3_sentLine_72 : decode cX3_sentLine 72 = .ok (.iconst 4, 1) ∧ 72 + 1 = 73 ∧ Int32.ofInt (4) = (4) := by decide +kernel
theorem dX3_sentLine_73 : gd cX3_sentLine 73 (.invokevirtual 196) 3 76 := by decide +kernel
theorem dX3_sentLine_76 : gb cX3_sentLine 76 (.ifCond .ne 5) (5) 79 81 := by decide +kernel
theorem dX3_sentLine_79 : decode cX3_sentLine 79 = .ok (.iconst 0, 1) ∧ 79 + 1 = 80 ∧ Int32.ofInt (0) = (0) := by decide +kernel
theorem dX3_sentLine_80 : gd cX3_sentLine 80 (.ireturn) 1 81 := by decide +kernel
theorem dX3_sentLine_81 : gd cX3_sentLine 81 (.aload_n 0) 1 82 := by decide +kernel
theorem dX3_sentLine_82 : gd cX3_sentLine 82 (.getfield 22) 3 85 := by decide +kernel
theorem dX3_sentLine_85 : gd cX3_sentLine 85 (.getfield 225) 3 88 := by decide +kernel
theorem dX3_sentLine_88 : gd cX3_sentLine 88 (.iload_n 1) 1 89 := by decide +kernel
theorem dX3_sentLine_89 : gd cX3_sentLine 89 (.aload_n 0) 1 90 := by decide +kernel
theorem dX3_sentLine_90 : gd cX3_sentLine 90 (.getfield 117) 3 93 := by decide +kernel
theorem dX3_sentLine_93 : gd cX3_sentLine 93 (.iastore) 1 94 := by decide +kernel
theorem dX3_sentLine_94 : gd cX3_sentLine 94 (.aload_n 0) 1 95 := by decide +kernel
theorem dX3_sentLine_95 : gd cX3_sentLine 95 (.getfield 16) 3 98 := by decide +kernel
theorem dX3_sentLine_98 : gd cX3_sentLine 98 (.invokevirtual 70) 3 101 := by decide +kernel
theorem dX3_sentLine_101 : decode cX3_sentLine 101 = .ok (.iconst 1, 1) ∧ 101 + 1 = 102 ∧ Int32.ofInt (1) = (1) := by decide +kernel
theorem dX3_sentLine_102 : gd cX3_sentLine 102 (.ireturn) 1 103 := by decide +kernel
theorem dX3_shardLine_0 : gd cX3_shardLine 0 (.aload_n 0) 1 1 := by decide +kernel
theorem dX3_shardLine_1 : gd cX3_shardLine 1 (.getfield 22) 3 4 := by decide +kernel
theorem dX3_shardLine_4 : gd cX3_shardLine 4 (.getfield 63) 3 7 := by decide +kernel
theorem dX3_shardLine_7 : decode cX3_shardLine 7 = .ok (.bipush 9, 2) ∧ 7 + 2 = 9 ∧ (Int8.ofInt (9)).toInt32 = (9) := by decide +kernel
theorem dX3_shardLine_9 : gd cX3_shardLine 9 (.iaload) 1 10 := by decide +kernel
theorem dX3_shardLine_10 : gd cX3_shardLine 10 (.istore_n 1) 1 11 := by decide +kernel
theorem dX3_shardLine_11 : gd cX3_shardLine 11 (.aload_n 0) 1 12 := by decide +kernel
theorem dX3_shardLine_12 : decode cX3_shardLine 12 = .ok (.bipush 8, 2) ∧ 12 + 2 = 14 ∧ (Int8.ofInt (8)).toInt32 = (8) := by decide +kernel
theorem dX3_shardLine_14 : gd cX3_shardLine 14 (.invokevirtual 196) 3 17 := by decide +kernel
theorem dX3_shardLine_17 : gb cX3_shardLine 17 (.ifCond .ne 5) (5) 20 22 := by decide +kernel
theorem dX3_shardLine_20 : decode cX3_shardLine 20 = .ok (.iconst 0, 1) ∧ 20 + 1 = 21 ∧ Int32.ofInt (0) = (0) := by decide +kernel
theorem dX3_shardLine_21 : gd cX3_shardLine 21 (.ireturn) 1 22 := by decide +kernel
theorem dX3_shardLine_22 : gd cX3_shardLine 22 (.aload_n 0) 1 23 := by decide +kernel
theorem dX3_shardLine_23 : gd cX3_shardLine 23 (.getfield 22) 3 26 := by decide +kernel
theorem dX3_shardLine_26 : gd cX3_shardLine 26 (.getfield 228) 3 29 := by decide +kernel
theorem dX3_shardLine_29 : gd cX3_shardLine 29 (.iload_n 1) 1 30 := by decide +kernel
theorem dX3_shardLine_30 : gd cX3_shardLine 30 (.aload_n 0) 1 31 := by decide +kernel
theorem dX3_shardLine_31 : gd cX3_shardLine 31 (.getfield 117) 3 34 := by decide +kernel
theorem dX3_shardLine_34 : gd cX3_shardLine 34 (.iastore) 1 35 := by decide +kernel
theorem dX3_shardLine_35 : gd cX3_shardLine 35 (.aload_n 0) 1 36 := by decide +kernel
theorem dX3_shardLine_36 : gd cX3_shardLine 36 (.getfield 16) 3 39 := by decide +kernel
theorem dX3_shardLine_39 : gd cX3_shardLine 39 (.invokevirtual 70) 3 42 := by decide +kernel
theorem dX3_shardLine_42 : gd cX3_shardLine 42 (.aload_n 0) 1 43 := by decide +kernel
theorem dX3_shardLine_43 : decode cX3_shardLine 43 = .ok (.iconst 1, 1) ∧ 43 + 1 = 44 ∧ Int32.ofInt (1) = (1) := by decide +kernel
theorem dX3_shardLine_44 : gd cX3_shardLine 44 (.invokevirtual 174) 3 47 := by decide +kernel
theorem dX3_shardLine_47 : gb cX3_shardLine 47 (.ifCond .ne 5) (5) 50 52 := by decide +kernel
theorem dX3_shardLine_50 : decode cX3_shardLine 50 = .ok (.iconst 0, 1) ∧ 50 + 1 = 51 ∧ Int32.ofInt (0) = (0) := by decide +kernel
theorem dX3_shardLine_51 : gd cX3_shardLine 51 (.ireturn) 1 52 := by decide +kernel
theorem dX3_shardLine_52 : gd cX3_shardLine 52 (.aload_n 0) 1 53 := by decide +kernel
theorem dX3_shardLine_53 : gd cX3_shardLine 53 (.getfield 231) 3 56 := by decide +kernel
theorem dX3_shardLine_56 : gb cX3_shardLine 56 (.ifCond .ne 20) (20) 59 76 := by decide +kernel
theorem dX3_shardLine_59 : gd cX3_shardLine 59 (.aload_n 0) 1 60 := by decide +kernel
theorem dX3_shardLine_60 : decode cX3_shardLine 60 = .ok (.bipush 7, 2) ∧ 60 + 2 = 62 ∧ (Int8.ofInt (7)).toInt32 = (7) := by decide +kernel
theorem dX3_shardLine_62 : gd cX3_shardLine 62 (.invokevirtual 66) 3 65 := by decide +kernel
theorem dX3_shardLine_65 : gd cX3_shardLine 65 (.pop) 1 66 := by decide +kernel
theorem dX3_shardLine_66 : gd cX3_shardLine 66 (.aload_n 0) 1 67 := by decide +kernel
theorem dX3_shardLine_67 : gd cX3_shardLine 67 (.aload_n 0) 1 68 := by decide +kernel
theorem dX3_shardLine_68 : gd cX3_shardLine 68 (.getfield 138) 3 71 := by decide +kernel
theorem dX3_shardLine_71 : gd cX3_shardLine 71 (.putfield 26) 3 74 := by decide +kernel
theorem dX3_shardLine_74 : decode cX3_shardLine 74 = .ok (.iconst 0, 1) ∧ 74 + 1 = 75 ∧ Int32.ofInt (0) = (0) := by decide +kernel
theorem dX3_shardLine_75 : gd cX3_shardLine 75 (.ireturn) 1 76 := by decide +kernel
theorem dX3_shardLine_76 : gd cX3_shardLine 76 (.aload_n 0) 1 77 := by decide +kernel
theorem dX3_shardLine_77 : gd cX3_shardLine 77 (.getfield 22) 3 80 := by decide +kernel
theorem dX3_shardLine_80 : gd cX3_shardLine 80 (.getfield 234) 3 83 := by decide +kernel
theorem dX3_shardLine_83 : gd cX3_shardLine 83 (.iload_n 1) 1 84 := by decide +kernel
theorem dX3_shardLine_84 : gd cX3_shardLine 84 (.aload_n 0) 1 85 := by decide +kernel
theorem dX3_shardLine_85 : gd cX3_shardLine 85 (.getfield 231) 3 88 := by decide +kernel
theorem dX3_shardLine_88 : gd cX3_shardLine 88 (.iastore) 1 89 := by decide +kernel
theorem dX3_shardLine_89 : gd cX3_shardLine 89 (.aload_n 0) 1 90 := by decide +kernel
theorem dX3_shardLine_90 : gd cX3_shardLine 90 (.getfield 22) 3 93 := by decide +kernel
theorem dX3_shardLine_93 : gd cX3_shardLine 93 (.getfield 237) 3 96 := by decide +kernel
theorem dX3_shardLine_96 : gd cX3_shardLine 96 (.iload_n 1) 1 97 := by decide +kernel
theorem dX3_shardLine_97 : gd cX3_shardLine 97 (.aload_n 0) 1 98 := by decide +kernel
theorem dX3_shardLine_98 : gd cX3_shardLine 98 (.getfield 181) 3 101 := by decide +kernel
theorem dX3_shardLine_101 : gd cX3_shardLine 101 (.iastore) 1 102 := by decide +kernel
theorem dX3_shardLine_102 : decode cX3_shardLine 102 = .ok (.iconst 1, 1) ∧ 102 + 1 = 103 ∧ Int32.ofInt (1) = (1) := by decide +kernel
theorem dX3_shardLine_103 : gd cX3_shardLine 103 (.ireturn) 1 104 := by decide +kernel
theorem dX3_shelfLine_0 : gd cX3_shelfLine 0 (.aload_n 0) 1 1 := by decide +kernel
theorem dX3_shelfLine_1 : decode cX3_shelfLine 1 = .ok (.iconst 0, 1) ∧ 1 + 1 = 2 ∧ Int32.ofInt (0) = (0) := by decide +kernel
theorem dX3_shelfLine_2 : decode cX3_shelfLine 2 = .ok (.bipush 99, 2) ∧ 2 + 2 = 4 ∧ (Int8.ofInt (99)).toInt32 = (99) := by decide +kernel
theorem dX3_shelfLine_4 : gd cX3_shelfLine 4 (.invokevirtual 113) 3 7 := by decide +kernel
theorem dX3_shelfLine_7 : gb cX3_shelfLine 7 (.ifCond .ne 5) (5) 10 12 := by decide +kernel
theorem dX3_shelfLine_10 : decode cX3_shelfLine 10 = .ok (.iconst 0, 1) ∧ 10 + 1 = 11 ∧ Int32.ofInt (0) = (0) := by decide +kernel
theorem dX3_shelfLine_11 : gd cX3_shelfLine 11 (.ireturn) 1 12 := by decide +kernel
theorem dX3_shelfLine_12 : gd cX3_shelfLine 12 (.aload_n 0) 1 13 := by decide +kernel
theorem dX3_shelfLine_13 : gd cX3_shelfLine 13 (.getfield 22) 3 16 := by decide +kernel
theorem dX3_shelfLine_16 : gd cX3_shelfLine 16 (.aload_n 0) 1 17 := by decide +kernel
theorem dX3_shelfLine_17 : gd cX3_shelfLine 17 (.getfield 117) 3 20 := by decide +kernel
theorem dX3_shelfLine_20 : gd cX3_shelfLine 20 (.putfield 240) 3 23 := by decide +kernel
theorem dX3_shelfLine_23 : decode cX3_shelfLine 23 = .ok (.iconst 1, 1) ∧ 23 + 1 = 24 ∧ Int32.ofInt (1) = (1) := by decide +kernel
theorem dX3_shelfLine_24 : gd cX3_shelfLine 24 (.ireturn) 1 25 := by decide +kernel
theorem dX3_fixed_0 : gd cX3_fixed 0 (.aload_n 0) 1 1 := by decide +kernel
theorem dX3_fixed_1 : gd cX3_fixed 1 (.getfield 16) 3 4 := by decide +kernel
theorem dX3_fixed_4 : gd cX3_fixed 4 (.aload_n 1) 1 5 := by decide +kernel
theorem dX3_fixed_5 : gd cX3_fixed 5 (.invokevirtual 80) 3 8 := by decide +kernel
theorem dX3_fixed_8 : gb cX3_fixed 8 (.ifCond .ne 9) (9) 11 17 := by decide +kernel
theorem dX3_fixed_11 : gd cX3_fixed 11 (.aload_n 0) 1 12 := by decide +kernel
theorem dX3_fixed_12 : decode cX3_fixed 12 = .ok (.iconst 1, 1) ∧ 12 + 1 = 13 ∧ Int32.ofInt (1) = (1) := by decide +kernel
theorem dX3_fixed_13 : gd cX3_fixed 13 (.invokevirtual 66) 3 16 := by decide +kernel
theorem dX3_fixed_16 : gd cX3_fixed 16 (.ireturn) 1 17 := by decide +kernel
theorem dX3_fixed_17 : gd cX3_fixed 17 (.aload_n 0) 1 18 := by decide +kernel
theorem dX3_fixed_18 : gd cX3_fixed 18 (.getfield 16) 3 21 := by decide +kernel
theorem dX3_fixed_21 : gd cX3_fixed 21 (.invokevirtual 70) 3 24 := by decide +kernel
theorem dX3_fixed_24 : decode cX3_fixed 24 = .ok (.iconst 1, 1) ∧ 24 + 1 = 25 ∧ Int32.ofInt (1) = (1) := by decide +kernel
theorem dX3_fixed_25 : gd cX3_fixed 25 (.ireturn) 1 26 := by decide +kernel
theorem dX3_numberWithin_0 : gd cX3_numberWithin 0 (.aload_n 0) 1 1 := by decide +kernel
theorem dX3_numberWithin_1 : gd cX3_numberWithin 1 (.getfield 16) 3 4 := by decide +kernel
theorem dX3_numberWithin_4 : gd cX3_numberWithin 4 (.getfield 60) 3 7 := by decide +kernel
theorem dX3_numberWithin_7 : decode cX3_numberWithin 7 = .ok (.iconst 2, 1) ∧ 7 + 1 = 8 ∧ Int32.ofInt (2) = (2) := by decide +kernel
theorem dX3_numberWithin_8 : gb cX3_numberWithin 8 (.if_icmp .eq 9) (9) 11 17 := by decide +kernel
theorem dX3_numberWithin_11 : gd cX3_numberWithin 11 (.aload_n 0) 1 12 := by decide +kernel
theorem dX3_numberWithin_12 : decode cX3_numberWithin 12 = .ok (.iconst 1, 1) ∧ 12 + 1 = 13 ∧ Int32.ofInt (1) = (1) := by decide +kernel
theorem dX3_numberWithin_13 : gd cX3_numberWithin 13 (.invokevirtual 66) 3 16 := by decide +kernel
theorem dX3_numberWithin_16 : gd cX3_numberWithin 16 (.ireturn) 1 17 := by decide +kernel
theorem dX3_numberWithin_17 : gd cX3_numberWithin 17 (.aload_n 0) 1 18 := by decide +kernel
theorem dX3_numberWithin_18 : gd cX3_numberWithin 18 (.aload_n 0) 1 19 := by decide +kernel
theorem dX3_numberWithin_19 : gd cX3_numberWithin 19 (.getfield 16) 3 22 := by decide +kernel
theorem dX3_numberWithin_22 : gd cX3_numberWithin 22 (.invokevirtual 243) 3 25 := by decide +kernel
theorem dX3_numberWithin_25 : gd cX3_numberWithin 25 (.putfield 117) 3 28 := by decide +kernel
theorem dX3_numberWithin_28 : gd cX3_numberWithin 28 (.aload_n 0) 1 29 := by decide +kernel
theorem dX3_numberWithin_29 : gd cX3_numberWithin 29 (.getfield 117) 3 32 := by decide +kernel
theorem dX3_numberWithin_32 : gd cX3_numberWithin 32 (.iload_n 1) 1 33 := by decide +kernel
theorem dX3_numberWithin_33 : gb cX3_numberWithin 33 (.if_icmp .lt 11) (11) 36 44 := by decide +kernel
theorem dX3_numberWithin_36 : gd cX3_numberWithin 36 (.aload_n 0) 1 37 := by decide +kernel
theorem dX3_numberWithin_37 : gd cX3_numberWithin 37 (.getfield 117) 3 40 := by decide +kernel
theorem dX3_numberWithin_40 : gd cX3_numberWithin 40 (.iload_n 2) 1 41 := by decide +kernel
theorem dX3_numberWithin_41 : gb cX3_numberWithin 41 (.if_icmp .le 9) (9) 44 50 := by decide +kernel
theorem dX3_numberWithin_44 : gd cX3_numberWithin 44 (.aload_n 0) 1 45 := by decide +kernel
theorem dX3_numberWithin_45 : decode cX3_numberWithin 45 = .ok (.iconst 4, 1) ∧ 45 + 1 = 46 ∧ Int32.ofInt (4) = (4) := by decide +kernel
theorem dX3_numberWithin_46 : gd cX3_numberWithin 46 (.invokevirtual 66) 3 49 := by decide +kernel
theorem dX3_numberWithin_49 : gd cX3_numberWithin 49 (.ireturn) 1 50 := by decide +kernel
theorem dX3_numberWithin_50 : gd cX3_numberWithin 50 (.aload_n 0) 1 51 := by decide +kernel
theorem dX3_numberWithin_51 : gd cX3_numberWithin 51 (.getfield 16) 3 54 := by decide +kernel
theorem dX3_numberWithin_54 : gd cX3_numberWithin 54 (.invokevirtual 70) 3 57 := by decide +kernel
theorem dX3_numberWithin_57 : decode cX3_numberWithin 57 = .ok (.iconst 1, 1) ∧ 57 + 1 = 58 ∧ Int32.ofInt (1) = (1) := by decide +kernel
theorem dX3_numberWithin_58 : gd cX3_numberWithin 58 (.ireturn) 1 59 := by decide +kernel
theorem dX3_findName_0 : decode cX3_findName 0 = .ok (.iconst 0, 1) ∧ 0 + 1 = 1 ∧ Int32.ofInt (0) = (0) := by decide +kernel
theorem dX3_findName_1 : gd cX3_findName 1 (.istore_n 3) 1 2 := by decide +kernel
theorem dX3_findName_2 : gd cX3_findName 2 (.iload_n 3) 1 3 := by decide +kernel
theorem dX3_findName_3 : gd cX3_findName 3 (.aload_n 0) 1 4 := by decide +kernel
theorem dX3_findName_4 : gd cX3_findName 4 (.getfield 44) 3 7 := by decide +kernel
theorem dX3_findName_7 : gb cX3_findName 7 (.if_icmp .ge 22) (22) 10 29 := by decide +kernel
theorem dX3_findName_10 : gd cX3_findName 10 (.aload_n 0) 1 11 := by decide +kernel
theorem dX3_findName_11 : gd cX3_findName 11 (.getfield 30) 3 14 := by decide +kernel
theorem dX3_findName_14 : gd cX3_findName 14 (.iload_n 3) 1 15 := by decide +kernel
theorem dX3_findName_15 : gd cX3_findName 15 (.laload) 1 16 := by decide +kernel
theorem dX3_findName_16 : gd cX3_findName 16 (.lload_n 1) 1 17 := by decide +kernel
theorem dX3_findName_17 : gd cX3_findName 17 (.lcmp) 1 18 := by decide +kernel
theorem dX3_findName_18 : gb cX3_findName 18 (.ifCond .ne 5) (5) 21 23 := by decide +kernel
theorem dX3_findName_21 : gd cX3_findName 21 (.iload_n 3) 1 22 := by decide +kernel
theorem dX3_findName_22 : gd cX3_findName 22 (.ireturn) 1 23 := by decide +kernel
theorem dX3_findName_23 : decode cX3_findName 23 = .ok (.iinc 3 1, 3) ∧ 23 + 3 = 26 ∧ Int32.ofInt (1) = (1) := by decide +kernel
theorem dX3_findName_26 : gb cX3_findName 26 (.goto (-24)) (-24) 29 2 := by decide +kernel
theorem dX3_findName_29 : decode cX3_findName 29 = .ok (.iconst (-1), 1) ∧ 29 + 1 = 30 ∧ Int32.ofInt (-1) = (-1) := by decide +kernel
theorem dX3_findName_30 : gd cX3_findName 30 (.ireturn) 1 31 := by decide +kernel
theorem dX3_newName_0 : gd cX3_newName 0 (.aload_n 0) 1 1 := by decide +kernel
theorem dX3_newName_1 : gd cX3_newName 1 (.getfield 16) 3 4 := by decide +kernel
theorem dX3_newName_4 : gd cX3_newName 4 (.getfield 60) 3 7 := by decide +kernel
theorem dX3_newName_7 : decode cX3_newName 7 = .ok (.iconst 1, 1) ∧ 7 + 1 = 8 ∧ Int32.ofInt (1) = (1) := by decide +kernel
theorem dX3_newName_8 : gb cX3_newName 8 (.if_icmp .ne 11) (11) 11 19 := by decide +kernel
theorem dX3_newName_11 : gd cX3_newName 11 (.aload_n 0) 1 12 := by decide +kernel
theorem dX3_newName_12 : gd cX3_newName 12 (.invokevirtual 104) 3 15 := by decide +kernel
theorem dX3_newName_15 : decode cX3_newName 15 = .ok (.iconst (-1), 1) ∧ 15 + 1 = 16 ∧ Int32.ofInt (-1) = (-1) := by decide +kernel
theorem dX3_newName_16 : gb cX3_newName 16 (.if_icmp .eq 9) (9) 19 25 := by decide +kernel
theorem dX3_newName_19 : gd cX3_newName 19 (.aload_n 0) 1 20 := by decide +kernel
theorem dX3_newName_20 : decode cX3_newName 20 = .ok (.iconst 1, 1) ∧ 20 + 1 = 21 ∧ Int32.ofInt (1) = (1) := by decide +kernel
theorem dX3_newName_21 : gd cX3_newName 21 (.invokevirtual 66) 3 24 := by decide +kernel
theorem dX3_newName_24 : gd cX3_newName 24 (.ireturn) 1 25 := by decide +kernel
theorem dX3_newName_25 : gd cX3_newName 25 (.aload_n 0) 1 26 := by decide +kernel
theorem dX3_newName_26 : gd cX3_newName 26 (.getfield 16) 3 29 := by decide +kernel
theorem dX3_newName_29 : gd cX3_newName 29 (.invokevirtual 246) 3 32 := by decide +kernel
theorem dX3_newName_32 : gd cX3_newName 32 (.lstore_n 2) 1 33 := by decide +kernel
theorem dX3_newName_33 : gd cX3_newName 33 (.aload_n 0) 1 34 := by decide +kernel
theorem dX3_newName_34 : gd cX3_newName 34 (.lload_n 2) 1 35 := by decide +kernel
theorem dX3_newName_35 : gd cX3_newName 35 (.invokevirtual 250) 3 38 := by decide +kernel
theorem dX3_newName_38 : decode cX3_newName 38 = .ok (.iconst (-1), 1) ∧ 38 + 1 = 39 ∧ Int32.ofInt (-1) = (-1) := by decide +kernel
theorem dX3_newName_39 : gb cX3_newName 39 (.if_icmp .eq 9) (9) 42 48 := by decide +kernel
theorem dX3_newName_42 : gd cX3_newName 42 (.aload_n 0) 1 43 := by decide +kernel
theorem dX3_newName_43 : decode cX3_newName 43 = .ok (.iconst 3, 1) ∧ 43 + 1 = 44 ∧ Int32.ofInt (3) = (3) := by decide +kernel
theorem dX3_newName_44 : gd cX3_newName 44 (.invokevirtual 66) 3 47 := by decide +kernel
theorem dX3_newName_47 : gd cX3_newName 47 (.ireturn) 1 48 := by decide +kernel
theorem dX3_newName_48 : gd cX3_newName 48 (.aload_n 0) 1 49 := by decide +kernel
theorem dX3_newName_49 : gd cX3_newName 49 (.getfield 44) 3 52 := by decide +kernel
theorem dX3_newName_52 : decode cX3_newName 52 = .ok (.bipush 33, 2) ∧ 52 + 2 = 54 ∧ (Int8.ofInt (33)).toInt32 = (33) := by decide +kernel
theorem dX3_newName_54 : gb cX3_newName 54 (.if_icmp .ge 51) (51) 57 105 := by decide +kernel
theorem dX3_newName_57 : gd cX3_newName 57 (.aload_n 0) 1 58 := by decide +kernel
theorem dX3_newName_58 : gd cX3_newName 58 (.getfield 30) 3 61 := by decide +kernel
theorem dX3_newName_61 : gd cX3_newName 61 (.aload_n 0) 1 62 := by decide +kernel
theorem dX3_newName_62 : gd cX3_newName 62 (.getfield 44) 3 65 := by decide +kernel
theorem dX3_newName_65 : gd cX3_newName 65 (.lload_n 2) 1 66 := by decide +kernel
theorem dX3_newName_66 : gd cX3_newName 66 (.lastore) 1 67 := by decide +kernel
theorem dX3_newName_67 : gd cX3_newName 67 (.aload_n 0) 1 68 := by decide +kernel
theorem dX3_newName_68 : gd cX3_newName 68 (.getfield 34) 3 71 := by decide +kernel
theorem dX3_newName_71 : gd cX3_newName 71 (.aload_n 0) 1 72 := by decide +kernel
theorem dX3_newName_72 : gd cX3_newName 72 (.getfield 44) 3 75 := by decide +kernel
theorem dX3_newName_75 : gd cX3_newName 75 (.iload_n 1) 1 76 := by decide +kernel
theorem dX3_newName_76 : gd cX3_newName 76 (.iastore) 1 77 := by decide +kernel
theorem dX3_newName_77 : gd cX3_newName 77 (.aload_n 0) 1 78 := by decide +kernel
theorem dX3_newName_78 : gd cX3_newName 78 (.getfield 38) 3 81 := by decide +kernel
theorem dX3_newName_81 : gd cX3_newName 81 (.aload_n 0) 1 82 := by decide +kernel
theorem dX3_newName_82 : gd cX3_newName 82 (.getfield 44) 3 85 := by decide +kernel
theorem dX3_newName_85 : gd cX3_newName 85 (.aload_n 0) 1 86 := by decide +kernel
theorem dX3_newName_86 : gd cX3_newName 86 (.getfield 22) 3 89 := by decide +kernel
theorem dX3_newName_89 : gd cX3_newName 89 (.getfield 63) 3 92 := by decide +kernel
theorem dX3_newName_92 : gd cX3_newName 92 (.iload_n 1) 1 93 := by decide +kernel
theorem dX3_newName_93 : gd cX3_newName 93 (.iaload) 1 94 := by decide +kernel
theorem dX3_newName_94 : gd cX3_newName 94 (.iastore) 1 95 := by decide +kernel
theorem dX3_newName_95 : gd cX3_newName 95 (.aload_n 0) 1 96 := by decide +kernel
theorem dX3_newName_96 : gd cX3_newName 96 (.dup) 1 97 := by decide +kernel
theorem dX3_newName_97 : gd cX3_newName 97 (.getfield 44) 3 100 := by decide +kernel
theorem dX3_newName_100 : decode cX3_newName 100 = .ok (.iconst 1, 1) ∧ 100 + 1 = 101 ∧ Int32.ofInt (1) = (1) := by decide +kernel
theorem dX3_newName_101 : gd cX3_newName 101 (.iadd) 1 102 := by decide +kernel
theorem dX3_newName_102 : gd cX3_newName 102 (.putfield 44) 3 105 := by decide +kernel
theorem dX3_newName_105 : gd cX3_newName 105 (.aload_n 0) 1 106 := by decide +kernel
theorem dX3_newName_106 : gd cX3_newName 106 (.getfield 16) 3 109 := by decide +kernel
theorem dX3_newName_109 : gd cX3_newName 109 (.invokevirtual 70) 3 112 := by decide +kernel
theorem dX3_newName_112 : decode cX3_newName 112 = .ok (.iconst 1, 1) ∧ 112 + 1 = 113 ∧ Int32.ofInt (1) = (1) := by decide +kernel
theorem dX3_newName_113 : gd cX3_newName 113 (.ireturn) 1 114 := by decide +kernel
theorem dX3_knownName_0 : gd cX3_knownName 0 (.aload_n 0) 1 1 := by decide +kernel
theorem dX3_knownName_1 : gd cX3_knownName 1 (.getfield 16) 3 4 := by decide +kernel
theorem dX3_knownName_4 : gd cX3_knownName 4 (.getfield 60) 3 7 := by decide +kernel
theorem dX3_knownName_7 : decode cX3_knownName 7 = .ok (.iconst 1, 1) ∧ 7 + 1 = 8 ∧ Int32.ofInt (1) = (1) := by decide +kernel
theorem dX3_knownName_8 : gb cX3_knownName 8 (.if_icmp .ne 11) (11) 11 19 := by decide +kernel
theorem dX3_knownName_11 : gd cX3_knownName 11 (.aload_n 0) 1 12 := by decide +kernel
theorem dX3_knownName_12 : gd cX3_knownName 12 (.invokevirtual 104) 3 15 := by decide +kernel
theorem dX3_knownName_15 : decode cX3_knownName 15 = .ok (.iconst (-1), 1) ∧ 15 + 1 = 16 ∧ Int32.ofInt (-1) = (-1) := by decide +kernel
theorem dX3_knownName_16 : gb cX3_knownName 16 (.if_icmp .eq 9) (9) 19 25 := by decide +kernel
theorem dX3_knownName_19 : gd cX3_knownName 19 (.aload_n 0) 1 20 := by decide +kernel
theorem dX3_knownName_20 : decode cX3_knownName 20 = .ok (.iconst 1, 1) ∧ 20 + 1 = 21 ∧ Int32.ofInt (1) = (1) := by decide +kernel
theorem dX3_knownName_21 : gd cX3_knownName 21 (.invokevirtual 66) 3 24 := by decide +kernel
theorem dX3_knownName_24 : gd cX3_knownName 24 (.ireturn) 1 25 := by decide +kernel
theorem dX3_knownName_25 : gd cX3_knownName 25 (.aload_n 0) 1 26 := by decide +kernel
theorem dX3_knownName_26 : gd cX3_knownName 26 (.aload_n 0) 1 27 := by decide +kernel
theorem dX3_knownName_27 : gd cX3_knownName 27 (.getfield 16) 3 30 := by decide +kernel
theorem dX3_knownName_30 : gd cX3_knownName 30 (.invokevirtual 246) 3 33 := by decide +kernel
theorem dX3_knownName_33 : gd cX3_knownName 33 (.invokevirtual 250) 3 36 := by decide +kernel
theorem dX3_knownName_36 : gd cX3_knownName 36 (.istore_n 2) 1 37 := by decide +kernel
theorem dX3_knownName_37 : gd cX3_knownName 37 (.iload_n 2) 1 38 := by decide +kernel
theorem dX3_knownName_38 : decode cX3_knownName 38 = .ok (.iconst (-1), 1) ∧ 38 + 1 = 39 ∧ Int32.ofInt (-1) = (-1) := by decide +kernel
theorem dX3_knownName_39 : gb cX3_knownName 39 (.if_icmp .eq 13) (13) 42 52 := by decide +kernel
theorem dX3_knownName_42 : gd cX3_knownName 42 (.aload_n 0) 1 43 := by decide +kernel
theorem dX3_knownName_43 : gd cX3_knownName 43 (.getfield 34) 3 46 := by decide +kernel
theorem dX3_knownName_46 : gd cX3_knownName 46 (.iload_n 2) 1 47 := by decide +kernel
theorem dX3_knownName_47 : gd cX3_knownName 47 (.iaload) 1 48 := by decide +kernel
theorem dX3_knownName_48 : gd cX3_knownName 48 (.iload_n 1) 1 49 := by decide +kernel
theorem dX3_knownName_49 : gb cX3_knownName 49 (.if_icmp .eq 9) (9) 52 58 := by decide +kernel
theorem dX3_knownName_52 : gd cX3_knownName 52 (.aload_n 0) 1 53 := by decide +kernel
theorem dX3_knownName_53 : decode cX3_knownName 53 = .ok (.iconst 2, 1) ∧ 53 + 1 = 54 ∧ Int32.ofInt (2) = (2) := by decide +kernel
theorem dX3_knownName_54 : gd cX3_knownName 54 (.invokevirtual 66) 3 57 := by decide +kernel
theorem dX3_knownName_57 : gd cX3_knownName 57 (.ireturn) 1 58 := by decide +kernel
theorem dX3_knownName_58 : gd cX3_knownName 58 (.aload_n 0) 1 59 := by decide +kernel
theorem dX3_knownName_59 : gd cX3_knownName 59 (.aload_n 0) 1 60 := by decide +kernel
theorem dX3_knownName_60 : gd cX3_knownName 60 (.getfield 38) 3 63 := by decide +kernel
theorem dX3_knownName_63 : gd cX3_knownName 63 (.iload_n 2) 1 64 := by decide +kernel
theorem dX3_knownName_64 : gd cX3_knownName 64 (.iaload) 1 65 := by decide +kernel
theorem dX3_knownName_65 : gd cX3_knownName 65 (.putfield 117) 3 68 := by decide +kernel
theorem dX3_knownName_68 : decode cX3_knownName 68 = .ok (.iconst 1, 1) ∧ 68 + 1 = 69 ∧ Int32.ofInt (1) = (1) := by decide +kernel
theorem dX3_knownName_69 : gd cX3_knownName 69 (.ireturn) 1 70 := by decide +kernel
theorem dX3_rows_0 : gd cX3_rows 0 (.aload_n 0) 1 1 := by decide +kernel
theorem dX3_rows_1 : decode cX3_rows 1 = .ok (.iconst 0, 1) ∧ 1 + 1 = 2 ∧ Int32.ofInt (0) = (0) := by decide +kernel
theorem dX3_rows_2 : gd cX3_rows 2 (.putfield 181) 3 5 := by decide +kernel
theorem dX3_rows_5 : gd cX3_rows 5 (.aload_n 0) 1 6 := by decide +kernel
theorem dX3_rows_6 : decode cX3_rows 6 = .ok (.iconst 0, 1) ∧ 6 + 1 = 7 ∧ Int32.ofInt (0) = (0) := by decide +kernel
theorem dX3_rows_7 : gd cX3_rows 7 (.putfield 231) 3 10 := by decide +kernel
theorem dX3_rows_10 : decode cX3_rows 10 = .ok (.iconst 0, 1) ∧ 10 + 1 = 11 ∧ Int32.ofInt (0) = (0) := by decide +kernel
theorem dX3_rows_11 : gd cX3_rows 11 (.istore_n 2) 1 12 := by decide +kernel
theorem dX3_rows_12 : gd cX3_rows 12 (.iload_n 2) 1 13 := by decide +kernel
theorem dX3_rows_13 : gd cX3_rows 13 (.aload_n 0) 1 14 := by decide +kernel
theorem dX3_rows_14 : gd cX3_rows 14 (.getfield 22) 3 17 := by decide +kernel
theorem dX3_rows_17 : gd cX3_rows 17 (.getfield 124) 3 20 := by decide +kernel
theorem dX3_rows_20 : gb cX3_rows 20 (.if_icmp .ge 128) (128) 23 148 := by decide +kernel
theorem dX3_rows_23 : gd cX3_rows 23 (.iload_n 2) 1 24 := by decide +kernel
theorem dX3_rows_24 : gb cX3_rows 24 (.ifCond .le 24) (24) 27 48 := by decide +kernel
theorem dX3_rows_27 : gd cX3_rows 27 (.aload_n 0) 1 28 := by decide +kernel
theorem dX3_rows_28 : gd cX3_rows 28 (.getfield 16) 3 31 := by decide +kernel
theorem dX3_rows_31 : gd cX3_rows 31 (.getfield 60) 3 34 := by decide +kernel
theorem dX3_rows_34 : decode cX3_rows 34 = .ok (.iconst 4, 1) ∧ 34 + 1 = 35 ∧ Int32.ofInt (4) = (4) := by decide +kernel
theorem dX3_rows_35 : gb cX3_rows 35 (.if_icmp .ne 13) (13) 38 48 := by decide +kernel
theorem dX3_rows_38 : gd cX3_rows 38 (.aload_n 0) 1 39 := by decide +kernel
theorem dX3_rows_39 : gd cX3_rows 39 (.getfield 16) 3 42 := by decide +kernel
theorem dX3_rows_42 : gd cX3_rows 42 (.invokevirtual 70) 3 45 := by decide +kernel
theorem dX3_rows_45 : gb cX3_rows 45 (.goto 49) (49) 48 94 := by decide +kernel
theorem dX3_rows_48 : gd cX3_rows 48 (.iload_n 2) 1 49 := by decide +kernel
theorem dX3_rows_49 : gb cX3_rows 49 (.ifCond .le 45) (45) 52 94 := by decide +kernel
theorem dX3_rows_52 : gd cX3_rows 52 (.aload_n 0) 1 53 := by decide +kernel
theorem dX3_rows_53 : gd cX3_rows 53 (.getfield 16) 3 56 := by decide +kernel
theorem dX3_rows_56 : gd cX3_rows 56 (.getfield 60) 3 59 := by decide +kernel
theorem dX3_rows_59 : decode cX3_rows 59 = .ok (.iconst 3, 1) ∧ 59 + 1 = 60 ∧ Int32.ofInt (3) = (3) := by decide +kernel
theorem dX3_rows_60 : gb cX3_rows 60 (.if_icmp .eq 13) (13) 63 73 := by decide +kernel
theorem dX3_rows_63 : gd cX3_rows 63 (.aload_n 0) 1 64 := by decide +kernel
theorem dX3_rows_64 : gd cX3_rows 64 (.getfield 16) 3 67 := by decide +kernel
theorem dX3_rows_67 : gd cX3_rows 67 (.getfield 60) 3 70 := by decide +kernel
theorem dX3_rows_70 : gb cX3_rows 70 (.ifCond .ne 7) (7) 73 77 := by decide +kernel
theorem dX3_rows_73 : decode cX3_rows 73 = .ok (.iconst 1, 1) ∧ 73 + 1 = 74 ∧ Int32.ofInt (1) = (1) := by decide +kernel
theorem dX3_rows_74 : gb cX3_rows 74 (.goto 4) (4) 77 78 := by decide +kernel
theorem dX3_rows_77 : decode cX3_rows 77 = .ok (.iconst 0, 1) ∧ 77 + 1 = 78 ∧ Int32.ofInt (0) = (0) := by decide +kernel
theorem dX3_rows_78 : gd cX3_rows 78 (.istore_n 3) 1 79 := by decide +kernel
theorem dX3_rows_79 : gd cX3_rows 79 (.aload_n 0) 1 80 := by decide +kernel
theorem dX3_rows_80 : gd cX3_rows 80 (.iload_n 3) 1 81 := by decide +kernel
theorem dX3_rows_81 : gb cX3_rows 81 (.ifCond .eq 8) (8) 84 89 := by decide +kernel
theorem dX3_rows_84 : decode cX3_rows 84 = .ok (.bipush 6, 2) ∧ 84 + 2 = 86 ∧ (Int8.ofInt (6)).toInt32 = (6) := by decide +kernel
theorem dX3_rows_86 : gb cX3_rows 86 (.goto 4) (4) 89 90 := by decide +kernel
theorem dX3_rows_89 : decode cX3_rows 89 = .ok (.iconst 1, 1) ∧ 89 + 1 = 90 ∧ Int32.ofInt (1) = (1) := by decide +kernel
theorem dX3_rows_90 : gd cX3_rows 90 (.invokevirtual 66) 3 93 := by decide +kernel
theorem dX3_rows_93 : gd cX3_rows 93 (.ireturn) 1 94 := by decide +kernel
theorem dX3_rows_94 : gd cX3_rows 94 (.aload_n 0) 1 95 := by decide +kernel
theorem dX3_rows_95 : gd cX3_rows 95 (.getfield 16) 3 98 := by decide +kernel
theorem dX3_rows_98 : gd cX3_rows 98 (.getfield 60) 3 101 := by decide +kernel
theorem dX3_rows_101 : decode cX3_rows 101 = .ok (.iconst 1, 1) ∧ 101 + 1 = 102 ∧ Int32.ofInt (1) = (1) := by decide +kernel
theorem dX3_rows_102 : gb cX3_rows 102 (.if_icmp .eq 9) (9) 105 111 := by decide +kernel
theorem dX3_rows_105 : gd cX3_rows 105 (.aload_n 0) 1 106 := by decide +kernel
theorem dX3_rows_106 : decode cX3_rows 106 = .ok (.iconst 1, 1) ∧ 106 + 1 = 107 ∧ Int32.ofInt (1) = (1) := by decide +kernel
theorem dX3_rows_107 : gd cX3_rows 107 (.invokevirtual 66) 3 110 := by decide +kernel
theorem dX3_rows_110 : gd cX3_rows 110 (.ireturn) 1 111 := by decide +kernel
theorem dX3_rows_111 : gd cX3_rows 111 (.aload_n 0) 1 112 := by decide +kernel
theorem dX3_rows_112 : gd cX3_rows 112 (.iload_n 2) 1 113 := by decide +kernel
theorem dX3_rows_113 : gd cX3_rows 113 (.aload_n 0) 1 114 := by decide +kernel
theorem dX3_rows_114 : gd cX3_rows 114 (.getfield 22) 3 117 := by decide +kernel
theorem dX3_rows_117 : gd cX3_rows 117 (.getfield 120) 3 120 := by decide +kernel
theorem dX3_rows_120 : gd cX3_rows 120 (.imul) 1 121 := by decide +kernel
theorem dX3_rows_121 : gd cX3_rows 121 (.iload_n 1) 1 122 := by decide +kernel
theorem dX3_rows_122 : gd cX3_rows 122 (.invokevirtual 254) 3 125 := by decide +kernel
theorem dX3_rows_125 : gb cX3_rows 125 (.ifCond .ne 10) (10) 128 135 := by decide +kernel
theorem dX3_rows_128 : gd cX3_rows 128 (.aload_n 0) 1 129 := by decide +kernel
theorem dX3_rows_129 : decode cX3_rows 129 = .ok (.bipush 7, 2) ∧ 129 + 2 = 131 ∧ (Int8.ofInt (7)).toInt32 = (7) := by decide +kernel
theorem dX3_rows_131 : gd cX3_rows 131 (.invokevirtual 66) 3 134 := by decide +kernel
theorem dX3_rows_134 : gd cX3_rows 134 (.ireturn) 1 135 := by decide +kernel
theorem dX3_rows_135 : gd cX3_rows 135 (.aload_n 0) 1 136 := by decide +kernel
theorem dX3_rows_136 : gd cX3_rows 136 (.getfield 16) 3 139 := by decide +kernel
theorem dX3_rows_139 : gd cX3_rows 139 (.invokevirtual 70) 3 142 := by decide +kernel
theorem dX3_rows_142 : decode cX3_rows 142 = .ok (.iinc 2 1, 3) ∧ 142 + 3 = 145 ∧ Int32.ofInt (1) = (1) := by decide +kernel
theorem dX3_rows_145 : gb cX3_rows 145 (.goto (-133)) (-133) 148 12 := by decide +kernel
theorem dX3_rows_148 : decode cX3_rows 148 = .ok (.iconst 1, 1) ∧ 148 + 1 = 149 ∧ Int32.ofInt (1) = (1) := by decide +kernel
theorem dX3_rows_149 : gd cX3_rows 149 (.ireturn) 1 150 := by decide +kernel
theorem dX3_row_0 : gd cX3_row 0 (.aload_n 0) 1 1 := by decide +kernel
theorem dX3_row_1 : gd cX3_row 1 (.getfield 16) 3 4 := by decide +kernel
theorem dX3_row_4 : gd cX3_row 4 (.getfield 258) 3 7 := by decide +kernel
theorem dX3_row_7 : gd cX3_row 7 (.aload_n 0) 1 8 := by decide +kernel
theorem dX3_row_8 : gd cX3_row 8 (.getfield 22) 3 11 := by decide +kernel
theorem dX3_row_11 : gd cX3_row 11 (.getfield 120) 3 14 := by decide +kernel
theorem dX3_row_14 : gb cX3_row 14 (.if_icmp .eq 5) (5) 17 19 := by decide +kernel
theorem dX3_row_17 : decode cX3_row 17 = .ok (.iconst 0, 1) ∧ 17 + 1 = 18 ∧ Int32.ofInt (0) = (0) := by decide +kernel
theorem dX3_row_18 : gd cX3_row 18 (.ireturn) 1 19 := by decide +kernel
theorem dX3_row_19 : decode cX3_row 19 = .ok (.iconst 0, 1) ∧ 19 + 1 = 20 ∧ Int32.ofInt (0) = (0) := by decide +kernel
theorem dX3_row_20 : gd cX3_row 20 (.istore_n 3) 1 21 := by decide +kernel
theorem dX3_row_21 : gd cX3_row 21 (.iload_n 3) 1 22 := by decide +kernel
theorem dX3_row_22 : gd cX3_row 22 (.aload_n 0) 1 23 := by decide +kernel
theorem dX3_row_23 : gd cX3_row 23 (.getfield 16) 3 26 := by decide +kernel
theorem dX3_row_26 : gd cX3_row 26 (.getfield 258) 3 29 := by decide +kernel
theorem dX3_row_29 : gb cX3_row 29 (.if_icmp .ge 98) (98) 32 127 := by decide +kernel
theorem dX3_row_32 : gd cX3_row 32 (.aload_n 0) 1 33 := by decide +kernel
theorem dX3_row_33 : gd cX3_row 33 (.getfield 16) 3 36 := by decide +kernel
theorem dX3_row_36 : gd cX3_row 36 (.iload_n 3) 1 37 := by decide +kernel
theorem dX3_row_37 : gd cX3_row 37 (.invokevirtual 261) 3 40 := by decide +kernel
theorem dX3_row_40 : gd cX3_row 40 (.istore 4) 2 42 := by decide +kernel
theorem dX3_row_42 : gd cX3_row 42 (.iload_n 2) 1 43 := by decide +kernel
theorem dX3_row_43 : gb cX3_row 43 (.ifCond .eq 14) (14) 46 57 := by decide +kernel
theorem dX3_row_46 : gd cX3_row 46 (.iload 4) 2 48 := by decide +kernel
theorem dX3_row_48 : decode cX3_row 48 = .ok (.bipush 109, 2) ∧ 48 + 2 = 50 ∧ (Int8.ofInt (109)).toInt32 = (109) := by decide +kernel
theorem dX3_row_50 : gb cX3_row 50 (.if_icmp .ne 7) (7) 53 57 := by decide +kernel
theorem dX3_row_53 : decode cX3_row 53 = .ok (.iconst 1, 1) ∧ 53 + 1 = 54 ∧ Int32.ofInt (1) = (1) := by decide +kernel
theorem dX3_row_54 : gb cX3_row 54 (.goto 4) (4) 57 58 := by decide +kernel
theorem dX3_row_57 : decode cX3_row 57 = .ok (.iconst 0, 1) ∧ 57 + 1 = 58 ∧ Int32.ofInt (0) = (0) := by decide +kernel
theorem dX3_row_58 : gd cX3_row 58 (.istore 5) 2 60 := by decide +kernel
theorem dX3_row_60 : gd cX3_row 60 (.iload 4) 2 62 := by decide +kernel
theorem dX3_row_62 : decode cX3_row 62 = .ok (.bipush 111, 2) ∧ 62 + 2 = 64 ∧ (Int8.ofInt (111)).toInt32 = (111) := by decide +kernel
theorem dX3_row_64 : gb cX3_row 64 (.if_icmp .eq 17) (17) 67 81 := by decide +kernel
theorem dX3_row_67 : gd cX3_row 67 (.iload 4) 2 69 := by decide +kernel
theorem dX3_row_69 : decode cX3_row 69 = .ok (.bipush 120, 2) ∧ 69 + 2 = 71 ∧ (Int8.ofInt (120)).toInt32 = (120) := by decide +kernel
theorem dX3_row_71 : gb cX3_row 71 (.if_icmp .eq 10) (10) 74 81 := by decide +kernel
theorem dX3_row_74 : gd cX3_row 74 (.iload 5) 2 76 := by decide +kernel
theorem dX3_row_76 : gb cX3_row 76 (.ifCond .ne 5) (5) 79 81 := by decide +kernel
theorem dX3_row_79 : decode cX3_row 79 = .ok (.iconst 0, 1) ∧ 79 + 1 = 80 ∧ Int32.ofInt (0) = (0) := by decide +kernel
theorem dX3_row_80 : gd cX3_row 80 (.ireturn) 1 81 := by decide +kernel
theorem dX3_row_81 : gd cX3_row 81 (.iload 4) 2 83 := by decide +kernel
theorem dX3_row_83 : decode cX3_row 83 = .ok (.bipush 120, 2) ∧ 83 + 2 = 85 ∧ (Int8.ofInt (120)).toInt32 = (120) := by decide +kernel
theorem dX3_row_85 : gb cX3_row 85 (.if_icmp .ne 17) (17) 88 102 := by decide +kernel
theorem dX3_row_88 : gd cX3_row 88 (.aload_n 0) 1 89 := by decide +kernel
theorem dX3_row_89 : gd cX3_row 89 (.dup) 1 90 := by decide +kernel
theorem dX3_row_90 : gd cX3_row 90 (.getfield 181) 3 93 := by decide +kernel
theorem dX3_row_93 : decode cX3_row 93 = .ok (.iconst 1, 1) ∧ 93 + 1 = 94 ∧ Int32.ofInt (1) = (1) := by decide +kernel
theorem dX3_row_94 : gd cX3_row 94 (.iload_n 1) 1 95 := by decide +kernel
theorem dX3_row_95 : gd cX3_row 95 (.iload_n 3) 1 96 := by decide +kernel
theorem dX3_row_96 : gd cX3_row 96 (.iadd) 1 97 := by decide +kernel
theorem dX3_row_97 : gd cX3_row 97 (.ishl) 1 98 := by decide +kernel
theorem dX3_row_98 : gd cX3_row 98 (.ior) 1 99 := by decide +kernel
theorem dX3_row_99 : gd cX3_row 99 (.putfield 181) 3 102 := by decide +kernel
theorem dX3_row_102 : gd cX3_row 102 (.iload 5) 2 104 := by decide +kernel
theorem dX3_row_104 : gb cX3_row 104 (.ifCond .ne 17) (17) 107 121 := by decide +kernel
theorem dX3_row_107 : gd cX3_row 107 (.aload_n 0) 1 108 := by decide +kernel
theorem dX3_row_108 : gd cX3_row 108 (.dup) 1 109 := by decide +kernel
theorem dX3_row_109 : gd cX3_row 109 (.getfield 231) 3 112 := by decide +kernel
theorem dX3_row_112 : decode cX3_row 112 = .ok (.iconst 1, 1) ∧ 112 + 1 = 113 ∧ Int32.ofInt (1) = (1) := by decide +kernel
theorem dX3_row_113 : gd cX3_row 113 (.iload_n 1) 1 114 := by decide +kernel
theorem dX3_row_114 : gd cX3_row 114 (.iload_n 3) 1 115 := by decide +kernel
theorem dX3_row_115 : gd cX3_row 115 (.iadd) 1 116 := by decide +kernel
theorem dX3_row_116 : gd cX3_row 116 (.ishl) 1 117 := by decide +kernel
theorem dX3_row_117 : gd cX3_row 117 (.ior) 1 118 := by decide +kernel
theorem dX3_row_118 : gd cX3_row 118 (.putfield 231) 3 121 := by decide +kernel
theorem dX3_row_121 : decode cX3_row 121 = .ok (.iinc 3 1, 3) ∧ 121 + 3 = 124 ∧ Int32.ofInt (1) = (1) := by decide +kernel
theorem dX3_row_124 : gb cX3_row 124 (.goto (-103)) (-103) 127 21 := by decide +kernel
theorem dX3_row_127 : decode cX3_row 127 = .ok (.iconst 1, 1) ∧ 127 + 1 = 128 ∧ Int32.ofInt (1) = (1) := by decide +kernel
theorem dX3_row_128 : gd cX3_row 128 (.ireturn) 1 129 := by decide +kernel
