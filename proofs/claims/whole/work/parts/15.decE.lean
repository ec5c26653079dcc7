/-! DECODE ROWS, by program -/
theorem dX9_init_0 : gd cX9_init 0 (.aload_n 0) 1 1 := by decide +kernel
theorem dX9_init_1 : gd cX9_init 1 (.invokespecial 3) 3 4 := by decide +kernel
theorem dX9_init_4 : gd cX9_init 4 (.aload_n 0) 1 5 := by decide +kernel
theorem dX9_init_5 : decode cX9_init 5 = .ok (.iconst (-1), 1) ∧ 5 + 1 = 6 ∧ Int32.ofInt (-1) = (-1) := by decide +kernel
theorem dX9_init_6 : gd cX9_init 6 (.putfield 9) 3 9 := by decide +kernel
theorem dX9_init_9 : gd cX9_init 9 (.aload_n 0) 1 10 := by decide +kernel
theorem dX9_init_10 : decode cX9_init 10 = .ok (.bipush 8, 2) ∧ 10 + 2 = 12 ∧ (Int8.ofInt (8)).toInt32 = (8) := by decide +kernel
theorem dX9_init_12 : gd cX9_init 12 (.newarray .int) 2 14 := by decide +kernel
theorem dX9_init_14 : gd cX9_init 14 (.putfield 15) 3 17 := by decide +kernel
theorem dX9_init_17 : gd cX9_init 17 (.aload_n 0) 1 18 := by decide +kernel
theorem dX9_init_18 : decode cX9_init 18 = .ok (.bipush 8, 2) ∧ 18 + 2 = 20 ∧ (Int8.ofInt (8)).toInt32 = (8) := by decide +kernel
theorem dX9_init_20 : gd cX9_init 20 (.newarray .int) 2 22 := by decide +kernel
theorem dX9_init_22 : gd cX9_init 22 (.putfield 19) 3 25 := by decide +kernel
theorem dX9_init_25 : gd cX9_init 25 (.aload_n 0) 1 26 := by decide +kernel
theorem dX9_init_26 : decode cX9_init 26 = .ok (.bipush 8, 2) ∧ 26 + 2 = 28 ∧ (Int8.ofInt (8)).toInt32 = (8) := by decide +kernel
theorem dX9_init_28 : gd cX9_init 28 (.newarray .int) 2 30 := by decide +kernel
theorem dX9_init_30 : gd cX9_init 30 (.putfield 22) 3 33 := by decide +kernel
theorem dX9_init_33 : gd cX9_init 33 (.aload_n 0) 1 34 := by decide +kernel
theorem dX9_init_34 : decode cX9_init 34 = .ok (.bipush 6, 2) ∧ 34 + 2 = 36 ∧ (Int8.ofInt (6)).toInt32 = (6) := by decide +kernel
theorem dX9_init_36 : gd cX9_init 36 (.newarray .int) 2 38 := by decide +kernel
theorem dX9_init_38 : gd cX9_init 38 (.putfield 25) 3 41 := by decide +kernel
theorem dX9_init_41 : gd cX9_init 41 (.aload_n 0) 1 42 := by decide +kernel
theorem dX9_init_42 : decode cX9_init 42 = .ok (.bipush 7, 2) ∧ 42 + 2 = 44 ∧ (Int8.ofInt (7)).toInt32 = (7) := by decide +kernel
theorem dX9_init_44 : gd cX9_init 44 (.newarray .int) 2 46 := by decide +kernel
theorem dX9_init_46 : gd cX9_init 46 (.putfield 28) 3 49 := by decide +kernel
theorem dX9_init_49 : gd cX9_init 49 (.aload_n 0) 1 50 := by decide +kernel
theorem dX9_init_50 : decode cX9_init 50 = .ok (.bipush 49, 2) ∧ 50 + 2 = 52 ∧ (Int8.ofInt (49)).toInt32 = (49) := by decide +kernel
theorem dX9_init_52 : gd cX9_init 52 (.newarray .int) 2 54 := by decide +kernel
theorem dX9_init_54 : gd cX9_init 54 (.putfield 31) 3 57 := by decide +kernel
theorem dX9_init_57 : gd cX9_init 57 (.aload_n 0) 1 58 := by decide +kernel
theorem dX9_init_58 : decode cX9_init 58 = .ok (.bipush 49, 2) ∧ 58 + 2 = 60 ∧ (Int8.ofInt (49)).toInt32 = (49) := by decide +kernel
theorem dX9_init_60 : gd cX9_init 60 (.newarray .int) 2 62 := by decide +kernel
theorem dX9_init_62 : gd cX9_init 62 (.putfield 34) 3 65 := by decide +kernel
theorem dX9_init_65 : gd cX9_init 65 (.aload_n 0) 1 66 := by decide +kernel
theorem dX9_init_66 : decode cX9_init 66 = .ok (.bipush 6, 2) ∧ 66 + 2 = 68 ∧ (Int8.ofInt (6)).toInt32 = (6) := by decide +kernel
theorem dX9_init_68 : gd cX9_init 68 (.newarray .int) 2 70 := by decide +kernel
theorem dX9_init_70 : gd cX9_init 70 (.putfield 37) 3 73 := by decide +kernel
theorem dX9_init_73 : gd cX9_init 73 (.aload_n 0) 1 74 := by decide +kernel
theorem dX9_init_74 : decode cX9_init 74 = .ok (.bipush 6, 2) ∧ 74 + 2 = 76 ∧ (Int8.ofInt (6)).toInt32 = (6) := by decide +kernel
theorem dX9_init_76 : gd cX9_init 76 (.newarray .int) 2 78 := by decide +kernel
theorem dX9_init_78 : gd cX9_init 78 (.putfield 40) 3 81 := by decide +kernel
theorem dX9_init_81 : gd cX9_init 81 (.aload_n 0) 1 82 := by decide +kernel
theorem dX9_init_82 : decode cX9_init 82 = .ok (.bipush 6, 2) ∧ 82 + 2 = 84 ∧ (Int8.ofInt (6)).toInt32 = (6) := by decide +kernel
theorem dX9_init_84 : gd cX9_init 84 (.newarray .int) 2 86 := by decide +kernel
theorem dX9_init_86 : gd cX9_init 86 (.putfield 43) 3 89 := by decide +kernel
theorem dX9_init_89 : gd cX9_init 89 (.aload_n 0) 1 90 := by decide +kernel
theorem dX9_init_90 : decode cX9_init 90 = .ok (.bipush 8, 2) ∧ 90 + 2 = 92 ∧ (Int8.ofInt (8)).toInt32 = (8) := by decide +kernel
theorem dX9_init_92 : gd cX9_init 92 (.newarray .int) 2 94 := by decide +kernel
theorem dX9_init_94 : gd cX9_init 94 (.putfield 46) 3 97 := by decide +kernel
theorem dX9_init_97 : gd cX9_init 97 (.aload_n 0) 1 98 := by decide +kernel
theorem dX9_init_98 : decode cX9_init 98 = .ok (.bipush 8, 2) ∧ 98 + 2 = 100 ∧ (Int8.ofInt (8)).toInt32 = (8) := by decide +kernel
theorem dX9_init_100 : gd cX9_init 100 (.newarray .int) 2 102 := by decide +kernel
theorem dX9_init_102 : gd cX9_init 102 (.putfield 49) 3 105 := by decide +kernel
theorem dX9_init_105 : gd cX9_init 105 (.aload_n 0) 1 106 := by decide +kernel
theorem dX9_init_106 : decode cX9_init 106 = .ok (.bipush 8, 2) ∧ 106 + 2 = 108 ∧ (Int8.ofInt (8)).toInt32 = (8) := by decide +kernel
theorem dX9_init_108 : gd cX9_init 108 (.newarray .int) 2 110 := by decide +kernel
theorem dX9_init_110 : gd cX9_init 110 (.putfield 52) 3 113 := by decide +kernel
theorem dX9_init_113 : gd cX9_init 113 (.aload_n 0) 1 114 := by decide +kernel
theorem dX9_init_114 : decode cX9_init 114 = .ok (.bipush 33, 2) ∧ 114 + 2 = 116 ∧ (Int8.ofInt (33)).toInt32 = (33) := by decide +kernel
theorem dX9_init_116 : gd cX9_init 116 (.newarray .long) 2 118 := by decide +kernel
theorem dX9_init_118 : gd cX9_init 118 (.putfield 55) 3 121 := by decide +kernel
theorem dX9_init_121 : gd cX9_init 121 (.aload_n 0) 1 122 := by decide +kernel
theorem dX9_init_122 : decode cX9_init 122 = .ok (.bipush 33, 2) ∧ 122 + 2 = 124 ∧ (Int8.ofInt (33)).toInt32 = (33) := by decide +kernel
theorem dX9_init_124 : gd cX9_init 124 (.newarray .int) 2 126 := by decide +kernel
theorem dX9_init_126 : gd cX9_init 126 (.putfield 59) 3 129 := by decide +kernel
theorem dX9_init_129 : gd cX9_init 129 (.aload_n 0) 1 130 := by decide +kernel
theorem dX9_init_130 : decode cX9_init 130 = .ok (.bipush 33, 2) ∧ 130 + 2 = 132 ∧ (Int8.ofInt (33)).toInt32 = (33) := by decide +kernel
theorem dX9_init_132 : gd cX9_init 132 (.newarray .int) 2 134 := by decide +kernel
theorem dX9_init_134 : gd cX9_init 134 (.putfield 62) 3 137 := by decide +kernel
theorem dX9_init_137 : gd cX9_init 137 (.return_) 1 138 := by decide +kernel
theorem dX9_find_0 : decode cX9_find 0 = .ok (.iconst 0, 1) ∧ 0 + 1 = 1 ∧ Int32.ofInt (0) = (0) := by decide +kernel
theorem dX9_find_1 : gd cX9_find 1 (.istore_n 3) 1 2 := by decide +kernel
theorem dX9_find_2 : gd cX9_find 2 (.iload_n 3) 1 3 := by decide +kernel
theorem dX9_find_3 : gd cX9_find 3 (.aload_n 0) 1 4 := by decide +kernel
theorem dX9_find_4 : gd cX9_find 4 (.getfield 65) 3 7 := by decide +kernel
theorem dX9_find_7 : gb cX9_find 7 (.if_icmp .ge 22) (22) 10 29 := by decide +kernel
theorem dX9_find_10 : gd cX9_find 10 (.aload_n 0) 1 11 := by decide +kernel
theorem dX9_find_11 : gd cX9_find 11 (.getfield 55) 3 14 := by decide +kernel
theorem dX9_find_14 : gd cX9_find 14 (.iload_n 3) 1 15 := by decide +kernel
theorem dX9_find_15 : gd cX9_find 15 (.laload) 1 16 := by decide +kernel
theorem dX9_find_16 : gd cX9_find 16 (.lload_n 1) 1 17 := by decide +kernel
theorem dX9_find_17 : gd cX9_find 17 (.lcmp) 1 18 := by decide +kernel
theorem dX9_find_18 : gb cX9_find 18 (.ifCond .ne 5) (5) 21 23 := by decide +kernel
theorem dX9_find_21 : gd cX9_find 21 (.iload_n 3) 1 22 := by decide +kernel
theorem dX9_find_22 : gd cX9_find 22 (.ireturn) 1 23 := by decide +kernel
theorem dX9_find_23 : decode cX9_find 23 = .ok (.iinc 3 1, 3) ∧ 23 + 3 = 26 ∧ Int32.ofInt (1) = (1) := by decide +kernel
theorem dX9_find_26 : gb cX9_find 26 (.goto (-24)) (-24) 29 2 := by decide +kernel
theorem dX9_find_29 : decode cX9_find 29 = .ok (.iconst (-1), 1) ∧ 29 + 1 = 30 ∧ Int32.ofInt (-1) = (-1) := by decide +kernel
theorem dX9_find_30 : gd cX9_find 30 (.ireturn) 1 31 := by decide +kernel
theorem dX9_cells_0 : gd cX9_cells 0 (.aload_n 0) 1 1 := by decide +kernel
theorem dX9_cells_1 : gd cX9_cells 1 (.getfield 68) 3 4 := by decide +kernel
theorem dX9_cells_4 : gd cX9_cells 4 (.aload_n 0) 1 5 := by decide +kernel
theorem dX9_cells_5 : gd cX9_cells 5 (.getfield 71) 3 8 := by decide +kernel
theorem dX9_cells_8 : gd cX9_cells 8 (.imul) 1 9 := by decide +kernel
theorem dX9_cells_9 : gd cX9_cells 9 (.ireturn) 1 10 := by decide +kernel
theorem dX9_all_0 : decode cX9_all 0 = .ok (.iconst 1, 1) ∧ 0 + 1 = 1 ∧ Int32.ofInt (1) = (1) := by decide +kernel
theorem dX9_all_1 : gd cX9_all 1 (.aload_n 0) 1 2 := by decide +kernel
theorem dX9_all_2 : gd cX9_all 2 (.getfield 68) 3 5 := by decide +kernel
theorem dX9_all_5 : gd cX9_all 5 (.aload_n 0) 1 6 := by decide +kernel
theorem dX9_all_6 : gd cX9_all 6 (.getfield 71) 3 9 := by decide +kernel
theorem dX9_all_9 : gd cX9_all 9 (.imul) 1 10 := by decide +kernel
theorem dX9_all_10 : gd cX9_all 10 (.ishl) 1 11 := by decide +kernel
theorem dX9_all_11 : decode cX9_all 11 = .ok (.iconst 1, 1) ∧ 11 + 1 = 12 ∧ Int32.ofInt (1) = (1) := by decide +kernel
theorem dX9_all_12 : gd cX9_all 12 (.isub) 1 13 := by decide +kernel
theorem dX9_all_13 : gd cX9_all 13 (.ireturn) 1 14 := by decide +kernel
theorem dX9_isThief_0 : gd cX9_isThief 0 (.aload_n 0) 1 1 := by decide +kernel
theorem dX9_isThief_1 : gd cX9_isThief 1 (.getfield 74) 3 4 := by decide +kernel
theorem dX9_isThief_4 : gd cX9_isThief 4 (.iload_n 1) 1 5 := by decide +kernel
theorem dX9_isThief_5 : gd cX9_isThief 5 (.ishr) 1 6 := by decide +kernel
theorem dX9_isThief_6 : decode cX9_isThief 6 = .ok (.iconst 1, 1) ∧ 6 + 1 = 7 ∧ Int32.ofInt (1) = (1) := by decide +kernel
theorem dX9_isThief_7 : gd cX9_isThief 7 (.iand) 1 8 := by decide +kernel
theorem dX9_isThief_8 : decode cX9_isThief 8 = .ok (.iconst 1, 1) ∧ 8 + 1 = 9 ∧ Int32.ofInt (1) = (1) := by decide +kernel
theorem dX9_isThief_9 : gb cX9_isThief 9 (.if_icmp .ne 7) (7) 12 16 := by decide +kernel
theorem dX9_isThief_12 : decode cX9_isThief 12 = .ok (.iconst 1, 1) ∧ 12 + 1 = 13 ∧ Int32.ofInt (1) = (1) := by decide +kernel
theorem dX9_isThief_13 : gb cX9_isThief 13 (.goto 4) (4) 16 17 := by decide +kernel
theorem dX9_isThief_16 : decode cX9_isThief 16 = .ok (.iconst 0, 1) ∧ 16 + 1 = 17 ∧ Int32.ofInt (0) = (0) := by decide +kernel
theorem dX9_isThief_17 : gd cX9_isThief 17 (.ireturn) 1 18 := by decide +kernel
theorem dX10_init_0 : gd cX10_init 0 (.aload_n 0) 1 1 := by decide +kernel
theorem dX10_init_1 : gd cX10_init 1 (.invokespecial 3) 3 4 := by decide +kernel
theorem dX10_init_4 : gd cX10_init 4 (.aload_n 0) 1 5 := by decide +kernel
theorem dX10_init_5 : decode cX10_init 5 = .ok (.iconst (-1), 1) ∧ 5 + 1 = 6 ∧ Int32.ofInt (-1) = (-1) := by decide +kernel
theorem dX10_init_6 : gd cX10_init 6 (.putfield 9) 3 9 := by decide +kernel
theorem dX10_init_9 : gd cX10_init 9 (.aload_n 0) 1 10 := by decide +kernel
theorem dX10_init_10 : decode cX10_init 10 = .ok (.sipush 1100, 3) ∧ 10 + 3 = 13 ∧ (Int16.ofInt (1100)).toInt32 = (1100) := by decide +kernel
theorem dX10_init_13 : gd cX10_init 13 (.newarray .byte) 2 15 := by decide +kernel
theorem dX10_init_15 : gd cX10_init 15 (.putfield 13) 3 18 := by decide +kernel
theorem dX10_init_18 : gd cX10_init 18 (.aload_n 0) 1 19 := by decide +kernel
theorem dX10_init_19 : decode cX10_init 19 = .ok (.bipush 17, 2) ∧ 19 + 2 = 21 ∧ (Int8.ofInt (17)).toInt32 = (17) := by decide +kernel
theorem dX10_init_21 : gd cX10_init 21 (.newarray .int) 2 23 := by decide +kernel
theorem dX10_init_23 : gd cX10_init 23 (.putfield 17) 3 26 := by decide +kernel
theorem dX10_init_26 : gd cX10_init 26 (.aload_n 0) 1 27 := by decide +kernel
theorem dX10_init_27 : decode cX10_init 27 = .ok (.sipush 272, 3) ∧ 27 + 3 = 30 ∧ (Int16.ofInt (272)).toInt32 = (272) := by decide +kernel
theorem dX10_init_30 : gd cX10_init 30 (.newarray .int) 2 32 := by decide +kernel
theorem dX10_init_32 : gd cX10_init 32 (.putfield 21) 3 35 := by decide +kernel
theorem dX10_init_35 : gd cX10_init 35 (.aload_n 0) 1 36 := by decide +kernel
theorem dX10_init_36 : decode cX10_init 36 = .ok (.bipush 51, 2) ∧ 36 + 2 = 38 ∧ (Int8.ofInt (51)).toInt32 = (51) := by decide +kernel
theorem dX10_init_38 : gd cX10_init 38 (.newarray .int) 2 40 := by decide +kernel
theorem dX10_init_40 : gd cX10_init 40 (.putfield 24) 3 43 := by decide +kernel
theorem dX10_init_43 : gd cX10_init 43 (.aload_n 0) 1 44 := by decide +kernel
theorem dX10_init_44 : decode cX10_init 44 = .ok (.bipush 7, 2) ∧ 44 + 2 = 46 ∧ (Int8.ofInt (7)).toInt32 = (7) := by decide +kernel
theorem dX10_init_46 : gd cX10_init 46 (.newarray .int) 2 48 := by decide +kernel
theorem dX10_init_48 : gd cX10_init 48 (.putfield 27) 3 51 := by decide +kernel
theorem dX10_init_51 : gd cX10_init 51 (.aload_n 0) 1 52 := by decide +kernel
theorem dX10_init_52 : decode cX10_init 52 = .ok (.bipush 7, 2) ∧ 52 + 2 = 54 ∧ (Int8.ofInt (7)).toInt32 = (7) := by decide +kernel
theorem dX10_init_54 : gd cX10_init 54 (.newarray .int) 2 56 := by decide +kernel
theorem dX10_init_56 : gd cX10_init 56 (.putfield 30) 3 59 := by decide +kernel
theorem dX10_init_59 : gd cX10_init 59 (.aload_n 0) 1 60 := by decide +kernel
theorem dX10_init_60 : decode cX10_init 60 = .ok (.bipush 20, 2) ∧ 60 + 2 = 62 ∧ (Int8.ofInt (20)).toInt32 = (20) := by decide +kernel
theorem dX10_init_62 : gd cX10_init 62 (.newarray .int) 2 64 := by decide +kernel
theorem dX10_init_64 : gd cX10_init 64 (.putfield 33) 3 67 := by decide +kernel
theorem dX10_init_67 : gd cX10_init 67 (.aload_n 0) 1 68 := by decide +kernel
theorem dX10_init_68 : decode cX10_init 68 = .ok (.iconst 4, 1) ∧ 68 + 1 = 69 ∧ Int32.ofInt (4) = (4) := by decide +kernel
theorem dX10_init_69 : gd cX10_init 69 (.newarray .int) 2 71 := by decide +kernel
theorem dX10_init_71 : gd cX10_init 71 (.putfield 36) 3 74 := by decide +kernel
theorem dX10_init_74 : gd cX10_init 74 (.return_) 1 75 := by decide +kernel
theorem dX10_thrown_0 : gd cX10_thrown 0 (.aload_n 0) 1 1 := by decide +kernel
theorem dX10_thrown_1 : gd cX10_thrown 1 (.getfield 39) 3 4 := by decide +kernel
theorem dX10_thrown_4 : gd cX10_thrown 4 (.ireturn) 1 5 := by decide +kernel
theorem dX10_refused_0 : gd cX10_refused 0 (.aload_n 0) 1 1 := by decide +kernel
theorem dX10_refused_1 : gd cX10_refused 1 (.iload_n 1) 1 2 := by decide +kernel
theorem dX10_refused_2 : gd cX10_refused 2 (.putfield 42) 3 5 := by decide +kernel
theorem dX10_refused_5 : gd cX10_refused 5 (.aload_n 0) 1 6 := by decide +kernel
theorem dX10_refused_6 : decode cX10_refused 6 = .ok (.iconst (-1), 1) ∧ 6 + 1 = 7 ∧ Int32.ofInt (-1) = (-1) := by decide +kernel
theorem dX10_refused_7 : gd cX10_refused 7 (.putfield 9) 3 10 := by decide +kernel
theorem dX10_refused_10 : decode cX10_refused 10 = .ok (.iconst (-1), 1) ∧ 10 + 1 = 11 ∧ Int32.ofInt (-1) = (-1) := by decide +kernel
theorem dX10_refused_11 : gd cX10_refused 11 (.ireturn) 1 12 := by decide +kernel
theorem dX10_lost_0 : gd cX10_lost 0 (.aload_n 0) 1 1 := by decide +kernel
theorem dX10_lost_1 : gd cX10_lost 1 (.iload_n 1) 1 2 := by decide +kernel
theorem dX10_lost_2 : gd cX10_lost 2 (.invokevirtual 45) 3 5 := by decide +kernel
theorem dX10_lost_5 : gd cX10_lost 5 (.pop) 1 6 := by decide +kernel
theorem dX10_lost_6 : decode cX10_lost 6 = .ok (.bipush (-100), 2) ∧ 6 + 2 = 8 ∧ (Int8.ofInt (-100)).toInt32 = (-100) := by decide +kernel
theorem dX10_lost_8 : gd cX10_lost 8 (.ireturn) 1 9 := by decide +kernel
theorem dX10_denied_0 : gd cX10_denied 0 (.aload_n 0) 1 1 := by decide +kernel
theorem dX10_denied_1 : gd cX10_denied 1 (.iload_n 1) 1 2 := by decide +kernel
theorem dX10_denied_2 : gd cX10_denied 2 (.invokevirtual 45) 3 5 := by decide +kernel
theorem dX10_denied_5 : gd cX10_denied 5 (.pop) 1 6 := by decide +kernel
theorem dX10_denied_6 : decode cX10_denied 6 = .ok (.iconst 0, 1) ∧ 6 + 1 = 7 ∧ Int32.ofInt (0) = (0) := by decide +kernel
theorem dX10_denied_7 : gd cX10_denied 7 (.ireturn) 1 8 := by decide +kernel
theorem dX10_good_0 : gd cX10_good 0 (.aload_n 0) 1 1 := by decide +kernel
theorem dX10_good_1 : decode cX10_good 1 = .ok (.iconst 0, 1) ∧ 1 + 1 = 2 ∧ Int32.ofInt (0) = (0) := by decide +kernel
theorem dX10_good_2 : gd cX10_good 2 (.putfield 42) 3 5 := by decide +kernel
theorem dX10_good_5 : gd cX10_good 5 (.aload_n 0) 1 6 := by decide +kernel
theorem dX10_good_6 : decode cX10_good 6 = .ok (.iconst (-1), 1) ∧ 6 + 1 = 7 ∧ Int32.ofInt (-1) = (-1) := by decide +kernel
theorem dX10_good_7 : gd cX10_good 7 (.putfield 9) 3 10 := by decide +kernel
theorem dX10_good_10 : gd cX10_good 10 (.iload_n 1) 1 11 := by decide +kernel
theorem dX10_good_11 : gd cX10_good 11 (.ireturn) 1 12 := by decide +kernel
theorem dX10_granted_0 : gd cX10_granted 0 (.aload_n 0) 1 1 := by decide +kernel
theorem dX10_granted_1 : decode cX10_granted 1 = .ok (.iconst 0, 1) ∧ 1 + 1 = 2 ∧ Int32.ofInt (0) = (0) := by decide +kernel
theorem dX10_granted_2 : gd cX10_granted 2 (.invokevirtual 49) 3 5 := by decide +kernel
theorem dX10_granted_5 : gd cX10_granted 5 (.pop) 1 6 := by decide +kernel
theorem dX10_granted_6 : decode cX10_granted 6 = .ok (.iconst 1, 1) ∧ 6 + 1 = 7 ∧ Int32.ofInt (1) = (1) := by decide +kernel
theorem dX10_granted_7 : gd cX10_granted 7 (.ireturn) 1 8 := by decide +kernel
theorem dX10_in_0 : gd cX10_in 0 (.iload_n 0) 1 1 := by decide +kernel
theorem dX10_in_1 : gd cX10_in 1 (.iload_n 1) 1 2 := by decide +kernel
theorem dX10_in_2 : gb cX10_in 2 (.if_icmp .lt 12) (12) 5 14 := by decide +kernel
theorem dX10_in_5 : gd cX10_in 5 (.iload_n 0) 1 6 := by decide +kernel
theorem dX10_in_6 : gd cX10_in 6 (.iload_n 2) 1 7 := by decide +kernel
theorem dX10_in_7 : gb cX10_in 7 (.if_icmp .gt 7) (7) 10 14 := by decide +kernel
theorem dX10_in_10 : decode cX10_in 10 = .ok (.iconst 1, 1) ∧ 10 + 1 = 11 ∧ Int32.ofInt (1) = (1) := by decide +kernel
theorem dX10_in_11 : gb cX10_in 11 (.goto 4) (4) 14 15 := by decide +kernel
theorem dX10_in_14 : decode cX10_in 14 = .ok (.iconst 0, 1) ∧ 14 + 1 = 15 ∧ Int32.ofInt (0) = (0) := by decide +kernel
theorem dX10_in_15 : gd cX10_in 15 (.ireturn) 1 16 := by decide +kernel
theorem dX10_bit_0 : gd cX10_bit 0 (.iload_n 0) 1 1 := by decide +kernel
theorem dX10_bit_1 : gd cX10_bit 1 (.iload_n 1) 1 2 := by decide +kernel
theorem dX10_bit_2 : gd cX10_bit 2 (.ishr) 1 3 := by decide +kernel
theorem dX10_bit_3 : decode cX10_bit 3 = .ok (.iconst 1, 1) ∧ 3 + 1 = 4 ∧ Int32.ofInt (1) = (1) := by decide +kernel
theorem dX10_bit_4 : gd cX10_bit 4 (.iand) 1 5 := by decide +kernel
theorem dX10_bit_5 : decode cX10_bit 5 = .ok (.iconst 1, 1) ∧ 5 + 1 = 6 ∧ Int32.ofInt (1) = (1) := by decide +kernel
theorem dX10_bit_6 : gb cX10_bit 6 (.if_icmp .ne 7) (7) 9 13 := by decide +kernel
theorem dX10_bit_9 : decode cX10_bit 9 = .ok (.iconst 1, 1) ∧ 9 + 1 = 10 ∧ Int32.ofInt (1) = (1) := by decide +kernel
theorem dX10_bit_10 : gb cX10_bit 10 (.goto 4) (4) 13 14 := by decide +kernel
theorem dX10_bit_13 : decode cX10_bit 13 = .ok (.iconst 0, 1) ∧ 13 + 1 = 14 ∧ Int32.ofInt (0) = (0) := by decide +kernel
theorem dX10_bit_14 : gd cX10_bit 14 (.ireturn) 1 15 := by decide +kernel
theorem dX10_bits_0 : decode cX10_bits 0 = .ok (.iconst 0, 1) ∧ 0 + 1 = 1 ∧ Int32.ofInt (0) = (0) := by decide +kernel
theorem dX10_bits_1 : gd cX10_bits 1 (.istore_n 1) 1 2 := by decide +kernel
theorem dX10_bits_2 : gd cX10_bits 2 (.iload_n 0) 1 3 := by decide +kernel
theorem dX10_bits_3 : gd cX10_bits 3 (.istore_n 2) 1 4 := by decide +kernel
theorem dX10_bits_4 : gd cX10_bits 4 (.iload_n 2) 1 5 := by decide +kernel
theorem dX10_bits_5 : gb cX10_bits 5 (.ifCond .eq 15) (15) 8 20 := by decide +kernel
theorem dX10_bits_8 : decode cX10_bits 8 = .ok (.iinc 1 1, 3) ∧ 8 + 3 = 11 ∧ Int32.ofInt (1) = (1) := by decide +kernel
theorem dX10_bits_11 : gd cX10_bits 11 (.iload_n 2) 1 12 := by decide +kernel
theorem dX10_bits_12 : gd cX10_bits 12 (.iload_n 2) 1 13 := by decide +kernel
theorem dX10_bits_13 : decode cX10_bits 13 = .ok (.iconst 1, 1) ∧ 13 + 1 = 14 ∧ Int32.ofInt (1) = (1) := by decide +kernel
theorem dX10_bits_14 : gd cX10_bits 14 (.isub) 1 15 := by decide +kernel
theorem dX10_bits_15 : gd cX10_bits 15 (.iand) 1 16 := by decide +kernel
theorem dX10_bits_16 : gd cX10_bits 16 (.istore_n 2) 1 17 := by decide +kernel
theorem dX10_bits_17 : gb cX10_bits 17 (.goto (-13)) (-13) 20 4 := by decide +kernel
theorem dX10_bits_20 : gd cX10_bits 20 (.iload_n 1) 1 21 := by decide +kernel
theorem dX10_bits_21 : gd cX10_bits 21 (.ireturn) 1 22 := by decide +kernel
theorem dX10_common_0 : gd cX10_common 0 (.lload_n 0) 1 1 := by decide +kernel
theorem dX10_common_1 : gd cX10_common 1 (.lstore 4) 2 3 := by decide +kernel
theorem dX10_common_3 : gd cX10_common 3 (.lload_n 2) 1 4 := by decide +kernel
theorem dX10_common_4 : gd cX10_common 4 (.lstore 6) 2 6 := by decide +kernel
theorem dX10_common_6 : gd cX10_common 6 (.lload 6) 2 8 := by decide +kernel
theorem dX10_common_8 : decode cX10_common 8 = .ok (.lconst 0, 1) ∧ 8 + 1 = 9 ∧ Int64.ofNat (((0 : Fin 2)) : Nat) = (0) := by decide +kernel
theorem dX10_common_9 : gd cX10_common 9 (.lcmp) 1 10 := by decide +kernel
theorem dX10_common_10 : gb cX10_common 10 (.ifCond .eq 21) (21) 13 31 := by decide +kernel
theorem dX10_common_13 : gd cX10_common 13 (.lload 4) 2 15 := by decide +kernel
theorem dX10_common_15 : gd cX10_common 15 (.lload 6) 2 17 := by decide +kernel
theorem dX10_common_17 : gd cX10_common 17 (.lrem) 1 18 := by decide +kernel
theorem dX10_common_18 : gd cX10_common 18 (.lstore 8) 2 20 := by decide +kernel
theorem dX10_common_20 : gd cX10_common 20 (.lload 6) 2 22 := by decide +kernel
theorem dX10_common_22 : gd cX10_common 22 (.lstore 4) 2 24 := by decide +kernel
theorem dX10_common_24 : gd cX10_common 24 (.lload 8) 2 26 := by decide +kernel
theorem dX10_common_26 : gd cX10_common 26 (.lstore 6) 2 28 := by decide +kernel
theorem dX10_common_28 : gb cX10_common 28 (.goto (-22)) (-22) 31 6 := by decide +kernel
theorem dX10_common_31 : gd cX10_common 31 (.lload 4) 2 33 := by decide +kernel
theorem dX10_common_33 : gd cX10_common 33 (.lreturn) 1 34 := by decide +kernel
theorem dX10_fraction_0 : gd cX10_fraction 0 (.aload_n 0) 1 1 := by decide +kernel
theorem dX10_fraction_1 : decode cX10_fraction 1 = .ok (.iconst 0, 1) ∧ 1 + 1 = 2 ∧ Int32.ofInt (0) = (0) := by decide +kernel
theorem dX10_fraction_2 : gd cX10_fraction 2 (.invokevirtual 49) 3 5 := by decide +kernel
theorem dX10_fraction_5 : gd cX10_fraction 5 (.pop) 1 6 := by decide +kernel
theorem dX10_fraction_6 : gd cX10_fraction 6 (.iload 5) 2 8 := by decide +kernel
theorem dX10_fraction_8 : gb cX10_fraction 8 (.ifCond .eq 7) (7) 11 15 := by decide +kernel
theorem dX10_fraction_11 : gd cX10_fraction 11 (.lload_n 3) 1 12 := by decide +kernel
theorem dX10_fraction_12 : gb cX10_fraction 12 (.goto 4) (4) 15 16 := by decide +kernel
theorem dX10_fraction_15 : gd cX10_fraction 15 (.lload_n 1) 1 16 := by decide +kernel
theorem dX10_fraction_16 : gd cX10_fraction 16 (.lload_n 1) 1 17 := by decide +kernel
theorem dX10_fraction_17 : gd cX10_fraction 17 (.lload_n 3) 1 18 := by decide +kernel
theorem dX10_fraction_18 : gd cX10_fraction 18 (.invokestatic 52) 3 21 := by decide +kernel
theorem dX10_fraction_21 : gd cX10_fraction 21 (.ldiv) 1 22 := by decide +kernel
theorem dX10_fraction_22 : gd cX10_fraction 22 (.lreturn) 1 23 := by decide +kernel
theorem dX10_byteAt_0 : gd cX10_byteAt 0 (.iload_n 1) 1 1 := by decide +kernel
theorem dX10_byteAt_1 : gd cX10_byteAt 1 (.aload_n 0) 1 2 := by decide +kernel
theorem dX10_byteAt_2 : gd cX10_byteAt 2 (.getfield 56) 3 5 := by decide +kernel
theorem dX10_byteAt_5 : gb cX10_byteAt 5 (.if_icmp .ge 16) (16) 8 21 := by decide +kernel
theorem dX10_byteAt_8 : gd cX10_byteAt 8 (.aload_n 0) 1 9 := by decide +kernel
theorem dX10_byteAt_9 : gd cX10_byteAt 9 (.getfield 13) 3 12 := by decide +kernel
theorem dX10_byteAt_12 : gd cX10_byteAt 12 (.iload_n 1) 1 13 := by decide +kernel
theorem dX10_byteAt_13 : gd cX10_byteAt 13 (.baload) 1 14 := by decide +kernel
theorem dX10_byteAt_14 : decode cX10_byteAt 14 = .ok (.sipush 255, 3) ∧ 14 + 3 = 17 ∧ (Int16.ofInt (255)).toInt32 = (255) := by decide +kernel
theorem dX10_byteAt_17 : gd cX10_byteAt 17 (.iand) 1 18 := by decide +kernel
theorem dX10_byteAt_18 : gb cX10_byteAt 18 (.goto 4) (4) 21 22 := by decide +kernel
theorem dX10_byteAt_21 : decode cX10_byteAt 21 = .ok (.iconst (-1), 1) ∧ 21 + 1 = 22 ∧ Int32.ofInt (-1) = (-1) := by decide +kernel
theorem dX10_byteAt_22 : gd cX10_byteAt 22 (.ireturn) 1 23 := by decide +kernel
theorem dX10_isLetter_0 : gd cX10_isLetter 0 (.iload_n 0) 1 1 := by decide +kernel
theorem dX10_isLetter_1 : decode cX10_isLetter 1 = .ok (.bipush 97, 2) ∧ 1 + 2 = 3 ∧ (Int8.ofInt (97)).toInt32 = (97) := by decide +kernel
theorem dX10_isLetter_3 : gb cX10_isLetter 3 (.if_icmp .lt 13) (13) 6 16 := by decide +kernel
theorem dX10_isLetter_6 : gd cX10_isLetter 6 (.iload_n 0) 1 7 := by decide +kernel
theorem dX10_isLetter_7 : decode cX10_isLetter 7 = .ok (.bipush 122, 2) ∧ 7 + 2 = 9 ∧ (Int8.ofInt (122)).toInt32 = (122) := by decide +kernel
theorem dX10_isLetter_9 : gb cX10_isLetter 9 (.if_icmp .gt 7) (7) 12 16 := by decide +kernel
theorem dX10_isLetter_12 : decode cX10_isLetter 12 = .ok (.iconst 1, 1) ∧ 12 + 1 = 13 ∧ Int32.ofInt (1) = (1) := by decide +kernel
theorem dX10_isLetter_13 : gb cX10_isLetter 13 (.goto 4) (4) 16 17 := by decide +kernel
theorem dX10_isLetter_16 : decode cX10_isLetter 16 = .ok (.iconst 0, 1) ∧ 16 + 1 = 17 ∧ Int32.ofInt (0) = (0) := by decide +kernel
theorem dX10_isLetter_17 : gd cX10_isLetter 17 (.ireturn) 1 18 := by decide +kernel
theorem dX10_isDigit_0 : gd cX10_isDigit 0 (.iload_n 0) 1 1 := by decide +kernel
theorem dX10_isDigit_1 : decode cX10_isDigit 1 = .ok (.bipush 48, 2) ∧ 1 + 2 = 3 ∧ (Int8.ofInt (48)).toInt32 = (48) := by decide +kernel
theorem dX10_isDigit_3 : gb cX10_isDigit 3 (.if_icmp .lt 13) (13) 6 16 := by decide +kernel
theorem dX10_isDigit_6 : gd cX10_isDigit 6 (.iload_n 0) 1 7 := by decide +kernel
theorem dX10_isDigit_7 : decode cX10_isDigit 7 = .ok (.bipush 57, 2) ∧ 7 + 2 = 9 ∧ (Int8.ofInt (57)).toInt32 = (57) := by decide +kernel
theorem dX10_isDigit_9 : gb cX10_isDigit 9 (.if_icmp .gt 7) (7) 12 16 := by decide +kernel
theorem dX10_isDigit_12 : decode cX10_isDigit 12 = .ok (.iconst 1, 1) ∧ 12 + 1 = 13 ∧ Int32.ofInt (1) = (1) := by decide +kernel
theorem dX10_isDigit_13 : gb cX10_isDigit 13 (.goto 4) (4) 16 17 := by decide +kernel
theorem dX10_isDigit_16 : decode cX10_isDigit 16 = .ok (.iconst 0, 1) ∧ 16 + 1 = 17 ∧ Int32.ofInt (0) = (0) := by decide +kernel
theorem dX10_isDigit_17 : gd cX10_isDigit 17 (.ireturn) 1 18 := by decide +kernel
theorem dX10_packed_0 : decode cX10_packed 0 = .ok (.lconst 0, 1) ∧ 0 + 1 = 1 ∧ Int64.ofNat (((0 : Fin 2)) : Nat) = (0) := by decide +kernel
theorem dX10_packed_1 : gd cX10_packed 1 (.lstore_n 1) 1 2 := by decide +kernel
theorem dX10_packed_2 : decode cX10_packed 2 = .ok (.iconst 0, 1) ∧ 2 + 1 = 3 ∧ Int32.ofInt (0) = (0) := by decide +kernel
theorem dX10_packed_3 : gd cX10_packed 3 (.istore_n 3) 1 4 := by decide +kernel
theorem dX10_packed_4 : gd cX10_packed 4 (.iload_n 3) 1 5 := by decide +kernel
theorem dX10_packed_5 : gd cX10_packed 5 (.aload_n 0) 1 6 := by decide +kernel
theorem dX10_packed_6 : gd cX10_packed 6 (.invokevirtual 59) 3 9 := by decide +kernel
theorem dX10_packed_9 : gb cX10_packed 9 (.if_icmp .ge 27) (27) 12 36 := by decide +kernel
theorem dX10_packed_12 : gd cX10_packed 12 (.ldc2_w 65) 3 15 := by decide +kernel
theorem dX10_packed_15 : gd cX10_packed 15 (.lload_n 1) 1 16 := by decide +kernel
theorem dX10_packed_16 : gd cX10_packed 16 (.lmul) 1 17 := by decide +kernel
theorem dX10_packed_17 : gd cX10_packed 17 (.aload_n 0) 1 18 := by decide +kernel
theorem dX10_packed_18 : gd cX10_packed 18 (.iload_n 3) 1 19 := by decide +kernel
theorem dX10_packed_19 : gd cX10_packed 19 (.invokevirtual 67) 3 22 := by decide +kernel
theorem dX10_packed_22 : decode cX10_packed 22 = .ok (.bipush 97, 2) ∧ 22 + 2 = 24 ∧ (Int8.ofInt (97)).toInt32 = (97) := by decide +kernel
theorem dX10_packed_24 : gd cX10_packed 24 (.isub) 1 25 := by decide +kernel
theorem dX10_packed_25 : decode cX10_packed 25 = .ok (.iconst 1, 1) ∧ 25 + 1 = 26 ∧ Int32.ofInt (1) = (1) := by decide +kernel
theorem dX10_packed_26 : gd cX10_packed 26 (.iadd) 1 27 := by decide +kernel
theorem dX10_packed_27 : gd cX10_packed 27 (.i2l) 1 28 := by decide +kernel
theorem dX10_packed_28 : gd cX10_packed 28 (.ladd) 1 29 := by decide +kernel
theorem dX10_packed_29 : gd cX10_packed 29 (.lstore_n 1) 1 30 := by decide +kernel
theorem dX10_packed_30 : decode cX10_packed 30 = .ok (.iinc 3 1, 3) ∧ 30 + 3 = 33 ∧ Int32.ofInt (1) = (1) := by decide +kernel
theorem dX10_packed_33 : gb cX10_packed 33 (.goto (-29)) (-29) 36 4 := by decide +kernel
theorem dX10_packed_36 : gd cX10_packed 36 (.lload_n 1) 1 37 := by decide +kernel
theorem dX10_packed_37 : gd cX10_packed 37 (.lreturn) 1 38 := by decide +kernel
theorem dX10_goesOn_0 : gd cX10_goesOn 0 (.aload_n 0) 1 1 := by decide +kernel
theorem dX10_goesOn_1 : gd cX10_goesOn 1 (.getfield 71) 3 4 := by decide +kernel
theorem dX10_goesOn_4 : decode cX10_goesOn 4 = .ok (.iconst 5, 1) ∧ 4 + 1 = 5 ∧ Int32.ofInt (5) = (5) := by decide +kernel
theorem dX10_goesOn_5 : gb cX10_goesOn 5 (.if_icmp .ne 4) (4) 8 9 := by decide +kernel
theorem dX10_goesOn_8 : gd cX10_goesOn 8 (.return_) 1 9 := by decide +kernel
theorem dX10_goesOn_9 : gd cX10_goesOn 9 (.aload_n 0) 1 10 := by decide +kernel
theorem dX10_goesOn_10 : gd cX10_goesOn 10 (.aload_n 0) 1 11 := by decide +kernel
theorem dX10_goesOn_11 : gd cX10_goesOn 11 (.getfield 74) 3 14 := by decide +kernel
theorem dX10_goesOn_14 : gd cX10_goesOn 14 (.invokevirtual 77) 3 17 := by decide +kernel
theorem dX10_goesOn_17 : decode cX10_goesOn 17 = .ok (.bipush 32, 2) ∧ 17 + 2 = 19 ∧ (Int8.ofInt (32)).toInt32 = (32) := by decide +kernel
theorem dX10_goesOn_19 : gb cX10_goesOn 19 (.if_icmp .ne 16) (16) 22 35 := by decide +kernel
theorem dX10_goesOn_22 : gd cX10_goesOn 22 (.aload_n 0) 1 23 := by decide +kernel
theorem dX10_goesOn_23 : gd cX10_goesOn 23 (.dup) 1 24 := by decide +kernel
theorem dX10_goesOn_24 : gd cX10_goesOn 24 (.getfield 74) 3 27 := by decide +kernel
theorem dX10_goesOn_27 : decode cX10_goesOn 27 = .ok (.iconst 1, 1) ∧ 27 + 1 = 28 ∧ Int32.ofInt (1) = (1) := by decide +kernel
theorem dX10_goesOn_28 : gd cX10_goesOn 28 (.iadd) 1 29 := by decide +kernel
theorem dX10_goesOn_29 : gd cX10_goesOn 29 (.putfield 74) 3 32 := by decide +kernel
theorem dX10_goesOn_32 : gb cX10_goesOn 32 (.goto (-23)) (-23) 35 9 := by decide +kernel
theorem dX10_goesOn_35 : gd cX10_goesOn 35 (.aload_n 0) 1 36 := by decide +kernel
theorem dX10_goesOn_36 : gd cX10_goesOn 36 (.aload_n 0) 1 37 := by decide +kernel
theorem dX10_goesOn_37 : gd cX10_goesOn 37 (.getfield 74) 3 40 := by decide +kernel
theorem dX10_goesOn_40 : gd cX10_goesOn 40 (.putfield 80) 3 43 := by decide +kernel
theorem dX10_goesOn_43 : gd cX10_goesOn 43 (.aload_n 0) 1 44 := by decide +kernel
theorem dX10_goesOn_44 : decode cX10_goesOn 44 = .ok (.iconst 0, 1) ∧ 44 + 1 = 45 ∧ Int32.ofInt (0) = (0) := by decide +kernel
theorem dX10_goesOn_45 : gd cX10_goesOn 45 (.putfield 71) 3 48 := by decide +kernel
theorem dX10_goesOn_48 : gd cX10_goesOn 48 (.aload_n 0) 1 49 := by decide +kernel
theorem dX10_goesOn_49 : decode cX10_goesOn 49 = .ok (.iconst 0, 1) ∧ 49 + 1 = 50 ∧ Int32.ofInt (0) = (0) := by decide +kernel
theorem dX10_goesOn_50 : gd cX10_goesOn 50 (.putfield 83) 3 53 := by decide +kernel
theorem dX10_goesOn_53 : gd cX10_goesOn 53 (.aload_n 0) 1 54 := by decide +kernel
theorem dX10_goesOn_54 : gd cX10_goesOn 54 (.aload_n 0) 1 55 := by decide +kernel
theorem dX10_goesOn_55 : gd cX10_goesOn 55 (.getfield 74) 3 58 := by decide +kernel
theorem dX10_goesOn_58 : gd cX10_goesOn 58 (.invokevirtual 77) 3 61 := by decide +kernel
theorem dX10_goesOn_61 : gd cX10_goesOn 61 (.istore_n 1) 1 62 := by decide +kernel
theorem dX10_goesOn_62 : decode cX10_goesOn 62 = .ok (.iconst 0, 1) ∧ 62 + 1 = 63 ∧ Int32.ofInt (0) = (0) := by decide +kernel
theorem dX10_goesOn_63 : gd cX10_goesOn 63 (.istore_n 2) 1 64 := by decide +kernel
theorem dX10_goesOn_64 : gd cX10_goesOn 64 (.iload_n 1) 1 65 := by decide +kernel
theorem dX10_goesOn_65 : decode cX10_goesOn 65 = .ok (.iconst (-1), 1) ∧ 65 + 1 = 66 ∧ Int32.ofInt (-1) = (-1) := by decide +kernel
theorem dX10_goesOn_66 : gb cX10_goesOn 66 (.if_icmp .ne 11) (11) 69 77 := by decide +kernel
theorem dX10_goesOn_69 : gd cX10_goesOn 69 (.aload_n 0) 1 70 := by decide +kernel
theorem dX10_goesOn_70 : decode cX10_goesOn 70 = .ok (.iconst 1, 1) ∧ 70 + 1 = 71 ∧ Int32.ofInt (1) = (1) := by decide +kernel
theorem dX10_goesOn_71 : gd cX10_goesOn 71 (.putfield 71) 3 74 := by decide +kernel
theorem dX10_goesOn_74 : gb cX10_goesOn 74 (.goto 220) (220) 77 294 := by decide +kernel
theorem dX10_goesOn_77 : gd cX10_goesOn 77 (.iload_n 1) 1 78 := by decide +kernel
theorem dX10_goesOn_78 : gd cX10_goesOn 78 (.invokestatic 86) 3 81 := by decide +kernel
theorem dX10_goesOn_81 : gb cX10_goesOn 81 (.ifCond .eq 98) (98) 84 179 := by decide +kernel
theorem dX10_goesOn_84 : gd cX10_goesOn 84 (.aload_n 0) 1 85 := by decide +kernel
theorem dX10_goesOn_85 : decode cX10_goesOn 85 = .ok (.lconst 0, 1) ∧ 85 + 1 = 86 ∧ Int64.ofNat (((0 : Fin 2)) : Nat) = (0) := by decide +kernel
theorem dX10_goesOn_86 : gd cX10_goesOn 86 (.putfield 90) 3 89 := by decide +kernel
theorem dX10_goesOn_89 : gd cX10_goesOn 89 (.aload_n 0) 1 90 := by decide +kernel
theorem dX10_goesOn_90 : gd cX10_goesOn 90 (.aload_n 0) 1 91 := by decide +kernel
theorem dX10_goesOn_91 : gd cX10_goesOn 91 (.getfield 74) 3 94 := by decide +kernel
theorem dX10_goesOn_94 : gd cX10_goesOn 94 (.putfield 94) 3 97 := by decide +kernel
theorem dX10_goesOn_97 : gd cX10_goesOn 97 (.aload_n 0) 1 98 := by decide +kernel
theorem dX10_goesOn_98 : gd cX10_goesOn 98 (.aload_n 0) 1 99 := by decide +kernel
theorem dX10_goesOn_99 : gd cX10_goesOn 99 (.getfield 74) 3 102 := by decide +kernel
theorem dX10_goesOn_102 : gd cX10_goesOn 102 (.invokevirtual 77) 3 105 := by decide +kernel
theorem dX10_goesOn_105 : gd cX10_goesOn 105 (.invokestatic 86) 3 108 := by decide +kernel
theorem dX10_goesOn_108 : gb cX10_goesOn 108 (.ifCond .eq 52) (52) 111 160 := by decide +kernel
theorem dX10_goesOn_111 : gd cX10_goesOn 111 (.iload_n 2) 1 112 := by decide +kernel
theorem dX10_goesOn_112 : decode cX10_goesOn 112 = .ok (.bipush 8, 2) ∧ 112 + 2 = 114 ∧ (Int8.ofInt (8)).toInt32 = (8) := by decide +kernel
theorem dX10_goesOn_114 : gb cX10_goesOn 114 (.if_icmp .ge 30) (30) 117 144 := by decide +kernel
theorem dX10_goesOn_117 : gd cX10_goesOn 117 (.aload_n 0) 1 118 := by decide +kernel
theorem dX10_goesOn_118 : gd cX10_goesOn 118 (.ldc2_w 65) 3 121 := by decide +kernel
theorem dX10_goesOn_121 : gd cX10_goesOn 121 (.aload_n 0) 1 122 := by decide +kernel
theorem dX10_goesOn_122 : gd cX10_goesOn 122 (.getfield 90) 3 125 := by decide +kernel
theorem dX10_goesOn_125 : gd cX10_goesOn 125 (.lmul) 1 126 := by decide +kernel
theorem dX10_goesOn_126 : gd cX10_goesOn 126 (.aload_n 0) 1 127 := by decide +kernel
theorem dX10_goesOn_127 : gd cX10_goesOn 127 (.aload_n 0) 1 128 := by decide +kernel
theorem dX10_goesOn_128 : gd cX10_goesOn 128 (.getfield 74) 3 131 := by decide +kernel
theorem dX10_goesOn_131 : gd cX10_goesOn 131 (.invokevirtual 77) 3 134 := by decide +kernel
theorem dX10_goesOn_134 : decode cX10_goesOn 134 = .ok (.bipush 97, 2) ∧ 134 + 2 = 136 ∧ (Int8.ofInt (97)).toInt32 = (97) := by decide +kernel
theorem dX10_goesOn_136 : gd cX10_goesOn 136 (.isub) 1 137 := by decide +kernel
theorem dX10_goesOn_137 : decode cX10_goesOn 137 = .ok (.iconst 1, 1) ∧ 137 + 1 = 138 ∧ Int32.ofInt (1) = (1) := by decide +kernel
theorem dX10_goesOn_138 : gd cX10_goesOn 138 (.iadd) 1 139 := by decide +kernel
theorem dX10_goesOn_139 : gd cX10_goesOn 139 (.i2l) 1 140 := by decide +kernel
theorem dX10_goesOn_140 : gd cX10_goesOn 140 (.ladd) 1 141 := by decide +kernel
theorem dX10_goesOn_141 : gd cX10_goesOn 141 (.putfield 90) 3 144 := by decide +kernel
theorem dX10_goesOn_144 : decode cX10_goesOn 144 = .ok (.iinc 2 1, 3) ∧ 144 + 3 = 147 ∧ Int32.ofInt (1) = (1) := by decide +kernel
theorem dX10_goesOn_147 : gd cX10_goesOn 147 (.aload_n 0) 1 148 := by decide +kernel
theorem dX10_goesOn_148 : gd cX10_goesOn 148 (.dup) 1 149 := by decide +kernel
theorem dX10_goesOn_149 : gd cX10_goesOn 149 (.getfield 74) 3 152 := by decide +kernel
theorem dX10_goesOn_152 : decode cX10_goesOn 152 = .ok (.iconst 1, 1) ∧ 152 + 1 = 153 ∧ Int32.ofInt (1) = (1) := by decide +kernel
theorem dX10_goesOn_153 : gd cX10_goesOn 153 (.iadd) 1 154 := by decide +kernel
theorem dX10_goesOn_154 : gd cX10_goesOn 154 (.putfield 74) 3 157 := by decide +kernel
theorem dX10_goesOn_157 : gb cX10_goesOn 157 (.goto (-60)) (-60) 160 97 := by decide +kernel
theorem dX10_goesOn_160 : gd cX10_goesOn 160 (.aload_n 0) 1 161 := by decide +kernel
theorem dX10_goesOn_161 : gd cX10_goesOn 161 (.iload_n 2) 1 162 := by decide +kernel
theorem dX10_goesOn_162 : gd cX10_goesOn 162 (.putfield 97) 3 165 := by decide +kernel
theorem dX10_goesOn_165 : gd cX10_goesOn 165 (.iload_n 2) 1 166 := by decide +kernel
theorem dX10_goesOn_166 : decode cX10_goesOn 166 = .ok (.bipush 8, 2) ∧ 166 + 2 = 168 ∧ (Int8.ofInt (8)).toInt32 = (8) := by decide +kernel
theorem dX10_goesOn_168 : gb cX10_goesOn 168 (.if_icmp .gt 126) (126) 171 294 := by decide +kernel
theorem dX10_goesOn_171 : gd cX10_goesOn 171 (.aload_n 0) 1 172 := by decide +kernel
theorem dX10_goesOn_172 : decode cX10_goesOn 172 = .ok (.iconst 2, 1) ∧ 172 + 1 = 173 ∧ Int32.ofInt (2) = (2) := by decide +kernel
theorem dX10_goesOn_173 : gd cX10_goesOn 173 (.putfield 71) 3 176 := by decide +kernel
theorem dX10_goesOn_176 : gb cX10_goesOn 176 (.goto 118) (118) 179 294 := by decide +kernel
theorem dX10_goesOn_179 : gd cX10_goesOn 179 (.iload_n 1) 1 180 := by decide +kernel
theorem dX10_goesOn_180 : gd cX10_goesOn 180 (.invokestatic 100) 3 183 := by decide +kernel
theorem dX10_goesOn_183 : gb cX10_goesOn 183 (.ifCond .eq 79) (79) 186 262 := by decide +kernel
theorem dX10_goesOn_186 : gd cX10_goesOn 186 (.aload_n 0) 1 187 := by decide +kernel
theorem dX10_goesOn_187 : decode cX10_goesOn 187 = .ok (.iconst 0, 1) ∧ 187 + 1 = 188 ∧ Int32.ofInt (0) = (0) := by decide +kernel
theorem dX10_goesOn_188 : gd cX10_goesOn 188 (.putfield 103) 3 191 := by decide +kernel
theorem dX10_goesOn_191 : gd cX10_goesOn 191 (.aload_n 0) 1 192 := by decide +kernel
theorem dX10_goesOn_192 : gd cX10_goesOn 192 (.aload_n 0) 1 193 := by decide +kernel
theorem dX10_goesOn_193 : gd cX10_goesOn 193 (.getfield 74) 3 196 := by decide +kernel
theorem dX10_goesOn_196 : gd cX10_goesOn 196 (.invokevirtual 77) 3 199 := by decide +kernel
theorem dX10_goesOn_199 : gd cX10_goesOn 199 (.invokestatic 100) 3 202 := by decide +kernel
theorem dX10_goesOn_202 : gb cX10_goesOn 202 (.ifCond .eq 47) (47) 205 249 := by decide +kernel
theorem dX10_goesOn_205 : gd cX10_goesOn 205 (.iload_n 2) 1 206 := by decide +kernel
theorem dX10_goesOn_206 : decode cX10_goesOn 206 = .ok (.iconst 2, 1) ∧ 206 + 1 = 207 ∧ Int32.ofInt (2) = (2) := by decide +kernel
theorem dX10_goesOn_207 : gb cX10_goesOn 207 (.if_icmp .ge 26) (26) 210 233 := by decide +kernel
theorem dX10_goesOn_210 : gd cX10_goesOn 210 (.aload_n 0) 1 211 := by decide +kernel
theorem dX10_goesOn_211 : decode cX10_goesOn 211 = .ok (.bipush 10, 2) ∧ 211 + 2 = 213 ∧ (Int8.ofInt (10)).toInt32 = (10) := by decide +kernel
theorem dX10_goesOn_213 : gd cX10_goesOn 213 (.aload_n 0) 1 214 := by decide +kernel
theorem dX10_goesOn_214 : gd cX10_goesOn 214 (.getfield 103) 3 217 := by decide +kernel
theorem dX10_goesOn_217 : gd cX10_goesOn 217 (.imul) 1 218 := by decide +kernel
theorem dX10_goesOn_218 : gd cX10_goesOn 218 (.aload_n 0) 1 219 := by decide +kernel
theorem dX10_goesOn_219 : gd cX10_goesOn 219 (.aload_n 0) 1 220 := by decide +kernel
theorem dX10_goesOn_220 : gd cX10_goesOn 220 (.getfield 74) 3 223 := by decide +kernel
theorem dX10_goesOn_223 : gd cX10_goesOn 223 (.invokevirtual 77) 3 226 := by decide +kernel
theorem dX10_goesOn_226 : gd cX10_goesOn 226 (.iadd) 1 227 := by decide +kernel
theorem dX10_goesOn_227 : decode cX10_goesOn 227 = .ok (.bipush 48, 2) ∧ 227 + 2 = 229 ∧ (Int8.ofInt (48)).toInt32 = (48) := by decide +kernel
theorem dX10_goesOn_229 : gd cX10_goesOn 229 (.isub) 1 230 := by decide +kernel
theorem dX10_goesOn_230 : gd cX10_goesOn 230 (.putfield 103) 3 233 := by decide +kernel
theorem dX10_goesOn_233 : decode cX10_goesOn 233 = .ok (.iinc 2 1, 3) ∧ 233 + 3 = 236 ∧ Int32.ofInt (1) = (1) := by decide +kernel
theorem dX10_goesOn_236 : gd cX10_goesOn 236 (.aload_n 0) 1 237 := by decide +kernel
theorem dX10_goesOn_237 : gd cX10_goesOn 237 (.dup) 1 238 := by decide +kernel
theorem dX10_goesOn_238 : gd cX10_goesOn 238 (.getfield 74) 3 241 := by decide +kernel
theorem dX10_goesOn_241 : decode cX10_goesOn 241 = .ok (.iconst 1, 1) ∧ 241 + 1 = 242 ∧ Int32.ofInt (1) = (1) := by decide +kernel
theorem dX10_goesOn_242 : gd cX10_goesOn 242 (.iadd) 1 243 := by decide +kernel
theorem dX10_goesOn_243 : gd cX10_goesOn 243 (.putfield 74) 3 246 := by decide +kernel
theorem dX10_goesOn_246 : gb cX10_goesOn 246 (.goto (-55)) (-55) 249 191 := by decide +kernel
theorem dX10_goesOn_249 : gd cX10_goesOn 249 (.iload_n 2) 1 250 := by decide +kernel
theorem dX10_goesOn_250 : decode cX10_goesOn 250 = .ok (.iconst 2, 1) ∧ 250 + 1 = 251 ∧ Int32.ofInt (2) = (2) := by decide +kernel
theorem dX10_goesOn_251 : gb cX10_goesOn 251 (.if_icmp .gt 43) (43) 254 294 := by decide +kernel
theorem dX10_goesOn_254 : gd cX10_goesOn 254 (.aload_n 0) 1 255 := by decide +kernel
theorem dX10_goesOn_255 : decode cX10_goesOn 255 = .ok (.iconst 3, 1) ∧ 255 + 1 = 256 ∧ Int32.ofInt (3) = (3) := by decide +kernel
theorem dX10_goesOn_256 : gd cX10_goesOn 256 (.putfield 71) 3 259 := by decide +kernel
theorem dX10_goesOn_259 : gb cX10_goesOn 259 (.goto 35) (35) 262 294 := by decide +kernel
theorem dX10_goesOn_262 : gd cX10_goesOn 262 (.iload_n 1) 1 263 := by decide +kernel
theorem dX10_goesOn_263 : decode cX10_goesOn 263 = .ok (.bipush 59, 2) ∧ 263 + 2 = 265 ∧ (Int8.ofInt (59)).toInt32 = (59) := by decide +kernel
theorem dX10_goesOn_265 : gb cX10_goesOn 265 (.if_icmp .eq 9) (9) 268 274 := by decide +kernel
theorem dX10_goesOn_268 : gd cX10_goesOn 268 (.iload_n 1) 1 269 := by decide +kernel
theorem dX10_goesOn_269 : decode cX10_goesOn 269 = .ok (.bipush 44, 2) ∧ 269 + 2 = 271 ∧ (Int8.ofInt (44)).toInt32 = (44) := by decide +kernel
theorem dX10_goesOn_271 : gb cX10_goesOn 271 (.if_icmp .ne 23) (23) 274 294 := by decide +kernel
theorem dX10_goesOn_274 : gd cX10_goesOn 274 (.aload_n 0) 1 275 := by decide +kernel
theorem dX10_goesOn_275 : decode cX10_goesOn 275 = .ok (.iconst 4, 1) ∧ 275 + 1 = 276 ∧ Int32.ofInt (4) = (4) := by decide +kernel
theorem dX10_goesOn_276 : gd cX10_goesOn 276 (.putfield 71) 3 279 := by decide +kernel
theorem dX10_goesOn_279 : gd cX10_goesOn 279 (.aload_n 0) 1 280 := by decide +kernel
theorem dX10_goesOn_280 : gd cX10_goesOn 280 (.iload_n 1) 1 281 := by decide +kernel
theorem dX10_goesOn_281 : gd cX10_goesOn 281 (.putfield 83) 3 284 := by decide +kernel
theorem dX10_goesOn_284 : gd cX10_goesOn 284 (.aload_n 0) 1 285 := by decide +kernel
theorem dX10_goesOn_285 : gd cX10_goesOn 285 (.dup) 1 286 := by decide +kernel
theorem dX10_goesOn_286 : gd cX10_goesOn 286 (.getfield 74) 3 289 := by decide +kernel
theorem dX10_goesOn_289 : decode cX10_goesOn 289 = .ok (.iconst 1, 1) ∧ 289 + 1 = 290 ∧ Int32.ofInt (1) = (1) := by decide +kernel
theorem dX10_goesOn_290 : gd cX10_goesOn 290 (.iadd) 1 291 := by decide +kernel
theorem dX10_goesOn_291 : gd cX10_goesOn 291 (.putfield 74) 3 294 := by decide +kernel
theorem dX10_goesOn_294 : gd cX10_goesOn 294 (.return_) 1 295 := by decide +kernel
theorem dX10_flaw_0 : gd cX10_flaw 0 (.aload_n 0) 1 1 := by decide +kernel
theorem dX10_flaw_1 : gd cX10_flaw 1 (.iload_n 1) 1 2 := by decide +kernel
theorem dX10_flaw_2 : gd cX10_flaw 2 (.aload_n 0) 1 3 := by decide +kernel
theorem dX10_flaw_3 : gd cX10_flaw 3 (.getfield 80) 3 6 := by decide +kernel
theorem dX10_flaw_6 : gd cX10_flaw 6 (.invokevirtual 106) 3 9 := by decide +kernel
theorem dX10_flaw_9 : gd cX10_flaw 9 (.return_) 1 10 := by decide +kernel
theorem dX10_flawAt_0 : gd cX10_flawAt 0 (.aload_n 0) 1 1 := by decide +kernel
theorem dX10_flawAt_1 : gd cX10_flawAt 1 (.getfield 71) 3 4 := by decide +kernel
theorem dX10_flawAt_4 : decode cX10_flawAt 4 = .ok (.iconst 5, 1) ∧ 4 + 1 = 5 ∧ Int32.ofInt (5) = (5) := by decide +kernel
theorem dX10_flawAt_5 : gb cX10_flawAt 5 (.if_icmp .ne 4) (4) 8 9 := by decide +kernel
theorem dX10_flawAt_8 : gd cX10_flawAt 8 (.return_) 1 9 := by decide +kernel
theorem dX10_flawAt_9 : gd cX10_flawAt 9 (.aload_n 0) 1 10 := by decide +kernel
theorem dX10_flawAt_10 : gd cX10_flawAt 10 (.iload_n 1) 1 11 := by decide +kernel
theorem dX10_flawAt_11 : gd cX10_flawAt 11 (.putfield 110) 3 14 := by decide +kernel
theorem dX10_flawAt_14 : gd cX10_flawAt 14 (.aload_n 0) 1 15 := by decide +kernel
theorem dX10_flawAt_15 : gd cX10_flawAt 15 (.iload_n 2) 1 16 := by decide +kernel
theorem dX10_flawAt_16 : gd cX10_flawAt 16 (.putfield 113) 3 19 := by decide +kernel
theorem dX10_flawAt_19 : gd cX10_flawAt 19 (.aload_n 0) 1 20 := by decide +kernel
theorem dX10_flawAt_20 : decode cX10_flawAt 20 = .ok (.iconst 5, 1) ∧ 20 + 1 = 21 ∧ Int32.ofInt (5) = (5) := by decide +kernel
theorem dX10_flawAt_21 : gd cX10_flawAt 21 (.putfield 71) 3 24 := by decide +kernel
theorem dX10_flawAt_24 : gd cX10_flawAt 24 (.return_) 1 25 := by decide +kernel
theorem dX10_isWord_0 : gd cX10_isWord 0 (.aload_n 0) 1 1 := by decide +kernel
theorem dX10_isWord_1 : gd cX10_isWord 1 (.getfield 71) 3 4 := by decide +kernel
theorem dX10_isWord_4 : decode cX10_isWord 4 = .ok (.iconst 2, 1) ∧ 4 + 1 = 5 ∧ Int32.ofInt (2) = (2) := by decide +kernel
theorem dX10_isWord_5 : gb cX10_isWord 5 (.if_icmp .ne 19) (19) 8 24 := by decide +kernel
theorem dX10_isWord_8 : gd cX10_isWord 8 (.aload_n 0) 1 9 := by decide +kernel
theorem dX10_isWord_9 : gd cX10_isWord 9 (.getfield 90) 3 12 := by decide +kernel
theorem dX10_isWord_12 : gd cX10_isWord 12 (.aload_n 1) 1 13 := by decide +kernel
theorem dX10_isWord_13 : gd cX10_isWord 13 (.invokestatic 116) 3 16 := by decide +kernel
theorem dX10_isWord_16 : gd cX10_isWord 16 (.lcmp) 1 17 := by decide +kernel
theorem dX10_isWord_17 : gb cX10_isWord 17 (.ifCond .ne 7) (7) 20 24 := by decide +kernel
theorem dX10_isWord_20 : decode cX10_isWord 20 = .ok (.iconst 1, 1) ∧ 20 + 1 = 21 ∧ Int32.ofInt (1) = (1) := by decide +kernel
theorem dX10_isWord_21 : gb cX10_isWord 21 (.goto 4) (4) 24 25 := by decide +kernel
theorem dX10_isWord_24 : decode cX10_isWord 24 = .ok (.iconst 0, 1) ∧ 24 + 1 = 25 ∧ Int32.ofInt (0) = (0) := by decide +kernel
theorem dX10_isWord_25 : gd cX10_isWord 25 (.ireturn) 1 26 := by decide +kernel
theorem dX10_isSign_0 : gd cX10_isSign 0 (.aload_n 0) 1 1 := by decide +kernel
theorem dX10_isSign_1 : gd cX10_isSign 1 (.getfield 71) 3 4 := by decide +kernel
theorem dX10_isSign_4 : decode cX10_isSign 4 = .ok (.iconst 4, 1) ∧ 4 + 1 = 5 ∧ Int32.ofInt (4) = (4) := by decide +kernel
theorem dX10_isSign_5 : gb cX10_isSign 5 (.if_icmp .ne 15) (15) 8 20 := by decide +kernel
theorem dX10_isSign_8 : gd cX10_isSign 8 (.aload_n 0) 1 9 := by decide +kernel
theorem dX10_isSign_9 : gd cX10_isSign 9 (.getfield 83) 3 12 := by decide +kernel
theorem dX10_isSign_12 : gd cX10_isSign 12 (.iload_n 1) 1 13 := by decide +kernel
theorem dX10_isSign_13 : gb cX10_isSign 13 (.if_icmp .ne 7) (7) 16 20 := by decide +kernel
theorem dX10_isSign_16 : decode cX10_isSign 16 = .ok (.iconst 1, 1) ∧ 16 + 1 = 17 ∧ Int32.ofInt (1) = (1) := by decide +kernel
theorem dX10_isSign_17 : gb cX10_isSign 17 (.goto 4) (4) 20 21 := by decide +kernel
theorem dX10_isSign_20 : decode cX10_isSign 20 = .ok (.iconst 0, 1) ∧ 20 + 1 = 21 ∧ Int32.ofInt (0) = (0) := by decide +kernel
theorem dX10_isSign_21 : gd cX10_isSign 21 (.ireturn) 1 22 := by decide +kernel
theorem dX10_eatsSign_0 : gd cX10_eatsSign 0 (.aload_n 0) 1 1 := by decide +kernel
theorem dX10_eatsSign_1 : gd cX10_eatsSign 1 (.iload_n 1) 1 2 := by decide +kernel
theorem dX10_eatsSign_2 : gd cX10_eatsSign 2 (.invokevirtual 120) 3 5 := by decide +kernel
theorem dX10_eatsSign_5 : gd cX10_eatsSign 5 (.istore_n 2) 1 6 := by decide +kernel
theorem dX10_eatsSign_6 : gd cX10_eatsSign 6 (.iload_n 2) 1 7 := by decide +kernel
theorem dX10_eatsSign_7 : gb cX10_eatsSign 7 (.ifCond .eq 7) (7) 10 14 := by decide +kernel
theorem dX10_eatsSign_10 : gd cX10_eatsSign 10 (.aload_n 0) 1 11 := by decide +kernel
theorem dX10_eatsSign_11 : gd cX10_eatsSign 11 (.invokevirtual 123) 3 14 := by decide +kernel
theorem dX10_eatsSign_14 : gd cX10_eatsSign 14 (.iload_n 2) 1 15 := by decide +kernel
theorem dX10_eatsSign_15 : gd cX10_eatsSign 15 (.ireturn) 1 16 := by decide +kernel
theorem dX10_needs_0 : gd cX10_needs 0 (.aload_n 0) 1 1 := by decide +kernel
theorem dX10_needs_1 : gd cX10_needs 1 (.aload_n 1) 1 2 := by decide +kernel
theorem dX10_needs_2 : gd cX10_needs 2 (.invokevirtual 126) 3 5 := by decide +kernel
theorem dX10_needs_5 : gb cX10_needs 5 (.ifCond .ne 8) (8) 8 13 := by decide +kernel
theorem dX10_needs_8 : gd cX10_needs 8 (.aload_n 0) 1 9 := by decide +kernel
theorem dX10_needs_9 : decode cX10_needs 9 = .ok (.iconst 1, 1) ∧ 9 + 1 = 10 ∧ Int32.ofInt (1) = (1) := by decide +kernel
theorem dX10_needs_10 : gd cX10_needs 10 (.invokevirtual 130) 3 13 := by decide +kernel
theorem dX10_needs_13 : gd cX10_needs 13 (.aload_n 0) 1 14 := by decide +kernel
theorem dX10_needs_14 : gd cX10_needs 14 (.invokevirtual 123) 3 17 := by decide +kernel
theorem dX10_needs_17 : gd cX10_needs 17 (.return_) 1 18 := by decide +kernel
theorem dX10_readWhole_0 : gd cX10_readWhole 0 (.aload_n 0) 1 1 := by decide +kernel
theorem dX10_readWhole_1 : gd cX10_readWhole 1 (.getfield 71) 3 4 := by decide +kernel
theorem dX10_readWhole_4 : decode cX10_readWhole 4 = .ok (.iconst 3, 1) ∧ 4 + 1 = 5 ∧ Int32.ofInt (3) = (3) := by decide +kernel
theorem dX10_readWhole_5 : gb cX10_readWhole 5 (.if_icmp .eq 11) (11) 8 16 := by decide +kernel
theorem dX10_readWhole_8 : gd cX10_readWhole 8 (.aload_n 0) 1 9 := by decide +kernel
theorem dX10_readWhole_9 : decode cX10_readWhole 9 = .ok (.iconst 1, 1) ∧ 9 + 1 = 10 ∧ Int32.ofInt (1) = (1) := by decide +kernel
theorem dX10_readWhole_10 : gd cX10_readWhole 10 (.invokevirtual 130) 3 13 := by decide +kernel
theorem dX10_readWhole_13 : gb cX10_readWhole 13 (.goto 20) (20) 16 33 := by decide +kernel
theorem dX10_readWhole_16 : gd cX10_readWhole 16 (.aload_n 0) 1 17 := by decide +kernel
theorem dX10_readWhole_17 : gd cX10_readWhole 17 (.getfield 103) 3 20 := by decide +kernel
theorem dX10_readWhole_20 : gd cX10_readWhole 20 (.iload_n 1) 1 21 := by decide +kernel
theorem dX10_readWhole_21 : gd cX10_readWhole 21 (.iload_n 2) 1 22 := by decide +kernel
theorem dX10_readWhole_22 : gd cX10_readWhole 22 (.invokestatic 134) 3 25 := by decide +kernel
theorem dX10_readWhole_25 : gb cX10_readWhole 25 (.ifCond .ne 8) (8) 28 33 := by decide +kernel
theorem dX10_readWhole_28 : gd cX10_readWhole 28 (.aload_n 0) 1 29 := by decide +kernel
theorem dX10_readWhole_29 : decode cX10_readWhole 29 = .ok (.iconst 4, 1) ∧ 29 + 1 = 30 ∧ Int32.ofInt (4) = (4) := by decide +kernel
theorem dX10_readWhole_30 : gd cX10_readWhole 30 (.invokevirtual 130) 3 33 := by decide +kernel
theorem dX10_readWhole_33 : gd cX10_readWhole 33 (.aload_n 0) 1 34 := by decide +kernel
theorem dX10_readWhole_34 : gd cX10_readWhole 34 (.getfield 71) 3 37 := by decide +kernel
theorem dX10_readWhole_37 : decode cX10_readWhole 37 = .ok (.iconst 5, 1) ∧ 37 + 1 = 38 ∧ Int32.ofInt (5) = (5) := by decide +kernel
theorem dX10_readWhole_38 : gb cX10_readWhole 38 (.if_icmp .ne 7) (7) 41 45 := by decide +kernel
theorem dX10_readWhole_41 : gd cX10_readWhole 41 (.iload_n 1) 1 42 := by decide +kernel
theorem dX10_readWhole_42 : gb cX10_readWhole 42 (.goto 7) (7) 45 49 := by decide +kernel
theorem dX10_readWhole_45 : gd cX10_readWhole 45 (.aload_n 0) 1 46 := by decide +kernel
theorem dX10_readWhole_46 : gd cX10_readWhole 46 (.getfield 103) 3 49 := by decide +kernel
theorem dX10_readWhole_49 : gd cX10_readWhole 49 (.istore_n 3) 1 50 := by decide +kernel
theorem dX10_readWhole_50 : gd cX10_readWhole 50 (.aload_n 0) 1 51 := by decide +kernel
theorem dX10_readWhole_51 : gd cX10_readWhole 51 (.invokevirtual 123) 3 54 := by decide +kernel
theorem dX10_readWhole_54 : gd cX10_readWhole 54 (.iload_n 3) 1 55 := by decide +kernel
theorem dX10_readWhole_55 : gd cX10_readWhole 55 (.ireturn) 1 56 := by decide +kernel
theorem dX10_readPart_0 : gd cX10_readPart 0 (.aload_n 0) 1 1 := by decide +kernel
theorem dX10_readPart_1 : gd cX10_readPart 1 (.aload_n 1) 1 2 := by decide +kernel
theorem dX10_readPart_2 : gd cX10_readPart 2 (.invokevirtual 138) 3 5 := by decide +kernel
theorem dX10_readPart_5 : gd cX10_readPart 5 (.aload_n 0) 1 6 := by decide +kernel
theorem dX10_readPart_6 : gd cX10_readPart 6 (.iload_n 2) 1 7 := by decide +kernel
theorem dX10_readPart_7 : gd cX10_readPart 7 (.iload_n 3) 1 8 := by decide +kernel
theorem dX10_readPart_8 : gd cX10_readPart 8 (.invokevirtual 142) 3 11 := by decide +kernel
theorem dX10_readPart_11 : gd cX10_readPart 11 (.ireturn) 1 12 := by decide +kernel
theorem dX10_isName_0 : gd cX10_isName 0 (.aload_n 0) 1 1 := by decide +kernel
theorem dX10_isName_1 : gd cX10_isName 1 (.getfield 71) 3 4 := by decide +kernel
theorem dX10_isName_4 : decode cX10_isName 4 = .ok (.iconst 2, 1) ∧ 4 + 1 = 5 ∧ Int32.ofInt (2) = (2) := by decide +kernel
theorem dX10_isName_5 : gb cX10_isName 5 (.if_icmp .ne 57) (57) 8 62 := by decide +kernel
theorem dX10_isName_8 : gd cX10_isName 8 (.aload_n 0) 1 9 := by decide +kernel
theorem dX10_isName_9 : gd cX10_isName 9 (.ldc 146) 2 11 := by decide +kernel
theorem dX10_isName_11 : gd cX10_isName 11 (.invokevirtual 126) 3 14 := by decide +kernel
theorem dX10_isName_14 : gb cX10_isName 14 (.ifCond .ne 48) (48) 17 62 := by decide +kernel
theorem dX10_isName_17 : gd cX10_isName 17 (.aload_n 0) 1 18 := by decide +kernel
theorem dX10_isName_18 : gd cX10_isName 18 (.ldc 148) 2 20 := by decide +kernel
theorem dX10_isName_20 : gd cX10_isName 20 (.invokevirtual 126) 3 23 := by decide +kernel
theorem dX10_isName_23 : gb cX10_isName 23 (.ifCond .ne 39) (39) 26 62 := by decide +kernel
theorem dX10_isName_26 : gd cX10_isName 26 (.aload_n 0) 1 27 := by decide +kernel
theorem dX10_isName_27 : gd cX10_isName 27 (.ldc 150) 2 29 := by decide +kernel
theorem dX10_isName_29 : gd cX10_isName 29 (.invokevirtual 126) 3 32 := by decide +kernel
theorem dX10_isName_32 : gb cX10_isName 32 (.ifCond .ne 30) (30) 35 62 := by decide +kernel
theorem dX10_isName_35 : gd cX10_isName 35 (.aload_n 0) 1 36 := by decide +kernel
theorem dX10_isName_36 : gd cX10_isName 36 (.ldc 151) 2 38 := by decide +kernel
theorem dX10_isName_38 : gd cX10_isName 38 (.invokevirtual 126) 3 41 := by decide +kernel
theorem dX10_isName_41 : gb cX10_isName 41 (.ifCond .ne 21) (21) 44 62 := by decide +kernel
theorem dX10_isName_44 : gd cX10_isName 44 (.aload_n 0) 1 45 := by decide +kernel
theorem dX10_isName_45 : gd cX10_isName 45 (.ldc 153) 2 47 := by decide +kernel
theorem dX10_isName_47 : gd cX10_isName 47 (.invokevirtual 126) 3 50 := by decide +kernel
theorem dX10_isName_50 : gb cX10_isName 50 (.ifCond .ne 12) (12) 53 62 := by decide +kernel
theorem dX10_isName_53 : gd cX10_isName 53 (.aload_n 0) 1 54 := by decide +kernel
theorem dX10_isName_54 : gd cX10_isName 54 (.ldc 155) 2 56 := by decide +kernel
theorem dX10_isName_56 : gd cX10_isName 56 (.invokevirtual 126) 3 59 := by decide +kernel
theorem dX10_isName_59 : gb cX10_isName 59 (.ifCond .eq 5) (5) 62 64 := by decide +kernel
theorem dX10_isName_62 : decode cX10_isName 62 = .ok (.iconst 0, 1) ∧ 62 + 1 = 63 ∧ Int32.ofInt (0) = (0) := by decide +kernel
theorem dX10_isName_63 : gd cX10_isName 63 (.ireturn) 1 64 := by decide +kernel
theorem dX10_isName_64 : gd cX10_isName 64 (.aload_n 0) 1 65 := by decide +kernel
theorem dX10_isName_65 : gd cX10_isName 65 (.ldc 157) 2 67 := by decide +kernel
theorem dX10_isName_67 : gd cX10_isName 67 (.invokevirtual 126) 3 70 := by decide +kernel
theorem dX10_isName_70 : gb cX10_isName 70 (.ifCond .ne 43) (43) 73 113 := by decide +kernel
theorem dX10_isName_73 : gd cX10_isName 73 (.aload_n 0) 1 74 := by decide +kernel
theorem dX10_isName_74 : gd cX10_isName 74 (.ldc 159) 2 76 := by decide +kernel
theorem dX10_isName_76 : gd cX10_isName 76 (.invokevirtual 126) 3 79 := by decide +kernel
theorem dX10_isName_79 : gb cX10_isName 79 (.ifCond .ne 34) (34) 82 113 := by decide +kernel
theorem dX10_isName_82 : gd cX10_isName 82 (.aload_n 0) 1 83 := by decide +kernel
theorem dX10_isName_83 : gd cX10_isName 83 (.ldc 161) 2 85 := by decide +kernel
theorem dX10_isName_85 : gd cX10_isName 85 (.invokevirtual 126) 3 88 := by decide +kernel
theorem dX10_isName_88 : gb cX10_isName 88 (.ifCond .ne 25) (25) 91 113 := by decide +kernel
theorem dX10_isName_91 : gd cX10_isName 91 (.aload_n 0) 1 92 := by decide +kernel
theorem dX10_isName_92 : gd cX10_isName 92 (.ldc 163) 2 94 := by decide +kernel
theorem dX10_isName_94 : gd cX10_isName 94 (.invokevirtual 126) 3 97 := by decide +kernel
theorem dX10_isName_97 : gb cX10_isName 97 (.ifCond .ne 16) (16) 100 113 := by decide +kernel
theorem dX10_isName_100 : gd cX10_isName 100 (.aload_n 0) 1 101 := by decide +kernel
theorem dX10_isName_101 : gd cX10_isName 101 (.ldc 165) 2 103 := by decide +kernel
theorem dX10_isName_103 : gd cX10_isName 103 (.invokevirtual 126) 3 106 := by decide +kernel
theorem dX10_isName_106 : gb cX10_isName 106 (.ifCond .ne 7) (7) 109 113 := by decide +kernel
theorem dX10_isName_109 : decode cX10_isName 109 = .ok (.iconst 1, 1) ∧ 109 + 1 = 110 ∧ Int32.ofInt (1) = (1) := by decide +kernel
theorem dX10_isName_110 : gb cX10_isName 110 (.goto 4) (4) 113 114 := by decide +kernel
theorem dX10_isName_113 : decode cX10_isName 113 = .ok (.iconst 0, 1) ∧ 113 + 1 = 114 ∧ Int32.ofInt (0) = (0) := by decide +kernel
theorem dX10_isName_114 : gd cX10_isName 114 (.ireturn) 1 115 := by decide +kernel
theorem dX10_begins_0 : gd cX10_begins 0 (.iload_n 1) 1 1 := by decide +kernel
theorem dX10_begins_1 : gd cX10_begins 1 (.iload_n 2) 1 2 := by decide +kernel
theorem dX10_begins_2 : gb cX10_begins 2 (.if_icmp .ne 8) (8) 5 10 := by decide +kernel
theorem dX10_begins_5 : gd cX10_begins 5 (.aload_n 0) 1 6 := by decide +kernel
theorem dX10_begins_6 : decode cX10_begins 6 = .ok (.iconst 5, 1) ∧ 6 + 1 = 7 ∧ Int32.ofInt (5) = (5) := by decide +kernel
theorem dX10_begins_7 : gd cX10_begins 7 (.invokevirtual 130) 3 10 := by decide +kernel
theorem dX10_begins_10 : gd cX10_begins 10 (.aload_n 0) 1 11 := by decide +kernel
theorem dX10_begins_11 : gd cX10_begins 11 (.getfield 167) 3 14 := by decide +kernel
theorem dX10_begins_14 : gd cX10_begins 14 (.getfield 171) 3 17 := by decide +kernel
theorem dX10_begins_17 : gb cX10_begins 17 (.ifCond .ne 9) (9) 20 26 := by decide +kernel
theorem dX10_begins_20 : gd cX10_begins 20 (.aload_n 0) 1 21 := by decide +kernel
theorem dX10_begins_21 : decode cX10_begins 21 = .ok (.bipush 6, 2) ∧ 21 + 2 = 23 ∧ (Int8.ofInt (6)).toInt32 = (6) := by decide +kernel
theorem dX10_begins_23 : gd cX10_begins 23 (.invokevirtual 130) 3 26 := by decide +kernel
theorem dX10_begins_26 : gd cX10_begins 26 (.aload_n 0) 1 27 := by decide +kernel
theorem dX10_begins_27 : gd cX10_begins 27 (.invokevirtual 123) 3 30 := by decide +kernel
theorem dX10_begins_30 : gd cX10_begins 30 (.return_) 1 31 := by decide +kernel
theorem dX10_readFresh_0 : gd cX10_readFresh 0 (.aload_n 0) 1 1 := by decide +kernel
theorem dX10_readFresh_1 : gd cX10_readFresh 1 (.invokevirtual 176) 3 4 := by decide +kernel
theorem dX10_readFresh_4 : gb cX10_readFresh 4 (.ifCond .ne 8) (8) 7 12 := by decide +kernel
theorem dX10_readFresh_7 : gd cX10_readFresh 7 (.aload_n 0) 1 8 := by decide +kernel
theorem dX10_readFresh_8 : decode cX10_readFresh 8 = .ok (.iconst 1, 1) ∧ 8 + 1 = 9 ∧ Int32.ofInt (1) = (1) := by decide +kernel
theorem dX10_readFresh_9 : gd cX10_readFresh 9 (.invokevirtual 130) 3 12 := by decide +kernel
theorem dX10_readFresh_12 : gd cX10_readFresh 12 (.aload_n 0) 1 13 := by decide +kernel
theorem dX10_readFresh_13 : gd cX10_readFresh 13 (.getfield 167) 3 16 := by decide +kernel
theorem dX10_readFresh_16 : gd cX10_readFresh 16 (.aload_n 0) 1 17 := by decide +kernel
theorem dX10_readFresh_17 : gd cX10_readFresh 17 (.getfield 90) 3 20 := by decide +kernel
theorem dX10_readFresh_20 : gd cX10_readFresh 20 (.invokevirtual 180) 3 23 := by decide +kernel
theorem dX10_readFresh_23 : decode cX10_readFresh 23 = .ok (.iconst (-1), 1) ∧ 23 + 1 = 24 ∧ Int32.ofInt (-1) = (-1) := by decide +kernel
theorem dX10_readFresh_24 : gb cX10_readFresh 24 (.if_icmp .eq 8) (8) 27 32 := by decide +kernel
theorem dX10_readFresh_27 : gd cX10_readFresh 27 (.aload_n 0) 1 28 := by decide +kernel
theorem dX10_readFresh_28 : decode cX10_readFresh 28 = .ok (.iconst 3, 1) ∧ 28 + 1 = 29 ∧ Int32.ofInt (3) = (3) := by decide +kernel
theorem dX10_readFresh_29 : gd cX10_readFresh 29 (.invokevirtual 130) 3 32 := by decide +kernel
theorem dX10_readFresh_32 : gd cX10_readFresh 32 (.aload_n 0) 1 33 := by decide +kernel
theorem dX10_readFresh_33 : gd cX10_readFresh 33 (.getfield 90) 3 36 := by decide +kernel
theorem dX10_readFresh_36 : gd cX10_readFresh 36 (.lstore_n 1) 1 37 := by decide +kernel
theorem dX10_readFresh_37 : gd cX10_readFresh 37 (.aload_n 0) 1 38 := by decide +kernel
theorem dX10_readFresh_38 : gd cX10_readFresh 38 (.invokevirtual 123) 3 41 := by decide +kernel
theorem dX10_readFresh_41 : gd cX10_readFresh 41 (.lload_n 1) 1 42 := by decide +kernel
theorem dX10_readFresh_42 : gd cX10_readFresh 42 (.lreturn) 1 43 := by decide +kernel
theorem dX10_names_0 : gd cX10_names 0 (.aload_n 0) 1 1 := by decide +kernel
theorem dX10_names_1 : gd cX10_names 1 (.getfield 167) 3 4 := by decide +kernel
theorem dX10_names_4 : gd cX10_names 4 (.getfield 184) 3 7 := by decide +kernel
theorem dX10_names_7 : gd cX10_names 7 (.aload_n 0) 1 8 := by decide +kernel
theorem dX10_names_8 : gd cX10_names 8 (.getfield 167) 3 11 := by decide +kernel
theorem dX10_names_11 : gd cX10_names 11 (.getfield 188) 3 14 := by decide +kernel
theorem dX10_names_14 : gd cX10_names 14 (.lload_n 1) 1 15 := by decide +kernel
theorem dX10_names_15 : gd cX10_names 15 (.lastore) 1 16 := by decide +kernel
theorem dX10_names_16 : gd cX10_names 16 (.aload_n 0) 1 17 := by decide +kernel
theorem dX10_names_17 : gd cX10_names 17 (.getfield 167) 3 20 := by decide +kernel
theorem dX10_names_20 : gd cX10_names 20 (.getfield 191) 3 23 := by decide +kernel
theorem dX10_names_23 : gd cX10_names 23 (.aload_n 0) 1 24 := by decide +kernel
theorem dX10_names_24 : gd cX10_names 24 (.getfield 167) 3 27 := by decide +kernel
theorem dX10_names_27 : gd cX10_names 27 (.getfield 188) 3 30 := by decide +kernel
theorem dX10_names_30 : gd cX10_names 30 (.iload_n 3) 1 31 := by decide +kernel
theorem dX10_names_31 : gd cX10_names 31 (.iastore) 1 32 := by decide +kernel
theorem dX10_names_32 : gd cX10_names 32 (.aload_n 0) 1 33 := by decide +kernel
theorem dX10_names_33 : gd cX10_names 33 (.getfield 167) 3 36 := by decide +kernel
theorem dX10_names_36 : gd cX10_names 36 (.getfield 194) 3 39 := by decide +kernel
theorem dX10_names_39 : gd cX10_names 39 (.aload_n 0) 1 40 := by decide +kernel
theorem dX10_names_40 : gd cX10_names 40 (.getfield 167) 3 43 := by decide +kernel
theorem dX10_names_43 : gd cX10_names 43 (.getfield 188) 3 46 := by decide +kernel
theorem dX10_names_46 : gd cX10_names 46 (.iload 4) 2 48 := by decide +kernel
theorem dX10_names_48 : gd cX10_names 48 (.iastore) 1 49 := by decide +kernel
theorem dX10_names_49 : gd cX10_names 49 (.aload_n 0) 1 50 := by decide +kernel
theorem dX10_names_50 : gd cX10_names 50 (.getfield 167) 3 53 := by decide +kernel
theorem dX10_names_53 : gd cX10_names 53 (.dup) 1 54 := by decide +kernel
theorem dX10_names_54 : gd cX10_names 54 (.getfield 188) 3 57 := by decide +kernel
theorem dX10_names_57 : decode cX10_names 57 = .ok (.iconst 1, 1) ∧ 57 + 1 = 58 ∧ Int32.ofInt (1) = (1) := by decide +kernel
theorem dX10_names_58 : gd cX10_names 58 (.iadd) 1 59 := by decide +kernel
theorem dX10_names_59 : gd cX10_names 59 (.putfield 188) 3 62 := by decide +kernel
theorem dX10_names_62 : gd cX10_names 62 (.return_) 1 63 := by decide +kernel
theorem dX10_knownOne_0 : gd cX10_knownOne 0 (.aload_n 0) 1 1 := by decide +kernel
theorem dX10_knownOne_1 : gd cX10_knownOne 1 (.invokevirtual 176) 3 4 := by decide +kernel
theorem dX10_knownOne_4 : gb cX10_knownOne 4 (.ifCond .ne 8) (8) 7 12 := by decide +kernel
theorem dX10_knownOne_7 : gd cX10_knownOne 7 (.aload_n 0) 1 8 := by decide +kernel
theorem dX10_knownOne_8 : decode cX10_knownOne 8 = .ok (.iconst 1, 1) ∧ 8 + 1 = 9 ∧ Int32.ofInt (1) = (1) := by decide +kernel
theorem dX10_knownOne_9 : gd cX10_knownOne 9 (.invokevirtual 130) 3 12 := by decide +kernel
theorem dX10_knownOne_12 : gd cX10_knownOne 12 (.aload_n 0) 1 13 := by decide +kernel
theorem dX10_knownOne_13 : gd cX10_knownOne 13 (.getfield 167) 3 16 := by decide +kernel
theorem dX10_knownOne_16 : gd cX10_knownOne 16 (.aload_n 0) 1 17 := by decide +kernel
theorem dX10_knownOne_17 : gd cX10_knownOne 17 (.getfield 90) 3 20 := by decide +kernel
theorem dX10_knownOne_20 : gd cX10_knownOne 20 (.invokevirtual 180) 3 23 := by decide +kernel
theorem dX10_knownOne_23 : gd cX10_knownOne 23 (.istore_n 2) 1 24 := by decide +kernel
theorem dX10_knownOne_24 : gd cX10_knownOne 24 (.iload_n 2) 1 25 := by decide +kernel
theorem dX10_knownOne_25 : decode cX10_knownOne 25 = .ok (.iconst (-1), 1) ∧ 25 + 1 = 26 ∧ Int32.ofInt (-1) = (-1) := by decide +kernel
theorem dX10_knownOne_26 : gb cX10_knownOne 26 (.if_icmp .eq 16) (16) 29 42 := by decide +kernel
theorem dX10_knownOne_29 : gd cX10_knownOne 29 (.aload_n 0) 1 30 := by decide +kernel
theorem dX10_knownOne_30 : gd cX10_knownOne 30 (.getfield 167) 3 33 := by decide +kernel
theorem dX10_knownOne_33 : gd cX10_knownOne 33 (.getfield 191) 3 36 := by decide +kernel
theorem dX10_knownOne_36 : gd cX10_knownOne 36 (.iload_n 2) 1 37 := by decide +kernel
theorem dX10_knownOne_37 : gd cX10_knownOne 37 (.iaload) 1 38 := by decide +kernel
theorem dX10_knownOne_38 : gd cX10_knownOne 38 (.iload_n 1) 1 39 := by decide +kernel
theorem dX10_knownOne_39 : gb cX10_knownOne 39 (.if_icmp .eq 8) (8) 42 47 := by decide +kernel
theorem dX10_knownOne_42 : gd cX10_knownOne 42 (.aload_n 0) 1 43 := by decide +kernel
theorem dX10_knownOne_43 : decode cX10_knownOne 43 = .ok (.iconst 2, 1) ∧ 43 + 1 = 44 ∧ Int32.ofInt (2) = (2) := by decide +kernel
theorem dX10_knownOne_44 : gd cX10_knownOne 44 (.invokevirtual 130) 3 47 := by decide +kernel
theorem dX10_knownOne_47 : gd cX10_knownOne 47 (.aload_n 0) 1 48 := by decide +kernel
theorem dX10_knownOne_48 : gd cX10_knownOne 48 (.getfield 71) 3 51 := by decide +kernel
theorem dX10_knownOne_51 : decode cX10_knownOne 51 = .ok (.iconst 5, 1) ∧ 51 + 1 = 52 ∧ Int32.ofInt (5) = (5) := by decide +kernel
theorem dX10_knownOne_52 : gb cX10_knownOne 52 (.if_icmp .ne 7) (7) 55 59 := by decide +kernel
theorem dX10_knownOne_55 : decode cX10_knownOne 55 = .ok (.iconst 0, 1) ∧ 55 + 1 = 56 ∧ Int32.ofInt (0) = (0) := by decide +kernel
theorem dX10_knownOne_56 : gb cX10_knownOne 56 (.goto 12) (12) 59 68 := by decide +kernel
theorem dX10_knownOne_59 : gd cX10_knownOne 59 (.aload_n 0) 1 60 := by decide +kernel
theorem dX10_knownOne_60 : gd cX10_knownOne 60 (.getfield 167) 3 63 := by decide +kernel
theorem dX10_knownOne_63 : gd cX10_knownOne 63 (.getfield 194) 3 66 := by decide +kernel
theorem dX10_knownOne_66 : gd cX10_knownOne 66 (.iload_n 2) 1 67 := by decide +kernel
theorem dX10_knownOne_67 : gd cX10_knownOne 67 (.iaload) 1 68 := by decide +kernel
theorem dX10_knownOne_68 : gd cX10_knownOne 68 (.ireturn) 1 69 := by decide +kernel
theorem dX10_readKnown_0 : gd cX10_readKnown 0 (.aload_n 0) 1 1 := by decide +kernel
theorem dX10_readKnown_1 : gd cX10_readKnown 1 (.iload_n 1) 1 2 := by decide +kernel
theorem dX10_readKnown_2 : gd cX10_readKnown 2 (.invokevirtual 197) 3 5 := by decide +kernel
theorem dX10_readKnown_5 : gd cX10_readKnown 5 (.istore_n 2) 1 6 := by decide +kernel
theorem dX10_readKnown_6 : gd cX10_readKnown 6 (.aload_n 0) 1 7 := by decide +kernel
theorem dX10_readKnown_7 : gd cX10_readKnown 7 (.invokevirtual 123) 3 10 := by decide +kernel
theorem dX10_readKnown_10 : gd cX10_readKnown 10 (.iload_n 2) 1 11 := by decide +kernel
theorem dX10_readKnown_11 : gd cX10_readKnown 11 (.ireturn) 1 12 := by decide +kernel
theorem dX10_readRows_0 : gd cX10_readRows 0 (.aload_n 0) 1 1 := by decide +kernel
theorem dX10_readRows_1 : decode cX10_readRows 1 = .ok (.iconst 0, 1) ∧ 1 + 1 = 2 ∧ Int32.ofInt (0) = (0) := by decide +kernel
theorem dX10_readRows_2 : gd cX10_readRows 2 (.putfield 200) 3 5 := by decide +kernel
theorem dX10_readRows_5 : gd cX10_readRows 5 (.aload_n 0) 1 6 := by decide +kernel
theorem dX10_readRows_6 : decode cX10_readRows 6 = .ok (.iconst 0, 1) ∧ 6 + 1 = 7 ∧ Int32.ofInt (0) = (0) := by decide +kernel
theorem dX10_readRows_7 : gd cX10_readRows 7 (.putfield 203) 3 10 := by decide +kernel
theorem dX10_readRows_10 : decode cX10_readRows 10 = .ok (.iconst 0, 1) ∧ 10 + 1 = 11 ∧ Int32.ofInt (0) = (0) := by decide +kernel
theorem dX10_readRows_11 : gd cX10_readRows 11 (.istore_n 2) 1 12 := by decide +kernel
theorem dX10_readRows_12 : gd cX10_readRows 12 (.iload_n 2) 1 13 := by decide +kernel
theorem dX10_readRows_13 : gd cX10_readRows 13 (.aload_n 0) 1 14 := by decide +kernel
theorem dX10_readRows_14 : gd cX10_readRows 14 (.getfield 167) 3 17 := by decide +kernel
theorem dX10_readRows_17 : gd cX10_readRows 17 (.getfield 206) 3 20 := by decide +kernel
theorem dX10_readRows_20 : gb cX10_readRows 20 (.if_icmp .ge 232) (232) 23 252 := by decide +kernel
theorem dX10_readRows_23 : gd cX10_readRows 23 (.iload_n 2) 1 24 := by decide +kernel
theorem dX10_readRows_24 : gb cX10_readRows 24 (.ifCond .le 40) (40) 27 64 := by decide +kernel
theorem dX10_readRows_27 : gd cX10_readRows 27 (.aload_n 0) 1 28 := by decide +kernel
theorem dX10_readRows_28 : decode cX10_readRows 28 = .ok (.bipush 44, 2) ∧ 28 + 2 = 30 ∧ (Int8.ofInt (44)).toInt32 = (44) := by decide +kernel
theorem dX10_readRows_30 : gd cX10_readRows 30 (.invokevirtual 209) 3 33 := by decide +kernel
theorem dX10_readRows_33 : gb cX10_readRows 33 (.ifCond .ne 31) (31) 36 64 := by decide +kernel
theorem dX10_readRows_36 : gd cX10_readRows 36 (.aload_n 0) 1 37 := by decide +kernel
theorem dX10_readRows_37 : gd cX10_readRows 37 (.aload_n 0) 1 38 := by decide +kernel
theorem dX10_readRows_38 : decode cX10_readRows 38 = .ok (.bipush 59, 2) ∧ 38 + 2 = 40 ∧ (Int8.ofInt (59)).toInt32 = (59) := by decide +kernel
theorem dX10_readRows_40 : gd cX10_readRows 40 (.invokevirtual 120) 3 43 := by decide +kernel
theorem dX10_readRows_43 : gb cX10_readRows 43 (.ifCond .ne 11) (11) 46 54 := by decide +kernel
theorem dX10_readRows_46 : gd cX10_readRows 46 (.aload_n 0) 1 47 := by decide +kernel
theorem dX10_readRows_47 : gd cX10_readRows 47 (.getfield 71) 3 50 := by decide +kernel
theorem dX10_readRows_50 : decode cX10_readRows 50 = .ok (.iconst 1, 1) ∧ 50 + 1 = 51 ∧ Int32.ofInt (1) = (1) := by decide +kernel
theorem dX10_readRows_51 : gb cX10_readRows 51 (.if_icmp .ne 8) (8) 54 59 := by decide +kernel
theorem dX10_readRows_54 : decode cX10_readRows 54 = .ok (.bipush 6, 2) ∧ 54 + 2 = 56 ∧ (Int8.ofInt (6)).toInt32 = (6) := by decide +kernel
theorem dX10_readRows_56 : gb cX10_readRows 56 (.goto 4) (4) 59 60 := by decide +kernel
theorem dX10_readRows_59 : decode cX10_readRows 59 = .ok (.iconst 1, 1) ∧ 59 + 1 = 60 ∧ Int32.ofInt (1) = (1) := by decide +kernel
theorem dX10_readRows_60 : gd cX10_readRows 60 (.invokevirtual 130) 3 63 := by decide +kernel
theorem dX10_readRows_63 : gd cX10_readRows 63 (.return_) 1 64 := by decide +kernel
theorem dX10_readRows_64 : gd cX10_readRows 64 (.aload_n 0) 1 65 := by decide +kernel
theorem dX10_readRows_65 : gd cX10_readRows 65 (.getfield 71) 3 68 := by decide +kernel
theorem dX10_readRows_68 : decode cX10_readRows 68 = .ok (.iconst 2, 1) ∧ 68 + 1 = 69 ∧ Int32.ofInt (2) = (2) := by decide +kernel
theorem dX10_readRows_69 : gb cX10_readRows 69 (.if_icmp .eq 8) (8) 72 77 := by decide +kernel
theorem dX10_readRows_72 : gd cX10_readRows 72 (.aload_n 0) 1 73 := by decide +kernel
theorem dX10_readRows_73 : decode cX10_readRows 73 = .ok (.iconst 1, 1) ∧ 73 + 1 = 74 ∧ Int32.ofInt (1) = (1) := by decide +kernel
theorem dX10_readRows_74 : gd cX10_readRows 74 (.invokevirtual 130) 3 77 := by decide +kernel
theorem dX10_readRows_77 : gd cX10_readRows 77 (.aload_n 0) 1 78 := by decide +kernel
theorem dX10_readRows_78 : gd cX10_readRows 78 (.getfield 97) 3 81 := by decide +kernel
theorem dX10_readRows_81 : gd cX10_readRows 81 (.aload_n 0) 1 82 := by decide +kernel
theorem dX10_readRows_82 : gd cX10_readRows 82 (.getfield 167) 3 85 := by decide +kernel
theorem dX10_readRows_85 : gd cX10_readRows 85 (.getfield 171) 3 88 := by decide +kernel
theorem dX10_readRows_88 : gb cX10_readRows 88 (.if_icmp .ne 7) (7) 91 95 := by decide +kernel
theorem dX10_readRows_91 : decode cX10_readRows 91 = .ok (.iconst 1, 1) ∧ 91 + 1 = 92 ∧ Int32.ofInt (1) = (1) := by decide +kernel
theorem dX10_readRows_92 : gb cX10_readRows 92 (.goto 4) (4) 95 96 := by decide +kernel
theorem dX10_readRows_95 : decode cX10_readRows 95 = .ok (.iconst 0, 1) ∧ 95 + 1 = 96 ∧ Int32.ofInt (0) = (0) := by decide +kernel
theorem dX10_readRows_96 : gd cX10_readRows 96 (.istore_n 3) 1 97 := by decide +kernel
theorem dX10_readRows_97 : decode cX10_readRows 97 = .ok (.iconst 0, 1) ∧ 97 + 1 = 98 ∧ Int32.ofInt (0) = (0) := by decide +kernel
theorem dX10_readRows_98 : gd cX10_readRows 98 (.istore 4) 2 100 := by decide +kernel
theorem dX10_readRows_100 : gd cX10_readRows 100 (.iload 4) 2 102 := by decide +kernel
theorem dX10_readRows_102 : gd cX10_readRows 102 (.aload_n 0) 1 103 := by decide +kernel
theorem dX10_readRows_103 : gd cX10_readRows 103 (.getfield 97) 3 106 := by decide +kernel
theorem dX10_readRows_106 : gb cX10_readRows 106 (.if_icmp .ge 117) (117) 109 223 := by decide +kernel
theorem dX10_readRows_109 : gd cX10_readRows 109 (.iload_n 3) 1 110 := by decide +kernel
theorem dX10_readRows_110 : gb cX10_readRows 110 (.ifCond .eq 113) (113) 113 223 := by decide +kernel
theorem dX10_readRows_113 : gd cX10_readRows 113 (.aload_n 0) 1 114 := by decide +kernel
theorem dX10_readRows_114 : gd cX10_readRows 114 (.aload_n 0) 1 115 := by decide +kernel
theorem dX10_readRows_115 : gd cX10_readRows 115 (.getfield 94) 3 118 := by decide +kernel
theorem dX10_readRows_118 : gd cX10_readRows 118 (.iload 4) 2 120 := by decide +kernel
theorem dX10_readRows_120 : gd cX10_readRows 120 (.iadd) 1 121 := by decide +kernel
theorem dX10_readRows_121 : gd cX10_readRows 121 (.invokevirtual 77) 3 124 := by decide +kernel
theorem dX10_readRows_124 : gd cX10_readRows 124 (.istore 5) 2 126 := by decide +kernel
theorem dX10_readRows_126 : gd cX10_readRows 126 (.iload 5) 2 128 := by decide +kernel
theorem dX10_readRows_128 : decode cX10_readRows 128 = .ok (.bipush 111, 2) ∧ 128 + 2 = 130 ∧ (Int8.ofInt (111)).toInt32 = (111) := by decide +kernel
theorem dX10_readRows_130 : gb cX10_readRows 130 (.if_icmp .eq 21) (21) 133 151 := by decide +kernel
theorem dX10_readRows_133 : gd cX10_readRows 133 (.iload 5) 2 135 := by decide +kernel
theorem dX10_readRows_135 : decode cX10_readRows 135 = .ok (.bipush 120, 2) ∧ 135 + 2 = 137 ∧ (Int8.ofInt (120)).toInt32 = (120) := by decide +kernel
theorem dX10_readRows_137 : gb cX10_readRows 137 (.if_icmp .eq 14) (14) 140 151 := by decide +kernel
theorem dX10_readRows_140 : gd cX10_readRows 140 (.iload_n 1) 1 141 := by decide +kernel
theorem dX10_readRows_141 : gb cX10_readRows 141 (.ifCond .eq 14) (14) 144 155 := by decide +kernel
theorem dX10_readRows_144 : gd cX10_readRows 144 (.iload 5) 2 146 := by decide +kernel
theorem dX10_readRows_146 : decode cX10_readRows 146 = .ok (.bipush 109, 2) ∧ 146 + 2 = 148 ∧ (Int8.ofInt (109)).toInt32 = (109) := by decide +kernel
theorem dX10_readRows_148 : gb cX10_readRows 148 (.if_icmp .ne 7) (7) 151 155 := by decide +kernel
theorem dX10_readRows_151 : decode cX10_readRows 151 = .ok (.iconst 1, 1) ∧ 151 + 1 = 152 ∧ Int32.ofInt (1) = (1) := by decide +kernel
theorem dX10_readRows_152 : gb cX10_readRows 152 (.goto 4) (4) 155 156 := by decide +kernel
theorem dX10_readRows_155 : decode cX10_readRows 155 = .ok (.iconst 0, 1) ∧ 155 + 1 = 156 ∧ Int32.ofInt (0) = (0) := by decide +kernel
theorem dX10_readRows_156 : gd cX10_readRows 156 (.istore_n 3) 1 157 := by decide +kernel
theorem dX10_readRows_157 : gd cX10_readRows 157 (.iload 5) 2 159 := by decide +kernel
theorem dX10_readRows_159 : decode cX10_readRows 159 = .ok (.bipush 109, 2) ∧ 159 + 2 = 161 ∧ (Int8.ofInt (109)).toInt32 = (109) := by decide +kernel
theorem dX10_readRows_161 : gb cX10_readRows 161 (.if_icmp .eq 26) (26) 164 187 := by decide +kernel
theorem dX10_readRows_164 : gd cX10_readRows 164 (.aload_n 0) 1 165 := by decide +kernel
theorem dX10_readRows_165 : gd cX10_readRows 165 (.dup) 1 166 := by decide +kernel
theorem dX10_readRows_166 : gd cX10_readRows 166 (.getfield 200) 3 169 := by decide +kernel
theorem dX10_readRows_169 : decode cX10_readRows 169 = .ok (.iconst 1, 1) ∧ 169 + 1 = 170 ∧ Int32.ofInt (1) = (1) := by decide +kernel
theorem dX10_readRows_170 : gd cX10_readRows 170 (.iload_n 2) 1 171 := by decide +kernel
theorem dX10_readRows_171 : gd cX10_readRows 171 (.aload_n 0) 1 172 := by decide +kernel
theorem dX10_readRows_172 : gd cX10_readRows 172 (.getfield 167) 3 175 := by decide +kernel
theorem dX10_readRows_175 : gd cX10_readRows 175 (.getfield 171) 3 178 := by decide +kernel
theorem dX10_readRows_178 : gd cX10_readRows 178 (.imul) 1 179 := by decide +kernel
theorem dX10_readRows_179 : gd cX10_readRows 179 (.iload 4) 2 181 := by decide +kernel
theorem dX10_readRows_181 : gd cX10_readRows 181 (.iadd) 1 182 := by decide +kernel
theorem dX10_readRows_182 : gd cX10_readRows 182 (.ishl) 1 183 := by decide +kernel
theorem dX10_readRows_183 : gd cX10_readRows 183 (.ior) 1 184 := by decide +kernel
theorem dX10_readRows_184 : gd cX10_readRows 184 (.putfield 200) 3 187 := by decide +kernel
theorem dX10_readRows_187 : gd cX10_readRows 187 (.iload 5) 2 189 := by decide +kernel
theorem dX10_readRows_189 : decode cX10_readRows 189 = .ok (.bipush 120, 2) ∧ 189 + 2 = 191 ∧ (Int8.ofInt (120)).toInt32 = (120) := by decide +kernel
theorem dX10_readRows_191 : gb cX10_readRows 191 (.if_icmp .ne 26) (26) 194 217 := by decide +kernel
theorem dX10_readRows_194 : gd cX10_readRows 194 (.aload_n 0) 1 195 := by decide +kernel
theorem dX10_readRows_195 : gd cX10_readRows 195 (.dup) 1 196 := by decide +kernel
theorem dX10_readRows_196 : gd cX10_readRows 196 (.getfield 203) 3 199 := by decide +kernel
theorem dX10_readRows_199 : decode cX10_readRows 199 = .ok (.iconst 1, 1) ∧ 199 + 1 = 200 ∧ Int32.ofInt (1) = (1) := by decide +kernel
theorem dX10_readRows_200 : gd cX10_readRows 200 (.iload_n 2) 1 201 := by decide +kernel
theorem dX10_readRows_201 : gd cX10_readRows 201 (.aload_n 0) 1 202 := by decide +kernel
theorem dX10_readRows_202 : gd cX10_readRows 202 (.getfield 167) 3 205 := by decide +kernel
theorem dX10_readRows_205 : gd cX10_readRows 205 (.getfield 171) 3 208 := by decide +kernel
theorem dX10_readRows_208 : gd cX10_readRows 208 (.imul) 1 209 := by decide +kernel
theorem dX10_readRows_209 : gd cX10_readRows 209 (.iload 4) 2 211 := by decide +kernel
theorem dX10_readRows_211 : gd cX10_readRows 211 (.iadd) 1 212 := by decide +kernel
theorem dX10_readRows_212 : gd cX10_readRows 212 (.ishl) 1 213 := by decide +kernel
theorem dX10_readRows_213 : gd cX10_readRows 213 (.ior) 1 214 := by decide +kernel
theorem dX10_readRows_214 : gd cX10_readRows 214 (.putfield 203) 3 217 := by decide +kernel
theorem dX10_readRows_217 : decode cX10_readRows 217 = .ok (.iinc 4 1, 3) ∧ 217 + 3 = 220 ∧ Int32.ofInt (1) = (1) := by decide +kernel
theorem dX10_readRows_220 : gb cX10_readRows 220 (.goto (-120)) (-120) 223 100 := by decide +kernel
theorem dX10_readRows_223 : gd cX10_readRows 223 (.iload_n 3) 1 224 := by decide +kernel
theorem dX10_readRows_224 : gb cX10_readRows 224 (.ifCond .ne 9) (9) 227 233 := by decide +kernel
theorem dX10_readRows_227 : gd cX10_readRows 227 (.aload_n 0) 1 228 := by decide +kernel
theorem dX10_readRows_228 : decode cX10_readRows 228 = .ok (.bipush 7, 2) ∧ 228 + 2 = 230 ∧ (Int8.ofInt (7)).toInt32 = (7) := by decide +kernel
theorem dX10_readRows_230 : gd cX10_readRows 230 (.invokevirtual 130) 3 233 := by decide +kernel
theorem dX10_readRows_233 : gd cX10_readRows 233 (.aload_n 0) 1 234 := by decide +kernel
theorem dX10_readRows_234 : gd cX10_readRows 234 (.invokevirtual 123) 3 237 := by decide +kernel
theorem dX10_readRows_237 : gd cX10_readRows 237 (.aload_n 0) 1 238 := by decide +kernel
theorem dX10_readRows_238 : gd cX10_readRows 238 (.getfield 71) 3 241 := by decide +kernel
theorem dX10_readRows_241 : decode cX10_readRows 241 = .ok (.iconst 5, 1) ∧ 241 + 1 = 242 ∧ Int32.ofInt (5) = (5) := by decide +kernel
theorem dX10_readRows_242 : gb cX10_readRows 242 (.if_icmp .ne 4) (4) 245 246 := by decide +kernel
theorem dX10_readRows_245 : gd cX10_readRows 245 (.return_) 1 246 := by decide +kernel
theorem dX10_readRows_246 : decode cX10_readRows 246 = .ok (.iinc 2 1, 3) ∧ 246 + 3 = 249 ∧ Int32.ofInt (1) = (1) := by decide +kernel
theorem dX10_readRows_249 : gb cX10_readRows 249 (.goto (-237)) (-237) 252 12 := by decide +kernel
theorem dX10_readRows_252 : gd cX10_readRows 252 (.return_) 1 253 := by decide +kernel
theorem dX10_readAll_0 : decode cX10_readAll 0 = .ok (.iconst 1, 1) ∧ 0 + 1 = 1 ∧ Int32.ofInt (1) = (1) := by decide +kernel
theorem dX10_readAll_1 : gd cX10_readAll 1 (.istore_n 1) 1 2 := by decide +kernel
theorem dX10_readAll_2 : gd cX10_readAll 2 (.iload_n 1) 1 3 := by decide +kernel
theorem dX10_readAll_3 : gb cX10_readAll 3 (.ifCond .eq 17) (17) 6 20 := by decide +kernel
theorem dX10_readAll_6 : gd cX10_readAll 6 (.aload_n 0) 1 7 := by decide +kernel
theorem dX10_readAll_7 : gd cX10_readAll 7 (.invokevirtual 212) 3 10 := by decide +kernel
theorem dX10_readAll_10 : gd cX10_readAll 10 (.aload_n 0) 1 11 := by decide +kernel
theorem dX10_readAll_11 : decode cX10_readAll 11 = .ok (.bipush 59, 2) ∧ 11 + 2 = 13 ∧ (Int8.ofInt (59)).toInt32 = (59) := by decide +kernel
theorem dX10_readAll_13 : gd cX10_readAll 13 (.invokevirtual 209) 3 16 := by decide +kernel
theorem dX10_readAll_16 : gd cX10_readAll 16 (.istore_n 1) 1 17 := by decide +kernel
theorem dX10_readAll_17 : gb cX10_readAll 17 (.goto (-15)) (-15) 20 2 := by decide +kernel
theorem dX10_readAll_20 : gd cX10_readAll 20 (.aload_n 0) 1 21 := by decide +kernel
theorem dX10_readAll_21 : gd cX10_readAll 21 (.getfield 71) 3 24 := by decide +kernel
theorem dX10_readAll_24 : decode cX10_readAll 24 = .ok (.iconst 1, 1) ∧ 24 + 1 = 25 ∧ Int32.ofInt (1) = (1) := by decide +kernel
theorem dX10_readAll_25 : gb cX10_readAll 25 (.if_icmp .eq 8) (8) 28 33 := by decide +kernel
theorem dX10_readAll_28 : gd cX10_readAll 28 (.aload_n 0) 1 29 := by decide +kernel
theorem dX10_readAll_29 : decode cX10_readAll 29 = .ok (.iconst 1, 1) ∧ 29 + 1 = 30 ∧ Int32.ofInt (1) = (1) := by decide +kernel
theorem dX10_readAll_30 : gd cX10_readAll 30 (.invokevirtual 130) 3 33 := by decide +kernel
theorem dX10_readAll_33 : gd cX10_readAll 33 (.aload_n 0) 1 34 := by decide +kernel
theorem dX10_readAll_34 : gd cX10_readAll 34 (.getfield 167) 3 37 := by decide +kernel
theorem dX10_readAll_37 : gd cX10_readAll 37 (.getfield 215) 3 40 := by decide +kernel
theorem dX10_readAll_40 : gb cX10_readAll 40 (.ifCond .ne 9) (9) 43 49 := by decide +kernel
theorem dX10_readAll_43 : gd cX10_readAll 43 (.aload_n 0) 1 44 := by decide +kernel
theorem dX10_readAll_44 : decode cX10_readAll 44 = .ok (.bipush 6, 2) ∧ 44 + 2 = 46 ∧ (Int8.ofInt (6)).toInt32 = (6) := by decide +kernel
theorem dX10_readAll_46 : gd cX10_readAll 46 (.invokevirtual 130) 3 49 := by decide +kernel
theorem dX10_readAll_49 : gd cX10_readAll 49 (.return_) 1 50 := by decide +kernel
theorem dX10_readLine_0 : gd cX10_readLine 0 (.aload_n 0) 1 1 := by decide +kernel
theorem dX10_readLine_1 : gd cX10_readLine 1 (.ldc 146) 2 3 := by decide +kernel
theorem dX10_readLine_3 : gd cX10_readLine 3 (.invokevirtual 126) 3 6 := by decide +kernel
theorem dX10_readLine_6 : gb cX10_readLine 6 (.ifCond .eq 10) (10) 9 16 := by decide +kernel
theorem dX10_readLine_9 : gd cX10_readLine 9 (.aload_n 0) 1 10 := by decide +kernel
theorem dX10_readLine_10 : gd cX10_readLine 10 (.invokevirtual 218) 3 13 := by decide +kernel
theorem dX10_readLine_13 : gb cX10_readLine 13 (.goto 168) (168) 16 181 := by decide +kernel
theorem dX10_readLine_16 : gd cX10_readLine 16 (.aload_n 0) 1 17 := by decide +kernel
theorem dX10_readLine_17 : gd cX10_readLine 17 (.ldc 148) 2 19 := by decide +kernel
theorem dX10_readLine_19 : gd cX10_readLine 19 (.invokevirtual 126) 3 22 := by decide +kernel
theorem dX10_readLine_22 : gb cX10_readLine 22 (.ifCond .eq 10) (10) 25 32 := by decide +kernel
theorem dX10_readLine_25 : gd cX10_readLine 25 (.aload_n 0) 1 26 := by decide +kernel
theorem dX10_readLine_26 : gd cX10_readLine 26 (.invokevirtual 221) 3 29 := by decide +kernel
theorem dX10_readLine_29 : gb cX10_readLine 29 (.goto 152) (152) 32 181 := by decide +kernel
theorem dX10_readLine_32 : gd cX10_readLine 32 (.aload_n 0) 1 33 := by decide +kernel
theorem dX10_readLine_33 : gd cX10_readLine 33 (.ldc 150) 2 35 := by decide +kernel
theorem dX10_readLine_35 : gd cX10_readLine 35 (.invokevirtual 126) 3 38 := by decide +kernel
theorem dX10_readLine_38 : gb cX10_readLine 38 (.ifCond .eq 10) (10) 41 48 := by decide +kernel
theorem dX10_readLine_41 : gd cX10_readLine 41 (.aload_n 0) 1 42 := by decide +kernel
theorem dX10_readLine_42 : gd cX10_readLine 42 (.invokevirtual 224) 3 45 := by decide +kernel
theorem dX10_readLine_45 : gb cX10_readLine 45 (.goto 136) (136) 48 181 := by decide +kernel
theorem dX10_readLine_48 : gd cX10_readLine 48 (.aload_n 0) 1 49 := by decide +kernel
theorem dX10_readLine_49 : gd cX10_readLine 49 (.ldc 151) 2 51 := by decide +kernel
theorem dX10_readLine_51 : gd cX10_readLine 51 (.invokevirtual 126) 3 54 := by decide +kernel
theorem dX10_readLine_54 : gb cX10_readLine 54 (.ifCond .eq 10) (10) 57 64 := by decide +kernel
theorem dX10_readLine_57 : gd cX10_readLine 57 (.aload_n 0) 1 58 := by decide +kernel
theorem dX10_readLine_58 : gd cX10_readLine 58 (.invokevirtual 227) 3 61 := by decide +kernel
theorem dX10_readLine_61 : gb cX10_readLine 61 (.goto 120) (120) 64 181 := by decide +kernel
theorem dX10_readLine_64 : gd cX10_readLine 64 (.aload_n 0) 1 65 := by decide +kernel
theorem dX10_readLine_65 : gd cX10_readLine 65 (.ldc 153) 2 67 := by decide +kernel
theorem dX10_readLine_67 : gd cX10_readLine 67 (.invokevirtual 126) 3 70 := by decide +kernel
theorem dX10_readLine_70 : gb cX10_readLine 70 (.ifCond .eq 10) (10) 73 80 := by decide +kernel
theorem dX10_readLine_73 : gd cX10_readLine 73 (.aload_n 0) 1 74 := by decide +kernel
theorem dX10_readLine_74 : gd cX10_readLine 74 (.invokevirtual 230) 3 77 := by decide +kernel
theorem dX10_readLine_77 : gb cX10_readLine 77 (.goto 104) (104) 80 181 := by decide +kernel
theorem dX10_readLine_80 : gd cX10_readLine 80 (.aload_n 0) 1 81 := by decide +kernel
theorem dX10_readLine_81 : gd cX10_readLine 81 (.ldc 155) 2 83 := by decide +kernel
theorem dX10_readLine_83 : gd cX10_readLine 83 (.invokevirtual 126) 3 86 := by decide +kernel
theorem dX10_readLine_86 : gb cX10_readLine 86 (.ifCond .eq 10) (10) 89 96 := by decide +kernel
theorem dX10_readLine_89 : gd cX10_readLine 89 (.aload_n 0) 1 90 := by decide +kernel
theorem dX10_readLine_90 : gd cX10_readLine 90 (.invokevirtual 233) 3 93 := by decide +kernel
theorem dX10_readLine_93 : gb cX10_readLine 93 (.goto 88) (88) 96 181 := by decide +kernel
theorem dX10_readLine_96 : gd cX10_readLine 96 (.aload_n 0) 1 97 := by decide +kernel
theorem dX10_readLine_97 : gd cX10_readLine 97 (.ldc 157) 2 99 := by decide +kernel
theorem dX10_readLine_99 : gd cX10_readLine 99 (.invokevirtual 126) 3 102 := by decide +kernel
theorem dX10_readLine_102 : gb cX10_readLine 102 (.ifCond .eq 10) (10) 105 112 := by decide +kernel
theorem dX10_readLine_105 : gd cX10_readLine 105 (.aload_n 0) 1 106 := by decide +kernel
theorem dX10_readLine_106 : gd cX10_readLine 106 (.invokevirtual 236) 3 109 := by decide +kernel
theorem dX10_readLine_109 : gb cX10_readLine 109 (.goto 72) (72) 112 181 := by decide +kernel
theorem dX10_readLine_112 : gd cX10_readLine 112 (.aload_n 0) 1 113 := by decide +kernel
theorem dX10_readLine_113 : gd cX10_readLine 113 (.ldc 159) 2 115 := by decide +kernel
theorem dX10_readLine_115 : gd cX10_readLine 115 (.invokevirtual 126) 3 118 := by decide +kernel
theorem dX10_readLine_118 : gb cX10_readLine 118 (.ifCond .eq 10) (10) 121 128 := by decide +kernel
theorem dX10_readLine_121 : gd cX10_readLine 121 (.aload_n 0) 1 122 := by decide +kernel
theorem dX10_readLine_122 : gd cX10_readLine 122 (.invokevirtual 239) 3 125 := by decide +kernel
theorem dX10_readLine_125 : gb cX10_readLine 125 (.goto 56) (56) 128 181 := by decide +kernel
theorem dX10_readLine_128 : gd cX10_readLine 128 (.aload_n 0) 1 129 := by decide +kernel
theorem dX10_readLine_129 : gd cX10_readLine 129 (.ldc 161) 2 131 := by decide +kernel
theorem dX10_readLine_131 : gd cX10_readLine 131 (.invokevirtual 126) 3 134 := by decide +kernel
theorem dX10_readLine_134 : gb cX10_readLine 134 (.ifCond .eq 10) (10) 137 144 := by decide +kernel
theorem dX10_readLine_137 : gd cX10_readLine 137 (.aload_n 0) 1 138 := by decide +kernel
theorem dX10_readLine_138 : gd cX10_readLine 138 (.invokevirtual 242) 3 141 := by decide +kernel
theorem dX10_readLine_141 : gb cX10_readLine 141 (.goto 40) (40) 144 181 := by decide +kernel
theorem dX10_readLine_144 : gd cX10_readLine 144 (.aload_n 0) 1 145 := by decide +kernel
theorem dX10_readLine_145 : gd cX10_readLine 145 (.ldc 163) 2 147 := by decide +kernel
theorem dX10_readLine_147 : gd cX10_readLine 147 (.invokevirtual 126) 3 150 := by decide +kernel
theorem dX10_readLine_150 : gb cX10_readLine 150 (.ifCond .eq 10) (10) 153 160 := by decide +kernel
theorem dX10_readLine_153 : gd cX10_readLine 153 (.aload_n 0) 1 154 := by decide +kernel
theorem dX10_readLine_154 : gd cX10_readLine 154 (.invokevirtual 245) 3 157 := by decide +kernel
theorem dX10_readLine_157 : gb cX10_readLine 157 (.goto 24) (24) 160 181 := by decide +kernel
theorem dX10_readLine_160 : gd cX10_readLine 160 (.aload_n 0) 1 161 := by decide +kernel
theorem dX10_readLine_161 : gd cX10_readLine 161 (.ldc 165) 2 163 := by decide +kernel
theorem dX10_readLine_163 : gd cX10_readLine 163 (.invokevirtual 126) 3 166 := by decide +kernel
theorem dX10_readLine_166 : gb cX10_readLine 166 (.ifCond .eq 10) (10) 169 176 := by decide +kernel
theorem dX10_readLine_169 : gd cX10_readLine 169 (.aload_n 0) 1 170 := by decide +kernel
theorem dX10_readLine_170 : gd cX10_readLine 170 (.invokevirtual 248) 3 173 := by decide +kernel
theorem dX10_readLine_173 : gb cX10_readLine 173 (.goto 8) (8) 176 181 := by decide +kernel
theorem dX10_readLine_176 : gd cX10_readLine 176 (.aload_n 0) 1 177 := by decide +kernel
theorem dX10_readLine_177 : decode cX10_readLine 177 = .ok (.iconst 1, 1) ∧ 177 + 1 = 178 ∧ Int32.ofInt (1) = (1) := by decide +kernel
theorem dX10_readLine_178 : gd cX10_readLine 178 (.invokevirtual 130) 3 181 := by decide +kernel
theorem dX10_readLine_181 : gd cX10_readLine 181 (.return_) 1 182 := by decide +kernel
theorem dX10_readCity_0 : gd cX10_readCity 0 (.aload_n 0) 1 1 := by decide +kernel
theorem dX10_readCity_1 : gd cX10_readCity 1 (.getfield 167) 3 4 := by decide +kernel
theorem dX10_readCity_4 : gd cX10_readCity 4 (.getfield 171) 3 7 := by decide +kernel
theorem dX10_readCity_7 : gb cX10_readCity 7 (.ifCond .le 8) (8) 10 15 := by decide +kernel
theorem dX10_readCity_10 : gd cX10_readCity 10 (.aload_n 0) 1 11 := by decide +kernel
theorem dX10_readCity_11 : decode cX10_readCity 11 = .ok (.iconst 3, 1) ∧ 11 + 1 = 12 ∧ Int32.ofInt (3) = (3) := by decide +kernel
theorem dX10_readCity_12 : gd cX10_readCity 12 (.invokevirtual 130) 3 15 := by decide +kernel
theorem dX10_readCity_15 : gd cX10_readCity 15 (.aload_n 0) 1 16 := by decide +kernel
theorem dX10_readCity_16 : gd cX10_readCity 16 (.invokevirtual 123) 3 19 := by decide +kernel
theorem dX10_readCity_19 : gd cX10_readCity 19 (.aload_n 0) 1 20 := by decide +kernel
theorem dX10_readCity_20 : gd cX10_readCity 20 (.ldc 251) 2 22 := by decide +kernel
theorem dX10_readCity_22 : decode cX10_readCity 22 = .ok (.iconst 2, 1) ∧ 22 + 1 = 23 ∧ Int32.ofInt (2) = (2) := by decide +kernel
theorem dX10_readCity_23 : decode cX10_readCity 23 = .ok (.iconst 5, 1) ∧ 23 + 1 = 24 ∧ Int32.ofInt (5) = (5) := by decide +kernel
theorem dX10_readCity_24 : gd cX10_readCity 24 (.invokevirtual 252) 3 27 := by decide +kernel
theorem dX10_readCity_27 : gd cX10_readCity 27 (.istore_n 1) 1 28 := by decide +kernel
theorem dX10_readCity_28 : gd cX10_readCity 28 (.aload_n 0) 1 29 := by decide +kernel
theorem dX10_readCity_29 : gd cX10_readCity 29 (.ldc_w 256) 3 32 := by decide +kernel
theorem dX10_readCity_32 : decode cX10_readCity 32 = .ok (.iconst 2, 1) ∧ 32 + 1 = 33 ∧ Int32.ofInt (2) = (2) := by decide +kernel
theorem dX10_readCity_33 : decode cX10_readCity 33 = .ok (.iconst 4, 1) ∧ 33 + 1 = 34 ∧ Int32.ofInt (4) = (4) := by decide +kernel
theorem dX10_readCity_34 : gd cX10_readCity 34 (.invokevirtual 252) 3 37 := by decide +kernel
theorem dX10_readCity_37 : gd cX10_readCity 37 (.istore_n 2) 1 38 := by decide +kernel
theorem dX10_readCity_38 : gd cX10_readCity 38 (.aload_n 0) 1 39 := by decide +kernel
theorem dX10_readCity_39 : gd cX10_readCity 39 (.ldc_w 257) 3 42 := by decide +kernel
theorem dX10_readCity_42 : decode cX10_readCity 42 = .ok (.iconst 0, 1) ∧ 42 + 1 = 43 ∧ Int32.ofInt (0) = (0) := by decide +kernel
theorem dX10_readCity_43 : decode cX10_readCity 43 = .ok (.bipush 99, 2) ∧ 43 + 2 = 45 ∧ (Int8.ofInt (99)).toInt32 = (99) := by decide +kernel
theorem dX10_readCity_45 : gd cX10_readCity 45 (.invokevirtual 252) 3 48 := by decide +kernel
theorem dX10_readCity_48 : gd cX10_readCity 48 (.istore_n 3) 1 49 := by decide +kernel
theorem dX10_readCity_49 : gd cX10_readCity 49 (.aload_n 0) 1 50 := by decide +kernel
theorem dX10_readCity_50 : gd cX10_readCity 50 (.ldc_w 259) 3 53 := by decide +kernel
theorem dX10_readCity_53 : decode cX10_readCity 53 = .ok (.iconst 1, 1) ∧ 53 + 1 = 54 ∧ Int32.ofInt (1) = (1) := by decide +kernel
theorem dX10_readCity_54 : decode cX10_readCity 54 = .ok (.bipush 60, 2) ∧ 54 + 2 = 56 ∧ (Int8.ofInt (60)).toInt32 = (60) := by decide +kernel
theorem dX10_readCity_56 : gd cX10_readCity 56 (.invokevirtual 252) 3 59 := by decide +kernel
theorem dX10_readCity_59 : gd cX10_readCity 59 (.istore 4) 2 61 := by decide +kernel
theorem dX10_readCity_61 : gd cX10_readCity 61 (.aload_n 0) 1 62 := by decide +kernel
theorem dX10_readCity_62 : gd cX10_readCity 62 (.getfield 71) 3 65 := by decide +kernel
theorem dX10_readCity_65 : decode cX10_readCity 65 = .ok (.iconst 5, 1) ∧ 65 + 1 = 66 ∧ Int32.ofInt (5) = (5) := by decide +kernel
theorem dX10_readCity_66 : gb cX10_readCity 66 (.if_icmp .ne 4) (4) 69 70 := by decide +kernel
theorem dX10_readCity_69 : gd cX10_readCity 69 (.return_) 1 70 := by decide +kernel
theorem dX10_readCity_70 : gd cX10_readCity 70 (.aload_n 0) 1 71 := by decide +kernel
theorem dX10_readCity_71 : gd cX10_readCity 71 (.getfield 167) 3 74 := by decide +kernel
theorem dX10_readCity_74 : gd cX10_readCity 74 (.iload_n 1) 1 75 := by decide +kernel
theorem dX10_readCity_75 : gd cX10_readCity 75 (.putfield 171) 3 78 := by decide +kernel
theorem dX10_readCity_78 : gd cX10_readCity 78 (.aload_n 0) 1 79 := by decide +kernel
theorem dX10_readCity_79 : gd cX10_readCity 79 (.getfield 167) 3 82 := by decide +kernel
theorem dX10_readCity_82 : gd cX10_readCity 82 (.iload_n 2) 1 83 := by decide +kernel
theorem dX10_readCity_83 : gd cX10_readCity 83 (.putfield 206) 3 86 := by decide +kernel
theorem dX10_readCity_86 : gd cX10_readCity 86 (.aload_n 0) 1 87 := by decide +kernel
theorem dX10_readCity_87 : gd cX10_readCity 87 (.getfield 167) 3 90 := by decide +kernel
theorem dX10_readCity_90 : gd cX10_readCity 90 (.iload_n 3) 1 91 := by decide +kernel
theorem dX10_readCity_91 : gd cX10_readCity 91 (.putfield 261) 3 94 := by decide +kernel
theorem dX10_readCity_94 : gd cX10_readCity 94 (.aload_n 0) 1 95 := by decide +kernel
theorem dX10_readCity_95 : gd cX10_readCity 95 (.getfield 167) 3 98 := by decide +kernel
theorem dX10_readCity_98 : gd cX10_readCity 98 (.iload 4) 2 100 := by decide +kernel
theorem dX10_readCity_100 : gd cX10_readCity 100 (.putfield 263) 3 103 := by decide +kernel
theorem dX10_readCity_103 : gd cX10_readCity 103 (.return_) 1 104 := by decide +kernel
theorem dX10_readPane_0 : gd cX10_readPane 0 (.aload_n 0) 1 1 := by decide +kernel
theorem dX10_readPane_1 : gd cX10_readPane 1 (.aload_n 0) 1 2 := by decide +kernel
theorem dX10_readPane_2 : gd cX10_readPane 2 (.getfield 167) 3 5 := by decide +kernel
theorem dX10_readPane_5 : gd cX10_readPane 5 (.getfield 215) 3 8 := by decide +kernel
theorem dX10_readPane_8 : decode cX10_readPane 8 = .ok (.bipush 8, 2) ∧ 8 + 2 = 10 ∧ (Int8.ofInt (8)).toInt32 = (8) := by decide +kernel
theorem dX10_readPane_10 : gd cX10_readPane 10 (.invokevirtual 265) 3 13 := by decide +kernel
theorem dX10_readPane_13 : gd cX10_readPane 13 (.aload_n 0) 1 14 := by decide +kernel
theorem dX10_readPane_14 : gd cX10_readPane 14 (.invokevirtual 268) 3 17 := by decide +kernel
theorem dX10_readPane_17 : gd cX10_readPane 17 (.lstore_n 1) 1 18 := by decide +kernel
theorem dX10_readPane_18 : gd cX10_readPane 18 (.aload_n 0) 1 19 := by decide +kernel
theorem dX10_readPane_19 : gd cX10_readPane 19 (.ldc_w 272) 3 22 := by decide +kernel
theorem dX10_readPane_22 : gd cX10_readPane 22 (.invokevirtual 126) 3 25 := by decide +kernel
theorem dX10_readPane_25 : gb cX10_readPane 25 (.ifCond .eq 7) (7) 28 32 := by decide +kernel
theorem dX10_readPane_28 : decode cX10_readPane 28 = .ok (.iconst 0, 1) ∧ 28 + 1 = 29 ∧ Int32.ofInt (0) = (0) := by decide +kernel
theorem dX10_readPane_29 : gb cX10_readPane 29 (.goto 32) (32) 32 61 := by decide +kernel
theorem dX10_readPane_32 : gd cX10_readPane 32 (.aload_n 0) 1 33 := by decide +kernel
theorem dX10_readPane_33 : gd cX10_readPane 33 (.ldc_w 274) 3 36 := by decide +kernel
theorem dX10_readPane_36 : gd cX10_readPane 36 (.invokevirtual 126) 3 39 := by decide +kernel
theorem dX10_readPane_39 : gb cX10_readPane 39 (.ifCond .eq 7) (7) 42 46 := by decide +kernel
theorem dX10_readPane_42 : decode cX10_readPane 42 = .ok (.iconst 1, 1) ∧ 42 + 1 = 43 ∧ Int32.ofInt (1) = (1) := by decide +kernel
theorem dX10_readPane_43 : gb cX10_readPane 43 (.goto 18) (18) 46 61 := by decide +kernel
theorem dX10_readPane_46 : gd cX10_readPane 46 (.aload_n 0) 1 47 := by decide +kernel
theorem dX10_readPane_47 : gd cX10_readPane 47 (.ldc_w 259) 3 50 := by decide +kernel
theorem dX10_readPane_50 : gd cX10_readPane 50 (.invokevirtual 126) 3 53 := by decide +kernel
theorem dX10_readPane_53 : gb cX10_readPane 53 (.ifCond .eq 7) (7) 56 60 := by decide +kernel
theorem dX10_readPane_56 : decode cX10_readPane 56 = .ok (.iconst 2, 1) ∧ 56 + 1 = 57 ∧ Int32.ofInt (2) = (2) := by decide +kernel
theorem dX10_readPane_57 : gb cX10_readPane 57 (.goto 4) (4) 60 61 := by decide +kernel
theorem dX10_readPane_60 : decode cX10_readPane 60 = .ok (.iconst (-1), 1) ∧ 60 + 1 = 61 ∧ Int32.ofInt (-1) = (-1) := by decide +kernel
theorem dX10_readPane_61 : gd cX10_readPane 61 (.istore_n 3) 1 62 := by decide +kernel
theorem dX10_readPane_62 : gd cX10_readPane 62 (.iload_n 3) 1 63 := by decide +kernel
theorem dX10_readPane_63 : decode cX10_readPane 63 = .ok (.iconst (-1), 1) ∧ 63 + 1 = 64 ∧ Int32.ofInt (-1) = (-1) := by decide +kernel
theorem dX10_readPane_64 : gb cX10_readPane 64 (.if_icmp .ne 8) (8) 67 72 := by decide +kernel
theorem dX10_readPane_67 : gd cX10_readPane 67 (.aload_n 0) 1 68 := by decide +kernel
theorem dX10_readPane_68 : decode cX10_readPane 68 = .ok (.iconst 1, 1) ∧ 68 + 1 = 69 ∧ Int32.ofInt (1) = (1) := by decide +kernel
theorem dX10_readPane_69 : gd cX10_readPane 69 (.invokevirtual 130) 3 72 := by decide +kernel
theorem dX10_readPane_72 : gd cX10_readPane 72 (.aload_n 0) 1 73 := by decide +kernel
theorem dX10_readPane_73 : gd cX10_readPane 73 (.invokevirtual 123) 3 76 := by decide +kernel
theorem dX10_readPane_76 : gd cX10_readPane 76 (.aload_n 0) 1 77 := by decide +kernel
theorem dX10_readPane_77 : decode cX10_readPane 77 = .ok (.iconst 0, 1) ∧ 77 + 1 = 78 ∧ Int32.ofInt (0) = (0) := by decide +kernel
theorem dX10_readPane_78 : gd cX10_readPane 78 (.invokevirtual 276) 3 81 := by decide +kernel
theorem dX10_readPane_81 : gd cX10_readPane 81 (.aload_n 0) 1 82 := by decide +kernel
theorem dX10_readPane_82 : gd cX10_readPane 82 (.getfield 71) 3 85 := by decide +kernel
theorem dX10_readPane_85 : decode cX10_readPane 85 = .ok (.iconst 5, 1) ∧ 85 + 1 = 86 ∧ Int32.ofInt (5) = (5) := by decide +kernel
theorem dX10_readPane_86 : gb cX10_readPane 86 (.if_icmp .ne 4) (4) 89 90 := by decide +kernel
theorem dX10_readPane_89 : gd cX10_readPane 89 (.return_) 1 90 := by decide +kernel
theorem dX10_readPane_90 : gd cX10_readPane 90 (.aload_n 0) 1 91 := by decide +kernel
theorem dX10_readPane_91 : gd cX10_readPane 91 (.lload_n 1) 1 92 := by decide +kernel
theorem dX10_readPane_92 : decode cX10_readPane 92 = .ok (.iconst 0, 1) ∧ 92 + 1 = 93 ∧ Int32.ofInt (0) = (0) := by decide +kernel
theorem dX10_readPane_93 : gd cX10_readPane 93 (.aload_n 0) 1 94 := by decide +kernel
theorem dX10_readPane_94 : gd cX10_readPane 94 (.getfield 167) 3 97 := by decide +kernel
theorem dX10_readPane_97 : gd cX10_readPane 97 (.getfield 215) 3 100 := by decide +kernel
theorem dX10_readPane_100 : gd cX10_readPane 100 (.invokevirtual 280) 3 103 := by decide +kernel
theorem dX10_readPane_103 : gd cX10_readPane 103 (.aload_n 0) 1 104 := by decide +kernel
theorem dX10_readPane_104 : gd cX10_readPane 104 (.getfield 167) 3 107 := by decide +kernel
theorem dX10_readPane_107 : gd cX10_readPane 107 (.getfield 283) 3 110 := by decide +kernel
theorem dX10_readPane_110 : gd cX10_readPane 110 (.aload_n 0) 1 111 := by decide +kernel
theorem dX10_readPane_111 : gd cX10_readPane 111 (.getfield 167) 3 114 := by decide +kernel
theorem dX10_readPane_114 : gd cX10_readPane 114 (.getfield 215) 3 117 := by decide +kernel
theorem dX10_readPane_117 : gd cX10_readPane 117 (.iload_n 3) 1 118 := by decide +kernel
theorem dX10_readPane_118 : gd cX10_readPane 118 (.iastore) 1 119 := by decide +kernel
theorem dX10_readPane_119 : gd cX10_readPane 119 (.aload_n 0) 1 120 := by decide +kernel
theorem dX10_readPane_120 : gd cX10_readPane 120 (.getfield 167) 3 123 := by decide +kernel
theorem dX10_readPane_123 : gd cX10_readPane 123 (.getfield 286) 3 126 := by decide +kernel
theorem dX10_readPane_126 : gd cX10_readPane 126 (.aload_n 0) 1 127 := by decide +kernel
theorem dX10_readPane_127 : gd cX10_readPane 127 (.getfield 167) 3 130 := by decide +kernel
theorem dX10_readPane_130 : gd cX10_readPane 130 (.getfield 215) 3 133 := by decide +kernel
theorem dX10_readPane_133 : gd cX10_readPane 133 (.aload_n 0) 1 134 := by decide +kernel
theorem dX10_readPane_134 : gd cX10_readPane 134 (.getfield 203) 3 137 := by decide +kernel
theorem dX10_readPane_137 : gd cX10_readPane 137 (.iastore) 1 138 := by decide +kernel
theorem dX10_readPane_138 : gd cX10_readPane 138 (.aload_n 0) 1 139 := by decide +kernel
theorem dX10_readPane_139 : gd cX10_readPane 139 (.getfield 167) 3 142 := by decide +kernel
theorem dX10_readPane_142 : gd cX10_readPane 142 (.dup) 1 143 := by decide +kernel
theorem dX10_readPane_143 : gd cX10_readPane 143 (.getfield 215) 3 146 := by decide +kernel
theorem dX10_readPane_146 : decode cX10_readPane 146 = .ok (.iconst 1, 1) ∧ 146 + 1 = 147 ∧ Int32.ofInt (1) = (1) := by decide +kernel
theorem dX10_readPane_147 : gd cX10_readPane 147 (.iadd) 1 148 := by decide +kernel
theorem dX10_readPane_148 : gd cX10_readPane 148 (.putfield 215) 3 151 := by decide +kernel
theorem dX10_readPane_151 : gd cX10_readPane 151 (.return_) 1 152 := by decide +kernel
theorem dX10_readWordLine_0 : gd cX10_readWordLine 0 (.aload_n 0) 1 1 := by decide +kernel
theorem dX10_readWordLine_1 : gd cX10_readWordLine 1 (.aload_n 0) 1 2 := by decide +kernel
theorem dX10_readWordLine_2 : gd cX10_readWordLine 2 (.getfield 167) 3 5 := by decide +kernel
theorem dX10_readWordLine_5 : gd cX10_readWordLine 5 (.getfield 289) 3 8 := by decide +kernel
theorem dX10_readWordLine_8 : decode cX10_readWordLine 8 = .ok (.bipush 8, 2) ∧ 8 + 2 = 10 ∧ (Int8.ofInt (8)).toInt32 = (8) := by decide +kernel
theorem dX10_readWordLine_10 : gd cX10_readWordLine 10 (.invokevirtual 265) 3 13 := by decide +kernel
theorem dX10_readWordLine_13 : gd cX10_readWordLine 13 (.aload_n 0) 1 14 := by decide +kernel
theorem dX10_readWordLine_14 : gd cX10_readWordLine 14 (.invokevirtual 268) 3 17 := by decide +kernel
theorem dX10_readWordLine_17 : gd cX10_readWordLine 17 (.lstore_n 1) 1 18 := by decide +kernel
theorem dX10_readWordLine_18 : gd cX10_readWordLine 18 (.aload_n 0) 1 19 := by decide +kernel
theorem dX10_readWordLine_19 : decode cX10_readWordLine 19 = .ok (.iconst 0, 1) ∧ 19 + 1 = 20 ∧ Int32.ofInt (0) = (0) := by decide +kernel
theorem dX10_readWordLine_20 : gd cX10_readWordLine 20 (.invokevirtual 276) 3 23 := by decide +kernel
theorem dX10_readWordLine_23 : gd cX10_readWordLine 23 (.aload_n 0) 1 24 := by decide +kernel
theorem dX10_readWordLine_24 : gd cX10_readWordLine 24 (.getfield 71) 3 27 := by decide +kernel
theorem dX10_readWordLine_27 : decode cX10_readWordLine 27 = .ok (.iconst 5, 1) ∧ 27 + 1 = 28 ∧ Int32.ofInt (5) = (5) := by decide +kernel
theorem dX10_readWordLine_28 : gb cX10_readWordLine 28 (.if_icmp .ne 4) (4) 31 32 := by decide +kernel
theorem dX10_readWordLine_31 : gd cX10_readWordLine 31 (.return_) 1 32 := by decide +kernel
theorem dX10_readWordLine_32 : gd cX10_readWordLine 32 (.aload_n 0) 1 33 := by decide +kernel
theorem dX10_readWordLine_33 : gd cX10_readWordLine 33 (.lload_n 1) 1 34 := by decide +kernel
theorem dX10_readWordLine_34 : decode cX10_readWordLine 34 = .ok (.iconst 1, 1) ∧ 34 + 1 = 35 ∧ Int32.ofInt (1) = (1) := by decide +kernel
theorem dX10_readWordLine_35 : gd cX10_readWordLine 35 (.aload_n 0) 1 36 := by decide +kernel
theorem dX10_readWordLine_36 : gd cX10_readWordLine 36 (.getfield 167) 3 39 := by decide +kernel
theorem dX10_readWordLine_39 : gd cX10_readWordLine 39 (.getfield 289) 3 42 := by decide +kernel
theorem dX10_readWordLine_42 : gd cX10_readWordLine 42 (.invokevirtual 280) 3 45 := by decide +kernel
theorem dX10_readWordLine_45 : gd cX10_readWordLine 45 (.aload_n 0) 1 46 := by decide +kernel
theorem dX10_readWordLine_46 : gd cX10_readWordLine 46 (.getfield 167) 3 49 := by decide +kernel
theorem dX10_readWordLine_49 : gd cX10_readWordLine 49 (.getfield 292) 3 52 := by decide +kernel
theorem dX10_readWordLine_52 : gd cX10_readWordLine 52 (.aload_n 0) 1 53 := by decide +kernel
theorem dX10_readWordLine_53 : gd cX10_readWordLine 53 (.getfield 167) 3 56 := by decide +kernel
theorem dX10_readWordLine_56 : gd cX10_readWordLine 56 (.getfield 289) 3 59 := by decide +kernel
theorem dX10_readWordLine_59 : gd cX10_readWordLine 59 (.aload_n 0) 1 60 := by decide +kernel
theorem dX10_readWordLine_60 : gd cX10_readWordLine 60 (.getfield 203) 3 63 := by decide +kernel
theorem dX10_readWordLine_63 : gd cX10_readWordLine 63 (.iastore) 1 64 := by decide +kernel
theorem dX10_readWordLine_64 : gd cX10_readWordLine 64 (.aload_n 0) 1 65 := by decide +kernel
theorem dX10_readWordLine_65 : gd cX10_readWordLine 65 (.getfield 167) 3 68 := by decide +kernel
theorem dX10_readWordLine_68 : gd cX10_readWordLine 68 (.dup) 1 69 := by decide +kernel
theorem dX10_readWordLine_69 : gd cX10_readWordLine 69 (.getfield 289) 3 72 := by decide +kernel
theorem dX10_readWordLine_72 : decode cX10_readWordLine 72 = .ok (.iconst 1, 1) ∧ 72 + 1 = 73 ∧ Int32.ofInt (1) = (1) := by decide +kernel
theorem dX10_readWordLine_73 : gd cX10_readWordLine 73 (.iadd) 1 74 := by decide +kernel
theorem dX10_readWordLine_74 : gd cX10_readWordLine 74 (.putfield 289) 3 77 := by decide +kernel
theorem dX10_readWordLine_77 : gd cX10_readWordLine 77 (.return_) 1 78 := by decide +kernel
theorem dX10_readView_0 : gd cX10_readView 0 (.aload_n 0) 1 1 := by decide +kernel
theorem dX10_readView_1 : gd cX10_readView 1 (.aload_n 0) 1 2 := by decide +kernel
theorem dX10_readView_2 : gd cX10_readView 2 (.getfield 167) 3 5 := by decide +kernel
theorem dX10_readView_5 : gd cX10_readView 5 (.getfield 294) 3 8 := by decide +kernel
theorem dX10_readView_8 : decode cX10_readView 8 = .ok (.bipush 6, 2) ∧ 8 + 2 = 10 ∧ (Int8.ofInt (6)).toInt32 = (6) := by decide +kernel
theorem dX10_readView_10 : gd cX10_readView 10 (.invokevirtual 265) 3 13 := by decide +kernel
theorem dX10_readView_13 : gd cX10_readView 13 (.aload_n 0) 1 14 := by decide +kernel
theorem dX10_readView_14 : gd cX10_readView 14 (.invokevirtual 268) 3 17 := by decide +kernel
theorem dX10_readView_17 : gd cX10_readView 17 (.lstore_n 1) 1 18 := by decide +kernel
theorem dX10_readView_18 : gd cX10_readView 18 (.aload_n 0) 1 19 := by decide +kernel
theorem dX10_readView_19 : decode cX10_readView 19 = .ok (.iconst 0, 1) ∧ 19 + 1 = 20 ∧ Int32.ofInt (0) = (0) := by decide +kernel
theorem dX10_readView_20 : gd cX10_readView 20 (.invokevirtual 276) 3 23 := by decide +kernel
theorem dX10_readView_23 : gd cX10_readView 23 (.aload_n 0) 1 24 := by decide +kernel
theorem dX10_readView_24 : gd cX10_readView 24 (.getfield 71) 3 27 := by decide +kernel
theorem dX10_readView_27 : decode cX10_readView 27 = .ok (.iconst 5, 1) ∧ 27 + 1 = 28 ∧ Int32.ofInt (5) = (5) := by decide +kernel
theorem dX10_readView_28 : gb cX10_readView 28 (.if_icmp .ne 4) (4) 31 32 := by decide +kernel
theorem dX10_readView_31 : gd cX10_readView 31 (.return_) 1 32 := by decide +kernel
theorem dX10_readView_32 : gd cX10_readView 32 (.aload_n 0) 1 33 := by decide +kernel
theorem dX10_readView_33 : gd cX10_readView 33 (.lload_n 1) 1 34 := by decide +kernel
theorem dX10_readView_34 : decode cX10_readView 34 = .ok (.iconst 2, 1) ∧ 34 + 1 = 35 ∧ Int32.ofInt (2) = (2) := by decide +kernel
theorem dX10_readView_35 : gd cX10_readView 35 (.aload_n 0) 1 36 := by decide +kernel
theorem dX10_readView_36 : gd cX10_readView 36 (.getfield 167) 3 39 := by decide +kernel
theorem dX10_readView_39 : gd cX10_readView 39 (.getfield 294) 3 42 := by decide +kernel
theorem dX10_readView_42 : gd cX10_readView 42 (.invokevirtual 280) 3 45 := by decide +kernel
theorem dX10_readView_45 : gd cX10_readView 45 (.aload_n 0) 1 46 := by decide +kernel
theorem dX10_readView_46 : gd cX10_readView 46 (.getfield 167) 3 49 := by decide +kernel
theorem dX10_readView_49 : gd cX10_readView 49 (.getfield 297) 3 52 := by decide +kernel
theorem dX10_readView_52 : gd cX10_readView 52 (.aload_n 0) 1 53 := by decide +kernel
theorem dX10_readView_53 : gd cX10_readView 53 (.getfield 167) 3 56 := by decide +kernel
theorem dX10_readView_56 : gd cX10_readView 56 (.getfield 294) 3 59 := by decide +kernel
theorem dX10_readView_59 : gd cX10_readView 59 (.aload_n 0) 1 60 := by decide +kernel
theorem dX10_readView_60 : gd cX10_readView 60 (.getfield 203) 3 63 := by decide +kernel
theorem dX10_readView_63 : gd cX10_readView 63 (.iastore) 1 64 := by decide +kernel
theorem dX10_readView_64 : gd cX10_readView 64 (.aload_n 0) 1 65 := by decide +kernel
theorem dX10_readView_65 : gd cX10_readView 65 (.getfield 167) 3 68 := by decide +kernel
theorem dX10_readView_68 : gd cX10_readView 68 (.dup) 1 69 := by decide +kernel
theorem dX10_readView_69 : gd cX10_readView 69 (.getfield 294) 3 72 := by decide +kernel
theorem dX10_readView_72 : decode cX10_readView 72 = .ok (.iconst 1, 1) ∧ 72 + 1 = 73 ∧ Int32.ofInt (1) = (1) := by decide +kernel
theorem dX10_readView_73 : gd cX10_readView 73 (.iadd) 1 74 := by decide +kernel
theorem dX10_readView_74 : gd cX10_readView 74 (.putfield 294) 3 77 := by decide +kernel
theorem dX10_readView_77 : gd cX10_readView 77 (.return_) 1 78 := by decide +kernel
theorem dX10_readCorner_0 : gd cX10_readCorner 0 (.aload_n 0) 1 1 := by decide +kernel
theorem dX10_readCorner_1 : gd cX10_readCorner 1 (.aload_n 0) 1 2 := by decide +kernel
theorem dX10_readCorner_2 : gd cX10_readCorner 2 (.getfield 167) 3 5 := by decide +kernel
theorem dX10_readCorner_5 : gd cX10_readCorner 5 (.getfield 300) 3 8 := by decide +kernel
theorem dX10_readCorner_8 : decode cX10_readCorner 8 = .ok (.bipush 7, 2) ∧ 8 + 2 = 10 ∧ (Int8.ofInt (7)).toInt32 = (7) := by decide +kernel
theorem dX10_readCorner_10 : gd cX10_readCorner 10 (.invokevirtual 265) 3 13 := by decide +kernel
theorem dX10_readCorner_13 : gd cX10_readCorner 13 (.aload_n 0) 1 14 := by decide +kernel
theorem dX10_readCorner_14 : gd cX10_readCorner 14 (.invokevirtual 268) 3 17 := by decide +kernel
theorem dX10_readCorner_17 : gd cX10_readCorner 17 (.lstore_n 1) 1 18 := by decide +kernel
theorem dX10_readCorner_18 : gd cX10_readCorner 18 (.aload_n 0) 1 19 := by decide +kernel
theorem dX10_readCorner_19 : decode cX10_readCorner 19 = .ok (.iconst 2, 1) ∧ 19 + 1 = 20 ∧ Int32.ofInt (2) = (2) := by decide +kernel
theorem dX10_readCorner_20 : gd cX10_readCorner 20 (.invokevirtual 303) 3 23 := by decide +kernel
theorem dX10_readCorner_23 : gd cX10_readCorner 23 (.istore_n 3) 1 24 := by decide +kernel
theorem dX10_readCorner_24 : gd cX10_readCorner 24 (.aload_n 0) 1 25 := by decide +kernel
theorem dX10_readCorner_25 : gd cX10_readCorner 25 (.getfield 71) 3 28 := by decide +kernel
theorem dX10_readCorner_28 : decode cX10_readCorner 28 = .ok (.iconst 5, 1) ∧ 28 + 1 = 29 ∧ Int32.ofInt (5) = (5) := by decide +kernel
theorem dX10_readCorner_29 : gb cX10_readCorner 29 (.if_icmp .ne 4) (4) 32 33 := by decide +kernel
theorem dX10_readCorner_32 : gd cX10_readCorner 32 (.return_) 1 33 := by decide +kernel
theorem dX10_readCorner_33 : gd cX10_readCorner 33 (.aload_n 0) 1 34 := by decide +kernel
theorem dX10_readCorner_34 : gd cX10_readCorner 34 (.lload_n 1) 1 35 := by decide +kernel
theorem dX10_readCorner_35 : decode cX10_readCorner 35 = .ok (.iconst 3, 1) ∧ 35 + 1 = 36 ∧ Int32.ofInt (3) = (3) := by decide +kernel
theorem dX10_readCorner_36 : gd cX10_readCorner 36 (.aload_n 0) 1 37 := by decide +kernel
theorem dX10_readCorner_37 : gd cX10_readCorner 37 (.getfield 167) 3 40 := by decide +kernel
theorem dX10_readCorner_40 : gd cX10_readCorner 40 (.getfield 300) 3 43 := by decide +kernel
theorem dX10_readCorner_43 : gd cX10_readCorner 43 (.invokevirtual 280) 3 46 := by decide +kernel
theorem dX10_readCorner_46 : gd cX10_readCorner 46 (.aload_n 0) 1 47 := by decide +kernel
theorem dX10_readCorner_47 : gd cX10_readCorner 47 (.getfield 167) 3 50 := by decide +kernel
theorem dX10_readCorner_50 : gd cX10_readCorner 50 (.getfield 306) 3 53 := by decide +kernel
theorem dX10_readCorner_53 : gd cX10_readCorner 53 (.aload_n 0) 1 54 := by decide +kernel
theorem dX10_readCorner_54 : gd cX10_readCorner 54 (.getfield 167) 3 57 := by decide +kernel
theorem dX10_readCorner_57 : gd cX10_readCorner 57 (.getfield 300) 3 60 := by decide +kernel
theorem dX10_readCorner_60 : gd cX10_readCorner 60 (.iload_n 3) 1 61 := by decide +kernel
theorem dX10_readCorner_61 : gd cX10_readCorner 61 (.iastore) 1 62 := by decide +kernel
theorem dX10_readCorner_62 : gd cX10_readCorner 62 (.aload_n 0) 1 63 := by decide +kernel
theorem dX10_readCorner_63 : gd cX10_readCorner 63 (.getfield 167) 3 66 := by decide +kernel
theorem dX10_readCorner_66 : gd cX10_readCorner 66 (.dup) 1 67 := by decide +kernel
theorem dX10_readCorner_67 : gd cX10_readCorner 67 (.getfield 300) 3 70 := by decide +kernel
theorem dX10_readCorner_70 : decode cX10_readCorner 70 = .ok (.iconst 1, 1) ∧ 70 + 1 = 71 ∧ Int32.ofInt (1) = (1) := by decide +kernel
theorem dX10_readCorner_71 : gd cX10_readCorner 71 (.iadd) 1 72 := by decide +kernel
theorem dX10_readCorner_72 : gd cX10_readCorner 72 (.putfield 300) 3 75 := by decide +kernel
theorem dX10_readCorner_75 : gd cX10_readCorner 75 (.return_) 1 76 := by decide +kernel
theorem dX10_readStreet_0 : gd cX10_readStreet 0 (.aload_n 0) 1 1 := by decide +kernel
theorem dX10_readStreet_1 : gd cX10_readStreet 1 (.aload_n 0) 1 2 := by decide +kernel
theorem dX10_readStreet_2 : gd cX10_readStreet 2 (.getfield 167) 3 5 := by decide +kernel
theorem dX10_readStreet_5 : gd cX10_readStreet 5 (.getfield 309) 3 8 := by decide +kernel
theorem dX10_readStreet_8 : decode cX10_readStreet 8 = .ok (.bipush 12, 2) ∧ 8 + 2 = 10 ∧ (Int8.ofInt (12)).toInt32 = (12) := by decide +kernel
theorem dX10_readStreet_10 : gd cX10_readStreet 10 (.invokevirtual 265) 3 13 := by decide +kernel
theorem dX10_readStreet_13 : gd cX10_readStreet 13 (.aload_n 0) 1 14 := by decide +kernel
theorem dX10_readStreet_14 : decode cX10_readStreet 14 = .ok (.iconst 3, 1) ∧ 14 + 1 = 15 ∧ Int32.ofInt (3) = (3) := by decide +kernel
theorem dX10_readStreet_15 : gd cX10_readStreet 15 (.invokevirtual 303) 3 18 := by decide +kernel
theorem dX10_readStreet_18 : gd cX10_readStreet 18 (.istore_n 1) 1 19 := by decide +kernel
theorem dX10_readStreet_19 : gd cX10_readStreet 19 (.aload_n 0) 1 20 := by decide +kernel
theorem dX10_readStreet_20 : decode cX10_readStreet 20 = .ok (.iconst 3, 1) ∧ 20 + 1 = 21 ∧ Int32.ofInt (3) = (3) := by decide +kernel
theorem dX10_readStreet_21 : gd cX10_readStreet 21 (.invokevirtual 197) 3 24 := by decide +kernel
theorem dX10_readStreet_24 : gd cX10_readStreet 24 (.istore_n 2) 1 25 := by decide +kernel
theorem dX10_readStreet_25 : gd cX10_readStreet 25 (.aload_n 0) 1 26 := by decide +kernel
theorem dX10_readStreet_26 : gd cX10_readStreet 26 (.getfield 71) 3 29 := by decide +kernel
theorem dX10_readStreet_29 : decode cX10_readStreet 29 = .ok (.iconst 5, 1) ∧ 29 + 1 = 30 ∧ Int32.ofInt (5) = (5) := by decide +kernel
theorem dX10_readStreet_30 : gb cX10_readStreet 30 (.if_icmp .eq 30) (30) 33 60 := by decide +kernel
theorem dX10_readStreet_33 : gd cX10_readStreet 33 (.iload_n 1) 1 34 := by decide +kernel
theorem dX10_readStreet_34 : gd cX10_readStreet 34 (.iload_n 2) 1 35 := by decide +kernel
theorem dX10_readStreet_35 : gb cX10_readStreet 35 (.if_icmp .eq 20) (20) 38 55 := by decide +kernel
theorem dX10_readStreet_38 : gd cX10_readStreet 38 (.aload_n 0) 1 39 := by decide +kernel
theorem dX10_readStreet_39 : gd cX10_readStreet 39 (.getfield 167) 3 42 := by decide +kernel
theorem dX10_readStreet_42 : gd cX10_readStreet 42 (.getfield 312) 3 45 := by decide +kernel
theorem dX10_readStreet_45 : decode cX10_readStreet 45 = .ok (.bipush 7, 2) ∧ 45 + 2 = 47 ∧ (Int8.ofInt (7)).toInt32 = (7) := by decide +kernel
theorem dX10_readStreet_47 : gd cX10_readStreet 47 (.iload_n 1) 1 48 := by decide +kernel
theorem dX10_readStreet_48 : gd cX10_readStreet 48 (.imul) 1 49 := by decide +kernel
theorem dX10_readStreet_49 : gd cX10_readStreet 49 (.iload_n 2) 1 50 := by decide +kernel
theorem dX10_readStreet_50 : gd cX10_readStreet 50 (.iadd) 1 51 := by decide +kernel
theorem dX10_readStreet_51 : gd cX10_readStreet 51 (.iaload) 1 52 := by decide +kernel
theorem dX10_readStreet_52 : gb cX10_readStreet 52 (.ifCond .le 8) (8) 55 60 := by decide +kernel
theorem dX10_readStreet_55 : gd cX10_readStreet 55 (.aload_n 0) 1 56 := by decide +kernel
theorem dX10_readStreet_56 : decode cX10_readStreet 56 = .ok (.iconst 3, 1) ∧ 56 + 1 = 57 ∧ Int32.ofInt (3) = (3) := by decide +kernel
theorem dX10_readStreet_57 : gd cX10_readStreet 57 (.invokevirtual 130) 3 60 := by decide +kernel
theorem dX10_readStreet_60 : gd cX10_readStreet 60 (.aload_n 0) 1 61 := by decide +kernel
theorem dX10_readStreet_61 : gd cX10_readStreet 61 (.invokevirtual 123) 3 64 := by decide +kernel
theorem dX10_readStreet_64 : gd cX10_readStreet 64 (.aload_n 0) 1 65 := by decide +kernel
theorem dX10_readStreet_65 : decode cX10_readStreet 65 = .ok (.iconst 1, 1) ∧ 65 + 1 = 66 ∧ Int32.ofInt (1) = (1) := by decide +kernel
theorem dX10_readStreet_66 : decode cX10_readStreet 66 = .ok (.bipush 99, 2) ∧ 66 + 2 = 68 ∧ (Int8.ofInt (99)).toInt32 = (99) := by decide +kernel
theorem dX10_readStreet_68 : gd cX10_readStreet 68 (.invokevirtual 142) 3 71 := by decide +kernel
theorem dX10_readStreet_71 : gd cX10_readStreet 71 (.istore_n 3) 1 72 := by decide +kernel
theorem dX10_readStreet_72 : gd cX10_readStreet 72 (.aload_n 0) 1 73 := by decide +kernel
theorem dX10_readStreet_73 : gd cX10_readStreet 73 (.ldc_w 315) 3 76 := by decide +kernel
theorem dX10_readStreet_76 : decode cX10_readStreet 76 = .ok (.iconst 0, 1) ∧ 76 + 1 = 77 ∧ Int32.ofInt (0) = (0) := by decide +kernel
theorem dX10_readStreet_77 : decode cX10_readStreet 77 = .ok (.bipush 50, 2) ∧ 77 + 2 = 79 ∧ (Int8.ofInt (50)).toInt32 = (50) := by decide +kernel
theorem dX10_readStreet_79 : gd cX10_readStreet 79 (.invokevirtual 252) 3 82 := by decide +kernel
theorem dX10_readStreet_82 : gd cX10_readStreet 82 (.istore 4) 2 84 := by decide +kernel
theorem dX10_readStreet_84 : gd cX10_readStreet 84 (.aload_n 0) 1 85 := by decide +kernel
theorem dX10_readStreet_85 : gd cX10_readStreet 85 (.getfield 71) 3 88 := by decide +kernel
theorem dX10_readStreet_88 : decode cX10_readStreet 88 = .ok (.iconst 5, 1) ∧ 88 + 1 = 89 ∧ Int32.ofInt (5) = (5) := by decide +kernel
theorem dX10_readStreet_89 : gb cX10_readStreet 89 (.if_icmp .ne 4) (4) 92 93 := by decide +kernel
theorem dX10_readStreet_92 : gd cX10_readStreet 92 (.return_) 1 93 := by decide +kernel
theorem dX10_readStreet_93 : gd cX10_readStreet 93 (.aload_n 0) 1 94 := by decide +kernel
theorem dX10_readStreet_94 : gd cX10_readStreet 94 (.getfield 167) 3 97 := by decide +kernel
theorem dX10_readStreet_97 : gd cX10_readStreet 97 (.getfield 312) 3 100 := by decide +kernel
theorem dX10_readStreet_100 : decode cX10_readStreet 100 = .ok (.bipush 7, 2) ∧ 100 + 2 = 102 ∧ (Int8.ofInt (7)).toInt32 = (7) := by decide +kernel
theorem dX10_readStreet_102 : gd cX10_readStreet 102 (.iload_n 1) 1 103 := by decide +kernel
theorem dX10_readStreet_103 : gd cX10_readStreet 103 (.imul) 1 104 := by decide +kernel
theorem dX10_readStreet_104 : gd cX10_readStreet 104 (.iload_n 2) 1 105 := by decide +kernel
theorem dX10_readStreet_105 : gd cX10_readStreet 105 (.iadd) 1 106 := by decide +kernel
theorem dX10_readStreet_106 : gd cX10_readStreet 106 (.iload_n 3) 1 107 := by decide +kernel
theorem dX10_readStreet_107 : gd cX10_readStreet 107 (.iastore) 1 108 := by decide +kernel
theorem dX10_readStreet_108 : gd cX10_readStreet 108 (.aload_n 0) 1 109 := by decide +kernel
theorem dX10_readStreet_109 : gd cX10_readStreet 109 (.getfield 167) 3 112 := by decide +kernel
theorem dX10_readStreet_112 : gd cX10_readStreet 112 (.getfield 312) 3 115 := by decide +kernel
theorem dX10_readStreet_115 : decode cX10_readStreet 115 = .ok (.bipush 7, 2) ∧ 115 + 2 = 117 ∧ (Int8.ofInt (7)).toInt32 = (7) := by decide +kernel
theorem dX10_readStreet_117 : gd cX10_readStreet 117 (.iload_n 2) 1 118 := by decide +kernel
theorem dX10_readStreet_118 : gd cX10_readStreet 118 (.imul) 1 119 := by decide +kernel
theorem dX10_readStreet_119 : gd cX10_readStreet 119 (.iload_n 1) 1 120 := by decide +kernel
theorem dX10_readStreet_120 : gd cX10_readStreet 120 (.iadd) 1 121 := by decide +kernel
theorem dX10_readStreet_121 : gd cX10_readStreet 121 (.iload_n 3) 1 122 := by decide +kernel
theorem dX10_readStreet_122 : gd cX10_readStreet 122 (.iastore) 1 123 := by decide +kernel
theorem dX10_readStreet_123 : gd cX10_readStreet 123 (.aload_n 0) 1 124 := by decide +kernel
theorem dX10_readStreet_124 : gd cX10_readStreet 124 (.getfield 167) 3 127 := by decide +kernel
theorem dX10_readStreet_127 : gd cX10_readStreet 127 (.getfield 317) 3 130 := by decide +kernel
theorem dX10_readStreet_130 : decode cX10_readStreet 130 = .ok (.bipush 7, 2) ∧ 130 + 2 = 132 ∧ (Int8.ofInt (7)).toInt32 = (7) := by decide +kernel
theorem dX10_readStreet_132 : gd cX10_readStreet 132 (.iload_n 1) 1 133 := by decide +kernel
theorem dX10_readStreet_133 : gd cX10_readStreet 133 (.imul) 1 134 := by decide +kernel
theorem dX10_readStreet_134 : gd cX10_readStreet 134 (.iload_n 2) 1 135 := by decide +kernel
theorem dX10_readStreet_135 : gd cX10_readStreet 135 (.iadd) 1 136 := by decide +kernel
theorem dX10_readStreet_136 : gd cX10_readStreet 136 (.iload 4) 2 138 := by decide +kernel
theorem dX10_readStreet_138 : gd cX10_readStreet 138 (.iastore) 1 139 := by decide +kernel
theorem dX10_readStreet_139 : gd cX10_readStreet 139 (.aload_n 0) 1 140 := by decide +kernel
theorem dX10_readStreet_140 : gd cX10_readStreet 140 (.getfield 167) 3 143 := by decide +kernel
theorem dX10_readStreet_143 : gd cX10_readStreet 143 (.getfield 317) 3 146 := by decide +kernel
theorem dX10_readStreet_146 : decode cX10_readStreet 146 = .ok (.bipush 7, 2) ∧ 146 + 2 = 148 ∧ (Int8.ofInt (7)).toInt32 = (7) := by decide +kernel
theorem dX10_readStreet_148 : gd cX10_readStreet 148 (.iload_n 2) 1 149 := by decide +kernel
theorem dX10_readStreet_149 : gd cX10_readStreet 149 (.imul) 1 150 := by decide +kernel
theorem dX10_readStreet_150 : gd cX10_readStreet 150 (.iload_n 1) 1 151 := by decide +kernel
theorem dX10_readStreet_151 : gd cX10_readStreet 151 (.iadd) 1 152 := by decide +kernel
theorem dX10_readStreet_152 : gd cX10_readStreet 152 (.iload 4) 2 154 := by decide +kernel
theorem dX10_readStreet_154 : gd cX10_readStreet 154 (.iastore) 1 155 := by decide +kernel
theorem dX10_readStreet_155 : gd cX10_readStreet 155 (.aload_n 0) 1 156 := by decide +kernel
theorem dX10_readStreet_156 : gd cX10_readStreet 156 (.getfield 167) 3 159 := by decide +kernel
theorem dX10_readStreet_159 : gd cX10_readStreet 159 (.dup) 1 160 := by decide +kernel
theorem dX10_readStreet_160 : gd cX10_readStreet 160 (.getfield 309) 3 163 := by decide +kernel
theorem dX10_readStreet_163 : decode cX10_readStreet 163 = .ok (.iconst 1, 1) ∧ 163 + 1 = 164 ∧ Int32.ofInt (1) = (1) := by decide +kernel
theorem dX10_readStreet_164 : gd cX10_readStreet 164 (.iadd) 1 165 := by decide +kernel
theorem dX10_readStreet_165 : gd cX10_readStreet 165 (.putfield 309) 3 168 := by decide +kernel
theorem dX10_readStreet_168 : gd cX10_readStreet 168 (.return_) 1 169 := by decide +kernel
theorem dX10_readThief_0 : gd cX10_readThief 0 (.aload_n 0) 1 1 := by decide +kernel
theorem dX10_readThief_1 : decode cX10_readThief 1 = .ok (.iconst 0, 1) ∧ 1 + 1 = 2 ∧ Int32.ofInt (0) = (0) := by decide +kernel
theorem dX10_readThief_2 : decode cX10_readThief 2 = .ok (.iconst 1, 1) ∧ 2 + 1 = 3 ∧ Int32.ofInt (1) = (1) := by decide +kernel
theorem dX10_readThief_3 : gd cX10_readThief 3 (.invokevirtual 265) 3 6 := by decide +kernel
theorem dX10_readThief_6 : gd cX10_readThief 6 (.aload_n 0) 1 7 := by decide +kernel
theorem dX10_readThief_7 : decode cX10_readThief 7 = .ok (.iconst 3, 1) ∧ 7 + 1 = 8 ∧ Int32.ofInt (3) = (3) := by decide +kernel
theorem dX10_readThief_8 : gd cX10_readThief 8 (.invokevirtual 197) 3 11 := by decide +kernel
theorem dX10_readThief_11 : gd cX10_readThief 11 (.istore_n 1) 1 12 := by decide +kernel
theorem dX10_readThief_12 : gd cX10_readThief 12 (.aload_n 0) 1 13 := by decide +kernel
theorem dX10_readThief_13 : gd cX10_readThief 13 (.getfield 71) 3 16 := by decide +kernel
theorem dX10_readThief_16 : decode cX10_readThief 16 = .ok (.iconst 5, 1) ∧ 16 + 1 = 17 ∧ Int32.ofInt (5) = (5) := by decide +kernel
theorem dX10_readThief_17 : gb cX10_readThief 17 (.if_icmp .eq 19) (19) 20 36 := by decide +kernel
theorem dX10_readThief_20 : gd cX10_readThief 20 (.aload_n 0) 1 21 := by decide +kernel
theorem dX10_readThief_21 : gd cX10_readThief 21 (.getfield 167) 3 24 := by decide +kernel
theorem dX10_readThief_24 : gd cX10_readThief 24 (.iload_n 1) 1 25 := by decide +kernel
theorem dX10_readThief_25 : gd cX10_readThief 25 (.invokevirtual 319) 3 28 := by decide +kernel
theorem dX10_readThief_28 : gb cX10_readThief 28 (.ifCond .eq 8) (8) 31 36 := by decide +kernel
theorem dX10_readThief_31 : gd cX10_readThief 31 (.aload_n 0) 1 32 := by decide +kernel
theorem dX10_readThief_32 : decode cX10_readThief 32 = .ok (.iconst 3, 1) ∧ 32 + 1 = 33 ∧ Int32.ofInt (3) = (3) := by decide +kernel
theorem dX10_readThief_33 : gd cX10_readThief 33 (.invokevirtual 130) 3 36 := by decide +kernel
theorem dX10_readThief_36 : gd cX10_readThief 36 (.aload_n 0) 1 37 := by decide +kernel
theorem dX10_readThief_37 : gd cX10_readThief 37 (.invokevirtual 123) 3 40 := by decide +kernel
theorem dX10_readThief_40 : gd cX10_readThief 40 (.aload_n 0) 1 41 := by decide +kernel
theorem dX10_readThief_41 : gd cX10_readThief 41 (.getfield 71) 3 44 := by decide +kernel
theorem dX10_readThief_44 : decode cX10_readThief 44 = .ok (.iconst 5, 1) ∧ 44 + 1 = 45 ∧ Int32.ofInt (5) = (5) := by decide +kernel
theorem dX10_readThief_45 : gb cX10_readThief 45 (.if_icmp .eq 18) (18) 48 63 := by decide +kernel
theorem dX10_readThief_48 : gd cX10_readThief 48 (.aload_n 0) 1 49 := by decide +kernel
theorem dX10_readThief_49 : gd cX10_readThief 49 (.getfield 167) 3 52 := by decide +kernel
theorem dX10_readThief_52 : gd cX10_readThief 52 (.dup) 1 53 := by decide +kernel
theorem dX10_readThief_53 : gd cX10_readThief 53 (.getfield 322) 3 56 := by decide +kernel
theorem dX10_readThief_56 : decode cX10_readThief 56 = .ok (.iconst 1, 1) ∧ 56 + 1 = 57 ∧ Int32.ofInt (1) = (1) := by decide +kernel
theorem dX10_readThief_57 : gd cX10_readThief 57 (.iload_n 1) 1 58 := by decide +kernel
theorem dX10_readThief_58 : gd cX10_readThief 58 (.ishl) 1 59 := by decide +kernel
theorem dX10_readThief_59 : gd cX10_readThief 59 (.ior) 1 60 := by decide +kernel
theorem dX10_readThief_60 : gd cX10_readThief 60 (.putfield 322) 3 63 := by decide +kernel
theorem dX10_readThief_63 : gd cX10_readThief 63 (.return_) 1 64 := by decide +kernel
theorem dX10_readSent_0 : gd cX10_readSent 0 (.aload_n 0) 1 1 := by decide +kernel
theorem dX10_readSent_1 : gd cX10_readSent 1 (.aload_n 0) 1 2 := by decide +kernel
theorem dX10_readSent_2 : gd cX10_readSent 2 (.getfield 167) 3 5 := by decide +kernel
theorem dX10_readSent_5 : gd cX10_readSent 5 (.getfield 325) 3 8 := by decide +kernel
theorem dX10_readSent_8 : decode cX10_readSent 8 = .ok (.bipush 6, 2) ∧ 8 + 2 = 10 ∧ (Int8.ofInt (6)).toInt32 = (6) := by decide +kernel
theorem dX10_readSent_10 : gd cX10_readSent 10 (.invokevirtual 265) 3 13 := by decide +kernel
theorem dX10_readSent_13 : gd cX10_readSent 13 (.aload_n 0) 1 14 := by decide +kernel
theorem dX10_readSent_14 : decode cX10_readSent 14 = .ok (.iconst 0, 1) ∧ 14 + 1 = 15 ∧ Int32.ofInt (0) = (0) := by decide +kernel
theorem dX10_readSent_15 : gd cX10_readSent 15 (.invokevirtual 303) 3 18 := by decide +kernel
theorem dX10_readSent_18 : gd cX10_readSent 18 (.istore_n 1) 1 19 := by decide +kernel
theorem dX10_readSent_19 : gd cX10_readSent 19 (.aload_n 0) 1 20 := by decide +kernel
theorem dX10_readSent_20 : decode cX10_readSent 20 = .ok (.iconst 3, 1) ∧ 20 + 1 = 21 ∧ Int32.ofInt (3) = (3) := by decide +kernel
theorem dX10_readSent_21 : gd cX10_readSent 21 (.invokevirtual 303) 3 24 := by decide +kernel
theorem dX10_readSent_24 : gd cX10_readSent 24 (.istore_n 2) 1 25 := by decide +kernel
theorem dX10_readSent_25 : gd cX10_readSent 25 (.aload_n 0) 1 26 := by decide +kernel
theorem dX10_readSent_26 : decode cX10_readSent 26 = .ok (.iconst 3, 1) ∧ 26 + 1 = 27 ∧ Int32.ofInt (3) = (3) := by decide +kernel
theorem dX10_readSent_27 : gd cX10_readSent 27 (.invokevirtual 303) 3 30 := by decide +kernel
theorem dX10_readSent_30 : gd cX10_readSent 30 (.istore_n 3) 1 31 := by decide +kernel
theorem dX10_readSent_31 : gd cX10_readSent 31 (.aload_n 0) 1 32 := by decide +kernel
theorem dX10_readSent_32 : gd cX10_readSent 32 (.getfield 71) 3 35 := by decide +kernel
theorem dX10_readSent_35 : decode cX10_readSent 35 = .ok (.iconst 5, 1) ∧ 35 + 1 = 36 ∧ Int32.ofInt (5) = (5) := by decide +kernel
theorem dX10_readSent_36 : gb cX10_readSent 36 (.if_icmp .ne 4) (4) 39 40 := by decide +kernel
theorem dX10_readSent_39 : gd cX10_readSent 39 (.return_) 1 40 := by decide +kernel
theorem dX10_readSent_40 : gd cX10_readSent 40 (.aload_n 0) 1 41 := by decide +kernel
theorem dX10_readSent_41 : gd cX10_readSent 41 (.getfield 167) 3 44 := by decide +kernel
theorem dX10_readSent_44 : gd cX10_readSent 44 (.getfield 326) 3 47 := by decide +kernel
theorem dX10_readSent_47 : gd cX10_readSent 47 (.aload_n 0) 1 48 := by decide +kernel
theorem dX10_readSent_48 : gd cX10_readSent 48 (.getfield 167) 3 51 := by decide +kernel
theorem dX10_readSent_51 : gd cX10_readSent 51 (.getfield 325) 3 54 := by decide +kernel
theorem dX10_readSent_54 : gd cX10_readSent 54 (.iload_n 1) 1 55 := by decide +kernel
theorem dX10_readSent_55 : gd cX10_readSent 55 (.iastore) 1 56 := by decide +kernel
theorem dX10_readSent_56 : gd cX10_readSent 56 (.aload_n 0) 1 57 := by decide +kernel
theorem dX10_readSent_57 : gd cX10_readSent 57 (.getfield 167) 3 60 := by decide +kernel
theorem dX10_readSent_60 : gd cX10_readSent 60 (.getfield 329) 3 63 := by decide +kernel
theorem dX10_readSent_63 : gd cX10_readSent 63 (.aload_n 0) 1 64 := by decide +kernel
theorem dX10_readSent_64 : gd cX10_readSent 64 (.getfield 167) 3 67 := by decide +kernel
theorem dX10_readSent_67 : gd cX10_readSent 67 (.getfield 325) 3 70 := by decide +kernel
theorem dX10_readSent_70 : gd cX10_readSent 70 (.iload_n 2) 1 71 := by decide +kernel
theorem dX10_readSent_71 : gd cX10_readSent 71 (.iastore) 1 72 := by decide +kernel
theorem dX10_readSent_72 : gd cX10_readSent 72 (.aload_n 0) 1 73 := by decide +kernel
theorem dX10_readSent_73 : gd cX10_readSent 73 (.getfield 167) 3 76 := by decide +kernel
theorem dX10_readSent_76 : gd cX10_readSent 76 (.getfield 332) 3 79 := by decide +kernel
theorem dX10_readSent_79 : gd cX10_readSent 79 (.aload_n 0) 1 80 := by decide +kernel
theorem dX10_readSent_80 : gd cX10_readSent 80 (.getfield 167) 3 83 := by decide +kernel
theorem dX10_readSent_83 : gd cX10_readSent 83 (.getfield 325) 3 86 := by decide +kernel
theorem dX10_readSent_86 : gd cX10_readSent 86 (.iload_n 3) 1 87 := by decide +kernel
theorem dX10_readSent_87 : gd cX10_readSent 87 (.iastore) 1 88 := by decide +kernel
theorem dX10_readSent_88 : gd cX10_readSent 88 (.aload_n 0) 1 89 := by decide +kernel
theorem dX10_readSent_89 : gd cX10_readSent 89 (.getfield 167) 3 92 := by decide +kernel
theorem dX10_readSent_92 : gd cX10_readSent 92 (.dup) 1 93 := by decide +kernel
theorem dX10_readSent_93 : gd cX10_readSent 93 (.getfield 325) 3 96 := by decide +kernel
theorem dX10_readSent_96 : decode cX10_readSent 96 = .ok (.iconst 1, 1) ∧ 96 + 1 = 97 ∧ Int32.ofInt (1) = (1) := by decide +kernel
theorem dX10_readSent_97 : gd cX10_readSent 97 (.iadd) 1 98 := by decide +kernel
theorem dX10_readSent_98 : gd cX10_readSent 98 (.putfield 325) 3 101 := by decide +kernel
theorem dX10_readSent_101 : gd cX10_readSent 101 (.return_) 1 102 := by decide +kernel
theorem dX10_readPerson_0 : gd cX10_readPerson 0 (.aload_n 0) 1 1 := by decide +kernel
theorem dX10_readPerson_1 : gd cX10_readPerson 1 (.aload_n 0) 1 2 := by decide +kernel
theorem dX10_readPerson_2 : gd cX10_readPerson 2 (.getfield 167) 3 5 := by decide +kernel
theorem dX10_readPerson_5 : gd cX10_readPerson 5 (.getfield 335) 3 8 := by decide +kernel
theorem dX10_readPerson_8 : decode cX10_readPerson 8 = .ok (.iconst 4, 1) ∧ 8 + 1 = 9 ∧ Int32.ofInt (4) = (4) := by decide +kernel
theorem dX10_readPerson_9 : gd cX10_readPerson 9 (.invokevirtual 265) 3 12 := by decide +kernel
theorem dX10_readPerson_12 : gd cX10_readPerson 12 (.aload_n 0) 1 13 := by decide +kernel
theorem dX10_readPerson_13 : gd cX10_readPerson 13 (.invokevirtual 268) 3 16 := by decide +kernel
theorem dX10_readPerson_16 : gd cX10_readPerson 16 (.lstore_n 1) 1 17 := by decide +kernel
theorem dX10_readPerson_17 : gd cX10_readPerson 17 (.aload_n 0) 1 18 := by decide +kernel
theorem dX10_readPerson_18 : gd cX10_readPerson 18 (.getfield 71) 3 21 := by decide +kernel
theorem dX10_readPerson_21 : decode cX10_readPerson 21 = .ok (.iconst 5, 1) ∧ 21 + 1 = 22 ∧ Int32.ofInt (5) = (5) := by decide +kernel
theorem dX10_readPerson_22 : gb cX10_readPerson 22 (.if_icmp .ne 4) (4) 25 26 := by decide +kernel
theorem dX10_readPerson_25 : gd cX10_readPerson 25 (.return_) 1 26 := by decide +kernel
theorem dX10_readPerson_26 : gd cX10_readPerson 26 (.aload_n 0) 1 27 := by decide +kernel
theorem dX10_readPerson_27 : gd cX10_readPerson 27 (.lload_n 1) 1 28 := by decide +kernel
theorem dX10_readPerson_28 : decode cX10_readPerson 28 = .ok (.iconst 4, 1) ∧ 28 + 1 = 29 ∧ Int32.ofInt (4) = (4) := by decide +kernel
theorem dX10_readPerson_29 : gd cX10_readPerson 29 (.aload_n 0) 1 30 := by decide +kernel
theorem dX10_readPerson_30 : gd cX10_readPerson 30 (.getfield 167) 3 33 := by decide +kernel
theorem dX10_readPerson_33 : gd cX10_readPerson 33 (.getfield 335) 3 36 := by decide +kernel
theorem dX10_readPerson_36 : gd cX10_readPerson 36 (.invokevirtual 280) 3 39 := by decide +kernel
theorem dX10_readPerson_39 : gd cX10_readPerson 39 (.aload_n 0) 1 40 := by decide +kernel
theorem dX10_readPerson_40 : gd cX10_readPerson 40 (.getfield 167) 3 43 := by decide +kernel
theorem dX10_readPerson_43 : gd cX10_readPerson 43 (.dup) 1 44 := by decide +kernel
theorem dX10_readPerson_44 : gd cX10_readPerson 44 (.getfield 335) 3 47 := by decide +kernel
theorem dX10_readPerson_47 : decode cX10_readPerson 47 = .ok (.iconst 1, 1) ∧ 47 + 1 = 48 ∧ Int32.ofInt (1) = (1) := by decide +kernel
theorem dX10_readPerson_48 : gd cX10_readPerson 48 (.iadd) 1 49 := by decide +kernel
theorem dX10_readPerson_49 : gd cX10_readPerson 49 (.putfield 335) 3 52 := by decide +kernel
theorem dX10_readPerson_52 : gd cX10_readPerson 52 (.return_) 1 53 := by decide +kernel
theorem dX10_readShard_0 : gd cX10_readShard 0 (.aload_n 0) 1 1 := by decide +kernel
theorem dX10_readShard_1 : gd cX10_readShard 1 (.getfield 80) 3 4 := by decide +kernel
theorem dX10_readShard_4 : gd cX10_readShard 4 (.istore_n 1) 1 5 := by decide +kernel
theorem dX10_readShard_5 : gd cX10_readShard 5 (.aload_n 0) 1 6 := by decide +kernel
theorem dX10_readShard_6 : gd cX10_readShard 6 (.aload_n 0) 1 7 := by decide +kernel
theorem dX10_readShard_7 : gd cX10_readShard 7 (.getfield 167) 3 10 := by decide +kernel
theorem dX10_readShard_10 : gd cX10_readShard 10 (.getfield 338) 3 13 := by decide +kernel
theorem dX10_readShard_13 : decode cX10_readShard 13 = .ok (.bipush 8, 2) ∧ 13 + 2 = 15 ∧ (Int8.ofInt (8)).toInt32 = (8) := by decide +kernel
theorem dX10_readShard_15 : gd cX10_readShard 15 (.invokevirtual 265) 3 18 := by decide +kernel
theorem dX10_readShard_18 : gd cX10_readShard 18 (.aload_n 0) 1 19 := by decide +kernel
theorem dX10_readShard_19 : decode cX10_readShard 19 = .ok (.iconst 4, 1) ∧ 19 + 1 = 20 ∧ Int32.ofInt (4) = (4) := by decide +kernel
theorem dX10_readShard_20 : gd cX10_readShard 20 (.invokevirtual 303) 3 23 := by decide +kernel
theorem dX10_readShard_23 : gd cX10_readShard 23 (.istore_n 2) 1 24 := by decide +kernel
theorem dX10_readShard_24 : gd cX10_readShard 24 (.aload_n 0) 1 25 := by decide +kernel
theorem dX10_readShard_25 : decode cX10_readShard 25 = .ok (.iconst 1, 1) ∧ 25 + 1 = 26 ∧ Int32.ofInt (1) = (1) := by decide +kernel
theorem dX10_readShard_26 : gd cX10_readShard 26 (.invokevirtual 276) 3 29 := by decide +kernel
theorem dX10_readShard_29 : gd cX10_readShard 29 (.aload_n 0) 1 30 := by decide +kernel
theorem dX10_readShard_30 : gd cX10_readShard 30 (.getfield 71) 3 33 := by decide +kernel
theorem dX10_readShard_33 : decode cX10_readShard 33 = .ok (.iconst 5, 1) ∧ 33 + 1 = 34 ∧ Int32.ofInt (5) = (5) := by decide +kernel
theorem dX10_readShard_34 : gb cX10_readShard 34 (.if_icmp .eq 17) (17) 37 51 := by decide +kernel
theorem dX10_readShard_37 : gd cX10_readShard 37 (.aload_n 0) 1 38 := by decide +kernel
theorem dX10_readShard_38 : gd cX10_readShard 38 (.getfield 200) 3 41 := by decide +kernel
theorem dX10_readShard_41 : gb cX10_readShard 41 (.ifCond .ne 10) (10) 44 51 := by decide +kernel
theorem dX10_readShard_44 : gd cX10_readShard 44 (.aload_n 0) 1 45 := by decide +kernel
theorem dX10_readShard_45 : decode cX10_readShard 45 = .ok (.bipush 7, 2) ∧ 45 + 2 = 47 ∧ (Int8.ofInt (7)).toInt32 = (7) := by decide +kernel
theorem dX10_readShard_47 : gd cX10_readShard 47 (.iload_n 1) 1 48 := by decide +kernel
theorem dX10_readShard_48 : gd cX10_readShard 48 (.invokevirtual 106) 3 51 := by decide +kernel
theorem dX10_readShard_51 : gd cX10_readShard 51 (.aload_n 0) 1 52 := by decide +kernel
theorem dX10_readShard_52 : gd cX10_readShard 52 (.getfield 71) 3 55 := by decide +kernel
theorem dX10_readShard_55 : decode cX10_readShard 55 = .ok (.iconst 5, 1) ∧ 55 + 1 = 56 ∧ Int32.ofInt (5) = (5) := by decide +kernel
theorem dX10_readShard_56 : gb cX10_readShard 56 (.if_icmp .ne 4) (4) 59 60 := by decide +kernel
theorem dX10_readShard_59 : gd cX10_readShard 59 (.return_) 1 60 := by decide +kernel
theorem dX10_readShard_60 : gd cX10_readShard 60 (.aload_n 0) 1 61 := by decide +kernel
theorem dX10_readShard_61 : gd cX10_readShard 61 (.getfield 167) 3 64 := by decide +kernel
theorem dX10_readShard_64 : gd cX10_readShard 64 (.getfield 341) 3 67 := by decide +kernel
theorem dX10_readShard_67 : gd cX10_readShard 67 (.aload_n 0) 1 68 := by decide +kernel
theorem dX10_readShard_68 : gd cX10_readShard 68 (.getfield 167) 3 71 := by decide +kernel
theorem dX10_readShard_71 : gd cX10_readShard 71 (.getfield 338) 3 74 := by decide +kernel
theorem dX10_readShard_74 : gd cX10_readShard 74 (.iload_n 2) 1 75 := by decide +kernel
theorem dX10_readShard_75 : gd cX10_readShard 75 (.iastore) 1 76 := by decide +kernel
theorem dX10_readShard_76 : gd cX10_readShard 76 (.aload_n 0) 1 77 := by decide +kernel
theorem dX10_readShard_77 : gd cX10_readShard 77 (.getfield 167) 3 80 := by decide +kernel
theorem dX10_readShard_80 : gd cX10_readShard 80 (.getfield 344) 3 83 := by decide +kernel
theorem dX10_readShard_83 : gd cX10_readShard 83 (.aload_n 0) 1 84 := by decide +kernel
theorem dX10_readShard_84 : gd cX10_readShard 84 (.getfield 167) 3 87 := by decide +kernel
theorem dX10_readShard_87 : gd cX10_readShard 87 (.getfield 338) 3 90 := by decide +kernel
theorem dX10_readShard_90 : gd cX10_readShard 90 (.aload_n 0) 1 91 := by decide +kernel
theorem dX10_readShard_91 : gd cX10_readShard 91 (.getfield 200) 3 94 := by decide +kernel
theorem dX10_readShard_94 : gd cX10_readShard 94 (.iastore) 1 95 := by decide +kernel
theorem dX10_readShard_95 : gd cX10_readShard 95 (.aload_n 0) 1 96 := by decide +kernel
theorem dX10_readShard_96 : gd cX10_readShard 96 (.getfield 167) 3 99 := by decide +kernel
theorem dX10_readShard_99 : gd cX10_readShard 99 (.getfield 347) 3 102 := by decide +kernel
theorem dX10_readShard_102 : gd cX10_readShard 102 (.aload_n 0) 1 103 := by decide +kernel
theorem dX10_readShard_103 : gd cX10_readShard 103 (.getfield 167) 3 106 := by decide +kernel
theorem dX10_readShard_106 : gd cX10_readShard 106 (.getfield 338) 3 109 := by decide +kernel
theorem dX10_readShard_109 : gd cX10_readShard 109 (.aload_n 0) 1 110 := by decide +kernel
theorem dX10_readShard_110 : gd cX10_readShard 110 (.getfield 203) 3 113 := by decide +kernel
theorem dX10_readShard_113 : gd cX10_readShard 113 (.iastore) 1 114 := by decide +kernel
theorem dX10_readShard_114 : gd cX10_readShard 114 (.aload_n 0) 1 115 := by decide +kernel
theorem dX10_readShard_115 : gd cX10_readShard 115 (.getfield 167) 3 118 := by decide +kernel
theorem dX10_readShard_118 : gd cX10_readShard 118 (.dup) 1 119 := by decide +kernel
theorem dX10_readShard_119 : gd cX10_readShard 119 (.getfield 338) 3 122 := by decide +kernel
theorem dX10_readShard_122 : decode cX10_readShard 122 = .ok (.iconst 1, 1) ∧ 122 + 1 = 123 ∧ Int32.ofInt (1) = (1) := by decide +kernel
theorem dX10_readShard_123 : gd cX10_readShard 123 (.iadd) 1 124 := by decide +kernel
theorem dX10_readShard_124 : gd cX10_readShard 124 (.putfield 338) 3 127 := by decide +kernel
theorem dX10_readShard_127 : gd cX10_readShard 127 (.return_) 1 128 := by decide +kernel
theorem dX10_readShelf_0 : gd cX10_readShelf 0 (.aload_n 0) 1 1 := by decide +kernel
theorem dX10_readShelf_1 : gd cX10_readShelf 1 (.getfield 167) 3 4 := by decide +kernel
theorem dX10_readShelf_4 : gd cX10_readShelf 4 (.getfield 350) 3 7 := by decide +kernel
theorem dX10_readShelf_7 : decode cX10_readShelf 7 = .ok (.iconst (-1), 1) ∧ 7 + 1 = 8 ∧ Int32.ofInt (-1) = (-1) := by decide +kernel
theorem dX10_readShelf_8 : gb cX10_readShelf 8 (.if_icmp .eq 8) (8) 11 16 := by decide +kernel
theorem dX10_readShelf_11 : gd cX10_readShelf 11 (.aload_n 0) 1 12 := by decide +kernel
theorem dX10_readShelf_12 : decode cX10_readShelf 12 = .ok (.iconst 3, 1) ∧ 12 + 1 = 13 ∧ Int32.ofInt (3) = (3) := by decide +kernel
theorem dX10_readShelf_13 : gd cX10_readShelf 13 (.invokevirtual 130) 3 16 := by decide +kernel
theorem dX10_readShelf_16 : gd cX10_readShelf 16 (.aload_n 0) 1 17 := by decide +kernel
theorem dX10_readShelf_17 : decode cX10_readShelf 17 = .ok (.iconst 0, 1) ∧ 17 + 1 = 18 ∧ Int32.ofInt (0) = (0) := by decide +kernel
theorem dX10_readShelf_18 : decode cX10_readShelf 18 = .ok (.iconst 1, 1) ∧ 18 + 1 = 19 ∧ Int32.ofInt (1) = (1) := by decide +kernel
theorem dX10_readShelf_19 : gd cX10_readShelf 19 (.invokevirtual 265) 3 22 := by decide +kernel
theorem dX10_readShelf_22 : gd cX10_readShelf 22 (.aload_n 0) 1 23 := by decide +kernel
theorem dX10_readShelf_23 : decode cX10_readShelf 23 = .ok (.iconst 0, 1) ∧ 23 + 1 = 24 ∧ Int32.ofInt (0) = (0) := by decide +kernel
theorem dX10_readShelf_24 : decode cX10_readShelf 24 = .ok (.bipush 99, 2) ∧ 24 + 2 = 26 ∧ (Int8.ofInt (99)).toInt32 = (99) := by decide +kernel
theorem dX10_readShelf_26 : gd cX10_readShelf 26 (.invokevirtual 142) 3 29 := by decide +kernel
theorem dX10_readShelf_29 : gd cX10_readShelf 29 (.istore_n 1) 1 30 := by decide +kernel
theorem dX10_readShelf_30 : gd cX10_readShelf 30 (.aload_n 0) 1 31 := by decide +kernel
theorem dX10_readShelf_31 : gd cX10_readShelf 31 (.getfield 71) 3 34 := by decide +kernel
theorem dX10_readShelf_34 : decode cX10_readShelf 34 = .ok (.iconst 5, 1) ∧ 34 + 1 = 35 ∧ Int32.ofInt (5) = (5) := by decide +kernel
theorem dX10_readShelf_35 : gb cX10_readShelf 35 (.if_icmp .eq 11) (11) 38 46 := by decide +kernel
theorem dX10_readShelf_38 : gd cX10_readShelf 38 (.aload_n 0) 1 39 := by decide +kernel
theorem dX10_readShelf_39 : gd cX10_readShelf 39 (.getfield 167) 3 42 := by decide +kernel
theorem dX10_readShelf_42 : gd cX10_readShelf 42 (.iload_n 1) 1 43 := by decide +kernel
theorem dX10_readShelf_43 : gd cX10_readShelf 43 (.putfield 350) 3 46 := by decide +kernel
theorem dX10_readShelf_46 : gd cX10_readShelf 46 (.return_) 1 47 := by decide +kernel
theorem dX10_feed_0 : gd cX10_feed 0 (.aload_n 0) 1 1 := by decide +kernel
theorem dX10_feed_1 : decode cX10_feed 1 = .ok (.iconst 0, 1) ∧ 1 + 1 = 2 ∧ Int32.ofInt (0) = (0) := by decide +kernel
theorem dX10_feed_2 : gd cX10_feed 2 (.putfield 39) 3 5 := by decide +kernel
theorem dX10_feed_5 : gd cX10_feed 5 (.aload_n 0) 1 6 := by decide +kernel
theorem dX10_feed_6 : gd cX10_feed 6 (.getfield 352) 3 9 := by decide +kernel
theorem dX10_feed_9 : decode cX10_feed 9 = .ok (.bipush 20, 2) ∧ 9 + 2 = 11 ∧ (Int8.ofInt (20)).toInt32 = (20) := by decide +kernel
theorem dX10_feed_11 : gd cX10_feed 11 (.iadd) 1 12 := by decide +kernel
theorem dX10_feed_12 : decode cX10_feed 12 = .ok (.sipush 1100, 3) ∧ 12 + 3 = 15 ∧ (Int16.ofInt (1100)).toInt32 = (1100) := by decide +kernel
theorem dX10_feed_15 : gb cX10_feed 15 (.if_icmp .le 5) (5) 18 20 := by decide +kernel
theorem dX10_feed_18 : decode cX10_feed 18 = .ok (.iconst (-1), 1) ∧ 18 + 1 = 19 ∧ Int32.ofInt (-1) = (-1) := by decide +kernel
theorem dX10_feed_19 : gd cX10_feed 19 (.ireturn) 1 20 := by decide +kernel
theorem dX10_feed_20 : decode cX10_feed 20 = .ok (.iconst 0, 1) ∧ 20 + 1 = 21 ∧ Int32.ofInt (0) = (0) := by decide +kernel
theorem dX10_feed_21 : gd cX10_feed 21 (.istore 6) 2 23 := by decide +kernel
theorem dX10_feed_23 : gd cX10_feed 23 (.iload 6) 2 25 := by decide +kernel
theorem dX10_feed_25 : decode cX10_feed 25 = .ok (.bipush 20, 2) ∧ 25 + 2 = 27 ∧ (Int8.ofInt (20)).toInt32 = (20) := by decide +kernel
theorem dX10_feed_27 : gb cX10_feed 27 (.if_icmp .ge 90) (90) 30 117 := by decide +kernel
theorem dX10_feed_30 : gd cX10_feed 30 (.iload 6) 2 32 := by decide +kernel
theorem dX10_feed_32 : decode cX10_feed 32 = .ok (.iconst 4, 1) ∧ 32 + 1 = 33 ∧ Int32.ofInt (4) = (4) := by decide +kernel
theorem dX10_feed_33 : gb cX10_feed 33 (.if_icmp .ge 7) (7) 36 40 := by decide +kernel
theorem dX10_feed_36 : gd cX10_feed 36 (.iload_n 1) 1 37 := by decide +kernel
theorem dX10_feed_37 : gb cX10_feed 37 (.goto 39) (39) 40 76 := by decide +kernel
theorem dX10_feed_40 : gd cX10_feed 40 (.iload 6) 2 42 := by decide +kernel
theorem dX10_feed_42 : decode cX10_feed 42 = .ok (.bipush 8, 2) ∧ 42 + 2 = 44 ∧ (Int8.ofInt (8)).toInt32 = (8) := by decide +kernel
theorem dX10_feed_44 : gb cX10_feed 44 (.if_icmp .ge 7) (7) 47 51 := by decide +kernel
theorem dX10_feed_47 : gd cX10_feed 47 (.iload_n 2) 1 48 := by decide +kernel
theorem dX10_feed_48 : gb cX10_feed 48 (.goto 28) (28) 51 76 := by decide +kernel
theorem dX10_feed_51 : gd cX10_feed 51 (.iload 6) 2 53 := by decide +kernel
theorem dX10_feed_53 : decode cX10_feed 53 = .ok (.bipush 12, 2) ∧ 53 + 2 = 55 ∧ (Int8.ofInt (12)).toInt32 = (12) := by decide +kernel
theorem dX10_feed_55 : gb cX10_feed 55 (.if_icmp .ge 7) (7) 58 62 := by decide +kernel
theorem dX10_feed_58 : gd cX10_feed 58 (.iload_n 3) 1 59 := by decide +kernel
theorem dX10_feed_59 : gb cX10_feed 59 (.goto 17) (17) 62 76 := by decide +kernel
theorem dX10_feed_62 : gd cX10_feed 62 (.iload 6) 2 64 := by decide +kernel
theorem dX10_feed_64 : decode cX10_feed 64 = .ok (.bipush 16, 2) ∧ 64 + 2 = 66 ∧ (Int8.ofInt (16)).toInt32 = (16) := by decide +kernel
theorem dX10_feed_66 : gb cX10_feed 66 (.if_icmp .ge 8) (8) 69 74 := by decide +kernel
theorem dX10_feed_69 : gd cX10_feed 69 (.iload 4) 2 71 := by decide +kernel
theorem dX10_feed_71 : gb cX10_feed 71 (.goto 5) (5) 74 76 := by decide +kernel
theorem dX10_feed_74 : gd cX10_feed 74 (.iload 5) 2 76 := by decide +kernel
theorem dX10_feed_76 : gd cX10_feed 76 (.istore 7) 2 78 := by decide +kernel
theorem dX10_feed_78 : gd cX10_feed 78 (.aload_n 0) 1 79 := by decide +kernel
theorem dX10_feed_79 : gd cX10_feed 79 (.getfield 13) 3 82 := by decide +kernel
theorem dX10_feed_82 : gd cX10_feed 82 (.aload_n 0) 1 83 := by decide +kernel
theorem dX10_feed_83 : gd cX10_feed 83 (.getfield 352) 3 86 := by decide +kernel
theorem dX10_feed_86 : gd cX10_feed 86 (.iload 7) 2 88 := by decide +kernel
theorem dX10_feed_88 : decode cX10_feed 88 = .ok (.bipush 24, 2) ∧ 88 + 2 = 90 ∧ (Int8.ofInt (24)).toInt32 = (24) := by decide +kernel
theorem dX10_feed_90 : decode cX10_feed 90 = .ok (.bipush 8, 2) ∧ 90 + 2 = 92 ∧ (Int8.ofInt (8)).toInt32 = (8) := by decide +kernel
theorem dX10_feed_92 : gd cX10_feed 92 (.iload 6) 2 94 := by decide +kernel
theorem dX10_feed_94 : decode cX10_feed 94 = .ok (.iconst 4, 1) ∧ 94 + 1 = 95 ∧ Int32.ofInt (4) = (4) := by decide +kernel
theorem dX10_feed_95 : gd cX10_feed 95 (.irem) 1 96 := by decide +kernel
theorem dX10_feed_96 : gd cX10_feed 96 (.imul) 1 97 := by decide +kernel
theorem dX10_feed_97 : gd cX10_feed 97 (.isub) 1 98 := by decide +kernel
theorem dX10_feed_98 : gd cX10_feed 98 (.ishr) 1 99 := by decide +kernel
theorem dX10_feed_99 : gd cX10_feed 99 (.i2b) 1 100 := by decide +kernel
theorem dX10_feed_100 : gd cX10_feed 100 (.bastore) 1 101 := by decide +kernel
theorem dX10_feed_101 : gd cX10_feed 101 (.aload_n 0) 1 102 := by decide +kernel
theorem dX10_feed_102 : gd cX10_feed 102 (.dup) 1 103 := by decide +kernel
theorem dX10_feed_103 : gd cX10_feed 103 (.getfield 352) 3 106 := by decide +kernel
theorem dX10_feed_106 : decode cX10_feed 106 = .ok (.iconst 1, 1) ∧ 106 + 1 = 107 ∧ Int32.ofInt (1) = (1) := by decide +kernel
theorem dX10_feed_107 : gd cX10_feed 107 (.iadd) 1 108 := by decide +kernel
theorem dX10_feed_108 : gd cX10_feed 108 (.putfield 352) 3 111 := by decide +kernel
theorem dX10_feed_111 : decode cX10_feed 111 = .ok (.iinc 6 1, 3) ∧ 111 + 3 = 114 ∧ Int32.ofInt (1) = (1) := by decide +kernel
theorem dX10_feed_114 : gb cX10_feed 114 (.goto (-91)) (-91) 117 23 := by decide +kernel
theorem dX10_feed_117 : gd cX10_feed 117 (.aload_n 0) 1 118 := by decide +kernel
theorem dX10_feed_118 : gd cX10_feed 118 (.getfield 352) 3 121 := by decide +kernel
theorem dX10_feed_121 : gd cX10_feed 121 (.ireturn) 1 122 := by decide +kernel
theorem dX10_city_0 : gd cX10_city 0 (.aload_n 0) 1 1 := by decide +kernel
theorem dX10_city_1 : decode cX10_city 1 = .ok (.iconst 0, 1) ∧ 1 + 1 = 2 ∧ Int32.ofInt (0) = (0) := by decide +kernel
theorem dX10_city_2 : gd cX10_city 2 (.putfield 39) 3 5 := by decide +kernel
theorem dX10_city_5 : gd cX10_city 5 (.iload_n 1) 1 6 := by decide +kernel
theorem dX10_city_6 : gb cX10_city 6 (.ifCond .lt 11) (11) 9 17 := by decide +kernel
theorem dX10_city_9 : gd cX10_city 9 (.iload_n 1) 1 10 := by decide +kernel
theorem dX10_city_10 : gd cX10_city 10 (.aload_n 0) 1 11 := by decide +kernel
theorem dX10_city_11 : gd cX10_city 11 (.getfield 352) 3 14 := by decide +kernel
theorem dX10_city_14 : gb cX10_city 14 (.if_icmp .le 9) (9) 17 23 := by decide +kernel
theorem dX10_city_17 : gd cX10_city 17 (.aload_n 0) 1 18 := by decide +kernel
theorem dX10_city_18 : decode cX10_city 18 = .ok (.iconst 2, 1) ∧ 18 + 1 = 19 ∧ Int32.ofInt (2) = (2) := by decide +kernel
theorem dX10_city_19 : gd cX10_city 19 (.invokevirtual 45) 3 22 := by decide +kernel
theorem dX10_city_22 : gd cX10_city 22 (.ireturn) 1 23 := by decide +kernel
theorem dX10_city_23 : gd cX10_city 23 (.aload_n 0) 1 24 := by decide +kernel
theorem dX10_city_24 : gd cX10_city 24 (.iload_n 1) 1 25 := by decide +kernel
theorem dX10_city_25 : gd cX10_city 25 (.putfield 56) 3 28 := by decide +kernel
theorem dX10_city_28 : gd cX10_city 28 (.aload_n 0) 1 29 := by decide +kernel
theorem dX10_city_29 : decode cX10_city 29 = .ok (.iconst 0, 1) ∧ 29 + 1 = 30 ∧ Int32.ofInt (0) = (0) := by decide +kernel
theorem dX10_city_30 : gd cX10_city 30 (.putfield 352) 3 33 := by decide +kernel
theorem dX10_city_33 : gd cX10_city 33 (.aload_n 0) 1 34 := by decide +kernel
theorem dX10_city_34 : decode cX10_city 34 = .ok (.iconst 0, 1) ∧ 34 + 1 = 35 ∧ Int32.ofInt (0) = (0) := by decide +kernel
theorem dX10_city_35 : gd cX10_city 35 (.putfield 74) 3 38 := by decide +kernel
theorem dX10_city_38 : gd cX10_city 38 (.aload_n 0) 1 39 := by decide +kernel
theorem dX10_city_39 : decode cX10_city 39 = .ok (.iconst 0, 1) ∧ 39 + 1 = 40 ∧ Int32.ofInt (0) = (0) := by decide +kernel
theorem dX10_city_40 : gd cX10_city 40 (.putfield 110) 3 43 := by decide +kernel
theorem dX10_city_43 : gd cX10_city 43 (.aload_n 0) 1 44 := by decide +kernel
theorem dX10_city_44 : gd cX10_city 44 (.new 172) 3 47 := by decide +kernel
theorem dX10_city_47 : gd cX10_city 47 (.dup) 1 48 := by decide +kernel
theorem dX10_city_48 : gd cX10_city 48 (.invokespecial 355) 3 51 := by decide +kernel
theorem dX10_city_51 : gd cX10_city 51 (.putfield 167) 3 54 := by decide +kernel
theorem dX10_city_54 : gd cX10_city 54 (.aload_n 0) 1 55 := by decide +kernel
theorem dX10_city_55 : decode cX10_city 55 = .ok (.iconst 0, 1) ∧ 55 + 1 = 56 ∧ Int32.ofInt (0) = (0) := by decide +kernel
theorem dX10_city_56 : gd cX10_city 56 (.putfield 71) 3 59 := by decide +kernel
theorem dX10_city_59 : gd cX10_city 59 (.aload_n 0) 1 60 := by decide +kernel
theorem dX10_city_60 : gd cX10_city 60 (.invokevirtual 123) 3 63 := by decide +kernel
theorem dX10_city_63 : gd cX10_city 63 (.aload_n 0) 1 64 := by decide +kernel
theorem dX10_city_64 : gd cX10_city 64 (.invokevirtual 356) 3 67 := by decide +kernel
theorem dX10_city_67 : gd cX10_city 67 (.aload_n 0) 1 68 := by decide +kernel
theorem dX10_city_68 : gd cX10_city 68 (.getfield 110) 3 71 := by decide +kernel
theorem dX10_city_71 : gb cX10_city 71 (.ifCond .le 18) (18) 74 89 := by decide +kernel
theorem dX10_city_74 : gd cX10_city 74 (.aload_n 0) 1 75 := by decide +kernel
theorem dX10_city_75 : decode cX10_city 75 = .ok (.iconst 4, 1) ∧ 75 + 1 = 76 ∧ Int32.ofInt (4) = (4) := by decide +kernel
theorem dX10_city_76 : gd cX10_city 76 (.putfield 42) 3 79 := by decide +kernel
theorem dX10_city_79 : gd cX10_city 79 (.aload_n 0) 1 80 := by decide +kernel
theorem dX10_city_80 : gd cX10_city 80 (.aload_n 0) 1 81 := by decide +kernel
theorem dX10_city_81 : gd cX10_city 81 (.getfield 113) 3 84 := by decide +kernel
theorem dX10_city_84 : gd cX10_city 84 (.putfield 9) 3 87 := by decide +kernel
theorem dX10_city_87 : decode cX10_city 87 = .ok (.iconst (-1), 1) ∧ 87 + 1 = 88 ∧ Int32.ofInt (-1) = (-1) := by decide +kernel
theorem dX10_city_88 : gd cX10_city 88 (.ireturn) 1 89 := by decide +kernel
theorem dX10_city_89 : gd cX10_city 89 (.aload_n 0) 1 90 := by decide +kernel
theorem dX10_city_90 : gd cX10_city 90 (.aload_n 0) 1 91 := by decide +kernel
theorem dX10_city_91 : gd cX10_city 91 (.getfield 167) 3 94 := by decide +kernel
theorem dX10_city_94 : gd cX10_city 94 (.putfield 359) 3 97 := by decide +kernel
theorem dX10_city_97 : decode cX10_city 97 = .ok (.iconst 0, 1) ∧ 97 + 1 = 98 ∧ Int32.ofInt (0) = (0) := by decide +kernel
theorem dX10_city_98 : gd cX10_city 98 (.istore_n 2) 1 99 := by decide +kernel
theorem dX10_city_99 : gd cX10_city 99 (.iload_n 2) 1 100 := by decide +kernel
theorem dX10_city_100 : decode cX10_city 100 = .ok (.bipush 8, 2) ∧ 100 + 2 = 102 ∧ (Int8.ofInt (8)).toInt32 = (8) := by decide +kernel
theorem dX10_city_102 : gb cX10_city 102 (.if_icmp .ge 36) (36) 105 138 := by decide +kernel
theorem dX10_city_105 : gd cX10_city 105 (.aload_n 0) 1 106 := by decide +kernel
theorem dX10_city_106 : gd cX10_city 106 (.getfield 17) 3 109 := by decide +kernel
theorem dX10_city_109 : decode cX10_city 109 = .ok (.iconst 0, 1) ∧ 109 + 1 = 110 ∧ Int32.ofInt (0) = (0) := by decide +kernel
theorem dX10_city_110 : gd cX10_city 110 (.iload_n 2) 1 111 := by decide +kernel
theorem dX10_city_111 : gd cX10_city 111 (.iadd) 1 112 := by decide +kernel
theorem dX10_city_112 : gd cX10_city 112 (.aload_n 0) 1 113 := by decide +kernel
theorem dX10_city_113 : gd cX10_city 113 (.getfield 359) 3 116 := by decide +kernel
theorem dX10_city_116 : gd cX10_city 116 (.getfield 286) 3 119 := by decide +kernel
theorem dX10_city_119 : gd cX10_city 119 (.iload_n 2) 1 120 := by decide +kernel
theorem dX10_city_120 : gd cX10_city 120 (.iaload) 1 121 := by decide +kernel
theorem dX10_city_121 : gd cX10_city 121 (.iastore) 1 122 := by decide +kernel
theorem dX10_city_122 : gd cX10_city 122 (.aload_n 0) 1 123 := by decide +kernel
theorem dX10_city_123 : gd cX10_city 123 (.getfield 17) 3 126 := by decide +kernel
theorem dX10_city_126 : decode cX10_city 126 = .ok (.bipush 8, 2) ∧ 126 + 2 = 128 ∧ (Int8.ofInt (8)).toInt32 = (8) := by decide +kernel
theorem dX10_city_128 : gd cX10_city 128 (.iload_n 2) 1 129 := by decide +kernel
theorem dX10_city_129 : gd cX10_city 129 (.iadd) 1 130 := by decide +kernel
theorem dX10_city_130 : decode cX10_city 130 = .ok (.iconst 0, 1) ∧ 130 + 1 = 131 ∧ Int32.ofInt (0) = (0) := by decide +kernel
theorem dX10_city_131 : gd cX10_city 131 (.iastore) 1 132 := by decide +kernel
theorem dX10_city_132 : decode cX10_city 132 = .ok (.iinc 2 1, 3) ∧ 132 + 3 = 135 ∧ Int32.ofInt (1) = (1) := by decide +kernel
theorem dX10_city_135 : gb cX10_city 135 (.goto (-36)) (-36) 138 99 := by decide +kernel
theorem dX10_city_138 : gd cX10_city 138 (.aload_n 0) 1 139 := by decide +kernel
theorem dX10_city_139 : gd cX10_city 139 (.getfield 17) 3 142 := by decide +kernel
theorem dX10_city_142 : decode cX10_city 142 = .ok (.bipush 16, 2) ∧ 142 + 2 = 144 ∧ (Int8.ofInt (16)).toInt32 = (16) := by decide +kernel
theorem dX10_city_144 : decode cX10_city 144 = .ok (.iconst 0, 1) ∧ 144 + 1 = 145 ∧ Int32.ofInt (0) = (0) := by decide +kernel
theorem dX10_city_145 : gd cX10_city 145 (.iastore) 1 146 := by decide +kernel
theorem dX10_city_146 : gd cX10_city 146 (.aload_n 0) 1 147 := by decide +kernel
theorem dX10_city_147 : decode cX10_city 147 = .ok (.iconst 0, 1) ∧ 147 + 1 = 148 ∧ Int32.ofInt (0) = (0) := by decide +kernel
theorem dX10_city_148 : gd cX10_city 148 (.putfield 361) 3 151 := by decide +kernel
theorem dX10_city_151 : gd cX10_city 151 (.aload_n 0) 1 152 := by decide +kernel
theorem dX10_city_152 : decode cX10_city 152 = .ok (.iconst 0, 1) ∧ 152 + 1 = 153 ∧ Int32.ofInt (0) = (0) := by decide +kernel
theorem dX10_city_153 : gd cX10_city 153 (.putfield 364) 3 156 := by decide +kernel
theorem dX10_city_156 : gd cX10_city 156 (.aload_n 0) 1 157 := by decide +kernel
theorem dX10_city_157 : gd cX10_city 157 (.aload_n 0) 1 158 := by decide +kernel
theorem dX10_city_158 : gd cX10_city 158 (.getfield 359) 3 161 := by decide +kernel
theorem dX10_city_161 : gd cX10_city 161 (.getfield 215) 3 164 := by decide +kernel
theorem dX10_city_164 : gd cX10_city 164 (.invokevirtual 49) 3 167 := by decide +kernel
theorem dX10_city_167 : gd cX10_city 167 (.ireturn) 1 168 := by decide +kernel
theorem dX10_fault_0 : gd cX10_fault 0 (.aload_n 0) 1 1 := by decide +kernel
theorem dX10_fault_1 : decode cX10_fault 1 = .ok (.iconst 0, 1) ∧ 1 + 1 = 2 ∧ Int32.ofInt (0) = (0) := by decide +kernel
theorem dX10_fault_2 : gd cX10_fault 2 (.putfield 39) 3 5 := by decide +kernel
theorem dX10_fault_5 : gd cX10_fault 5 (.aload_n 0) 1 6 := by decide +kernel
theorem dX10_fault_6 : gd cX10_fault 6 (.getfield 110) 3 9 := by decide +kernel
theorem dX10_fault_9 : gd cX10_fault 9 (.ireturn) 1 10 := by decide +kernel
theorem dX10_where_0 : gd cX10_where 0 (.aload_n 0) 1 1 := by decide +kernel
theorem dX10_where_1 : decode cX10_where 1 = .ok (.iconst 0, 1) ∧ 1 + 1 = 2 ∧ Int32.ofInt (0) = (0) := by decide +kernel
theorem dX10_where_2 : gd cX10_where 2 (.putfield 39) 3 5 := by decide +kernel
theorem dX10_where_5 : gd cX10_where 5 (.aload_n 0) 1 6 := by decide +kernel
theorem dX10_where_6 : gd cX10_where 6 (.getfield 9) 3 9 := by decide +kernel
theorem dX10_where_9 : gd cX10_where 9 (.ireturn) 1 10 := by decide +kernel
theorem dX10_isPane_0 : gd cX10_isPane 0 (.aload_n 0) 1 1 := by decide +kernel
theorem dX10_isPane_1 : gd cX10_isPane 1 (.getfield 359) 3 4 := by decide +kernel
theorem dX10_isPane_4 : gb cX10_isPane 4 (.ifnull 22) (22) 7 26 := by decide +kernel
theorem dX10_isPane_7 : gd cX10_isPane 7 (.iload_n 1) 1 8 := by decide +kernel
theorem dX10_isPane_8 : gb cX10_isPane 8 (.ifCond .lt 18) (18) 11 26 := by decide +kernel
theorem dX10_isPane_11 : gd cX10_isPane 11 (.iload_n 1) 1 12 := by decide +kernel
theorem dX10_isPane_12 : gd cX10_isPane 12 (.aload_n 0) 1 13 := by decide +kernel
theorem dX10_isPane_13 : gd cX10_isPane 13 (.getfield 359) 3 16 := by decide +kernel
theorem dX10_isPane_16 : gd cX10_isPane 16 (.getfield 215) 3 19 := by decide +kernel
theorem dX10_isPane_19 : gb cX10_isPane 19 (.if_icmp .ge 7) (7) 22 26 := by decide +kernel
theorem dX10_isPane_22 : decode cX10_isPane 22 = .ok (.iconst 1, 1) ∧ 22 + 1 = 23 ∧ Int32.ofInt (1) = (1) := by decide +kernel
theorem dX10_isPane_23 : gb cX10_isPane 23 (.goto 4) (4) 26 27 := by decide +kernel
theorem dX10_isPane_26 : decode cX10_isPane 26 = .ok (.iconst 0, 1) ∧ 26 + 1 = 27 ∧ Int32.ofInt (0) = (0) := by decide +kernel
theorem dX10_isPane_27 : gd cX10_isPane 27 (.ireturn) 1 28 := by decide +kernel
theorem dX10_isWordOf_0 : gd cX10_isWordOf 0 (.aload_n 0) 1 1 := by decide +kernel
theorem dX10_isWordOf_1 : gd cX10_isWordOf 1 (.getfield 359) 3 4 := by decide +kernel
theorem dX10_isWordOf_4 : gb cX10_isWordOf 4 (.ifnull 22) (22) 7 26 := by decide +kernel
theorem dX10_isWordOf_7 : gd cX10_isWordOf 7 (.iload_n 1) 1 8 := by decide +kernel
theorem dX10_isWordOf_8 : gb cX10_isWordOf 8 (.ifCond .lt 18) (18) 11 26 := by decide +kernel
theorem dX10_isWordOf_11 : gd cX10_isWordOf 11 (.iload_n 1) 1 12 := by decide +kernel
theorem dX10_isWordOf_12 : gd cX10_isWordOf 12 (.aload_n 0) 1 13 := by decide +kernel
theorem dX10_isWordOf_13 : gd cX10_isWordOf 13 (.getfield 359) 3 16 := by decide +kernel
theorem dX10_isWordOf_16 : gd cX10_isWordOf 16 (.getfield 289) 3 19 := by decide +kernel
theorem dX10_isWordOf_19 : gb cX10_isWordOf 19 (.if_icmp .ge 7) (7) 22 26 := by decide +kernel
theorem dX10_isWordOf_22 : decode cX10_isWordOf 22 = .ok (.iconst 1, 1) ∧ 22 + 1 = 23 ∧ Int32.ofInt (1) = (1) := by decide +kernel
theorem dX10_isWordOf_23 : gb cX10_isWordOf 23 (.goto 4) (4) 26 27 := by decide +kernel
theorem dX10_isWordOf_26 : decode cX10_isWordOf 26 = .ok (.iconst 0, 1) ∧ 26 + 1 = 27 ∧ Int32.ofInt (0) = (0) := by decide +kernel
theorem dX10_isWordOf_27 : gd cX10_isWordOf 27 (.ireturn) 1 28 := by decide +kernel
theorem dX10_isCorner_0 : gd cX10_isCorner 0 (.aload_n 0) 1 1 := by decide +kernel
theorem dX10_isCorner_1 : gd cX10_isCorner 1 (.getfield 359) 3 4 := by decide +kernel
theorem dX10_isCorner_4 : gb cX10_isCorner 4 (.ifnull 22) (22) 7 26 := by decide +kernel
theorem dX10_isCorner_7 : gd cX10_isCorner 7 (.iload_n 1) 1 8 := by decide +kernel
theorem dX10_isCorner_8 : gb cX10_isCorner 8 (.ifCond .lt 18) (18) 11 26 := by decide +kernel
theorem dX10_isCorner_11 : gd cX10_isCorner 11 (.iload_n 1) 1 12 := by decide +kernel
theorem dX10_isCorner_12 : gd cX10_isCorner 12 (.aload_n 0) 1 13 := by decide +kernel
theorem dX10_isCorner_13 : gd cX10_isCorner 13 (.getfield 359) 3 16 := by decide +kernel
theorem dX10_isCorner_16 : gd cX10_isCorner 16 (.getfield 300) 3 19 := by decide +kernel
theorem dX10_isCorner_19 : gb cX10_isCorner 19 (.if_icmp .ge 7) (7) 22 26 := by decide +kernel
theorem dX10_isCorner_22 : decode cX10_isCorner 22 = .ok (.iconst 1, 1) ∧ 22 + 1 = 23 ∧ Int32.ofInt (1) = (1) := by decide +kernel
theorem dX10_isCorner_23 : gb cX10_isCorner 23 (.goto 4) (4) 26 27 := by decide +kernel
theorem dX10_isCorner_26 : decode cX10_isCorner 26 = .ok (.iconst 0, 1) ∧ 26 + 1 = 27 ∧ Int32.ofInt (0) = (0) := by decide +kernel
theorem dX10_isCorner_27 : gd cX10_isCorner 27 (.ireturn) 1 28 := by decide +kernel
theorem dX10_isView_0 : gd cX10_isView 0 (.aload_n 0) 1 1 := by decide +kernel
theorem dX10_isView_1 : gd cX10_isView 1 (.getfield 359) 3 4 := by decide +kernel
theorem dX10_isView_4 : gb cX10_isView 4 (.ifnull 28) (28) 7 32 := by decide +kernel
theorem dX10_isView_7 : gd cX10_isView 7 (.iload_n 1) 1 8 := by decide +kernel
theorem dX10_isView_8 : decode cX10_isView 8 = .ok (.bipush (-2), 2) ∧ 8 + 2 = 10 ∧ (Int8.ofInt (-2)).toInt32 = (-2) := by decide +kernel
theorem dX10_isView_10 : gb cX10_isView 10 (.if_icmp .eq 18) (18) 13 28 := by decide +kernel
theorem dX10_isView_13 : gd cX10_isView 13 (.iload_n 1) 1 14 := by decide +kernel
theorem dX10_isView_14 : gb cX10_isView 14 (.ifCond .lt 18) (18) 17 32 := by decide +kernel
theorem dX10_isView_17 : gd cX10_isView 17 (.iload_n 1) 1 18 := by decide +kernel
theorem dX10_isView_18 : gd cX10_isView 18 (.aload_n 0) 1 19 := by decide +kernel
theorem dX10_isView_19 : gd cX10_isView 19 (.getfield 359) 3 22 := by decide +kernel
theorem dX10_isView_22 : gd cX10_isView 22 (.getfield 294) 3 25 := by decide +kernel
theorem dX10_isView_25 : gb cX10_isView 25 (.if_icmp .ge 7) (7) 28 32 := by decide +kernel
theorem dX10_isView_28 : decode cX10_isView 28 = .ok (.iconst 1, 1) ∧ 28 + 1 = 29 ∧ Int32.ofInt (1) = (1) := by decide +kernel
theorem dX10_isView_29 : gb cX10_isView 29 (.goto 4) (4) 32 33 := by decide +kernel
theorem dX10_isView_32 : decode cX10_isView 32 = .ok (.iconst 0, 1) ∧ 32 + 1 = 33 ∧ Int32.ofInt (0) = (0) := by decide +kernel
theorem dX10_isView_33 : gd cX10_isView 33 (.ireturn) 1 34 := by decide +kernel
theorem dX10_isBroken_0 : gd cX10_isBroken 0 (.aload_n 0) 1 1 := by decide +kernel
theorem dX10_isBroken_1 : gd cX10_isBroken 1 (.getfield 17) 3 4 := by decide +kernel
theorem dX10_isBroken_4 : decode cX10_isBroken 4 = .ok (.bipush 16, 2) ∧ 4 + 2 = 6 ∧ (Int8.ofInt (16)).toInt32 = (16) := by decide +kernel
theorem dX10_isBroken_6 : gd cX10_isBroken 6 (.iaload) 1 7 := by decide +kernel
theorem dX10_isBroken_7 : gd cX10_isBroken 7 (.iload_n 1) 1 8 := by decide +kernel
theorem dX10_isBroken_8 : gd cX10_isBroken 8 (.invokestatic 367) 3 11 := by decide +kernel
theorem dX10_isBroken_11 : gd cX10_isBroken 11 (.ireturn) 1 12 := by decide +kernel
theorem dX10_darkOf_0 : gd cX10_darkOf 0 (.iload_n 1) 1 1 := by decide +kernel
theorem dX10_darkOf_1 : decode cX10_darkOf 1 = .ok (.bipush (-2), 2) ∧ 1 + 2 = 3 ∧ (Int8.ofInt (-2)).toInt32 = (-2) := by decide +kernel
theorem dX10_darkOf_3 : gb cX10_darkOf 3 (.if_icmp .ne 7) (7) 6 10 := by decide +kernel
theorem dX10_darkOf_6 : decode cX10_darkOf 6 = .ok (.iconst 0, 1) ∧ 6 + 1 = 7 ∧ Int32.ofInt (0) = (0) := by decide +kernel
theorem dX10_darkOf_7 : gb cX10_darkOf 7 (.goto 12) (12) 10 19 := by decide +kernel
theorem dX10_darkOf_10 : gd cX10_darkOf 10 (.aload_n 0) 1 11 := by decide +kernel
theorem dX10_darkOf_11 : gd cX10_darkOf 11 (.getfield 359) 3 14 := by decide +kernel
theorem dX10_darkOf_14 : gd cX10_darkOf 14 (.getfield 297) 3 17 := by decide +kernel
theorem dX10_darkOf_17 : gd cX10_darkOf 17 (.iload_n 1) 1 18 := by decide +kernel
theorem dX10_darkOf_18 : gd cX10_darkOf 18 (.iaload) 1 19 := by decide +kernel
theorem dX10_darkOf_19 : gd cX10_darkOf 19 (.ireturn) 1 20 := by decide +kernel
theorem dX10_shownBy_0 : gd cX10_shownBy 0 (.aload_n 0) 1 1 := by decide +kernel
theorem dX10_shownBy_1 : gd cX10_shownBy 1 (.getfield 17) 3 4 := by decide +kernel
theorem dX10_shownBy_4 : decode cX10_shownBy 4 = .ok (.iconst 0, 1) ∧ 4 + 1 = 5 ∧ Int32.ofInt (0) = (0) := by decide +kernel
theorem dX10_shownBy_5 : gd cX10_shownBy 5 (.iload_n 1) 1 6 := by decide +kernel
theorem dX10_shownBy_6 : gd cX10_shownBy 6 (.iadd) 1 7 := by decide +kernel
theorem dX10_shownBy_7 : gd cX10_shownBy 7 (.iaload) 1 8 := by decide +kernel
theorem dX10_shownBy_8 : gd cX10_shownBy 8 (.aload_n 0) 1 9 := by decide +kernel
theorem dX10_shownBy_9 : gd cX10_shownBy 9 (.getfield 17) 3 12 := by decide +kernel
theorem dX10_shownBy_12 : decode cX10_shownBy 12 = .ok (.bipush 8, 2) ∧ 12 + 2 = 14 ∧ (Int8.ofInt (8)).toInt32 = (8) := by decide +kernel
theorem dX10_shownBy_14 : gd cX10_shownBy 14 (.iload_n 1) 1 15 := by decide +kernel
theorem dX10_shownBy_15 : gd cX10_shownBy 15 (.iadd) 1 16 := by decide +kernel
theorem dX10_shownBy_16 : gd cX10_shownBy 16 (.iaload) 1 17 := by decide +kernel
theorem dX10_shownBy_17 : decode cX10_shownBy 17 = .ok (.iconst (-1), 1) ∧ 17 + 1 = 18 ∧ Int32.ofInt (-1) = (-1) := by decide +kernel
theorem dX10_shownBy_18 : gd cX10_shownBy 18 (.ixor) 1 19 := by decide +kernel
theorem dX10_shownBy_19 : gd cX10_shownBy 19 (.iand) 1 20 := by decide +kernel
theorem dX10_shownBy_20 : gd cX10_shownBy 20 (.ireturn) 1 21 := by decide +kernel
theorem dX10_seenOf_0 : gd cX10_seenOf 0 (.aload_n 0) 1 1 := by decide +kernel
theorem dX10_seenOf_1 : gd cX10_seenOf 1 (.iload_n 1) 1 2 := by decide +kernel
theorem dX10_seenOf_2 : gd cX10_seenOf 2 (.invokevirtual 371) 3 5 := by decide +kernel
theorem dX10_seenOf_5 : gd cX10_seenOf 5 (.aload_n 0) 1 6 := by decide +kernel
theorem dX10_seenOf_6 : gd cX10_seenOf 6 (.iload_n 2) 1 7 := by decide +kernel
theorem dX10_seenOf_7 : gd cX10_seenOf 7 (.invokevirtual 374) 3 10 := by decide +kernel
theorem dX10_seenOf_10 : decode cX10_seenOf 10 = .ok (.iconst (-1), 1) ∧ 10 + 1 = 11 ∧ Int32.ofInt (-1) = (-1) := by decide +kernel
theorem dX10_seenOf_11 : gd cX10_seenOf 11 (.ixor) 1 12 := by decide +kernel
theorem dX10_seenOf_12 : gd cX10_seenOf 12 (.iand) 1 13 := by decide +kernel
theorem dX10_seenOf_13 : gd cX10_seenOf 13 (.ireturn) 1 14 := by decide +kernel
theorem dX10_readOf_0 : decode cX10_readOf 0 = .ok (.iconst 0, 1) ∧ 0 + 1 = 1 ∧ Int32.ofInt (0) = (0) := by decide +kernel
theorem dX10_readOf_1 : gd cX10_readOf 1 (.istore_n 2) 1 2 := by decide +kernel
theorem dX10_readOf_2 : gd cX10_readOf 2 (.iload_n 2) 1 3 := by decide +kernel
theorem dX10_readOf_3 : gd cX10_readOf 3 (.aload_n 0) 1 4 := by decide +kernel
theorem dX10_readOf_4 : gd cX10_readOf 4 (.getfield 359) 3 7 := by decide +kernel
theorem dX10_readOf_7 : gd cX10_readOf 7 (.getfield 289) 3 10 := by decide +kernel
theorem dX10_readOf_10 : gb cX10_readOf 10 (.if_icmp .ge 24) (24) 13 34 := by decide +kernel
theorem dX10_readOf_13 : gd cX10_readOf 13 (.aload_n 0) 1 14 := by decide +kernel
theorem dX10_readOf_14 : gd cX10_readOf 14 (.getfield 359) 3 17 := by decide +kernel
theorem dX10_readOf_17 : gd cX10_readOf 17 (.getfield 292) 3 20 := by decide +kernel
theorem dX10_readOf_20 : gd cX10_readOf 20 (.iload_n 2) 1 21 := by decide +kernel
theorem dX10_readOf_21 : gd cX10_readOf 21 (.iaload) 1 22 := by decide +kernel
theorem dX10_readOf_22 : gd cX10_readOf 22 (.iload_n 1) 1 23 := by decide +kernel
theorem dX10_readOf_23 : gb cX10_readOf 23 (.if_icmp .ne 5) (5) 26 28 := by decide +kernel
theorem dX10_readOf_26 : gd cX10_readOf 26 (.iload_n 2) 1 27 := by decide +kernel
theorem dX10_readOf_27 : gd cX10_readOf 27 (.ireturn) 1 28 := by decide +kernel
theorem dX10_readOf_28 : decode cX10_readOf 28 = .ok (.iinc 2 1, 3) ∧ 28 + 3 = 31 ∧ Int32.ofInt (1) = (1) := by decide +kernel
theorem dX10_readOf_31 : gb cX10_readOf 31 (.goto (-29)) (-29) 34 2 := by decide +kernel
theorem dX10_readOf_34 : decode cX10_readOf 34 = .ok (.bipush (-2), 2) ∧ 34 + 2 = 36 ∧ (Int8.ofInt (-2)).toInt32 = (-2) := by decide +kernel
theorem dX10_readOf_36 : gd cX10_readOf 36 (.ireturn) 1 37 := by decide +kernel
theorem dX10_refusesSeen_0 : gd cX10_refusesSeen 0 (.aload_n 0) 1 1 := by decide +kernel
theorem dX10_refusesSeen_1 : gd cX10_refusesSeen 1 (.iload_n 1) 1 2 := by decide +kernel
theorem dX10_refusesSeen_2 : gd cX10_refusesSeen 2 (.invokevirtual 377) 3 5 := by decide +kernel
theorem dX10_refusesSeen_5 : gb cX10_refusesSeen 5 (.ifCond .eq 11) (11) 8 16 := by decide +kernel
theorem dX10_refusesSeen_8 : gd cX10_refusesSeen 8 (.aload_n 0) 1 9 := by decide +kernel
theorem dX10_refusesSeen_9 : gd cX10_refusesSeen 9 (.iload_n 2) 1 10 := by decide +kernel
theorem dX10_refusesSeen_10 : gd cX10_refusesSeen 10 (.invokevirtual 380) 3 13 := by decide +kernel
theorem dX10_refusesSeen_13 : gb cX10_refusesSeen 13 (.ifCond .ne 7) (7) 16 20 := by decide +kernel
theorem dX10_refusesSeen_16 : decode cX10_refusesSeen 16 = .ok (.iconst 1, 1) ∧ 16 + 1 = 17 ∧ Int32.ofInt (1) = (1) := by decide +kernel
theorem dX10_refusesSeen_17 : gb cX10_refusesSeen 17 (.goto 16) (16) 20 33 := by decide +kernel
theorem dX10_refusesSeen_20 : gd cX10_refusesSeen 20 (.aload_n 0) 1 21 := by decide +kernel
theorem dX10_refusesSeen_21 : gd cX10_refusesSeen 21 (.iload_n 1) 1 22 := by decide +kernel
theorem dX10_refusesSeen_22 : gd cX10_refusesSeen 22 (.invokevirtual 383) 3 25 := by decide +kernel
theorem dX10_refusesSeen_25 : gb cX10_refusesSeen 25 (.ifCond .eq 7) (7) 28 32 := by decide +kernel
theorem dX10_refusesSeen_28 : decode cX10_refusesSeen 28 = .ok (.iconst 5, 1) ∧ 28 + 1 = 29 ∧ Int32.ofInt (5) = (5) := by decide +kernel
theorem dX10_refusesSeen_29 : gb cX10_refusesSeen 29 (.goto 4) (4) 32 33 := by decide +kernel
theorem dX10_refusesSeen_32 : decode cX10_refusesSeen 32 = .ok (.iconst 0, 1) ∧ 32 + 1 = 33 ∧ Int32.ofInt (0) = (0) := by decide +kernel
theorem dX10_refusesSeen_33 : gd cX10_refusesSeen 33 (.ireturn) 1 34 := by decide +kernel
theorem dX10_pane_0 : gd cX10_pane 0 (.aload_n 0) 1 1 := by decide +kernel
theorem dX10_pane_1 : decode cX10_pane 1 = .ok (.iconst 0, 1) ∧ 1 + 1 = 2 ∧ Int32.ofInt (0) = (0) := by decide +kernel
theorem dX10_pane_2 : gd cX10_pane 2 (.putfield 39) 3 5 := by decide +kernel
theorem dX10_pane_5 : gd cX10_pane 5 (.aload_n 0) 1 6 := by decide +kernel
theorem dX10_pane_6 : gd cX10_pane 6 (.iload_n 1) 1 7 := by decide +kernel
theorem dX10_pane_7 : gd cX10_pane 7 (.invokevirtual 377) 3 10 := by decide +kernel
theorem dX10_pane_10 : gb cX10_pane 10 (.ifCond .eq 12) (12) 13 22 := by decide +kernel
theorem dX10_pane_13 : gd cX10_pane 13 (.iload_n 2) 1 14 := by decide +kernel
theorem dX10_pane_14 : decode cX10_pane 14 = .ok (.iconst 0, 1) ∧ 14 + 1 = 15 ∧ Int32.ofInt (0) = (0) := by decide +kernel
theorem dX10_pane_15 : decode cX10_pane 15 = .ok (.iconst 4, 1) ∧ 15 + 1 = 16 ∧ Int32.ofInt (4) = (4) := by decide +kernel
theorem dX10_pane_16 : gd cX10_pane 16 (.invokestatic 134) 3 19 := by decide +kernel
theorem dX10_pane_19 : gb cX10_pane 19 (.ifCond .ne 9) (9) 22 28 := by decide +kernel
theorem dX10_pane_22 : gd cX10_pane 22 (.aload_n 0) 1 23 := by decide +kernel
theorem dX10_pane_23 : decode cX10_pane 23 = .ok (.iconst 1, 1) ∧ 23 + 1 = 24 ∧ Int32.ofInt (1) = (1) := by decide +kernel
theorem dX10_pane_24 : gd cX10_pane 24 (.invokevirtual 45) 3 27 := by decide +kernel
theorem dX10_pane_27 : gd cX10_pane 27 (.ireturn) 1 28 := by decide +kernel
theorem dX10_pane_28 : gd cX10_pane 28 (.iload_n 2) 1 29 := by decide +kernel
theorem dX10_pane_29 : gsw cX10_pane 29 (90) (0) (3) #[31, 45, 58, 72] 31 [60, 74, 87, 101] 119 := by unfold gsw; decide +kernel
theorem dX10_pane_60 : gd cX10_pane 60 (.aload_n 0) 1 61 := by decide +kernel
theorem dX10_pane_61 : gd cX10_pane 61 (.aload_n 0) 1 62 := by decide +kernel
theorem dX10_pane_62 : gd cX10_pane 62 (.getfield 359) 3 65 := by decide +kernel
theorem dX10_pane_65 : gd cX10_pane 65 (.getfield 283) 3 68 := by decide +kernel
theorem dX10_pane_68 : gd cX10_pane 68 (.iload_n 1) 1 69 := by decide +kernel
theorem dX10_pane_69 : gd cX10_pane 69 (.iaload) 1 70 := by decide +kernel
theorem dX10_pane_70 : gd cX10_pane 70 (.invokevirtual 49) 3 73 := by decide +kernel
theorem dX10_pane_73 : gd cX10_pane 73 (.ireturn) 1 74 := by decide +kernel
theorem dX10_pane_74 : gd cX10_pane 74 (.aload_n 0) 1 75 := by decide +kernel
theorem dX10_pane_75 : gd cX10_pane 75 (.aload_n 0) 1 76 := by decide +kernel
theorem dX10_pane_76 : gd cX10_pane 76 (.getfield 17) 3 79 := by decide +kernel
theorem dX10_pane_79 : decode cX10_pane 79 = .ok (.iconst 0, 1) ∧ 79 + 1 = 80 ∧ Int32.ofInt (0) = (0) := by decide +kernel
theorem dX10_pane_80 : gd cX10_pane 80 (.iload_n 1) 1 81 := by decide +kernel
theorem dX10_pane_81 : gd cX10_pane 81 (.iadd) 1 82 := by decide +kernel
theorem dX10_pane_82 : gd cX10_pane 82 (.iaload) 1 83 := by decide +kernel
theorem dX10_pane_83 : gd cX10_pane 83 (.invokevirtual 49) 3 86 := by decide +kernel
theorem dX10_pane_86 : gd cX10_pane 86 (.ireturn) 1 87 := by decide +kernel
theorem dX10_pane_87 : gd cX10_pane 87 (.aload_n 0) 1 88 := by decide +kernel
theorem dX10_pane_88 : gd cX10_pane 88 (.aload_n 0) 1 89 := by decide +kernel
theorem dX10_pane_89 : gd cX10_pane 89 (.getfield 17) 3 92 := by decide +kernel
theorem dX10_pane_92 : decode cX10_pane 92 = .ok (.bipush 8, 2) ∧ 92 + 2 = 94 ∧ (Int8.ofInt (8)).toInt32 = (8) := by decide +kernel
theorem dX10_pane_94 : gd cX10_pane 94 (.iload_n 1) 1 95 := by decide +kernel
theorem dX10_pane_95 : gd cX10_pane 95 (.iadd) 1 96 := by decide +kernel
theorem dX10_pane_96 : gd cX10_pane 96 (.iaload) 1 97 := by decide +kernel
theorem dX10_pane_97 : gd cX10_pane 97 (.invokevirtual 49) 3 100 := by decide +kernel
theorem dX10_pane_100 : gd cX10_pane 100 (.ireturn) 1 101 := by decide +kernel
theorem dX10_pane_101 : gd cX10_pane 101 (.aload_n 0) 1 102 := by decide +kernel
theorem dX10_pane_102 : gd cX10_pane 102 (.aload_n 0) 1 103 := by decide +kernel
theorem dX10_pane_103 : gd cX10_pane 103 (.iload_n 1) 1 104 := by decide +kernel
theorem dX10_pane_104 : gd cX10_pane 104 (.invokevirtual 383) 3 107 := by decide +kernel
theorem dX10_pane_107 : gb cX10_pane 107 (.ifCond .eq 7) (7) 110 114 := by decide +kernel
theorem dX10_pane_110 : decode cX10_pane 110 = .ok (.iconst 1, 1) ∧ 110 + 1 = 111 ∧ Int32.ofInt (1) = (1) := by decide +kernel
theorem dX10_pane_111 : gb cX10_pane 111 (.goto 4) (4) 114 115 := by decide +kernel
theorem dX10_pane_114 : decode cX10_pane 114 = .ok (.iconst 0, 1) ∧ 114 + 1 = 115 ∧ Int32.ofInt (0) = (0) := by decide +kernel
theorem dX10_pane_115 : gd cX10_pane 115 (.invokevirtual 49) 3 118 := by decide +kernel
theorem dX10_pane_118 : gd cX10_pane 118 (.ireturn) 1 119 := by decide +kernel
theorem dX10_pane_119 : gd cX10_pane 119 (.aload_n 0) 1 120 := by decide +kernel
theorem dX10_pane_120 : gd cX10_pane 120 (.aload_n 0) 1 121 := by decide +kernel
theorem dX10_pane_121 : gd cX10_pane 121 (.iload_n 1) 1 122 := by decide +kernel
theorem dX10_pane_122 : gd cX10_pane 122 (.invokevirtual 386) 3 125 := by decide +kernel
theorem dX10_pane_125 : gd cX10_pane 125 (.invokevirtual 49) 3 128 := by decide +kernel
theorem dX10_pane_128 : gd cX10_pane 128 (.ireturn) 1 129 := by decide +kernel
theorem dX10_lightOf_0 : gd cX10_lightOf 0 (.aload_n 0) 1 1 := by decide +kernel
theorem dX10_lightOf_1 : gd cX10_lightOf 1 (.getfield 359) 3 4 := by decide +kernel
theorem dX10_lightOf_4 : gd cX10_lightOf 4 (.invokevirtual 389) 3 7 := by decide +kernel
theorem dX10_lightOf_7 : gd cX10_lightOf 7 (.aload_n 0) 1 8 := by decide +kernel
theorem dX10_lightOf_8 : gd cX10_lightOf 8 (.getfield 17) 3 11 := by decide +kernel
theorem dX10_lightOf_11 : decode cX10_lightOf 11 = .ok (.iconst 0, 1) ∧ 11 + 1 = 12 ∧ Int32.ofInt (0) = (0) := by decide +kernel
theorem dX10_lightOf_12 : gd cX10_lightOf 12 (.iload_n 1) 1 13 := by decide +kernel
theorem dX10_lightOf_13 : gd cX10_lightOf 13 (.iadd) 1 14 := by decide +kernel
theorem dX10_lightOf_14 : gd cX10_lightOf 14 (.iaload) 1 15 := by decide +kernel
theorem dX10_lightOf_15 : gd cX10_lightOf 15 (.invokestatic 392) 3 18 := by decide +kernel
theorem dX10_lightOf_18 : gd cX10_lightOf 18 (.isub) 1 19 := by decide +kernel
theorem dX10_lightOf_19 : gd cX10_lightOf 19 (.ireturn) 1 20 := by decide +kernel
theorem dX10_word_0 : gd cX10_word 0 (.aload_n 0) 1 1 := by decide +kernel
theorem dX10_word_1 : decode cX10_word 1 = .ok (.iconst 0, 1) ∧ 1 + 1 = 2 ∧ Int32.ofInt (0) = (0) := by decide +kernel
theorem dX10_word_2 : gd cX10_word 2 (.putfield 39) 3 5 := by decide +kernel
theorem dX10_word_5 : gd cX10_word 5 (.aload_n 0) 1 6 := by decide +kernel
theorem dX10_word_6 : gd cX10_word 6 (.iload_n 1) 1 7 := by decide +kernel
theorem dX10_word_7 : gd cX10_word 7 (.invokevirtual 395) 3 10 := by decide +kernel
theorem dX10_word_10 : gb cX10_word 10 (.ifCond .eq 19) (19) 13 29 := by decide +kernel
theorem dX10_word_13 : gd cX10_word 13 (.aload_n 0) 1 14 := by decide +kernel
theorem dX10_word_14 : gd cX10_word 14 (.aload_n 0) 1 15 := by decide +kernel
theorem dX10_word_15 : gd cX10_word 15 (.getfield 359) 3 18 := by decide +kernel
theorem dX10_word_18 : gd cX10_word 18 (.getfield 292) 3 21 := by decide +kernel
theorem dX10_word_21 : gd cX10_word 21 (.iload_n 1) 1 22 := by decide +kernel
theorem dX10_word_22 : gd cX10_word 22 (.iaload) 1 23 := by decide +kernel
theorem dX10_word_23 : gd cX10_word 23 (.invokevirtual 49) 3 26 := by decide +kernel
theorem dX10_word_26 : gb cX10_word 26 (.goto 8) (8) 29 34 := by decide +kernel
theorem dX10_word_29 : gd cX10_word 29 (.aload_n 0) 1 30 := by decide +kernel
theorem dX10_word_30 : decode cX10_word 30 = .ok (.iconst 1, 1) ∧ 30 + 1 = 31 ∧ Int32.ofInt (1) = (1) := by decide +kernel
theorem dX10_word_31 : gd cX10_word 31 (.invokevirtual 45) 3 34 := by decide +kernel
theorem dX10_word_34 : gd cX10_word 34 (.ireturn) 1 35 := by decide +kernel
theorem dX10_view_0 : gd cX10_view 0 (.aload_n 0) 1 1 := by decide +kernel
theorem dX10_view_1 : decode cX10_view 1 = .ok (.iconst 0, 1) ∧ 1 + 1 = 2 ∧ Int32.ofInt (0) = (0) := by decide +kernel
theorem dX10_view_2 : gd cX10_view 2 (.putfield 39) 3 5 := by decide +kernel
theorem dX10_view_5 : gd cX10_view 5 (.aload_n 0) 1 6 := by decide +kernel
theorem dX10_view_6 : gd cX10_view 6 (.getfield 359) 3 9 := by decide +kernel
theorem dX10_view_9 : gb cX10_view 9 (.ifnull 34) (34) 12 43 := by decide +kernel
theorem dX10_view_12 : gd cX10_view 12 (.iload_n 1) 1 13 := by decide +kernel
theorem dX10_view_13 : gb cX10_view 13 (.ifCond .lt 30) (30) 16 43 := by decide +kernel
theorem dX10_view_16 : gd cX10_view 16 (.iload_n 1) 1 17 := by decide +kernel
theorem dX10_view_17 : gd cX10_view 17 (.aload_n 0) 1 18 := by decide +kernel
theorem dX10_view_18 : gd cX10_view 18 (.getfield 359) 3 21 := by decide +kernel
theorem dX10_view_21 : gd cX10_view 21 (.getfield 294) 3 24 := by decide +kernel
theorem dX10_view_24 : gb cX10_view 24 (.if_icmp .ge 19) (19) 27 43 := by decide +kernel
theorem dX10_view_27 : gd cX10_view 27 (.aload_n 0) 1 28 := by decide +kernel
theorem dX10_view_28 : gd cX10_view 28 (.aload_n 0) 1 29 := by decide +kernel
theorem dX10_view_29 : gd cX10_view 29 (.getfield 359) 3 32 := by decide +kernel
theorem dX10_view_32 : gd cX10_view 32 (.getfield 297) 3 35 := by decide +kernel
theorem dX10_view_35 : gd cX10_view 35 (.iload_n 1) 1 36 := by decide +kernel
theorem dX10_view_36 : gd cX10_view 36 (.iaload) 1 37 := by decide +kernel
theorem dX10_view_37 : gd cX10_view 37 (.invokevirtual 49) 3 40 := by decide +kernel
theorem dX10_view_40 : gb cX10_view 40 (.goto 8) (8) 43 48 := by decide +kernel
theorem dX10_view_43 : gd cX10_view 43 (.aload_n 0) 1 44 := by decide +kernel
theorem dX10_view_44 : decode cX10_view 44 = .ok (.iconst 1, 1) ∧ 44 + 1 = 45 ∧ Int32.ofInt (1) = (1) := by decide +kernel
theorem dX10_view_45 : gd cX10_view 45 (.invokevirtual 45) 3 48 := by decide +kernel
theorem dX10_view_48 : gd cX10_view 48 (.ireturn) 1 49 := by decide +kernel
theorem dX10_seen_0 : gd cX10_seen 0 (.aload_n 0) 1 1 := by decide +kernel
theorem dX10_seen_1 : decode cX10_seen 1 = .ok (.iconst 0, 1) ∧ 1 + 1 = 2 ∧ Int32.ofInt (0) = (0) := by decide +kernel
theorem dX10_seen_2 : gd cX10_seen 2 (.putfield 39) 3 5 := by decide +kernel
theorem dX10_seen_5 : gd cX10_seen 5 (.aload_n 0) 1 6 := by decide +kernel
theorem dX10_seen_6 : gd cX10_seen 6 (.iload_n 1) 1 7 := by decide +kernel
theorem dX10_seen_7 : gd cX10_seen 7 (.iload_n 2) 1 8 := by decide +kernel
theorem dX10_seen_8 : gd cX10_seen 8 (.invokevirtual 398) 3 11 := by decide +kernel
theorem dX10_seen_11 : gd cX10_seen 11 (.istore_n 3) 1 12 := by decide +kernel
theorem dX10_seen_12 : gd cX10_seen 12 (.iload_n 3) 1 13 := by decide +kernel
theorem dX10_seen_13 : gb cX10_seen 13 (.ifCond .le 11) (11) 16 24 := by decide +kernel
theorem dX10_seen_16 : gd cX10_seen 16 (.aload_n 0) 1 17 := by decide +kernel
theorem dX10_seen_17 : gd cX10_seen 17 (.iload_n 3) 1 18 := by decide +kernel
theorem dX10_seen_18 : gd cX10_seen 18 (.invokevirtual 45) 3 21 := by decide +kernel
theorem dX10_seen_21 : gb cX10_seen 21 (.goto 13) (13) 24 34 := by decide +kernel
theorem dX10_seen_24 : gd cX10_seen 24 (.aload_n 0) 1 25 := by decide +kernel
theorem dX10_seen_25 : gd cX10_seen 25 (.aload_n 0) 1 26 := by decide +kernel
theorem dX10_seen_26 : gd cX10_seen 26 (.iload_n 1) 1 27 := by decide +kernel
theorem dX10_seen_27 : gd cX10_seen 27 (.iload_n 2) 1 28 := by decide +kernel
theorem dX10_seen_28 : gd cX10_seen 28 (.invokevirtual 401) 3 31 := by decide +kernel
theorem dX10_seen_31 : gd cX10_seen 31 (.invokevirtual 49) 3 34 := by decide +kernel
theorem dX10_seen_34 : gd cX10_seen 34 (.ireturn) 1 35 := by decide +kernel
theorem dX10_read_0 : gd cX10_read 0 (.aload_n 0) 1 1 := by decide +kernel
theorem dX10_read_1 : decode cX10_read 1 = .ok (.iconst 0, 1) ∧ 1 + 1 = 2 ∧ Int32.ofInt (0) = (0) := by decide +kernel
theorem dX10_read_2 : gd cX10_read 2 (.putfield 39) 3 5 := by decide +kernel
theorem dX10_read_5 : gd cX10_read 5 (.aload_n 0) 1 6 := by decide +kernel
theorem dX10_read_6 : gd cX10_read 6 (.iload_n 1) 1 7 := by decide +kernel
theorem dX10_read_7 : gd cX10_read 7 (.iload_n 2) 1 8 := by decide +kernel
theorem dX10_read_8 : gd cX10_read 8 (.invokevirtual 398) 3 11 := by decide +kernel
theorem dX10_read_11 : gd cX10_read 11 (.istore_n 3) 1 12 := by decide +kernel
theorem dX10_read_12 : gd cX10_read 12 (.iload_n 3) 1 13 := by decide +kernel
theorem dX10_read_13 : gb cX10_read 13 (.ifCond .le 11) (11) 16 24 := by decide +kernel
theorem dX10_read_16 : gd cX10_read 16 (.aload_n 0) 1 17 := by decide +kernel
theorem dX10_read_17 : gd cX10_read 17 (.iload_n 3) 1 18 := by decide +kernel
theorem dX10_read_18 : gd cX10_read 18 (.invokevirtual 45) 3 21 := by decide +kernel
theorem dX10_read_21 : gb cX10_read 21 (.goto 17) (17) 24 38 := by decide +kernel
theorem dX10_read_24 : gd cX10_read 24 (.aload_n 0) 1 25 := by decide +kernel
theorem dX10_read_25 : gd cX10_read 25 (.aload_n 0) 1 26 := by decide +kernel
theorem dX10_read_26 : gd cX10_read 26 (.aload_n 0) 1 27 := by decide +kernel
theorem dX10_read_27 : gd cX10_read 27 (.iload_n 1) 1 28 := by decide +kernel
theorem dX10_read_28 : gd cX10_read 28 (.iload_n 2) 1 29 := by decide +kernel
theorem dX10_read_29 : gd cX10_read 29 (.invokevirtual 401) 3 32 := by decide +kernel
theorem dX10_read_32 : gd cX10_read 32 (.invokevirtual 404) 3 35 := by decide +kernel
theorem dX10_read_35 : gd cX10_read 35 (.invokevirtual 49) 3 38 := by decide +kernel
theorem dX10_read_38 : gd cX10_read 38 (.ireturn) 1 39 := by decide +kernel
theorem dX10_refusesTogether_0 : gd cX10_refusesTogether 0 (.aload_n 0) 1 1 := by decide +kernel
theorem dX10_refusesTogether_1 : gd cX10_refusesTogether 1 (.iload_n 1) 1 2 := by decide +kernel
theorem dX10_refusesTogether_2 : gd cX10_refusesTogether 2 (.invokevirtual 377) 3 5 := by decide +kernel
theorem dX10_refusesTogether_5 : gb cX10_refusesTogether 5 (.ifCond .eq 16) (16) 8 21 := by decide +kernel
theorem dX10_refusesTogether_8 : gd cX10_refusesTogether 8 (.aload_n 0) 1 9 := by decide +kernel
theorem dX10_refusesTogether_9 : gd cX10_refusesTogether 9 (.iload_n 2) 1 10 := by decide +kernel
theorem dX10_refusesTogether_10 : gd cX10_refusesTogether 10 (.invokevirtual 377) 3 13 := by decide +kernel
theorem dX10_refusesTogether_13 : gb cX10_refusesTogether 13 (.ifCond .eq 8) (8) 16 21 := by decide +kernel
theorem dX10_refusesTogether_16 : gd cX10_refusesTogether 16 (.iload_n 1) 1 17 := by decide +kernel
theorem dX10_refusesTogether_17 : gd cX10_refusesTogether 17 (.iload_n 2) 1 18 := by decide +kernel
theorem dX10_refusesTogether_18 : gb cX10_refusesTogether 18 (.if_icmp .ne 7) (7) 21 25 := by decide +kernel
theorem dX10_refusesTogether_21 : decode cX10_refusesTogether 21 = .ok (.iconst 1, 1) ∧ 21 + 1 = 22 ∧ Int32.ofInt (1) = (1) := by decide +kernel
theorem dX10_refusesTogether_22 : gb cX10_refusesTogether 22 (.goto 24) (24) 25 46 := by decide +kernel
theorem dX10_refusesTogether_25 : gd cX10_refusesTogether 25 (.aload_n 0) 1 26 := by decide +kernel
theorem dX10_refusesTogether_26 : gd cX10_refusesTogether 26 (.iload_n 1) 1 27 := by decide +kernel
theorem dX10_refusesTogether_27 : gd cX10_refusesTogether 27 (.invokevirtual 383) 3 30 := by decide +kernel
theorem dX10_refusesTogether_30 : gb cX10_refusesTogether 30 (.ifCond .ne 11) (11) 33 41 := by decide +kernel
theorem dX10_refusesTogether_33 : gd cX10_refusesTogether 33 (.aload_n 0) 1 34 := by decide +kernel
theorem dX10_refusesTogether_34 : gd cX10_refusesTogether 34 (.iload_n 2) 1 35 := by decide +kernel
theorem dX10_refusesTogether_35 : gd cX10_refusesTogether 35 (.invokevirtual 383) 3 38 := by decide +kernel
theorem dX10_refusesTogether_38 : gb cX10_refusesTogether 38 (.ifCond .eq 7) (7) 41 45 := by decide +kernel
theorem dX10_refusesTogether_41 : decode cX10_refusesTogether 41 = .ok (.iconst 5, 1) ∧ 41 + 1 = 42 ∧ Int32.ofInt (5) = (5) := by decide +kernel
theorem dX10_refusesTogether_42 : gb cX10_refusesTogether 42 (.goto 4) (4) 45 46 := by decide +kernel
theorem dX10_refusesTogether_45 : decode cX10_refusesTogether 45 = .ok (.iconst 0, 1) ∧ 45 + 1 = 46 ∧ Int32.ofInt (0) = (0) := by decide +kernel
theorem dX10_refusesTogether_46 : gd cX10_refusesTogether 46 (.ireturn) 1 47 := by decide +kernel
theorem dX10_together_0 : gd cX10_together 0 (.aload_n 0) 1 1 := by decide +kernel
theorem dX10_together_1 : decode cX10_together 1 = .ok (.iconst 0, 1) ∧ 1 + 1 = 2 ∧ Int32.ofInt (0) = (0) := by decide +kernel
theorem dX10_together_2 : gd cX10_together 2 (.putfield 39) 3 5 := by decide +kernel
theorem dX10_together_5 : gd cX10_together 5 (.aload_n 0) 1 6 := by decide +kernel
theorem dX10_together_6 : gd cX10_together 6 (.iload_n 1) 1 7 := by decide +kernel
theorem dX10_together_7 : gd cX10_together 7 (.iload_n 2) 1 8 := by decide +kernel
theorem dX10_together_8 : gd cX10_together 8 (.invokevirtual 407) 3 11 := by decide +kernel
theorem dX10_together_11 : gd cX10_together 11 (.istore_n 3) 1 12 := by decide +kernel
theorem dX10_together_12 : gd cX10_together 12 (.iload_n 3) 1 13 := by decide +kernel
theorem dX10_together_13 : gb cX10_together 13 (.ifCond .le 11) (11) 16 24 := by decide +kernel
theorem dX10_together_16 : gd cX10_together 16 (.aload_n 0) 1 17 := by decide +kernel
theorem dX10_together_17 : gd cX10_together 17 (.iload_n 3) 1 18 := by decide +kernel
theorem dX10_together_18 : gd cX10_together 18 (.invokevirtual 45) 3 21 := by decide +kernel
theorem dX10_together_21 : gb cX10_together 21 (.goto 18) (18) 24 39 := by decide +kernel
theorem dX10_together_24 : gd cX10_together 24 (.aload_n 0) 1 25 := by decide +kernel
theorem dX10_together_25 : gd cX10_together 25 (.aload_n 0) 1 26 := by decide +kernel
theorem dX10_together_26 : gd cX10_together 26 (.iload_n 1) 1 27 := by decide +kernel
theorem dX10_together_27 : gd cX10_together 27 (.invokevirtual 371) 3 30 := by decide +kernel
theorem dX10_together_30 : gd cX10_together 30 (.aload_n 0) 1 31 := by decide +kernel
theorem dX10_together_31 : gd cX10_together 31 (.iload_n 2) 1 32 := by decide +kernel
theorem dX10_together_32 : gd cX10_together 32 (.invokevirtual 371) 3 35 := by decide +kernel
theorem dX10_together_35 : gd cX10_together 35 (.ior) 1 36 := by decide +kernel
theorem dX10_together_36 : gd cX10_together 36 (.invokevirtual 49) 3 39 := by decide +kernel
theorem dX10_together_39 : gd cX10_together 39 (.ireturn) 1 40 := by decide +kernel
theorem dX10_readTogether_0 : gd cX10_readTogether 0 (.aload_n 0) 1 1 := by decide +kernel
theorem dX10_readTogether_1 : decode cX10_readTogether 1 = .ok (.iconst 0, 1) ∧ 1 + 1 = 2 ∧ Int32.ofInt (0) = (0) := by decide +kernel
theorem dX10_readTogether_2 : gd cX10_readTogether 2 (.putfield 39) 3 5 := by decide +kernel
theorem dX10_readTogether_5 : gd cX10_readTogether 5 (.aload_n 0) 1 6 := by decide +kernel
theorem dX10_readTogether_6 : gd cX10_readTogether 6 (.iload_n 1) 1 7 := by decide +kernel
theorem dX10_readTogether_7 : gd cX10_readTogether 7 (.iload_n 2) 1 8 := by decide +kernel
theorem dX10_readTogether_8 : gd cX10_readTogether 8 (.invokevirtual 407) 3 11 := by decide +kernel
theorem dX10_readTogether_11 : gd cX10_readTogether 11 (.istore_n 3) 1 12 := by decide +kernel
theorem dX10_readTogether_12 : gd cX10_readTogether 12 (.iload_n 3) 1 13 := by decide +kernel
theorem dX10_readTogether_13 : gb cX10_readTogether 13 (.ifCond .le 11) (11) 16 24 := by decide +kernel
theorem dX10_readTogether_16 : gd cX10_readTogether 16 (.aload_n 0) 1 17 := by decide +kernel
theorem dX10_readTogether_17 : gd cX10_readTogether 17 (.iload_n 3) 1 18 := by decide +kernel
theorem dX10_readTogether_18 : gd cX10_readTogether 18 (.invokevirtual 45) 3 21 := by decide +kernel
theorem dX10_readTogether_21 : gb cX10_readTogether 21 (.goto 22) (22) 24 43 := by decide +kernel
theorem dX10_readTogether_24 : gd cX10_readTogether 24 (.aload_n 0) 1 25 := by decide +kernel
theorem dX10_readTogether_25 : gd cX10_readTogether 25 (.aload_n 0) 1 26 := by decide +kernel
theorem dX10_readTogether_26 : gd cX10_readTogether 26 (.aload_n 0) 1 27 := by decide +kernel
theorem dX10_readTogether_27 : gd cX10_readTogether 27 (.iload_n 1) 1 28 := by decide +kernel
theorem dX10_readTogether_28 : gd cX10_readTogether 28 (.invokevirtual 371) 3 31 := by decide +kernel
theorem dX10_readTogether_31 : gd cX10_readTogether 31 (.aload_n 0) 1 32 := by decide +kernel
theorem dX10_readTogether_32 : gd cX10_readTogether 32 (.iload_n 2) 1 33 := by decide +kernel
theorem dX10_readTogether_33 : gd cX10_readTogether 33 (.invokevirtual 371) 3 36 := by decide +kernel
theorem dX10_readTogether_36 : gd cX10_readTogether 36 (.ior) 1 37 := by decide +kernel
theorem dX10_readTogether_37 : gd cX10_readTogether 37 (.invokevirtual 404) 3 40 := by decide +kernel
theorem dX10_readTogether_40 : gd cX10_readTogether 40 (.invokevirtual 49) 3 43 := by decide +kernel
theorem dX10_readTogether_43 : gd cX10_readTogether 43 (.ireturn) 1 44 := by decide +kernel
theorem dX10_viewsFor_0 : gd cX10_viewsFor 0 (.aload_n 0) 1 1 := by decide +kernel
theorem dX10_viewsFor_1 : decode cX10_viewsFor 1 = .ok (.iconst 0, 1) ∧ 1 + 1 = 2 ∧ Int32.ofInt (0) = (0) := by decide +kernel
theorem dX10_viewsFor_2 : gd cX10_viewsFor 2 (.putfield 39) 3 5 := by decide +kernel
theorem dX10_viewsFor_5 : gd cX10_viewsFor 5 (.aload_n 0) 1 6 := by decide +kernel
theorem dX10_viewsFor_6 : gd cX10_viewsFor 6 (.iload_n 1) 1 7 := by decide +kernel
theorem dX10_viewsFor_7 : gd cX10_viewsFor 7 (.invokevirtual 377) 3 10 := by decide +kernel
theorem dX10_viewsFor_10 : gb cX10_viewsFor 10 (.ifCond .eq 11) (11) 13 21 := by decide +kernel
theorem dX10_viewsFor_13 : gd cX10_viewsFor 13 (.aload_n 0) 1 14 := by decide +kernel
theorem dX10_viewsFor_14 : gd cX10_viewsFor 14 (.iload_n 2) 1 15 := by decide +kernel
theorem dX10_viewsFor_15 : gd cX10_viewsFor 15 (.invokevirtual 395) 3 18 := by decide +kernel
theorem dX10_viewsFor_18 : gb cX10_viewsFor 18 (.ifCond .ne 9) (9) 21 27 := by decide +kernel
theorem dX10_viewsFor_21 : gd cX10_viewsFor 21 (.aload_n 0) 1 22 := by decide +kernel
theorem dX10_viewsFor_22 : decode cX10_viewsFor 22 = .ok (.iconst 1, 1) ∧ 22 + 1 = 23 ∧ Int32.ofInt (1) = (1) := by decide +kernel
theorem dX10_viewsFor_23 : gd cX10_viewsFor 23 (.invokevirtual 45) 3 26 := by decide +kernel
theorem dX10_viewsFor_26 : gd cX10_viewsFor 26 (.ireturn) 1 27 := by decide +kernel
theorem dX10_viewsFor_27 : gd cX10_viewsFor 27 (.aload_n 0) 1 28 := by decide +kernel
theorem dX10_viewsFor_28 : gd cX10_viewsFor 28 (.iload_n 1) 1 29 := by decide +kernel
theorem dX10_viewsFor_29 : gd cX10_viewsFor 29 (.invokevirtual 383) 3 32 := by decide +kernel
theorem dX10_viewsFor_32 : gb cX10_viewsFor 32 (.ifCond .eq 9) (9) 35 41 := by decide +kernel
theorem dX10_viewsFor_35 : gd cX10_viewsFor 35 (.aload_n 0) 1 36 := by decide +kernel
theorem dX10_viewsFor_36 : decode cX10_viewsFor 36 = .ok (.iconst 5, 1) ∧ 36 + 1 = 37 ∧ Int32.ofInt (5) = (5) := by decide +kernel
theorem dX10_viewsFor_37 : gd cX10_viewsFor 37 (.invokevirtual 45) 3 40 := by decide +kernel
theorem dX10_viewsFor_40 : gd cX10_viewsFor 40 (.ireturn) 1 41 := by decide +kernel
theorem dX10_viewsFor_41 : decode cX10_viewsFor 41 = .ok (.iconst 0, 1) ∧ 41 + 1 = 42 ∧ Int32.ofInt (0) = (0) := by decide +kernel
theorem dX10_viewsFor_42 : gd cX10_viewsFor 42 (.istore_n 3) 1 43 := by decide +kernel
theorem dX10_viewsFor_43 : decode cX10_viewsFor 43 = .ok (.iconst 0, 1) ∧ 43 + 1 = 44 ∧ Int32.ofInt (0) = (0) := by decide +kernel
theorem dX10_viewsFor_44 : gd cX10_viewsFor 44 (.istore 4) 2 46 := by decide +kernel
theorem dX10_viewsFor_46 : gd cX10_viewsFor 46 (.iload 4) 2 48 := by decide +kernel
theorem dX10_viewsFor_48 : gd cX10_viewsFor 48 (.aload_n 0) 1 49 := by decide +kernel
theorem dX10_viewsFor_49 : gd cX10_viewsFor 49 (.getfield 359) 3 52 := by decide +kernel
theorem dX10_viewsFor_52 : gd cX10_viewsFor 52 (.getfield 294) 3 55 := by decide +kernel
theorem dX10_viewsFor_55 : gb cX10_viewsFor 55 (.if_icmp .ge 35) (35) 58 90 := by decide +kernel
theorem dX10_viewsFor_58 : gd cX10_viewsFor 58 (.iload_n 3) 1 59 := by decide +kernel
theorem dX10_viewsFor_59 : gd cX10_viewsFor 59 (.aload_n 0) 1 60 := by decide +kernel
theorem dX10_viewsFor_60 : gd cX10_viewsFor 60 (.aload_n 0) 1 61 := by decide +kernel
theorem dX10_viewsFor_61 : gd cX10_viewsFor 61 (.iload_n 1) 1 62 := by decide +kernel
theorem dX10_viewsFor_62 : gd cX10_viewsFor 62 (.iload 4) 2 64 := by decide +kernel
theorem dX10_viewsFor_64 : gd cX10_viewsFor 64 (.invokevirtual 401) 3 67 := by decide +kernel
theorem dX10_viewsFor_67 : gd cX10_viewsFor 67 (.invokevirtual 404) 3 70 := by decide +kernel
theorem dX10_viewsFor_70 : gd cX10_viewsFor 70 (.iload_n 2) 1 71 := by decide +kernel
theorem dX10_viewsFor_71 : gb cX10_viewsFor 71 (.if_icmp .ne 10) (10) 74 81 := by decide +kernel
theorem dX10_viewsFor_74 : decode cX10_viewsFor 74 = .ok (.iconst 1, 1) ∧ 74 + 1 = 75 ∧ Int32.ofInt (1) = (1) := by decide +kernel
theorem dX10_viewsFor_75 : gd cX10_viewsFor 75 (.iload 4) 2 77 := by decide +kernel
theorem dX10_viewsFor_77 : gd cX10_viewsFor 77 (.ishl) 1 78 := by decide +kernel
theorem dX10_viewsFor_78 : gb cX10_viewsFor 78 (.goto 4) (4) 81 82 := by decide +kernel
theorem dX10_viewsFor_81 : decode cX10_viewsFor 81 = .ok (.iconst 0, 1) ∧ 81 + 1 = 82 ∧ Int32.ofInt (0) = (0) := by decide +kernel
theorem dX10_viewsFor_82 : gd cX10_viewsFor 82 (.ior) 1 83 := by decide +kernel
theorem dX10_viewsFor_83 : gd cX10_viewsFor 83 (.istore_n 3) 1 84 := by decide +kernel
theorem dX10_viewsFor_84 : decode cX10_viewsFor 84 = .ok (.iinc 4 1, 3) ∧ 84 + 3 = 87 ∧ Int32.ofInt (1) = (1) := by decide +kernel
theorem dX10_viewsFor_87 : gb cX10_viewsFor 87 (.goto (-41)) (-41) 90 46 := by decide +kernel
theorem dX10_viewsFor_90 : gd cX10_viewsFor 90 (.aload_n 0) 1 91 := by decide +kernel
theorem dX10_viewsFor_91 : gd cX10_viewsFor 91 (.iload_n 3) 1 92 := by decide +kernel
theorem dX10_viewsFor_92 : gd cX10_viewsFor 92 (.invokevirtual 49) 3 95 := by decide +kernel
theorem dX10_viewsFor_95 : gd cX10_viewsFor 95 (.ireturn) 1 96 := by decide +kernel
theorem dX10_pairFor_0 : gd cX10_pairFor 0 (.aload_n 0) 1 1 := by decide +kernel
theorem dX10_pairFor_1 : decode cX10_pairFor 1 = .ok (.iconst 0, 1) ∧ 1 + 1 = 2 ∧ Int32.ofInt (0) = (0) := by decide +kernel
theorem dX10_pairFor_2 : gd cX10_pairFor 2 (.putfield 39) 3 5 := by decide +kernel
theorem dX10_pairFor_5 : gd cX10_pairFor 5 (.aload_n 0) 1 6 := by decide +kernel
theorem dX10_pairFor_6 : gd cX10_pairFor 6 (.iload_n 1) 1 7 := by decide +kernel
theorem dX10_pairFor_7 : gd cX10_pairFor 7 (.invokevirtual 395) 3 10 := by decide +kernel
theorem dX10_pairFor_10 : gb cX10_pairFor 10 (.ifCond .ne 9) (9) 13 19 := by decide +kernel
theorem dX10_pairFor_13 : gd cX10_pairFor 13 (.aload_n 0) 1 14 := by decide +kernel
theorem dX10_pairFor_14 : decode cX10_pairFor 14 = .ok (.iconst 1, 1) ∧ 14 + 1 = 15 ∧ Int32.ofInt (1) = (1) := by decide +kernel
theorem dX10_pairFor_15 : gd cX10_pairFor 15 (.invokevirtual 45) 3 18 := by decide +kernel
theorem dX10_pairFor_18 : gd cX10_pairFor 18 (.ireturn) 1 19 := by decide +kernel
theorem dX10_pairFor_19 : decode cX10_pairFor 19 = .ok (.iconst 0, 1) ∧ 19 + 1 = 20 ∧ Int32.ofInt (0) = (0) := by decide +kernel
theorem dX10_pairFor_20 : gd cX10_pairFor 20 (.istore_n 2) 1 21 := by decide +kernel
theorem dX10_pairFor_21 : gd cX10_pairFor 21 (.iload_n 2) 1 22 := by decide +kernel
theorem dX10_pairFor_22 : gd cX10_pairFor 22 (.aload_n 0) 1 23 := by decide +kernel
theorem dX10_pairFor_23 : gd cX10_pairFor 23 (.getfield 359) 3 26 := by decide +kernel
theorem dX10_pairFor_26 : gd cX10_pairFor 26 (.getfield 215) 3 29 := by decide +kernel
theorem dX10_pairFor_29 : gb cX10_pairFor 29 (.if_icmp .ge 80) (80) 32 109 := by decide +kernel
theorem dX10_pairFor_32 : gd cX10_pairFor 32 (.iload_n 2) 1 33 := by decide +kernel
theorem dX10_pairFor_33 : decode cX10_pairFor 33 = .ok (.iconst 1, 1) ∧ 33 + 1 = 34 ∧ Int32.ofInt (1) = (1) := by decide +kernel
theorem dX10_pairFor_34 : gd cX10_pairFor 34 (.iadd) 1 35 := by decide +kernel
theorem dX10_pairFor_35 : gd cX10_pairFor 35 (.istore_n 3) 1 36 := by decide +kernel
theorem dX10_pairFor_36 : gd cX10_pairFor 36 (.iload_n 3) 1 37 := by decide +kernel
theorem dX10_pairFor_37 : gd cX10_pairFor 37 (.aload_n 0) 1 38 := by decide +kernel
theorem dX10_pairFor_38 : gd cX10_pairFor 38 (.getfield 359) 3 41 := by decide +kernel
theorem dX10_pairFor_41 : gd cX10_pairFor 41 (.getfield 215) 3 44 := by decide +kernel
theorem dX10_pairFor_44 : gb cX10_pairFor 44 (.if_icmp .ge 59) (59) 47 103 := by decide +kernel
theorem dX10_pairFor_47 : gd cX10_pairFor 47 (.aload_n 0) 1 48 := by decide +kernel
theorem dX10_pairFor_48 : gd cX10_pairFor 48 (.iload_n 2) 1 49 := by decide +kernel
theorem dX10_pairFor_49 : gd cX10_pairFor 49 (.invokevirtual 383) 3 52 := by decide +kernel
theorem dX10_pairFor_52 : gb cX10_pairFor 52 (.ifCond .ne 45) (45) 55 97 := by decide +kernel
theorem dX10_pairFor_55 : gd cX10_pairFor 55 (.aload_n 0) 1 56 := by decide +kernel
theorem dX10_pairFor_56 : gd cX10_pairFor 56 (.iload_n 3) 1 57 := by decide +kernel
theorem dX10_pairFor_57 : gd cX10_pairFor 57 (.invokevirtual 383) 3 60 := by decide +kernel
theorem dX10_pairFor_60 : gb cX10_pairFor 60 (.ifCond .ne 37) (37) 63 97 := by decide +kernel
theorem dX10_pairFor_63 : gd cX10_pairFor 63 (.aload_n 0) 1 64 := by decide +kernel
theorem dX10_pairFor_64 : gd cX10_pairFor 64 (.iload_n 2) 1 65 := by decide +kernel
theorem dX10_pairFor_65 : gd cX10_pairFor 65 (.invokevirtual 371) 3 68 := by decide +kernel
theorem dX10_pairFor_68 : gd cX10_pairFor 68 (.aload_n 0) 1 69 := by decide +kernel
theorem dX10_pairFor_69 : gd cX10_pairFor 69 (.iload_n 3) 1 70 := by decide +kernel
theorem dX10_pairFor_70 : gd cX10_pairFor 70 (.invokevirtual 371) 3 73 := by decide +kernel
theorem dX10_pairFor_73 : gd cX10_pairFor 73 (.ior) 1 74 := by decide +kernel
theorem dX10_pairFor_74 : gd cX10_pairFor 74 (.aload_n 0) 1 75 := by decide +kernel
theorem dX10_pairFor_75 : gd cX10_pairFor 75 (.getfield 359) 3 78 := by decide +kernel
theorem dX10_pairFor_78 : gd cX10_pairFor 78 (.getfield 292) 3 81 := by decide +kernel
theorem dX10_pairFor_81 : gd cX10_pairFor 81 (.iload_n 1) 1 82 := by decide +kernel
theorem dX10_pairFor_82 : gd cX10_pairFor 82 (.iaload) 1 83 := by decide +kernel
theorem dX10_pairFor_83 : gb cX10_pairFor 83 (.if_icmp .ne 14) (14) 86 97 := by decide +kernel
theorem dX10_pairFor_86 : gd cX10_pairFor 86 (.aload_n 0) 1 87 := by decide +kernel
theorem dX10_pairFor_87 : decode cX10_pairFor 87 = .ok (.bipush 10, 2) ∧ 87 + 2 = 89 ∧ (Int8.ofInt (10)).toInt32 = (10) := by decide +kernel
theorem dX10_pairFor_89 : gd cX10_pairFor 89 (.iload_n 2) 1 90 := by decide +kernel
theorem dX10_pairFor_90 : gd cX10_pairFor 90 (.imul) 1 91 := by decide +kernel
theorem dX10_pairFor_91 : gd cX10_pairFor 91 (.iload_n 3) 1 92 := by decide +kernel
theorem dX10_pairFor_92 : gd cX10_pairFor 92 (.iadd) 1 93 := by decide +kernel
theorem dX10_pairFor_93 : gd cX10_pairFor 93 (.invokevirtual 49) 3 96 := by decide +kernel
theorem dX10_pairFor_96 : gd cX10_pairFor 96 (.ireturn) 1 97 := by decide +kernel
theorem dX10_pairFor_97 : decode cX10_pairFor 97 = .ok (.iinc 3 1, 3) ∧ 97 + 3 = 100 ∧ Int32.ofInt (1) = (1) := by decide +kernel
theorem dX10_pairFor_100 : gb cX10_pairFor 100 (.goto (-64)) (-64) 103 36 := by decide +kernel
theorem dX10_pairFor_103 : decode cX10_pairFor 103 = .ok (.iinc 2 1, 3) ∧ 103 + 3 = 106 ∧ Int32.ofInt (1) = (1) := by decide +kernel
theorem dX10_pairFor_106 : gb cX10_pairFor 106 (.goto (-85)) (-85) 109 21 := by decide +kernel
theorem dX10_pairFor_109 : gd cX10_pairFor 109 (.aload_n 0) 1 110 := by decide +kernel
theorem dX10_pairFor_110 : decode cX10_pairFor 110 = .ok (.bipush (-2), 2) ∧ 110 + 2 = 112 ∧ (Int8.ofInt (-2)).toInt32 = (-2) := by decide +kernel
theorem dX10_pairFor_112 : gd cX10_pairFor 112 (.invokevirtual 49) 3 115 := by decide +kernel
theorem dX10_pairFor_115 : gd cX10_pairFor 115 (.ireturn) 1 116 := by decide +kernel
theorem dX10_worthOf_0 : decode cX10_worthOf 0 = .ok (.lconst 0, 1) ∧ 0 + 1 = 1 ∧ Int64.ofNat (((0 : Fin 2)) : Nat) = (0) := by decide +kernel
theorem dX10_worthOf_1 : gd cX10_worthOf 1 (.lstore 4) 2 3 := by decide +kernel
theorem dX10_worthOf_3 : decode cX10_worthOf 3 = .ok (.lconst 1, 1) ∧ 3 + 1 = 4 ∧ Int64.ofNat (((1 : Fin 2)) : Nat) = (1) := by decide +kernel
theorem dX10_worthOf_4 : gd cX10_worthOf 4 (.lstore 6) 2 6 := by decide +kernel
theorem dX10_worthOf_6 : decode cX10_worthOf 6 = .ok (.iconst 1, 1) ∧ 6 + 1 = 7 ∧ Int32.ofInt (1) = (1) := by decide +kernel
theorem dX10_worthOf_7 : gd cX10_worthOf 7 (.istore 8) 2 9 := by decide +kernel
theorem dX10_worthOf_9 : gd cX10_worthOf 9 (.iload 8) 2 11 := by decide +kernel
theorem dX10_worthOf_11 : decode cX10_worthOf 11 = .ok (.bipush 7, 2) ∧ 11 + 2 = 13 ∧ (Int8.ofInt (7)).toInt32 = (7) := by decide +kernel
theorem dX10_worthOf_13 : gb cX10_worthOf 13 (.if_icmp .ge 99) (99) 16 112 := by decide +kernel
theorem dX10_worthOf_16 : gd cX10_worthOf 16 (.iload 8) 2 18 := by decide +kernel
theorem dX10_worthOf_18 : gd cX10_worthOf 18 (.iload_n 3) 1 19 := by decide +kernel
theorem dX10_worthOf_19 : gb cX10_worthOf 19 (.if_icmp .ge 26) (26) 22 45 := by decide +kernel
theorem dX10_worthOf_22 : decode cX10_worthOf 22 = .ok (.bipush 7, 2) ∧ 22 + 2 = 24 ∧ (Int8.ofInt (7)).toInt32 = (7) := by decide +kernel
theorem dX10_worthOf_24 : gd cX10_worthOf 24 (.aload_n 0) 1 25 := by decide +kernel
theorem dX10_worthOf_25 : gd cX10_worthOf 25 (.getfield 27) 3 28 := by decide +kernel
theorem dX10_worthOf_28 : gd cX10_worthOf 28 (.iload 8) 2 30 := by decide +kernel
theorem dX10_worthOf_30 : decode cX10_worthOf 30 = .ok (.iconst 1, 1) ∧ 30 + 1 = 31 ∧ Int32.ofInt (1) = (1) := by decide +kernel
theorem dX10_worthOf_31 : gd cX10_worthOf 31 (.isub) 1 32 := by decide +kernel
theorem dX10_worthOf_32 : gd cX10_worthOf 32 (.iaload) 1 33 := by decide +kernel
theorem dX10_worthOf_33 : gd cX10_worthOf 33 (.imul) 1 34 := by decide +kernel
theorem dX10_worthOf_34 : gd cX10_worthOf 34 (.aload_n 0) 1 35 := by decide +kernel
theorem dX10_worthOf_35 : gd cX10_worthOf 35 (.getfield 27) 3 38 := by decide +kernel
theorem dX10_worthOf_38 : gd cX10_worthOf 38 (.iload 8) 2 40 := by decide +kernel
theorem dX10_worthOf_40 : gd cX10_worthOf 40 (.iaload) 1 41 := by decide +kernel
theorem dX10_worthOf_41 : gd cX10_worthOf 41 (.iadd) 1 42 := by decide +kernel
theorem dX10_worthOf_42 : gb cX10_worthOf 42 (.goto 4) (4) 45 46 := by decide +kernel
theorem dX10_worthOf_45 : decode cX10_worthOf 45 = .ok (.iconst (-1), 1) ∧ 45 + 1 = 46 ∧ Int32.ofInt (-1) = (-1) := by decide +kernel
theorem dX10_worthOf_46 : gd cX10_worthOf 46 (.istore 9) 2 48 := by decide +kernel
theorem dX10_worthOf_48 : gd cX10_worthOf 48 (.lload 4) 2 50 := by decide +kernel
theorem dX10_worthOf_50 : gd cX10_worthOf 50 (.iload 9) 2 52 := by decide +kernel
theorem dX10_worthOf_52 : decode cX10_worthOf 52 = .ok (.iconst (-1), 1) ∧ 52 + 1 = 53 ∧ Int32.ofInt (-1) = (-1) := by decide +kernel
theorem dX10_worthOf_53 : gb cX10_worthOf 53 (.if_icmp .ne 7) (7) 56 60 := by decide +kernel
theorem dX10_worthOf_56 : decode cX10_worthOf 56 = .ok (.lconst 0, 1) ∧ 56 + 1 = 57 ∧ Int64.ofNat (((0 : Fin 2)) : Nat) = (0) := by decide +kernel
theorem dX10_worthOf_57 : gb cX10_worthOf 57 (.goto 14) (14) 60 71 := by decide +kernel
theorem dX10_worthOf_60 : gd cX10_worthOf 60 (.aload_n 0) 1 61 := by decide +kernel
theorem dX10_worthOf_61 : gd cX10_worthOf 61 (.getfield 359) 3 64 := by decide +kernel
theorem dX10_worthOf_64 : gd cX10_worthOf 64 (.getfield 312) 3 67 := by decide +kernel
theorem dX10_worthOf_67 : gd cX10_worthOf 67 (.iload 9) 2 69 := by decide +kernel
theorem dX10_worthOf_69 : gd cX10_worthOf 69 (.iaload) 1 70 := by decide +kernel
theorem dX10_worthOf_70 : gd cX10_worthOf 70 (.i2l) 1 71 := by decide +kernel
theorem dX10_worthOf_71 : gd cX10_worthOf 71 (.ladd) 1 72 := by decide +kernel
theorem dX10_worthOf_72 : gd cX10_worthOf 72 (.lstore 4) 2 74 := by decide +kernel
theorem dX10_worthOf_74 : gd cX10_worthOf 74 (.lload 6) 2 76 := by decide +kernel
theorem dX10_worthOf_76 : gd cX10_worthOf 76 (.iload 9) 2 78 := by decide +kernel
theorem dX10_worthOf_78 : decode cX10_worthOf 78 = .ok (.iconst (-1), 1) ∧ 78 + 1 = 79 ∧ Int32.ofInt (-1) = (-1) := by decide +kernel
theorem dX10_worthOf_79 : gb cX10_worthOf 79 (.if_icmp .ne 9) (9) 82 88 := by decide +kernel
theorem dX10_worthOf_82 : gd cX10_worthOf 82 (.ldc2_w 410) 3 85 := by decide +kernel
theorem dX10_worthOf_85 : gb cX10_worthOf 85 (.goto 18) (18) 88 103 := by decide +kernel
theorem dX10_worthOf_88 : gd cX10_worthOf 88 (.ldc2_w 410) 3 91 := by decide +kernel
theorem dX10_worthOf_91 : gd cX10_worthOf 91 (.aload_n 0) 1 92 := by decide +kernel
theorem dX10_worthOf_92 : gd cX10_worthOf 92 (.getfield 359) 3 95 := by decide +kernel
theorem dX10_worthOf_95 : gd cX10_worthOf 95 (.getfield 317) 3 98 := by decide +kernel
theorem dX10_worthOf_98 : gd cX10_worthOf 98 (.iload 9) 2 100 := by decide +kernel
theorem dX10_worthOf_100 : gd cX10_worthOf 100 (.iaload) 1 101 := by decide +kernel
theorem dX10_worthOf_101 : gd cX10_worthOf 101 (.i2l) 1 102 := by decide +kernel
theorem dX10_worthOf_102 : gd cX10_worthOf 102 (.lsub) 1 103 := by decide +kernel
theorem dX10_worthOf_103 : gd cX10_worthOf 103 (.lmul) 1 104 := by decide +kernel
theorem dX10_worthOf_104 : gd cX10_worthOf 104 (.lstore 6) 2 106 := by decide +kernel
theorem dX10_worthOf_106 : decode cX10_worthOf 106 = .ok (.iinc 8 1, 3) ∧ 106 + 3 = 109 ∧ Int32.ofInt (1) = (1) := by decide +kernel
theorem dX10_worthOf_109 : gb cX10_worthOf 109 (.goto (-100)) (-100) 112 9 := by decide +kernel
theorem dX10_worthOf_112 : gd cX10_worthOf 112 (.iload_n 1) 1 113 := by decide +kernel
theorem dX10_worthOf_113 : decode cX10_worthOf 113 = .ok (.iconst 2, 1) ∧ 113 + 1 = 114 ∧ Int32.ofInt (2) = (2) := by decide +kernel
theorem dX10_worthOf_114 : gb cX10_worthOf 114 (.if_icmp .eq 7) (7) 117 121 := by decide +kernel
theorem dX10_worthOf_117 : gd cX10_worthOf 117 (.lload 4) 2 119 := by decide +kernel
theorem dX10_worthOf_119 : gd cX10_worthOf 119 (.lneg) 1 120 := by decide +kernel
theorem dX10_worthOf_120 : gd cX10_worthOf 120 (.lreturn) 1 121 := by decide +kernel
theorem dX10_worthOf_121 : gd cX10_worthOf 121 (.aload_n 0) 1 122 := by decide +kernel
theorem dX10_worthOf_122 : gd cX10_worthOf 122 (.getfield 359) 3 125 := by decide +kernel
theorem dX10_worthOf_125 : gd cX10_worthOf 125 (.getfield 283) 3 128 := by decide +kernel
theorem dX10_worthOf_128 : gd cX10_worthOf 128 (.iload_n 2) 1 129 := by decide +kernel
theorem dX10_worthOf_129 : gd cX10_worthOf 129 (.iaload) 1 130 := by decide +kernel
theorem dX10_worthOf_130 : decode cX10_worthOf 130 = .ok (.iconst 1, 1) ∧ 130 + 1 = 131 ∧ Int32.ofInt (1) = (1) := by decide +kernel
theorem dX10_worthOf_131 : gb cX10_worthOf 131 (.if_icmp .ne 9) (9) 134 140 := by decide +kernel
theorem dX10_worthOf_134 : gd cX10_worthOf 134 (.ldc2_w 412) 3 137 := by decide +kernel
theorem dX10_worthOf_137 : gb cX10_worthOf 137 (.goto 5) (5) 140 142 := by decide +kernel
theorem dX10_worthOf_140 : gd cX10_worthOf 140 (.lload 6) 2 142 := by decide +kernel
theorem dX10_worthOf_142 : gd cX10_worthOf 142 (.lreturn) 1 143 := by decide +kernel
theorem dX10_mayBe_0 : gd cX10_mayBe 0 (.iload_n 1) 1 1 := by decide +kernel
theorem dX10_mayBe_1 : decode cX10_mayBe 1 = .ok (.iconst 1, 1) ∧ 1 + 1 = 2 ∧ Int32.ofInt (1) = (1) := by decide +kernel
theorem dX10_mayBe_2 : gb cX10_mayBe 2 (.if_icmp .ne 37) (37) 5 39 := by decide +kernel
theorem dX10_mayBe_5 : gd cX10_mayBe 5 (.aload_n 0) 1 6 := by decide +kernel
theorem dX10_mayBe_6 : gd cX10_mayBe 6 (.getfield 359) 3 9 := by decide +kernel
theorem dX10_mayBe_9 : gd cX10_mayBe 9 (.iload_n 3) 1 10 := by decide +kernel
theorem dX10_mayBe_10 : gd cX10_mayBe 10 (.invokevirtual 319) 3 13 := by decide +kernel
theorem dX10_mayBe_13 : gb cX10_mayBe 13 (.ifCond .eq 26) (26) 16 39 := by decide +kernel
theorem dX10_mayBe_16 : gd cX10_mayBe 16 (.aload_n 0) 1 17 := by decide +kernel
theorem dX10_mayBe_17 : gd cX10_mayBe 17 (.aload_n 0) 1 18 := by decide +kernel
theorem dX10_mayBe_18 : gd cX10_mayBe 18 (.iload_n 2) 1 19 := by decide +kernel
theorem dX10_mayBe_19 : gd cX10_mayBe 19 (.aload_n 0) 1 20 := by decide +kernel
theorem dX10_mayBe_20 : gd cX10_mayBe 20 (.getfield 359) 3 23 := by decide +kernel
theorem dX10_mayBe_23 : gd cX10_mayBe 23 (.getfield 306) 3 26 := by decide +kernel
theorem dX10_mayBe_26 : gd cX10_mayBe 26 (.iload_n 3) 1 27 := by decide +kernel
theorem dX10_mayBe_27 : gd cX10_mayBe 27 (.iaload) 1 28 := by decide +kernel
theorem dX10_mayBe_28 : gd cX10_mayBe 28 (.invokevirtual 401) 3 31 := by decide +kernel
theorem dX10_mayBe_31 : gd cX10_mayBe 31 (.invokevirtual 404) 3 34 := by decide +kernel
theorem dX10_mayBe_34 : decode cX10_mayBe 34 = .ok (.bipush (-2), 2) ∧ 34 + 2 = 36 ∧ (Int8.ofInt (-2)).toInt32 = (-2) := by decide +kernel
theorem dX10_mayBe_36 : gb cX10_mayBe 36 (.if_icmp .ne 7) (7) 39 43 := by decide +kernel
theorem dX10_mayBe_39 : decode cX10_mayBe 39 = .ok (.iconst 1, 1) ∧ 39 + 1 = 40 ∧ Int32.ofInt (1) = (1) := by decide +kernel
theorem dX10_mayBe_40 : gb cX10_mayBe 40 (.goto 4) (4) 43 44 := by decide +kernel
theorem dX10_mayBe_43 : decode cX10_mayBe 43 = .ok (.iconst 0, 1) ∧ 43 + 1 = 44 ∧ Int32.ofInt (0) = (0) := by decide +kernel
theorem dX10_mayBe_44 : gd cX10_mayBe 44 (.ireturn) 1 45 := by decide +kernel
theorem dX10_walks_0 : gd cX10_walks 0 (.aload_n 0) 1 1 := by decide +kernel
theorem dX10_walks_1 : decode cX10_walks 1 = .ok (.iconst 0, 1) ∧ 1 + 1 = 2 ∧ Int32.ofInt (0) = (0) := by decide +kernel
theorem dX10_walks_2 : gd cX10_walks 2 (.putfield 414) 3 5 := by decide +kernel
theorem dX10_walks_5 : decode cX10_walks 5 = .ok (.iconst 0, 1) ∧ 5 + 1 = 6 ∧ Int32.ofInt (0) = (0) := by decide +kernel
theorem dX10_walks_6 : gd cX10_walks 6 (.istore 5) 2 8 := by decide +kernel
theorem dX10_walks_8 : gd cX10_walks 8 (.aload_n 0) 1 9 := by decide +kernel
theorem dX10_walks_9 : gd cX10_walks 9 (.getfield 27) 3 12 := by decide +kernel
theorem dX10_walks_12 : decode cX10_walks 12 = .ok (.iconst 0, 1) ∧ 12 + 1 = 13 ∧ Int32.ofInt (0) = (0) := by decide +kernel
theorem dX10_walks_13 : gd cX10_walks 13 (.iload_n 3) 1 14 := by decide +kernel
theorem dX10_walks_14 : gd cX10_walks 14 (.iastore) 1 15 := by decide +kernel
theorem dX10_walks_15 : gd cX10_walks 15 (.aload_n 0) 1 16 := by decide +kernel
theorem dX10_walks_16 : gd cX10_walks 16 (.iload_n 1) 1 17 := by decide +kernel
theorem dX10_walks_17 : gd cX10_walks 17 (.iload_n 2) 1 18 := by decide +kernel
theorem dX10_walks_18 : gd cX10_walks 18 (.iload_n 3) 1 19 := by decide +kernel
theorem dX10_walks_19 : gd cX10_walks 19 (.invokevirtual 417) 3 22 := by decide +kernel
theorem dX10_walks_22 : gb cX10_walks 22 (.ifCond .ne 5) (5) 25 27 := by decide +kernel
theorem dX10_walks_25 : decode cX10_walks 25 = .ok (.iconst 0, 1) ∧ 25 + 1 = 26 ∧ Int32.ofInt (0) = (0) := by decide +kernel
theorem dX10_walks_26 : gd cX10_walks 26 (.ireturn) 1 27 := by decide +kernel
theorem dX10_walks_27 : gd cX10_walks 27 (.iload_n 3) 1 28 := by decide +kernel
theorem dX10_walks_28 : gd cX10_walks 28 (.iload 4) 2 30 := by decide +kernel
theorem dX10_walks_30 : gb cX10_walks 30 (.if_icmp .ne 15) (15) 33 45 := by decide +kernel
theorem dX10_walks_33 : gd cX10_walks 33 (.aload_n 0) 1 34 := by decide +kernel
theorem dX10_walks_34 : gd cX10_walks 34 (.iload_n 1) 1 35 := by decide +kernel
theorem dX10_walks_35 : gd cX10_walks 35 (.iload_n 2) 1 36 := by decide +kernel
theorem dX10_walks_36 : decode cX10_walks 36 = .ok (.iconst 1, 1) ∧ 36 + 1 = 37 ∧ Int32.ofInt (1) = (1) := by decide +kernel
theorem dX10_walks_37 : gd cX10_walks 37 (.invokevirtual 420) 3 40 := by decide +kernel
theorem dX10_walks_40 : gd cX10_walks 40 (.aload_n 0) 1 41 := by decide +kernel
theorem dX10_walks_41 : gd cX10_walks 41 (.getfield 414) 3 44 := by decide +kernel
theorem dX10_walks_44 : gd cX10_walks 44 (.ireturn) 1 45 := by decide +kernel
theorem dX10_walks_45 : decode cX10_walks 45 = .ok (.iconst 1, 1) ∧ 45 + 1 = 46 ∧ Int32.ofInt (1) = (1) := by decide +kernel
theorem dX10_walks_46 : gd cX10_walks 46 (.iload_n 3) 1 47 := by decide +kernel
theorem dX10_walks_47 : gd cX10_walks 47 (.ishl) 1 48 := by decide +kernel
theorem dX10_walks_48 : gd cX10_walks 48 (.istore 6) 2 50 := by decide +kernel
theorem dX10_walks_50 : decode cX10_walks 50 = .ok (.iconst 1, 1) ∧ 50 + 1 = 51 ∧ Int32.ofInt (1) = (1) := by decide +kernel
theorem dX10_walks_51 : gd cX10_walks 51 (.istore 5) 2 53 := by decide +kernel
theorem dX10_walks_53 : gd cX10_walks 53 (.aload_n 0) 1 54 := by decide +kernel
theorem dX10_walks_54 : gd cX10_walks 54 (.getfield 27) 3 57 := by decide +kernel
theorem dX10_walks_57 : decode cX10_walks 57 = .ok (.iconst 1, 1) ∧ 57 + 1 = 58 ∧ Int32.ofInt (1) = (1) := by decide +kernel
theorem dX10_walks_58 : decode cX10_walks 58 = .ok (.iconst (-1), 1) ∧ 58 + 1 = 59 ∧ Int32.ofInt (-1) = (-1) := by decide +kernel
theorem dX10_walks_59 : gd cX10_walks 59 (.iastore) 1 60 := by decide +kernel
theorem dX10_walks_60 : gd cX10_walks 60 (.iload 5) 2 62 := by decide +kernel
theorem dX10_walks_62 : gb cX10_walks 62 (.ifCond .le 219) (219) 65 281 := by decide +kernel
theorem dX10_walks_65 : gd cX10_walks 65 (.aload_n 0) 1 66 := by decide +kernel
theorem dX10_walks_66 : gd cX10_walks 66 (.getfield 27) 3 69 := by decide +kernel
theorem dX10_walks_69 : gd cX10_walks 69 (.iload 5) 2 71 := by decide +kernel
theorem dX10_walks_71 : gd cX10_walks 71 (.iaload) 1 72 := by decide +kernel
theorem dX10_walks_72 : decode cX10_walks 72 = .ok (.iconst (-1), 1) ∧ 72 + 1 = 73 ∧ Int32.ofInt (-1) = (-1) := by decide +kernel
theorem dX10_walks_73 : gb cX10_walks 73 (.if_icmp .eq 19) (19) 76 92 := by decide +kernel
theorem dX10_walks_76 : gd cX10_walks 76 (.iload 6) 2 78 := by decide +kernel
theorem dX10_walks_78 : decode cX10_walks 78 = .ok (.iconst 1, 1) ∧ 78 + 1 = 79 ∧ Int32.ofInt (1) = (1) := by decide +kernel
theorem dX10_walks_79 : gd cX10_walks 79 (.aload_n 0) 1 80 := by decide +kernel
theorem dX10_walks_80 : gd cX10_walks 80 (.getfield 27) 3 83 := by decide +kernel
theorem dX10_walks_83 : gd cX10_walks 83 (.iload 5) 2 85 := by decide +kernel
theorem dX10_walks_85 : gd cX10_walks 85 (.iaload) 1 86 := by decide +kernel
theorem dX10_walks_86 : gd cX10_walks 86 (.ishl) 1 87 := by decide +kernel
theorem dX10_walks_87 : decode cX10_walks 87 = .ok (.iconst (-1), 1) ∧ 87 + 1 = 88 ∧ Int32.ofInt (-1) = (-1) := by decide +kernel
theorem dX10_walks_88 : gd cX10_walks 88 (.ixor) 1 89 := by decide +kernel
theorem dX10_walks_89 : gd cX10_walks 89 (.iand) 1 90 := by decide +kernel
theorem dX10_walks_90 : gd cX10_walks 90 (.istore 6) 2 92 := by decide +kernel
theorem dX10_walks_92 : gd cX10_walks 92 (.aload_n 0) 1 93 := by decide +kernel
theorem dX10_walks_93 : gd cX10_walks 93 (.getfield 27) 3 96 := by decide +kernel
theorem dX10_walks_96 : gd cX10_walks 96 (.iload 5) 2 98 := by decide +kernel
theorem dX10_walks_98 : gd cX10_walks 98 (.dup2) 1 99 := by decide +kernel
theorem dX10_walks_99 : gd cX10_walks 99 (.iaload) 1 100 := by decide +kernel
theorem dX10_walks_100 : decode cX10_walks 100 = .ok (.iconst 1, 1) ∧ 100 + 1 = 101 ∧ Int32.ofInt (1) = (1) := by decide +kernel
theorem dX10_walks_101 : gd cX10_walks 101 (.iadd) 1 102 := by decide +kernel
theorem dX10_walks_102 : gd cX10_walks 102 (.iastore) 1 103 := by decide +kernel
theorem dX10_walks_103 : gd cX10_walks 103 (.aload_n 0) 1 104 := by decide +kernel
theorem dX10_walks_104 : gd cX10_walks 104 (.getfield 27) 3 107 := by decide +kernel
theorem dX10_walks_107 : gd cX10_walks 107 (.iload 5) 2 109 := by decide +kernel
theorem dX10_walks_109 : gd cX10_walks 109 (.iaload) 1 110 := by decide +kernel
theorem dX10_walks_110 : gd cX10_walks 110 (.aload_n 0) 1 111 := by decide +kernel
theorem dX10_walks_111 : gd cX10_walks 111 (.getfield 359) 3 114 := by decide +kernel
theorem dX10_walks_114 : gd cX10_walks 114 (.getfield 300) 3 117 := by decide +kernel
theorem dX10_walks_117 : gb cX10_walks 117 (.if_icmp .ge 79) (79) 120 196 := by decide +kernel
theorem dX10_walks_120 : gd cX10_walks 120 (.iload 6) 2 122 := by decide +kernel
theorem dX10_walks_122 : gd cX10_walks 122 (.aload_n 0) 1 123 := by decide +kernel
theorem dX10_walks_123 : gd cX10_walks 123 (.getfield 27) 3 126 := by decide +kernel
theorem dX10_walks_126 : gd cX10_walks 126 (.iload 5) 2 128 := by decide +kernel
theorem dX10_walks_128 : gd cX10_walks 128 (.iaload) 1 129 := by decide +kernel
theorem dX10_walks_129 : gd cX10_walks 129 (.invokestatic 367) 3 132 := by decide +kernel
theorem dX10_walks_132 : gb cX10_walks 132 (.ifCond .ne 50) (50) 135 182 := by decide +kernel
theorem dX10_walks_135 : gd cX10_walks 135 (.aload_n 0) 1 136 := by decide +kernel
theorem dX10_walks_136 : gd cX10_walks 136 (.getfield 359) 3 139 := by decide +kernel
theorem dX10_walks_139 : gd cX10_walks 139 (.getfield 312) 3 142 := by decide +kernel
theorem dX10_walks_142 : decode cX10_walks 142 = .ok (.bipush 7, 2) ∧ 142 + 2 = 144 ∧ (Int8.ofInt (7)).toInt32 = (7) := by decide +kernel
theorem dX10_walks_144 : gd cX10_walks 144 (.aload_n 0) 1 145 := by decide +kernel
theorem dX10_walks_145 : gd cX10_walks 145 (.getfield 27) 3 148 := by decide +kernel
theorem dX10_walks_148 : gd cX10_walks 148 (.iload 5) 2 150 := by decide +kernel
theorem dX10_walks_150 : decode cX10_walks 150 = .ok (.iconst 1, 1) ∧ 150 + 1 = 151 ∧ Int32.ofInt (1) = (1) := by decide +kernel
theorem dX10_walks_151 : gd cX10_walks 151 (.isub) 1 152 := by decide +kernel
theorem dX10_walks_152 : gd cX10_walks 152 (.iaload) 1 153 := by decide +kernel
theorem dX10_walks_153 : gd cX10_walks 153 (.imul) 1 154 := by decide +kernel
theorem dX10_walks_154 : gd cX10_walks 154 (.aload_n 0) 1 155 := by decide +kernel
theorem dX10_walks_155 : gd cX10_walks 155 (.getfield 27) 3 158 := by decide +kernel
theorem dX10_walks_158 : gd cX10_walks 158 (.iload 5) 2 160 := by decide +kernel
theorem dX10_walks_160 : gd cX10_walks 160 (.iaload) 1 161 := by decide +kernel
theorem dX10_walks_161 : gd cX10_walks 161 (.iadd) 1 162 := by decide +kernel
theorem dX10_walks_162 : gd cX10_walks 162 (.iaload) 1 163 := by decide +kernel
theorem dX10_walks_163 : gb cX10_walks 163 (.ifCond .eq 19) (19) 166 182 := by decide +kernel
theorem dX10_walks_166 : gd cX10_walks 166 (.aload_n 0) 1 167 := by decide +kernel
theorem dX10_walks_167 : gd cX10_walks 167 (.iload_n 1) 1 168 := by decide +kernel
theorem dX10_walks_168 : gd cX10_walks 168 (.iload_n 2) 1 169 := by decide +kernel
theorem dX10_walks_169 : gd cX10_walks 169 (.aload_n 0) 1 170 := by decide +kernel
theorem dX10_walks_170 : gd cX10_walks 170 (.getfield 27) 3 173 := by decide +kernel
theorem dX10_walks_173 : gd cX10_walks 173 (.iload 5) 2 175 := by decide +kernel
theorem dX10_walks_175 : gd cX10_walks 175 (.iaload) 1 176 := by decide +kernel
theorem dX10_walks_176 : gd cX10_walks 176 (.invokevirtual 417) 3 179 := by decide +kernel
theorem dX10_walks_179 : gb cX10_walks 179 (.ifCond .ne 17) (17) 182 196 := by decide +kernel
theorem dX10_walks_182 : gd cX10_walks 182 (.aload_n 0) 1 183 := by decide +kernel
theorem dX10_walks_183 : gd cX10_walks 183 (.getfield 27) 3 186 := by decide +kernel
theorem dX10_walks_186 : gd cX10_walks 186 (.iload 5) 2 188 := by decide +kernel
theorem dX10_walks_188 : gd cX10_walks 188 (.dup2) 1 189 := by decide +kernel
theorem dX10_walks_189 : gd cX10_walks 189 (.iaload) 1 190 := by decide +kernel
theorem dX10_walks_190 : decode cX10_walks 190 = .ok (.iconst 1, 1) ∧ 190 + 1 = 191 ∧ Int32.ofInt (1) = (1) := by decide +kernel
theorem dX10_walks_191 : gd cX10_walks 191 (.iadd) 1 192 := by decide +kernel
theorem dX10_walks_192 : gd cX10_walks 192 (.iastore) 1 193 := by decide +kernel
theorem dX10_walks_193 : gb cX10_walks 193 (.goto (-90)) (-90) 196 103 := by decide +kernel
theorem dX10_walks_196 : gd cX10_walks 196 (.aload_n 0) 1 197 := by decide +kernel
theorem dX10_walks_197 : gd cX10_walks 197 (.getfield 27) 3 200 := by decide +kernel
theorem dX10_walks_200 : gd cX10_walks 200 (.iload 5) 2 202 := by decide +kernel
theorem dX10_walks_202 : gd cX10_walks 202 (.iaload) 1 203 := by decide +kernel
theorem dX10_walks_203 : gd cX10_walks 203 (.aload_n 0) 1 204 := by decide +kernel
theorem dX10_walks_204 : gd cX10_walks 204 (.getfield 359) 3 207 := by decide +kernel
theorem dX10_walks_207 : gd cX10_walks 207 (.getfield 300) 3 210 := by decide +kernel
theorem dX10_walks_210 : gb cX10_walks 210 (.if_icmp .lt 9) (9) 213 219 := by decide +kernel
theorem dX10_walks_213 : decode cX10_walks 213 = .ok (.iinc 5 (-1), 3) ∧ 213 + 3 = 216 ∧ Int32.ofInt (-1) = (-1) := by decide +kernel
theorem dX10_walks_216 : gb cX10_walks 216 (.goto (-156)) (-156) 219 60 := by decide +kernel
theorem dX10_walks_219 : gd cX10_walks 219 (.iload 6) 2 221 := by decide +kernel
theorem dX10_walks_221 : decode cX10_walks 221 = .ok (.iconst 1, 1) ∧ 221 + 1 = 222 ∧ Int32.ofInt (1) = (1) := by decide +kernel
theorem dX10_walks_222 : gd cX10_walks 222 (.aload_n 0) 1 223 := by decide +kernel
theorem dX10_walks_223 : gd cX10_walks 223 (.getfield 27) 3 226 := by decide +kernel
theorem dX10_walks_226 : gd cX10_walks 226 (.iload 5) 2 228 := by decide +kernel
theorem dX10_walks_228 : gd cX10_walks 228 (.iaload) 1 229 := by decide +kernel
theorem dX10_walks_229 : gd cX10_walks 229 (.ishl) 1 230 := by decide +kernel
theorem dX10_walks_230 : gd cX10_walks 230 (.ior) 1 231 := by decide +kernel
theorem dX10_walks_231 : gd cX10_walks 231 (.istore 6) 2 233 := by decide +kernel
theorem dX10_walks_233 : gd cX10_walks 233 (.aload_n 0) 1 234 := by decide +kernel
theorem dX10_walks_234 : gd cX10_walks 234 (.getfield 27) 3 237 := by decide +kernel
theorem dX10_walks_237 : gd cX10_walks 237 (.iload 5) 2 239 := by decide +kernel
theorem dX10_walks_239 : gd cX10_walks 239 (.iaload) 1 240 := by decide +kernel
theorem dX10_walks_240 : gd cX10_walks 240 (.iload 4) 2 242 := by decide +kernel
theorem dX10_walks_242 : gb cX10_walks 242 (.if_icmp .ne 16) (16) 245 258 := by decide +kernel
theorem dX10_walks_245 : gd cX10_walks 245 (.aload_n 0) 1 246 := by decide +kernel
theorem dX10_walks_246 : gd cX10_walks 246 (.iload_n 1) 1 247 := by decide +kernel
theorem dX10_walks_247 : gd cX10_walks 247 (.iload_n 2) 1 248 := by decide +kernel
theorem dX10_walks_248 : gd cX10_walks 248 (.iload 5) 2 250 := by decide +kernel
theorem dX10_walks_250 : decode cX10_walks 250 = .ok (.iconst 1, 1) ∧ 250 + 1 = 251 ∧ Int32.ofInt (1) = (1) := by decide +kernel
theorem dX10_walks_251 : gd cX10_walks 251 (.iadd) 1 252 := by decide +kernel
theorem dX10_walks_252 : gd cX10_walks 252 (.invokevirtual 420) 3 255 := by decide +kernel
theorem dX10_walks_255 : gb cX10_walks 255 (.goto (-195)) (-195) 258 60 := by decide +kernel
theorem dX10_walks_258 : gd cX10_walks 258 (.iload 5) 2 260 := by decide +kernel
theorem dX10_walks_260 : decode cX10_walks 260 = .ok (.iconst 1, 1) ∧ 260 + 1 = 261 ∧ Int32.ofInt (1) = (1) := by decide +kernel
theorem dX10_walks_261 : gd cX10_walks 261 (.iadd) 1 262 := by decide +kernel
theorem dX10_walks_262 : decode cX10_walks 262 = .ok (.bipush 7, 2) ∧ 262 + 2 = 264 ∧ (Int8.ofInt (7)).toInt32 = (7) := by decide +kernel
theorem dX10_walks_264 : gb cX10_walks 264 (.if_icmp .ge (-204)) (-204) 267 60 := by decide +kernel
theorem dX10_walks_267 : decode cX10_walks 267 = .ok (.iinc 5 1, 3) ∧ 267 + 3 = 270 ∧ Int32.ofInt (1) = (1) := by decide +kernel
theorem dX10_walks_270 : gd cX10_walks 270 (.aload_n 0) 1 271 := by decide +kernel
theorem dX10_walks_271 : gd cX10_walks 271 (.getfield 27) 3 274 := by decide +kernel
theorem dX10_walks_274 : gd cX10_walks 274 (.iload 5) 2 276 := by decide +kernel
theorem dX10_walks_276 : decode cX10_walks 276 = .ok (.iconst (-1), 1) ∧ 276 + 1 = 277 ∧ Int32.ofInt (-1) = (-1) := by decide +kernel
theorem dX10_walks_277 : gd cX10_walks 277 (.iastore) 1 278 := by decide +kernel
theorem dX10_walks_278 : gb cX10_walks 278 (.goto (-218)) (-218) 281 60 := by decide +kernel
theorem dX10_walks_281 : gd cX10_walks 281 (.aload_n 0) 1 282 := by decide +kernel
theorem dX10_walks_282 : gd cX10_walks 282 (.getfield 414) 3 285 := by decide +kernel
theorem dX10_walks_285 : gd cX10_walks 285 (.ireturn) 1 286 := by decide +kernel
theorem dX10_ends_0 : gd cX10_ends 0 (.aload_n 0) 1 1 := by decide +kernel
theorem dX10_ends_1 : gd cX10_ends 1 (.iload_n 1) 1 2 := by decide +kernel
theorem dX10_ends_2 : gd cX10_ends 2 (.iload_n 2) 1 3 := by decide +kernel
theorem dX10_ends_3 : gd cX10_ends 3 (.iload_n 3) 1 4 := by decide +kernel
theorem dX10_ends_4 : gd cX10_ends 4 (.invokevirtual 424) 3 7 := by decide +kernel
theorem dX10_ends_7 : gd cX10_ends 7 (.lstore 4) 2 9 := by decide +kernel
theorem dX10_ends_9 : gd cX10_ends 9 (.aload_n 0) 1 10 := by decide +kernel
theorem dX10_ends_10 : gd cX10_ends 10 (.getfield 414) 3 13 := by decide +kernel
theorem dX10_ends_13 : gb cX10_ends 13 (.ifCond .le 14) (14) 16 27 := by decide +kernel
theorem dX10_ends_16 : gd cX10_ends 16 (.lload 4) 2 18 := by decide +kernel
theorem dX10_ends_18 : gd cX10_ends 18 (.aload_n 0) 1 19 := by decide +kernel
theorem dX10_ends_19 : gd cX10_ends 19 (.getfield 428) 3 22 := by decide +kernel
theorem dX10_ends_22 : gd cX10_ends 22 (.lcmp) 1 23 := by decide +kernel
theorem dX10_ends_23 : gb cX10_ends 23 (.ifCond .gt 4) (4) 26 27 := by decide +kernel
theorem dX10_ends_26 : gd cX10_ends 26 (.return_) 1 27 := by decide +kernel
theorem dX10_ends_27 : gd cX10_ends 27 (.aload_n 0) 1 28 := by decide +kernel
theorem dX10_ends_28 : gd cX10_ends 28 (.lload 4) 2 30 := by decide +kernel
theorem dX10_ends_30 : gd cX10_ends 30 (.putfield 428) 3 33 := by decide +kernel
theorem dX10_ends_33 : gd cX10_ends 33 (.aload_n 0) 1 34 := by decide +kernel
theorem dX10_ends_34 : gd cX10_ends 34 (.iload_n 3) 1 35 := by decide +kernel
theorem dX10_ends_35 : gd cX10_ends 35 (.putfield 414) 3 38 := by decide +kernel
theorem dX10_ends_38 : decode cX10_ends 38 = .ok (.iconst 0, 1) ∧ 38 + 1 = 39 ∧ Int32.ofInt (0) = (0) := by decide +kernel
theorem dX10_ends_39 : gd cX10_ends 39 (.istore 6) 2 41 := by decide +kernel
theorem dX10_ends_41 : gd cX10_ends 41 (.iload 6) 2 43 := by decide +kernel
theorem dX10_ends_43 : gd cX10_ends 43 (.iload_n 3) 1 44 := by decide +kernel
theorem dX10_ends_44 : gb cX10_ends 44 (.if_icmp .ge 23) (23) 47 67 := by decide +kernel
theorem dX10_ends_47 : gd cX10_ends 47 (.aload_n 0) 1 48 := by decide +kernel
theorem dX10_ends_48 : gd cX10_ends 48 (.getfield 30) 3 51 := by decide +kernel
theorem dX10_ends_51 : gd cX10_ends 51 (.iload 6) 2 53 := by decide +kernel
theorem dX10_ends_53 : gd cX10_ends 53 (.aload_n 0) 1 54 := by decide +kernel
theorem dX10_ends_54 : gd cX10_ends 54 (.getfield 27) 3 57 := by decide +kernel
theorem dX10_ends_57 : gd cX10_ends 57 (.iload 6) 2 59 := by decide +kernel
theorem dX10_ends_59 : gd cX10_ends 59 (.iaload) 1 60 := by decide +kernel
theorem dX10_ends_60 : gd cX10_ends 60 (.iastore) 1 61 := by decide +kernel
theorem dX10_ends_61 : decode cX10_ends 61 = .ok (.iinc 6 1, 3) ∧ 61 + 3 = 64 ∧ Int32.ofInt (1) = (1) := by decide +kernel
theorem dX10_ends_64 : gb cX10_ends 64 (.goto (-23)) (-23) 67 41 := by decide +kernel
theorem dX10_ends_67 : gd cX10_ends 67 (.return_) 1 68 := by decide +kernel
theorem dX10_minutesOf_0 : gd cX10_minutesOf 0 (.aload_n 0) 1 1 := by decide +kernel
theorem dX10_minutesOf_1 : gd cX10_minutesOf 1 (.iload_n 1) 1 2 := by decide +kernel
theorem dX10_minutesOf_2 : gd cX10_minutesOf 2 (.iload_n 2) 1 3 := by decide +kernel
theorem dX10_minutesOf_3 : gd cX10_minutesOf 3 (.iload_n 3) 1 4 := by decide +kernel
theorem dX10_minutesOf_4 : gd cX10_minutesOf 4 (.iload 4) 2 6 := by decide +kernel
theorem dX10_minutesOf_6 : gd cX10_minutesOf 6 (.invokevirtual 431) 3 9 := by decide +kernel
theorem dX10_minutesOf_9 : gb cX10_minutesOf 9 (.ifCond .ne 8) (8) 12 17 := by decide +kernel
theorem dX10_minutesOf_12 : decode cX10_minutesOf 12 = .ok (.bipush (-2), 2) ∧ 12 + 2 = 14 ∧ (Int8.ofInt (-2)).toInt32 = (-2) := by decide +kernel
theorem dX10_minutesOf_14 : gb cX10_minutesOf 14 (.goto 9) (9) 17 23 := by decide +kernel
theorem dX10_minutesOf_17 : gd cX10_minutesOf 17 (.aload_n 0) 1 18 := by decide +kernel
theorem dX10_minutesOf_18 : gd cX10_minutesOf 18 (.getfield 428) 3 21 := by decide +kernel
theorem dX10_minutesOf_21 : gd cX10_minutesOf 21 (.lneg) 1 22 := by decide +kernel
theorem dX10_minutesOf_22 : gd cX10_minutesOf 22 (.l2i) 1 23 := by decide +kernel
theorem dX10_minutesOf_23 : gd cX10_minutesOf 23 (.ireturn) 1 24 := by decide +kernel
theorem dX10_soonest_0 : gd cX10_soonest 0 (.aload_n 0) 1 1 := by decide +kernel
theorem dX10_soonest_1 : decode cX10_soonest 1 = .ok (.iconst 0, 1) ∧ 1 + 1 = 2 ∧ Int32.ofInt (0) = (0) := by decide +kernel
theorem dX10_soonest_2 : gd cX10_soonest 2 (.putfield 39) 3 5 := by decide +kernel
theorem dX10_soonest_5 : gd cX10_soonest 5 (.aload_n 0) 1 6 := by decide +kernel
theorem dX10_soonest_6 : gd cX10_soonest 6 (.iload_n 1) 1 7 := by decide +kernel
theorem dX10_soonest_7 : gd cX10_soonest 7 (.invokevirtual 435) 3 10 := by decide +kernel
theorem dX10_soonest_10 : gb cX10_soonest 10 (.ifCond .eq 26) (26) 13 36 := by decide +kernel
theorem dX10_soonest_13 : gd cX10_soonest 13 (.aload_n 0) 1 14 := by decide +kernel
theorem dX10_soonest_14 : gd cX10_soonest 14 (.iload_n 2) 1 15 := by decide +kernel
theorem dX10_soonest_15 : gd cX10_soonest 15 (.invokevirtual 435) 3 18 := by decide +kernel
theorem dX10_soonest_18 : gb cX10_soonest 18 (.ifCond .eq 18) (18) 21 36 := by decide +kernel
theorem dX10_soonest_21 : gd cX10_soonest 21 (.aload_n 0) 1 22 := by decide +kernel
theorem dX10_soonest_22 : gd cX10_soonest 22 (.aload_n 0) 1 23 := by decide +kernel
theorem dX10_soonest_23 : decode cX10_soonest 23 = .ok (.iconst 0, 1) ∧ 23 + 1 = 24 ∧ Int32.ofInt (0) = (0) := by decide +kernel
theorem dX10_soonest_24 : decode cX10_soonest 24 = .ok (.iconst 0, 1) ∧ 24 + 1 = 25 ∧ Int32.ofInt (0) = (0) := by decide +kernel
theorem dX10_soonest_25 : gd cX10_soonest 25 (.iload_n 1) 1 26 := by decide +kernel
theorem dX10_soonest_26 : gd cX10_soonest 26 (.iload_n 2) 1 27 := by decide +kernel
theorem dX10_soonest_27 : gd cX10_soonest 27 (.invokevirtual 438) 3 30 := by decide +kernel
theorem dX10_soonest_30 : gd cX10_soonest 30 (.invokevirtual 49) 3 33 := by decide +kernel
theorem dX10_soonest_33 : gb cX10_soonest 33 (.goto 8) (8) 36 41 := by decide +kernel
theorem dX10_soonest_36 : gd cX10_soonest 36 (.aload_n 0) 1 37 := by decide +kernel
theorem dX10_soonest_37 : decode cX10_soonest 37 = .ok (.iconst 1, 1) ∧ 37 + 1 = 38 ∧ Int32.ofInt (1) = (1) := by decide +kernel
theorem dX10_soonest_38 : gd cX10_soonest 38 (.invokevirtual 45) 3 41 := by decide +kernel
theorem dX10_soonest_41 : gd cX10_soonest 41 (.ireturn) 1 42 := by decide +kernel
theorem dX10_soonestAt_0 : gd cX10_soonestAt 0 (.aload_n 0) 1 1 := by decide +kernel
theorem dX10_soonestAt_1 : decode cX10_soonestAt 1 = .ok (.iconst 0, 1) ∧ 1 + 1 = 2 ∧ Int32.ofInt (0) = (0) := by decide +kernel
theorem dX10_soonestAt_2 : gd cX10_soonestAt 2 (.putfield 39) 3 5 := by decide +kernel
theorem dX10_soonestAt_5 : gd cX10_soonestAt 5 (.aload_n 0) 1 6 := by decide +kernel
theorem dX10_soonestAt_6 : gd cX10_soonestAt 6 (.iload_n 1) 1 7 := by decide +kernel
theorem dX10_soonestAt_7 : gd cX10_soonestAt 7 (.invokevirtual 435) 3 10 := by decide +kernel
theorem dX10_soonestAt_10 : gb cX10_soonestAt 10 (.ifCond .eq 27) (27) 13 37 := by decide +kernel
theorem dX10_soonestAt_13 : gd cX10_soonestAt 13 (.aload_n 0) 1 14 := by decide +kernel
theorem dX10_soonestAt_14 : gd cX10_soonestAt 14 (.iload_n 2) 1 15 := by decide +kernel
theorem dX10_soonestAt_15 : gd cX10_soonestAt 15 (.invokevirtual 435) 3 18 := by decide +kernel
theorem dX10_soonestAt_18 : gb cX10_soonestAt 18 (.ifCond .eq 19) (19) 21 37 := by decide +kernel
theorem dX10_soonestAt_21 : gd cX10_soonestAt 21 (.iload_n 3) 1 22 := by decide +kernel
theorem dX10_soonestAt_22 : gb cX10_soonestAt 22 (.ifCond .lt 15) (15) 25 37 := by decide +kernel
theorem dX10_soonestAt_25 : gd cX10_soonestAt 25 (.iload_n 3) 1 26 := by decide +kernel
theorem dX10_soonestAt_26 : gd cX10_soonestAt 26 (.aload_n 0) 1 27 := by decide +kernel
theorem dX10_soonestAt_27 : decode cX10_soonestAt 27 = .ok (.iconst 0, 1) ∧ 27 + 1 = 28 ∧ Int32.ofInt (0) = (0) := by decide +kernel
theorem dX10_soonestAt_28 : decode cX10_soonestAt 28 = .ok (.iconst 0, 1) ∧ 28 + 1 = 29 ∧ Int32.ofInt (0) = (0) := by decide +kernel
theorem dX10_soonestAt_29 : gd cX10_soonestAt 29 (.iload_n 1) 1 30 := by decide +kernel
theorem dX10_soonestAt_30 : gd cX10_soonestAt 30 (.iload_n 2) 1 31 := by decide +kernel
theorem dX10_soonestAt_31 : gd cX10_soonestAt 31 (.invokevirtual 431) 3 34 := by decide +kernel
theorem dX10_soonestAt_34 : gb cX10_soonestAt 34 (.if_icmp .lt 9) (9) 37 43 := by decide +kernel
theorem dX10_soonestAt_37 : gd cX10_soonestAt 37 (.aload_n 0) 1 38 := by decide +kernel
theorem dX10_soonestAt_38 : decode cX10_soonestAt 38 = .ok (.iconst 1, 1) ∧ 38 + 1 = 39 ∧ Int32.ofInt (1) = (1) := by decide +kernel
theorem dX10_soonestAt_39 : gd cX10_soonestAt 39 (.invokevirtual 45) 3 42 := by decide +kernel
theorem dX10_soonestAt_42 : gd cX10_soonestAt 42 (.ireturn) 1 43 := by decide +kernel
theorem dX10_soonestAt_43 : gd cX10_soonestAt 43 (.aload_n 0) 1 44 := by decide +kernel
theorem dX10_soonestAt_44 : gd cX10_soonestAt 44 (.aload_n 0) 1 45 := by decide +kernel
theorem dX10_soonestAt_45 : gd cX10_soonestAt 45 (.getfield 30) 3 48 := by decide +kernel
theorem dX10_soonestAt_48 : gd cX10_soonestAt 48 (.iload_n 3) 1 49 := by decide +kernel
theorem dX10_soonestAt_49 : gd cX10_soonestAt 49 (.iaload) 1 50 := by decide +kernel
theorem dX10_soonestAt_50 : gd cX10_soonestAt 50 (.invokevirtual 49) 3 53 := by decide +kernel
theorem dX10_soonestAt_53 : gd cX10_soonestAt 53 (.ireturn) 1 54 := by decide +kernel
theorem dX10_refusesWay_0 : gd cX10_refusesWay 0 (.aload_n 0) 1 1 := by decide +kernel
theorem dX10_refusesWay_1 : gd cX10_refusesWay 1 (.iload_n 1) 1 2 := by decide +kernel
theorem dX10_refusesWay_2 : gd cX10_refusesWay 2 (.invokevirtual 377) 3 5 := by decide +kernel
theorem dX10_refusesWay_5 : gb cX10_refusesWay 5 (.ifCond .eq 19) (19) 8 24 := by decide +kernel
theorem dX10_refusesWay_8 : gd cX10_refusesWay 8 (.aload_n 0) 1 9 := by decide +kernel
theorem dX10_refusesWay_9 : gd cX10_refusesWay 9 (.iload_n 2) 1 10 := by decide +kernel
theorem dX10_refusesWay_10 : gd cX10_refusesWay 10 (.invokevirtual 435) 3 13 := by decide +kernel
theorem dX10_refusesWay_13 : gb cX10_refusesWay 13 (.ifCond .eq 11) (11) 16 24 := by decide +kernel
theorem dX10_refusesWay_16 : gd cX10_refusesWay 16 (.aload_n 0) 1 17 := by decide +kernel
theorem dX10_refusesWay_17 : gd cX10_refusesWay 17 (.iload_n 3) 1 18 := by decide +kernel
theorem dX10_refusesWay_18 : gd cX10_refusesWay 18 (.invokevirtual 435) 3 21 := by decide +kernel
theorem dX10_refusesWay_21 : gb cX10_refusesWay 21 (.ifCond .ne 7) (7) 24 28 := by decide +kernel
theorem dX10_refusesWay_24 : decode cX10_refusesWay 24 = .ok (.iconst 1, 1) ∧ 24 + 1 = 25 ∧ Int32.ofInt (1) = (1) := by decide +kernel
theorem dX10_refusesWay_25 : gb cX10_refusesWay 25 (.goto 16) (16) 28 41 := by decide +kernel
theorem dX10_refusesWay_28 : gd cX10_refusesWay 28 (.aload_n 0) 1 29 := by decide +kernel
theorem dX10_refusesWay_29 : gd cX10_refusesWay 29 (.iload_n 1) 1 30 := by decide +kernel
theorem dX10_refusesWay_30 : gd cX10_refusesWay 30 (.invokevirtual 383) 3 33 := by decide +kernel
theorem dX10_refusesWay_33 : gb cX10_refusesWay 33 (.ifCond .eq 7) (7) 36 40 := by decide +kernel
theorem dX10_refusesWay_36 : decode cX10_refusesWay 36 = .ok (.iconst 5, 1) ∧ 36 + 1 = 37 ∧ Int32.ofInt (5) = (5) := by decide +kernel
theorem dX10_refusesWay_37 : gb cX10_refusesWay 37 (.goto 4) (4) 40 41 := by decide +kernel
theorem dX10_refusesWay_40 : decode cX10_refusesWay 40 = .ok (.iconst 0, 1) ∧ 40 + 1 = 41 ∧ Int32.ofInt (0) = (0) := by decide +kernel
theorem dX10_refusesWay_41 : gd cX10_refusesWay 41 (.ireturn) 1 42 := by decide +kernel
theorem dX10_secret_0 : gd cX10_secret 0 (.aload_n 0) 1 1 := by decide +kernel
theorem dX10_secret_1 : decode cX10_secret 1 = .ok (.iconst 0, 1) ∧ 1 + 1 = 2 ∧ Int32.ofInt (0) = (0) := by decide +kernel
theorem dX10_secret_2 : gd cX10_secret 2 (.putfield 39) 3 5 := by decide +kernel
theorem dX10_secret_5 : gd cX10_secret 5 (.aload_n 0) 1 6 := by decide +kernel
theorem dX10_secret_6 : gd cX10_secret 6 (.iload_n 1) 1 7 := by decide +kernel
theorem dX10_secret_7 : gd cX10_secret 7 (.iload_n 2) 1 8 := by decide +kernel
theorem dX10_secret_8 : gd cX10_secret 8 (.iload_n 3) 1 9 := by decide +kernel
theorem dX10_secret_9 : gd cX10_secret 9 (.invokevirtual 441) 3 12 := by decide +kernel
theorem dX10_secret_12 : gd cX10_secret 12 (.istore 4) 2 14 := by decide +kernel
theorem dX10_secret_14 : gd cX10_secret 14 (.iload 4) 2 16 := by decide +kernel
theorem dX10_secret_16 : gb cX10_secret 16 (.ifCond .le 12) (12) 19 28 := by decide +kernel
theorem dX10_secret_19 : gd cX10_secret 19 (.aload_n 0) 1 20 := by decide +kernel
theorem dX10_secret_20 : gd cX10_secret 20 (.iload 4) 2 22 := by decide +kernel
theorem dX10_secret_22 : gd cX10_secret 22 (.invokevirtual 45) 3 25 := by decide +kernel
theorem dX10_secret_25 : gb cX10_secret 25 (.goto 15) (15) 28 40 := by decide +kernel
theorem dX10_secret_28 : gd cX10_secret 28 (.aload_n 0) 1 29 := by decide +kernel
theorem dX10_secret_29 : gd cX10_secret 29 (.aload_n 0) 1 30 := by decide +kernel
theorem dX10_secret_30 : decode cX10_secret 30 = .ok (.iconst 1, 1) ∧ 30 + 1 = 31 ∧ Int32.ofInt (1) = (1) := by decide +kernel
theorem dX10_secret_31 : gd cX10_secret 31 (.iload_n 1) 1 32 := by decide +kernel
theorem dX10_secret_32 : gd cX10_secret 32 (.iload_n 2) 1 33 := by decide +kernel
theorem dX10_secret_33 : gd cX10_secret 33 (.iload_n 3) 1 34 := by decide +kernel
theorem dX10_secret_34 : gd cX10_secret 34 (.invokevirtual 438) 3 37 := by decide +kernel
theorem dX10_secret_37 : gd cX10_secret 37 (.invokevirtual 49) 3 40 := by decide +kernel
theorem dX10_secret_40 : gd cX10_secret 40 (.ireturn) 1 41 := by decide +kernel
theorem dX10_secretAt_0 : gd cX10_secretAt 0 (.aload_n 0) 1 1 := by decide +kernel
theorem dX10_secretAt_1 : decode cX10_secretAt 1 = .ok (.iconst 0, 1) ∧ 1 + 1 = 2 ∧ Int32.ofInt (0) = (0) := by decide +kernel
theorem dX10_secretAt_2 : gd cX10_secretAt 2 (.putfield 39) 3 5 := by decide +kernel
theorem dX10_secretAt_5 : gd cX10_secretAt 5 (.aload_n 0) 1 6 := by decide +kernel
theorem dX10_secretAt_6 : gd cX10_secretAt 6 (.iload_n 1) 1 7 := by decide +kernel
theorem dX10_secretAt_7 : gd cX10_secretAt 7 (.iload_n 2) 1 8 := by decide +kernel
theorem dX10_secretAt_8 : gd cX10_secretAt 8 (.iload_n 3) 1 9 := by decide +kernel
theorem dX10_secretAt_9 : gd cX10_secretAt 9 (.invokevirtual 441) 3 12 := by decide +kernel
theorem dX10_secretAt_12 : gd cX10_secretAt 12 (.istore 5) 2 14 := by decide +kernel
theorem dX10_secretAt_14 : gd cX10_secretAt 14 (.iload 5) 2 16 := by decide +kernel
theorem dX10_secretAt_16 : gb cX10_secretAt 16 (.ifCond .le 10) (10) 19 26 := by decide +kernel
theorem dX10_secretAt_19 : gd cX10_secretAt 19 (.aload_n 0) 1 20 := by decide +kernel
theorem dX10_secretAt_20 : gd cX10_secretAt 20 (.iload 5) 2 22 := by decide +kernel
theorem dX10_secretAt_22 : gd cX10_secretAt 22 (.invokevirtual 45) 3 25 := by decide +kernel
theorem dX10_secretAt_25 : gd cX10_secretAt 25 (.ireturn) 1 26 := by decide +kernel
theorem dX10_secretAt_26 : gd cX10_secretAt 26 (.iload 4) 2 28 := by decide +kernel
theorem dX10_secretAt_28 : gb cX10_secretAt 28 (.ifCond .lt 30) (30) 31 58 := by decide +kernel
theorem dX10_secretAt_31 : gd cX10_secretAt 31 (.iload 4) 2 33 := by decide +kernel
theorem dX10_secretAt_33 : gd cX10_secretAt 33 (.aload_n 0) 1 34 := by decide +kernel
theorem dX10_secretAt_34 : decode cX10_secretAt 34 = .ok (.iconst 1, 1) ∧ 34 + 1 = 35 ∧ Int32.ofInt (1) = (1) := by decide +kernel
theorem dX10_secretAt_35 : gd cX10_secretAt 35 (.iload_n 1) 1 36 := by decide +kernel
theorem dX10_secretAt_36 : gd cX10_secretAt 36 (.iload_n 2) 1 37 := by decide +kernel
theorem dX10_secretAt_37 : gd cX10_secretAt 37 (.iload_n 3) 1 38 := by decide +kernel
theorem dX10_secretAt_38 : gd cX10_secretAt 38 (.invokevirtual 431) 3 41 := by decide +kernel
theorem dX10_secretAt_41 : gb cX10_secretAt 41 (.if_icmp .ge 17) (17) 44 58 := by decide +kernel
theorem dX10_secretAt_44 : gd cX10_secretAt 44 (.aload_n 0) 1 45 := by decide +kernel
theorem dX10_secretAt_45 : gd cX10_secretAt 45 (.aload_n 0) 1 46 := by decide +kernel
theorem dX10_secretAt_46 : gd cX10_secretAt 46 (.getfield 30) 3 49 := by decide +kernel
theorem dX10_secretAt_49 : gd cX10_secretAt 49 (.iload 4) 2 51 := by decide +kernel
theorem dX10_secretAt_51 : gd cX10_secretAt 51 (.iaload) 1 52 := by decide +kernel
theorem dX10_secretAt_52 : gd cX10_secretAt 52 (.invokevirtual 49) 3 55 := by decide +kernel
theorem dX10_secretAt_55 : gb cX10_secretAt 55 (.goto 8) (8) 58 63 := by decide +kernel
theorem dX10_secretAt_58 : gd cX10_secretAt 58 (.aload_n 0) 1 59 := by decide +kernel
theorem dX10_secretAt_59 : decode cX10_secretAt 59 = .ok (.iconst 1, 1) ∧ 59 + 1 = 60 ∧ Int32.ofInt (1) = (1) := by decide +kernel
theorem dX10_secretAt_60 : gd cX10_secretAt 60 (.invokevirtual 45) 3 63 := by decide +kernel
theorem dX10_secretAt_63 : gd cX10_secretAt 63 (.ireturn) 1 64 := by decide +kernel
theorem dX10_safest_0 : gd cX10_safest 0 (.aload_n 0) 1 1 := by decide +kernel
theorem dX10_safest_1 : decode cX10_safest 1 = .ok (.iconst 0, 1) ∧ 1 + 1 = 2 ∧ Int32.ofInt (0) = (0) := by decide +kernel
theorem dX10_safest_2 : gd cX10_safest 2 (.putfield 39) 3 5 := by decide +kernel
theorem dX10_safest_5 : gd cX10_safest 5 (.aload_n 0) 1 6 := by decide +kernel
theorem dX10_safest_6 : gd cX10_safest 6 (.iload_n 1) 1 7 := by decide +kernel
theorem dX10_safest_7 : gd cX10_safest 7 (.iload_n 2) 1 8 := by decide +kernel
theorem dX10_safest_8 : gd cX10_safest 8 (.iload_n 3) 1 9 := by decide +kernel
theorem dX10_safest_9 : gd cX10_safest 9 (.invokevirtual 441) 3 12 := by decide +kernel
theorem dX10_safest_12 : gd cX10_safest 12 (.istore 5) 2 14 := by decide +kernel
theorem dX10_safest_14 : gd cX10_safest 14 (.iload 5) 2 16 := by decide +kernel
theorem dX10_safest_16 : gb cX10_safest 16 (.ifCond .le 11) (11) 19 27 := by decide +kernel
theorem dX10_safest_19 : gd cX10_safest 19 (.aload_n 0) 1 20 := by decide +kernel
theorem dX10_safest_20 : gd cX10_safest 20 (.iload 5) 2 22 := by decide +kernel
theorem dX10_safest_22 : gd cX10_safest 22 (.invokevirtual 45) 3 25 := by decide +kernel
theorem dX10_safest_25 : gd cX10_safest 25 (.i2l) 1 26 := by decide +kernel
theorem dX10_safest_26 : gd cX10_safest 26 (.lreturn) 1 27 := by decide +kernel
theorem dX10_safest_27 : gd cX10_safest 27 (.aload_n 0) 1 28 := by decide +kernel
theorem dX10_safest_28 : decode cX10_safest 28 = .ok (.iconst 2, 1) ∧ 28 + 1 = 29 ∧ Int32.ofInt (2) = (2) := by decide +kernel
theorem dX10_safest_29 : gd cX10_safest 29 (.iload_n 1) 1 30 := by decide +kernel
theorem dX10_safest_30 : gd cX10_safest 30 (.iload_n 2) 1 31 := by decide +kernel
theorem dX10_safest_31 : gd cX10_safest 31 (.iload_n 3) 1 32 := by decide +kernel
theorem dX10_safest_32 : gd cX10_safest 32 (.invokevirtual 431) 3 35 := by decide +kernel
theorem dX10_safest_35 : gb cX10_safest 35 (.ifCond .ne 13) (13) 38 48 := by decide +kernel
theorem dX10_safest_38 : gd cX10_safest 38 (.aload_n 0) 1 39 := by decide +kernel
theorem dX10_safest_39 : decode cX10_safest 39 = .ok (.bipush 6, 2) ∧ 39 + 2 = 41 ∧ (Int8.ofInt (6)).toInt32 = (6) := by decide +kernel
theorem dX10_safest_41 : gd cX10_safest 41 (.invokevirtual 45) 3 44 := by decide +kernel
theorem dX10_safest_44 : gd cX10_safest 44 (.i2l) 1 45 := by decide +kernel
theorem dX10_safest_45 : gb cX10_safest 45 (.goto 16) (16) 48 61 := by decide +kernel
theorem dX10_safest_48 : gd cX10_safest 48 (.aload_n 0) 1 49 := by decide +kernel
theorem dX10_safest_49 : gd cX10_safest 49 (.aload_n 0) 1 50 := by decide +kernel
theorem dX10_safest_50 : gd cX10_safest 50 (.getfield 428) 3 53 := by decide +kernel
theorem dX10_safest_53 : gd cX10_safest 53 (.ldc2_w 412) 3 56 := by decide +kernel
theorem dX10_safest_56 : gd cX10_safest 56 (.iload 4) 2 58 := by decide +kernel
theorem dX10_safest_58 : gd cX10_safest 58 (.invokevirtual 445) 3 61 := by decide +kernel
theorem dX10_safest_61 : gd cX10_safest 61 (.lreturn) 1 62 := by decide +kernel
theorem dX10_safestAt_0 : gd cX10_safestAt 0 (.aload_n 0) 1 1 := by decide +kernel
theorem dX10_safestAt_1 : decode cX10_safestAt 1 = .ok (.iconst 0, 1) ∧ 1 + 1 = 2 ∧ Int32.ofInt (0) = (0) := by decide +kernel
theorem dX10_safestAt_2 : gd cX10_safestAt 2 (.putfield 39) 3 5 := by decide +kernel
theorem dX10_safestAt_5 : gd cX10_safestAt 5 (.aload_n 0) 1 6 := by decide +kernel
theorem dX10_safestAt_6 : gd cX10_safestAt 6 (.iload_n 1) 1 7 := by decide +kernel
theorem dX10_safestAt_7 : gd cX10_safestAt 7 (.iload_n 2) 1 8 := by decide +kernel
theorem dX10_safestAt_8 : gd cX10_safestAt 8 (.iload_n 3) 1 9 := by decide +kernel
theorem dX10_safestAt_9 : gd cX10_safestAt 9 (.invokevirtual 441) 3 12 := by decide +kernel
theorem dX10_safestAt_12 : gd cX10_safestAt 12 (.istore 5) 2 14 := by decide +kernel
theorem dX10_safestAt_14 : gd cX10_safestAt 14 (.iload 5) 2 16 := by decide +kernel
theorem dX10_safestAt_16 : gb cX10_safestAt 16 (.ifCond .le 10) (10) 19 26 := by decide +kernel
theorem dX10_safestAt_19 : gd cX10_safestAt 19 (.aload_n 0) 1 20 := by decide +kernel
theorem dX10_safestAt_20 : gd cX10_safestAt 20 (.iload 5) 2 22 := by decide +kernel
theorem dX10_safestAt_22 : gd cX10_safestAt 22 (.invokevirtual 45) 3 25 := by decide +kernel
theorem dX10_safestAt_25 : gd cX10_safestAt 25 (.ireturn) 1 26 := by decide +kernel
theorem dX10_safestAt_26 : gd cX10_safestAt 26 (.aload_n 0) 1 27 := by decide +kernel
theorem dX10_safestAt_27 : decode cX10_safestAt 27 = .ok (.iconst 2, 1) ∧ 27 + 1 = 28 ∧ Int32.ofInt (2) = (2) := by decide +kernel
theorem dX10_safestAt_28 : gd cX10_safestAt 28 (.iload_n 1) 1 29 := by decide +kernel
theorem dX10_safestAt_29 : gd cX10_safestAt 29 (.iload_n 2) 1 30 := by decide +kernel
theorem dX10_safestAt_30 : gd cX10_safestAt 30 (.iload_n 3) 1 31 := by decide +kernel
theorem dX10_safestAt_31 : gd cX10_safestAt 31 (.invokevirtual 431) 3 34 := by decide +kernel
theorem dX10_safestAt_34 : gd cX10_safestAt 34 (.istore 6) 2 36 := by decide +kernel
theorem dX10_safestAt_36 : gd cX10_safestAt 36 (.iload 6) 2 38 := by decide +kernel
theorem dX10_safestAt_38 : gb cX10_safestAt 38 (.ifCond .ne 10) (10) 41 48 := by decide +kernel
theorem dX10_safestAt_41 : gd cX10_safestAt 41 (.aload_n 0) 1 42 := by decide +kernel
theorem dX10_safestAt_42 : decode cX10_safestAt 42 = .ok (.bipush 6, 2) ∧ 42 + 2 = 44 ∧ (Int8.ofInt (6)).toInt32 = (6) := by decide +kernel
theorem dX10_safestAt_44 : gd cX10_safestAt 44 (.invokevirtual 45) 3 47 := by decide +kernel
theorem dX10_safestAt_47 : gd cX10_safestAt 47 (.ireturn) 1 48 := by decide +kernel
theorem dX10_safestAt_48 : gd cX10_safestAt 48 (.iload 4) 2 50 := by decide +kernel
theorem dX10_safestAt_50 : gb cX10_safestAt 50 (.ifCond .lt 24) (24) 53 74 := by decide +kernel
theorem dX10_safestAt_53 : gd cX10_safestAt 53 (.iload 4) 2 55 := by decide +kernel
theorem dX10_safestAt_55 : gd cX10_safestAt 55 (.iload 6) 2 57 := by decide +kernel
theorem dX10_safestAt_57 : gb cX10_safestAt 57 (.if_icmp .ge 17) (17) 60 74 := by decide +kernel
theorem dX10_safestAt_60 : gd cX10_safestAt 60 (.aload_n 0) 1 61 := by decide +kernel
theorem dX10_safestAt_61 : gd cX10_safestAt 61 (.aload_n 0) 1 62 := by decide +kernel
theorem dX10_safestAt_62 : gd cX10_safestAt 62 (.getfield 30) 3 65 := by decide +kernel
theorem dX10_safestAt_65 : gd cX10_safestAt 65 (.iload 4) 2 67 := by decide +kernel
theorem dX10_safestAt_67 : gd cX10_safestAt 67 (.iaload) 1 68 := by decide +kernel
theorem dX10_safestAt_68 : gd cX10_safestAt 68 (.invokevirtual 49) 3 71 := by decide +kernel
theorem dX10_safestAt_71 : gb cX10_safestAt 71 (.goto 8) (8) 74 79 := by decide +kernel
theorem dX10_safestAt_74 : gd cX10_safestAt 74 (.aload_n 0) 1 75 := by decide +kernel
theorem dX10_safestAt_75 : decode cX10_safestAt 75 = .ok (.iconst 1, 1) ∧ 75 + 1 = 76 ∧ Int32.ofInt (1) = (1) := by decide +kernel
theorem dX10_safestAt_76 : gd cX10_safestAt 76 (.invokevirtual 45) 3 79 := by decide +kernel
theorem dX10_safestAt_79 : gd cX10_safestAt 79 (.ireturn) 1 80 := by decide +kernel
theorem dX10_isSent_0 : gd cX10_isSent 0 (.aload_n 0) 1 1 := by decide +kernel
theorem dX10_isSent_1 : gd cX10_isSent 1 (.getfield 359) 3 4 := by decide +kernel
theorem dX10_isSent_4 : gb cX10_isSent 4 (.ifnull 22) (22) 7 26 := by decide +kernel
theorem dX10_isSent_7 : gd cX10_isSent 7 (.iload_n 1) 1 8 := by decide +kernel
theorem dX10_isSent_8 : gb cX10_isSent 8 (.ifCond .lt 18) (18) 11 26 := by decide +kernel
theorem dX10_isSent_11 : gd cX10_isSent 11 (.iload_n 1) 1 12 := by decide +kernel
theorem dX10_isSent_12 : gd cX10_isSent 12 (.aload_n 0) 1 13 := by decide +kernel
theorem dX10_isSent_13 : gd cX10_isSent 13 (.getfield 359) 3 16 := by decide +kernel
theorem dX10_isSent_16 : gd cX10_isSent 16 (.getfield 325) 3 19 := by decide +kernel
theorem dX10_isSent_19 : gb cX10_isSent 19 (.if_icmp .ge 7) (7) 22 26 := by decide +kernel
theorem dX10_isSent_22 : decode cX10_isSent 22 = .ok (.iconst 1, 1) ∧ 22 + 1 = 23 ∧ Int32.ofInt (1) = (1) := by decide +kernel
theorem dX10_isSent_23 : gb cX10_isSent 23 (.goto 4) (4) 26 27 := by decide +kernel
theorem dX10_isSent_26 : decode cX10_isSent 26 = .ok (.iconst 0, 1) ∧ 26 + 1 = 27 ∧ Int32.ofInt (0) = (0) := by decide +kernel
theorem dX10_isSent_27 : gd cX10_isSent 27 (.ireturn) 1 28 := by decide +kernel
theorem dX10_sent_0 : gd cX10_sent 0 (.aload_n 0) 1 1 := by decide +kernel
theorem dX10_sent_1 : decode cX10_sent 1 = .ok (.iconst 0, 1) ∧ 1 + 1 = 2 ∧ Int32.ofInt (0) = (0) := by decide +kernel
theorem dX10_sent_2 : gd cX10_sent 2 (.putfield 39) 3 5 := by decide +kernel
theorem dX10_sent_5 : gd cX10_sent 5 (.aload_n 0) 1 6 := by decide +kernel
theorem dX10_sent_6 : gd cX10_sent 6 (.iload_n 1) 1 7 := by decide +kernel
theorem dX10_sent_7 : gd cX10_sent 7 (.invokevirtual 449) 3 10 := by decide +kernel
theorem dX10_sent_10 : gb cX10_sent 10 (.ifCond .eq 12) (12) 13 22 := by decide +kernel
theorem dX10_sent_13 : gd cX10_sent 13 (.iload_n 2) 1 14 := by decide +kernel
theorem dX10_sent_14 : decode cX10_sent 14 = .ok (.iconst 0, 1) ∧ 14 + 1 = 15 ∧ Int32.ofInt (0) = (0) := by decide +kernel
theorem dX10_sent_15 : decode cX10_sent 15 = .ok (.iconst 3, 1) ∧ 15 + 1 = 16 ∧ Int32.ofInt (3) = (3) := by decide +kernel
theorem dX10_sent_16 : gd cX10_sent 16 (.invokestatic 134) 3 19 := by decide +kernel
theorem dX10_sent_19 : gb cX10_sent 19 (.ifCond .ne 9) (9) 22 28 := by decide +kernel
theorem dX10_sent_22 : gd cX10_sent 22 (.aload_n 0) 1 23 := by decide +kernel
theorem dX10_sent_23 : decode cX10_sent 23 = .ok (.iconst 1, 1) ∧ 23 + 1 = 24 ∧ Int32.ofInt (1) = (1) := by decide +kernel
theorem dX10_sent_24 : gd cX10_sent 24 (.invokevirtual 45) 3 27 := by decide +kernel
theorem dX10_sent_27 : gd cX10_sent 27 (.ireturn) 1 28 := by decide +kernel
theorem dX10_sent_28 : gd cX10_sent 28 (.iload_n 2) 1 29 := by decide +kernel
theorem dX10_sent_29 : gsw cX10_sent 29 (69) (0) (2) #[27, 41, 55] 27 [56, 70, 84] 98 := by unfold gsw; decide +kernel
theorem dX10_sent_56 : gd cX10_sent 56 (.aload_n 0) 1 57 := by decide +kernel
theorem dX10_sent_57 : gd cX10_sent 57 (.aload_n 0) 1 58 := by decide +kernel
theorem dX10_sent_58 : gd cX10_sent 58 (.getfield 359) 3 61 := by decide +kernel
theorem dX10_sent_61 : gd cX10_sent 61 (.getfield 326) 3 64 := by decide +kernel
theorem dX10_sent_64 : gd cX10_sent 64 (.iload_n 1) 1 65 := by decide +kernel
theorem dX10_sent_65 : gd cX10_sent 65 (.iaload) 1 66 := by decide +kernel
theorem dX10_sent_66 : gd cX10_sent 66 (.invokevirtual 49) 3 69 := by decide +kernel
theorem dX10_sent_69 : gd cX10_sent 69 (.ireturn) 1 70 := by decide +kernel
theorem dX10_sent_70 : gd cX10_sent 70 (.aload_n 0) 1 71 := by decide +kernel
theorem dX10_sent_71 : gd cX10_sent 71 (.aload_n 0) 1 72 := by decide +kernel
theorem dX10_sent_72 : gd cX10_sent 72 (.getfield 359) 3 75 := by decide +kernel
theorem dX10_sent_75 : gd cX10_sent 75 (.getfield 329) 3 78 := by decide +kernel
theorem dX10_sent_78 : gd cX10_sent 78 (.iload_n 1) 1 79 := by decide +kernel
theorem dX10_sent_79 : gd cX10_sent 79 (.iaload) 1 80 := by decide +kernel
theorem dX10_sent_80 : gd cX10_sent 80 (.invokevirtual 49) 3 83 := by decide +kernel
theorem dX10_sent_83 : gd cX10_sent 83 (.ireturn) 1 84 := by decide +kernel
theorem dX10_sent_84 : gd cX10_sent 84 (.aload_n 0) 1 85 := by decide +kernel
theorem dX10_sent_85 : gd cX10_sent 85 (.aload_n 0) 1 86 := by decide +kernel
theorem dX10_sent_86 : gd cX10_sent 86 (.getfield 359) 3 89 := by decide +kernel
theorem dX10_sent_89 : gd cX10_sent 89 (.getfield 332) 3 92 := by decide +kernel
theorem dX10_sent_92 : gd cX10_sent 92 (.iload_n 1) 1 93 := by decide +kernel
theorem dX10_sent_93 : gd cX10_sent 93 (.iaload) 1 94 := by decide +kernel
theorem dX10_sent_94 : gd cX10_sent 94 (.invokevirtual 49) 3 97 := by decide +kernel
theorem dX10_sent_97 : gd cX10_sent 97 (.ireturn) 1 98 := by decide +kernel
theorem dX10_sent_98 : gd cX10_sent 98 (.aload_n 0) 1 99 := by decide +kernel
theorem dX10_sent_99 : gd cX10_sent 99 (.aload_n 0) 1 100 := by decide +kernel
theorem dX10_sent_100 : decode cX10_sent 100 = .ok (.iconst 0, 1) ∧ 100 + 1 = 101 ∧ Int32.ofInt (0) = (0) := by decide +kernel
theorem dX10_sent_101 : decode cX10_sent 101 = .ok (.iconst 0, 1) ∧ 101 + 1 = 102 ∧ Int32.ofInt (0) = (0) := by decide +kernel
theorem dX10_sent_102 : gd cX10_sent 102 (.aload_n 0) 1 103 := by decide +kernel
theorem dX10_sent_103 : gd cX10_sent 103 (.getfield 359) 3 106 := by decide +kernel
theorem dX10_sent_106 : gd cX10_sent 106 (.getfield 329) 3 109 := by decide +kernel
theorem dX10_sent_109 : gd cX10_sent 109 (.iload_n 1) 1 110 := by decide +kernel
theorem dX10_sent_110 : gd cX10_sent 110 (.iaload) 1 111 := by decide +kernel
theorem dX10_sent_111 : gd cX10_sent 111 (.aload_n 0) 1 112 := by decide +kernel
theorem dX10_sent_112 : gd cX10_sent 112 (.getfield 359) 3 115 := by decide +kernel
theorem dX10_sent_115 : gd cX10_sent 115 (.getfield 332) 3 118 := by decide +kernel
theorem dX10_sent_118 : gd cX10_sent 118 (.iload_n 1) 1 119 := by decide +kernel
theorem dX10_sent_119 : gd cX10_sent 119 (.iaload) 1 120 := by decide +kernel
theorem dX10_sent_120 : gd cX10_sent 120 (.invokevirtual 438) 3 123 := by decide +kernel
theorem dX10_sent_123 : gd cX10_sent 123 (.invokevirtual 49) 3 126 := by decide +kernel
theorem dX10_sent_126 : gd cX10_sent 126 (.ireturn) 1 127 := by decide +kernel
theorem dX10_readersOf_0 : gd cX10_readersOf 0 (.aload_n 0) 1 1 := by decide +kernel
theorem dX10_readersOf_1 : gd cX10_readersOf 1 (.getfield 359) 3 4 := by decide +kernel
theorem dX10_readersOf_4 : gd cX10_readersOf 4 (.getfield 326) 3 7 := by decide +kernel
theorem dX10_readersOf_7 : gd cX10_readersOf 7 (.iload_n 1) 1 8 := by decide +kernel
theorem dX10_readersOf_8 : gd cX10_readersOf 8 (.iaload) 1 9 := by decide +kernel
theorem dX10_readersOf_9 : gd cX10_readersOf 9 (.istore_n 2) 1 10 := by decide +kernel
theorem dX10_readersOf_10 : gd cX10_readersOf 10 (.aload_n 0) 1 11 := by decide +kernel
theorem dX10_readersOf_11 : decode cX10_readersOf 11 = .ok (.iconst 0, 1) ∧ 11 + 1 = 12 ∧ Int32.ofInt (0) = (0) := by decide +kernel
theorem dX10_readersOf_12 : gd cX10_readersOf 12 (.putfield 452) 3 15 := by decide +kernel
theorem dX10_readersOf_15 : gd cX10_readersOf 15 (.aload_n 0) 1 16 := by decide +kernel
theorem dX10_readersOf_16 : gd cX10_readersOf 16 (.iload_n 2) 1 17 := by decide +kernel
theorem dX10_readersOf_17 : gd cX10_readersOf 17 (.invokevirtual 383) 3 20 := by decide +kernel
theorem dX10_readersOf_20 : gb cX10_readersOf 20 (.ifCond .eq 5) (5) 23 25 := by decide +kernel
theorem dX10_readersOf_23 : decode cX10_readersOf 23 = .ok (.iconst 0, 1) ∧ 23 + 1 = 24 ∧ Int32.ofInt (0) = (0) := by decide +kernel
theorem dX10_readersOf_24 : gd cX10_readersOf 24 (.ireturn) 1 25 := by decide +kernel
theorem dX10_readersOf_25 : gd cX10_readersOf 25 (.aload_n 0) 1 26 := by decide +kernel
theorem dX10_readersOf_26 : decode cX10_readersOf 26 = .ok (.iconst 0, 1) ∧ 26 + 1 = 27 ∧ Int32.ofInt (0) = (0) := by decide +kernel
theorem dX10_readersOf_27 : decode cX10_readersOf 27 = .ok (.iconst 0, 1) ∧ 27 + 1 = 28 ∧ Int32.ofInt (0) = (0) := by decide +kernel
theorem dX10_readersOf_28 : gd cX10_readersOf 28 (.aload_n 0) 1 29 := by decide +kernel
theorem dX10_readersOf_29 : gd cX10_readersOf 29 (.getfield 359) 3 32 := by decide +kernel
theorem dX10_readersOf_32 : gd cX10_readersOf 32 (.getfield 329) 3 35 := by decide +kernel
theorem dX10_readersOf_35 : gd cX10_readersOf 35 (.iload_n 1) 1 36 := by decide +kernel
theorem dX10_readersOf_36 : gd cX10_readersOf 36 (.iaload) 1 37 := by decide +kernel
theorem dX10_readersOf_37 : gd cX10_readersOf 37 (.aload_n 0) 1 38 := by decide +kernel
theorem dX10_readersOf_38 : gd cX10_readersOf 38 (.getfield 359) 3 41 := by decide +kernel
theorem dX10_readersOf_41 : gd cX10_readersOf 41 (.getfield 332) 3 44 := by decide +kernel
theorem dX10_readersOf_44 : gd cX10_readersOf 44 (.iload_n 1) 1 45 := by decide +kernel
theorem dX10_readersOf_45 : gd cX10_readersOf 45 (.iaload) 1 46 := by decide +kernel
theorem dX10_readersOf_46 : gd cX10_readersOf 46 (.invokevirtual 431) 3 49 := by decide +kernel
theorem dX10_readersOf_49 : gd cX10_readersOf 49 (.istore_n 3) 1 50 := by decide +kernel
theorem dX10_readersOf_50 : decode cX10_readersOf 50 = .ok (.iconst 0, 1) ∧ 50 + 1 = 51 ∧ Int32.ofInt (0) = (0) := by decide +kernel
theorem dX10_readersOf_51 : gd cX10_readersOf 51 (.istore 4) 2 53 := by decide +kernel
theorem dX10_readersOf_53 : decode cX10_readersOf 53 = .ok (.iconst 0, 1) ∧ 53 + 1 = 54 ∧ Int32.ofInt (0) = (0) := by decide +kernel
theorem dX10_readersOf_54 : gd cX10_readersOf 54 (.istore 5) 2 56 := by decide +kernel
theorem dX10_readersOf_56 : gd cX10_readersOf 56 (.iload 5) 2 58 := by decide +kernel
theorem dX10_readersOf_58 : gd cX10_readersOf 58 (.iload_n 3) 1 59 := by decide +kernel
theorem dX10_readersOf_59 : gb cX10_readersOf 59 (.if_icmp .ge 89) (89) 62 148 := by decide +kernel
theorem dX10_readersOf_62 : gd cX10_readersOf 62 (.aload_n 0) 1 63 := by decide +kernel
theorem dX10_readersOf_63 : gd cX10_readersOf 63 (.aload_n 0) 1 64 := by decide +kernel
theorem dX10_readersOf_64 : gd cX10_readersOf 64 (.iload_n 2) 1 65 := by decide +kernel
theorem dX10_readersOf_65 : gd cX10_readersOf 65 (.aload_n 0) 1 66 := by decide +kernel
theorem dX10_readersOf_66 : gd cX10_readersOf 66 (.getfield 359) 3 69 := by decide +kernel
theorem dX10_readersOf_69 : gd cX10_readersOf 69 (.getfield 306) 3 72 := by decide +kernel
theorem dX10_readersOf_72 : gd cX10_readersOf 72 (.aload_n 0) 1 73 := by decide +kernel
theorem dX10_readersOf_73 : gd cX10_readersOf 73 (.getfield 30) 3 76 := by decide +kernel
theorem dX10_readersOf_76 : gd cX10_readersOf 76 (.iload 5) 2 78 := by decide +kernel
theorem dX10_readersOf_78 : gd cX10_readersOf 78 (.iaload) 1 79 := by decide +kernel
theorem dX10_readersOf_79 : gd cX10_readersOf 79 (.iaload) 1 80 := by decide +kernel
theorem dX10_readersOf_80 : gd cX10_readersOf 80 (.invokevirtual 401) 3 83 := by decide +kernel
theorem dX10_readersOf_83 : gd cX10_readersOf 83 (.invokevirtual 404) 3 86 := by decide +kernel
theorem dX10_readersOf_86 : gd cX10_readersOf 86 (.istore 6) 2 88 := by decide +kernel
theorem dX10_readersOf_88 : gd cX10_readersOf 88 (.aload_n 0) 1 89 := by decide +kernel
theorem dX10_readersOf_89 : gd cX10_readersOf 89 (.getfield 359) 3 92 := by decide +kernel
theorem dX10_readersOf_92 : gd cX10_readersOf 92 (.aload_n 0) 1 93 := by decide +kernel
theorem dX10_readersOf_93 : gd cX10_readersOf 93 (.getfield 30) 3 96 := by decide +kernel
theorem dX10_readersOf_96 : gd cX10_readersOf 96 (.iload 5) 2 98 := by decide +kernel
theorem dX10_readersOf_98 : gd cX10_readersOf 98 (.iaload) 1 99 := by decide +kernel
theorem dX10_readersOf_99 : gd cX10_readersOf 99 (.invokevirtual 319) 3 102 := by decide +kernel
theorem dX10_readersOf_102 : gb cX10_readersOf 102 (.ifCond .eq 40) (40) 105 142 := by decide +kernel
theorem dX10_readersOf_105 : gd cX10_readersOf 105 (.iload 6) 2 107 := by decide +kernel
theorem dX10_readersOf_107 : decode cX10_readersOf 107 = .ok (.bipush (-2), 2) ∧ 107 + 2 = 109 ∧ (Int8.ofInt (-2)).toInt32 = (-2) := by decide +kernel
theorem dX10_readersOf_109 : gb cX10_readersOf 109 (.if_icmp .ne 6) (6) 112 115 := by decide +kernel
theorem dX10_readersOf_112 : gb cX10_readersOf 112 (.goto 30) (30) 115 142 := by decide +kernel
theorem dX10_readersOf_115 : gd cX10_readersOf 115 (.iload 4) 2 117 := by decide +kernel
theorem dX10_readersOf_117 : decode cX10_readersOf 117 = .ok (.iconst 1, 1) ∧ 117 + 1 = 118 ∧ Int32.ofInt (1) = (1) := by decide +kernel
theorem dX10_readersOf_118 : gd cX10_readersOf 118 (.aload_n 0) 1 119 := by decide +kernel
theorem dX10_readersOf_119 : gd cX10_readersOf 119 (.getfield 30) 3 122 := by decide +kernel
theorem dX10_readersOf_122 : gd cX10_readersOf 122 (.iload 5) 2 124 := by decide +kernel
theorem dX10_readersOf_124 : gd cX10_readersOf 124 (.iaload) 1 125 := by decide +kernel
theorem dX10_readersOf_125 : gd cX10_readersOf 125 (.ishl) 1 126 := by decide +kernel
theorem dX10_readersOf_126 : gd cX10_readersOf 126 (.ior) 1 127 := by decide +kernel
theorem dX10_readersOf_127 : gd cX10_readersOf 127 (.istore 4) 2 129 := by decide +kernel
theorem dX10_readersOf_129 : gd cX10_readersOf 129 (.aload_n 0) 1 130 := by decide +kernel
theorem dX10_readersOf_130 : gd cX10_readersOf 130 (.dup) 1 131 := by decide +kernel
theorem dX10_readersOf_131 : gd cX10_readersOf 131 (.getfield 452) 3 134 := by decide +kernel
theorem dX10_readersOf_134 : decode cX10_readersOf 134 = .ok (.iconst 1, 1) ∧ 134 + 1 = 135 ∧ Int32.ofInt (1) = (1) := by decide +kernel
theorem dX10_readersOf_135 : gd cX10_readersOf 135 (.iload 6) 2 137 := by decide +kernel
theorem dX10_readersOf_137 : gd cX10_readersOf 137 (.ishl) 1 138 := by decide +kernel
theorem dX10_readersOf_138 : gd cX10_readersOf 138 (.ior) 1 139 := by decide +kernel
theorem dX10_readersOf_139 : gd cX10_readersOf 139 (.putfield 452) 3 142 := by decide +kernel
theorem dX10_readersOf_142 : decode cX10_readersOf 142 = .ok (.iinc 5 1, 3) ∧ 142 + 3 = 145 ∧ Int32.ofInt (1) = (1) := by decide +kernel
theorem dX10_readersOf_145 : gb cX10_readersOf 145 (.goto (-89)) (-89) 148 56 := by decide +kernel
theorem dX10_readersOf_148 : gd cX10_readersOf 148 (.iload 4) 2 150 := by decide +kernel
theorem dX10_readersOf_150 : gd cX10_readersOf 150 (.ireturn) 1 151 := by decide +kernel
theorem dX10_readers_0 : gd cX10_readers 0 (.aload_n 0) 1 1 := by decide +kernel
theorem dX10_readers_1 : decode cX10_readers 1 = .ok (.iconst 0, 1) ∧ 1 + 1 = 2 ∧ Int32.ofInt (0) = (0) := by decide +kernel
theorem dX10_readers_2 : gd cX10_readers 2 (.putfield 39) 3 5 := by decide +kernel
theorem dX10_readers_5 : gd cX10_readers 5 (.aload_n 0) 1 6 := by decide +kernel
theorem dX10_readers_6 : gd cX10_readers 6 (.iload_n 1) 1 7 := by decide +kernel
theorem dX10_readers_7 : gd cX10_readers 7 (.invokevirtual 449) 3 10 := by decide +kernel
theorem dX10_readers_10 : gb cX10_readers 10 (.ifCond .eq 15) (15) 13 25 := by decide +kernel
theorem dX10_readers_13 : gd cX10_readers 13 (.aload_n 0) 1 14 := by decide +kernel
theorem dX10_readers_14 : gd cX10_readers 14 (.aload_n 0) 1 15 := by decide +kernel
theorem dX10_readers_15 : gd cX10_readers 15 (.iload_n 1) 1 16 := by decide +kernel
theorem dX10_readers_16 : gd cX10_readers 16 (.invokevirtual 455) 3 19 := by decide +kernel
theorem dX10_readers_19 : gd cX10_readers 19 (.invokevirtual 49) 3 22 := by decide +kernel
theorem dX10_readers_22 : gb cX10_readers 22 (.goto 8) (8) 25 30 := by decide +kernel
theorem dX10_readers_25 : gd cX10_readers 25 (.aload_n 0) 1 26 := by decide +kernel
theorem dX10_readers_26 : decode cX10_readers 26 = .ok (.iconst 1, 1) ∧ 26 + 1 = 27 ∧ Int32.ofInt (1) = (1) := by decide +kernel
theorem dX10_readers_27 : gd cX10_readers 27 (.invokevirtual 45) 3 30 := by decide +kernel
theorem dX10_readers_30 : gd cX10_readers 30 (.ireturn) 1 31 := by decide +kernel
theorem dX10_overheard_0 : gd cX10_overheard 0 (.aload_n 0) 1 1 := by decide +kernel
theorem dX10_overheard_1 : decode cX10_overheard 1 = .ok (.iconst 0, 1) ∧ 1 + 1 = 2 ∧ Int32.ofInt (0) = (0) := by decide +kernel
theorem dX10_overheard_2 : gd cX10_overheard 2 (.putfield 39) 3 5 := by decide +kernel
theorem dX10_overheard_5 : gd cX10_overheard 5 (.aload_n 0) 1 6 := by decide +kernel
theorem dX10_overheard_6 : gd cX10_overheard 6 (.iload_n 1) 1 7 := by decide +kernel
theorem dX10_overheard_7 : gd cX10_overheard 7 (.invokevirtual 449) 3 10 := by decide +kernel
theorem dX10_overheard_10 : gb cX10_overheard 10 (.ifCond .ne 9) (9) 13 19 := by decide +kernel
theorem dX10_overheard_13 : gd cX10_overheard 13 (.aload_n 0) 1 14 := by decide +kernel
theorem dX10_overheard_14 : decode cX10_overheard 14 = .ok (.iconst 1, 1) ∧ 14 + 1 = 15 ∧ Int32.ofInt (1) = (1) := by decide +kernel
theorem dX10_overheard_15 : gd cX10_overheard 15 (.invokevirtual 45) 3 18 := by decide +kernel
theorem dX10_overheard_18 : gd cX10_overheard 18 (.ireturn) 1 19 := by decide +kernel
theorem dX10_overheard_19 : gd cX10_overheard 19 (.aload_n 0) 1 20 := by decide +kernel
theorem dX10_overheard_20 : gd cX10_overheard 20 (.iload_n 1) 1 21 := by decide +kernel
theorem dX10_overheard_21 : gd cX10_overheard 21 (.invokevirtual 455) 3 24 := by decide +kernel
theorem dX10_overheard_24 : gd cX10_overheard 24 (.pop) 1 25 := by decide +kernel
theorem dX10_overheard_25 : gd cX10_overheard 25 (.aload_n 0) 1 26 := by decide +kernel
theorem dX10_overheard_26 : gd cX10_overheard 26 (.aload_n 0) 1 27 := by decide +kernel
theorem dX10_overheard_27 : gd cX10_overheard 27 (.getfield 452) 3 30 := by decide +kernel
theorem dX10_overheard_30 : gd cX10_overheard 30 (.invokevirtual 49) 3 33 := by decide +kernel
theorem dX10_overheard_33 : gd cX10_overheard 33 (.ireturn) 1 34 := by decide +kernel
theorem dX10_unread_0 : gd cX10_unread 0 (.aload_n 0) 1 1 := by decide +kernel
theorem dX10_unread_1 : decode cX10_unread 1 = .ok (.iconst 0, 1) ∧ 1 + 1 = 2 ∧ Int32.ofInt (0) = (0) := by decide +kernel
theorem dX10_unread_2 : gd cX10_unread 2 (.putfield 39) 3 5 := by decide +kernel
theorem dX10_unread_5 : gd cX10_unread 5 (.aload_n 0) 1 6 := by decide +kernel
theorem dX10_unread_6 : gd cX10_unread 6 (.getfield 359) 3 9 := by decide +kernel
theorem dX10_unread_9 : gb cX10_unread 9 (.ifnonnull 9) (9) 12 18 := by decide +kernel
theorem dX10_unread_12 : gd cX10_unread 12 (.aload_n 0) 1 13 := by decide +kernel
theorem dX10_unread_13 : decode cX10_unread 13 = .ok (.iconst 1, 1) ∧ 13 + 1 = 14 ∧ Int32.ofInt (1) = (1) := by decide +kernel
theorem dX10_unread_14 : gd cX10_unread 14 (.invokevirtual 45) 3 17 := by decide +kernel
theorem dX10_unread_17 : gd cX10_unread 17 (.ireturn) 1 18 := by decide +kernel
theorem dX10_unread_18 : decode cX10_unread 18 = .ok (.iconst 0, 1) ∧ 18 + 1 = 19 ∧ Int32.ofInt (0) = (0) := by decide +kernel
theorem dX10_unread_19 : gd cX10_unread 19 (.istore_n 1) 1 20 := by decide +kernel
theorem dX10_unread_20 : decode cX10_unread 20 = .ok (.iconst 0, 1) ∧ 20 + 1 = 21 ∧ Int32.ofInt (0) = (0) := by decide +kernel
theorem dX10_unread_21 : gd cX10_unread 21 (.istore_n 2) 1 22 := by decide +kernel
theorem dX10_unread_22 : gd cX10_unread 22 (.iload_n 2) 1 23 := by decide +kernel
theorem dX10_unread_23 : gd cX10_unread 23 (.aload_n 0) 1 24 := by decide +kernel
theorem dX10_unread_24 : gd cX10_unread 24 (.getfield 359) 3 27 := by decide +kernel
theorem dX10_unread_27 : gd cX10_unread 27 (.getfield 325) 3 30 := by decide +kernel
theorem dX10_unread_30 : gb cX10_unread 30 (.if_icmp .ge 27) (27) 33 57 := by decide +kernel
theorem dX10_unread_33 : gd cX10_unread 33 (.iload_n 1) 1 34 := by decide +kernel
theorem dX10_unread_34 : gd cX10_unread 34 (.aload_n 0) 1 35 := by decide +kernel
theorem dX10_unread_35 : gd cX10_unread 35 (.iload_n 2) 1 36 := by decide +kernel
theorem dX10_unread_36 : gd cX10_unread 36 (.invokevirtual 455) 3 39 := by decide +kernel
theorem dX10_unread_39 : gb cX10_unread 39 (.ifCond .ne 9) (9) 42 48 := by decide +kernel
theorem dX10_unread_42 : decode cX10_unread 42 = .ok (.iconst 1, 1) ∧ 42 + 1 = 43 ∧ Int32.ofInt (1) = (1) := by decide +kernel
theorem dX10_unread_43 : gd cX10_unread 43 (.iload_n 2) 1 44 := by decide +kernel
theorem dX10_unread_44 : gd cX10_unread 44 (.ishl) 1 45 := by decide +kernel
theorem dX10_unread_45 : gb cX10_unread 45 (.goto 4) (4) 48 49 := by decide +kernel
theorem dX10_unread_48 : decode cX10_unread 48 = .ok (.iconst 0, 1) ∧ 48 + 1 = 49 ∧ Int32.ofInt (0) = (0) := by decide +kernel
theorem dX10_unread_49 : gd cX10_unread 49 (.ior) 1 50 := by decide +kernel
theorem dX10_unread_50 : gd cX10_unread 50 (.istore_n 1) 1 51 := by decide +kernel
theorem dX10_unread_51 : decode cX10_unread 51 = .ok (.iinc 2 1, 3) ∧ 51 + 3 = 54 ∧ Int32.ofInt (1) = (1) := by decide +kernel
theorem dX10_unread_54 : gb cX10_unread 54 (.goto (-32)) (-32) 57 22 := by decide +kernel
theorem dX10_unread_57 : gd cX10_unread 57 (.aload_n 0) 1 58 := by decide +kernel
theorem dX10_unread_58 : gd cX10_unread 58 (.iload_n 1) 1 59 := by decide +kernel
theorem dX10_unread_59 : gd cX10_unread 59 (.invokevirtual 49) 3 62 := by decide +kernel
theorem dX10_unread_62 : gd cX10_unread 62 (.ireturn) 1 63 := by decide +kernel
theorem dX10_makes_0 : gd cX10_makes 0 (.aload_n 0) 1 1 := by decide +kernel
theorem dX10_makes_1 : gd cX10_makes 1 (.aload_n 0) 1 2 := by decide +kernel
theorem dX10_makes_2 : gd cX10_makes 2 (.getfield 359) 3 5 := by decide +kernel
theorem dX10_makes_5 : gd cX10_makes 5 (.getfield 292) 3 8 := by decide +kernel
theorem dX10_makes_8 : gd cX10_makes 8 (.iload_n 1) 1 9 := by decide +kernel
theorem dX10_makes_9 : gd cX10_makes 9 (.iaload) 1 10 := by decide +kernel
theorem dX10_makes_10 : gd cX10_makes 10 (.putfield 458) 3 13 := by decide +kernel
theorem dX10_makes_13 : gd cX10_makes 13 (.aload_n 0) 1 14 := by decide +kernel
theorem dX10_makes_14 : gd cX10_makes 14 (.aload_n 0) 1 15 := by decide +kernel
theorem dX10_makes_15 : gd cX10_makes 15 (.getfield 359) 3 18 := by decide +kernel
theorem dX10_makes_18 : gd cX10_makes 18 (.getfield 292) 3 21 := by decide +kernel
theorem dX10_makes_21 : gd cX10_makes 21 (.iload_n 3) 1 22 := by decide +kernel
theorem dX10_makes_22 : gd cX10_makes 22 (.iaload) 1 23 := by decide +kernel
theorem dX10_makes_23 : gd cX10_makes 23 (.putfield 461) 3 26 := by decide +kernel
theorem dX10_makes_26 : gd cX10_makes 26 (.aload_n 0) 1 27 := by decide +kernel
theorem dX10_makes_27 : gd cX10_makes 27 (.getfield 359) 3 30 := by decide +kernel
theorem dX10_makes_30 : gd cX10_makes 30 (.getfield 292) 3 33 := by decide +kernel
theorem dX10_makes_33 : gd cX10_makes 33 (.iload 5) 2 35 := by decide +kernel
theorem dX10_makes_35 : gd cX10_makes 35 (.iaload) 1 36 := by decide +kernel
theorem dX10_makes_36 : gd cX10_makes 36 (.istore 6) 2 38 := by decide +kernel
theorem dX10_makes_38 : gd cX10_makes 38 (.aload_n 0) 1 39 := by decide +kernel
theorem dX10_makes_39 : gd cX10_makes 39 (.getfield 458) 3 42 := by decide +kernel
theorem dX10_makes_42 : gd cX10_makes 42 (.aload_n 0) 1 43 := by decide +kernel
theorem dX10_makes_43 : gd cX10_makes 43 (.iload_n 2) 1 44 := by decide +kernel
theorem dX10_makes_44 : gd cX10_makes 44 (.invokevirtual 374) 3 47 := by decide +kernel
theorem dX10_makes_47 : gd cX10_makes 47 (.iand) 1 48 := by decide +kernel
theorem dX10_makes_48 : gb cX10_makes 48 (.ifCond .ne 34) (34) 51 82 := by decide +kernel
theorem dX10_makes_51 : gd cX10_makes 51 (.aload_n 0) 1 52 := by decide +kernel
theorem dX10_makes_52 : gd cX10_makes 52 (.getfield 461) 3 55 := by decide +kernel
theorem dX10_makes_55 : gd cX10_makes 55 (.aload_n 0) 1 56 := by decide +kernel
theorem dX10_makes_56 : gd cX10_makes 56 (.iload 4) 2 58 := by decide +kernel
theorem dX10_makes_58 : gd cX10_makes 58 (.invokevirtual 374) 3 61 := by decide +kernel
theorem dX10_makes_61 : gd cX10_makes 61 (.iand) 1 62 := by decide +kernel
theorem dX10_makes_62 : gb cX10_makes 62 (.ifCond .ne 20) (20) 65 82 := by decide +kernel
theorem dX10_makes_65 : gd cX10_makes 65 (.aload_n 0) 1 66 := by decide +kernel
theorem dX10_makes_66 : gd cX10_makes 66 (.getfield 458) 3 69 := by decide +kernel
theorem dX10_makes_69 : gd cX10_makes 69 (.aload_n 0) 1 70 := by decide +kernel
theorem dX10_makes_70 : gd cX10_makes 70 (.getfield 461) 3 73 := by decide +kernel
theorem dX10_makes_73 : gd cX10_makes 73 (.ior) 1 74 := by decide +kernel
theorem dX10_makes_74 : gd cX10_makes 74 (.iload 6) 2 76 := by decide +kernel
theorem dX10_makes_76 : decode cX10_makes 76 = .ok (.iconst (-1), 1) ∧ 76 + 1 = 77 ∧ Int32.ofInt (-1) = (-1) := by decide +kernel
theorem dX10_makes_77 : gd cX10_makes 77 (.ixor) 1 78 := by decide +kernel
theorem dX10_makes_78 : gd cX10_makes 78 (.iand) 1 79 := by decide +kernel
theorem dX10_makes_79 : gb cX10_makes 79 (.ifCond .eq 5) (5) 82 84 := by decide +kernel
theorem dX10_makes_82 : decode cX10_makes 82 = .ok (.iconst 0, 1) ∧ 82 + 1 = 83 ∧ Int32.ofInt (0) = (0) := by decide +kernel
theorem dX10_makes_83 : gd cX10_makes 83 (.ireturn) 1 84 := by decide +kernel
theorem dX10_makes_84 : gd cX10_makes 84 (.iload 6) 2 86 := by decide +kernel
theorem dX10_makes_86 : gd cX10_makes 86 (.aload_n 0) 1 87 := by decide +kernel
theorem dX10_makes_87 : gd cX10_makes 87 (.getfield 458) 3 90 := by decide +kernel
theorem dX10_makes_90 : gd cX10_makes 90 (.aload_n 0) 1 91 := by decide +kernel
theorem dX10_makes_91 : gd cX10_makes 91 (.getfield 461) 3 94 := by decide +kernel
theorem dX10_makes_94 : gd cX10_makes 94 (.ior) 1 95 := by decide +kernel
theorem dX10_makes_95 : decode cX10_makes 95 = .ok (.iconst (-1), 1) ∧ 95 + 1 = 96 ∧ Int32.ofInt (-1) = (-1) := by decide +kernel
theorem dX10_makes_96 : gd cX10_makes 96 (.ixor) 1 97 := by decide +kernel
theorem dX10_makes_97 : gd cX10_makes 97 (.iand) 1 98 := by decide +kernel
theorem dX10_makes_98 : gd cX10_makes 98 (.istore 7) 2 100 := by decide +kernel
theorem dX10_makes_100 : gd cX10_makes 100 (.iload 7) 2 102 := by decide +kernel
theorem dX10_makes_102 : gd cX10_makes 102 (.aload_n 0) 1 103 := by decide +kernel
theorem dX10_makes_103 : gd cX10_makes 103 (.iload 4) 2 105 := by decide +kernel
theorem dX10_makes_105 : gd cX10_makes 105 (.invokevirtual 374) 3 108 := by decide +kernel
theorem dX10_makes_108 : gd cX10_makes 108 (.iand) 1 109 := by decide +kernel
theorem dX10_makes_109 : gd cX10_makes 109 (.istore 8) 2 111 := by decide +kernel
theorem dX10_makes_111 : gd cX10_makes 111 (.aload_n 0) 1 112 := by decide +kernel
theorem dX10_makes_112 : gd cX10_makes 112 (.dup) 1 113 := by decide +kernel
theorem dX10_makes_113 : gd cX10_makes 113 (.getfield 461) 3 116 := by decide +kernel
theorem dX10_makes_116 : gd cX10_makes 116 (.iload 8) 2 118 := by decide +kernel
theorem dX10_makes_118 : gd cX10_makes 118 (.ior) 1 119 := by decide +kernel
theorem dX10_makes_119 : gd cX10_makes 119 (.putfield 461) 3 122 := by decide +kernel
theorem dX10_makes_122 : gd cX10_makes 122 (.iload 7) 2 124 := by decide +kernel
theorem dX10_makes_124 : gd cX10_makes 124 (.iload 8) 2 126 := by decide +kernel
theorem dX10_makes_126 : decode cX10_makes 126 = .ok (.iconst (-1), 1) ∧ 126 + 1 = 127 ∧ Int32.ofInt (-1) = (-1) := by decide +kernel
theorem dX10_makes_127 : gd cX10_makes 127 (.ixor) 1 128 := by decide +kernel
theorem dX10_makes_128 : gd cX10_makes 128 (.iand) 1 129 := by decide +kernel
theorem dX10_makes_129 : gd cX10_makes 129 (.istore 7) 2 131 := by decide +kernel
theorem dX10_makes_131 : gd cX10_makes 131 (.iload 7) 2 133 := by decide +kernel
theorem dX10_makes_133 : gd cX10_makes 133 (.aload_n 0) 1 134 := by decide +kernel
theorem dX10_makes_134 : gd cX10_makes 134 (.iload_n 2) 1 135 := by decide +kernel
theorem dX10_makes_135 : gd cX10_makes 135 (.invokevirtual 374) 3 138 := by decide +kernel
theorem dX10_makes_138 : decode cX10_makes 138 = .ok (.iconst (-1), 1) ∧ 138 + 1 = 139 ∧ Int32.ofInt (-1) = (-1) := by decide +kernel
theorem dX10_makes_139 : gd cX10_makes 139 (.ixor) 1 140 := by decide +kernel
theorem dX10_makes_140 : gd cX10_makes 140 (.iand) 1 141 := by decide +kernel
theorem dX10_makes_141 : gb cX10_makes 141 (.ifCond .eq 5) (5) 144 146 := by decide +kernel
theorem dX10_makes_144 : decode cX10_makes 144 = .ok (.iconst 0, 1) ∧ 144 + 1 = 145 ∧ Int32.ofInt (0) = (0) := by decide +kernel
theorem dX10_makes_145 : gd cX10_makes 145 (.ireturn) 1 146 := by decide +kernel
theorem dX10_makes_146 : gd cX10_makes 146 (.aload_n 0) 1 147 := by decide +kernel
theorem dX10_makes_147 : gd cX10_makes 147 (.dup) 1 148 := by decide +kernel
theorem dX10_makes_148 : gd cX10_makes 148 (.getfield 458) 3 151 := by decide +kernel
theorem dX10_makes_151 : gd cX10_makes 151 (.iload 7) 2 153 := by decide +kernel
theorem dX10_makes_153 : gd cX10_makes 153 (.ior) 1 154 := by decide +kernel
theorem dX10_makes_154 : gd cX10_makes 154 (.putfield 458) 3 157 := by decide +kernel
theorem dX10_makes_157 : decode cX10_makes 157 = .ok (.iconst 1, 1) ∧ 157 + 1 = 158 ∧ Int32.ofInt (1) = (1) := by decide +kernel
theorem dX10_makes_158 : gd cX10_makes 158 (.ireturn) 1 159 := by decide +kernel
theorem dX10_isMade_0 : gd cX10_isMade 0 (.aload_n 0) 1 1 := by decide +kernel
theorem dX10_isMade_1 : gd cX10_isMade 1 (.iload_n 1) 1 2 := by decide +kernel
theorem dX10_isMade_2 : gd cX10_isMade 2 (.invokevirtual 395) 3 5 := by decide +kernel
theorem dX10_isMade_5 : gb cX10_isMade 5 (.ifCond .eq 41) (41) 8 46 := by decide +kernel
theorem dX10_isMade_8 : gd cX10_isMade 8 (.aload_n 0) 1 9 := by decide +kernel
theorem dX10_isMade_9 : gd cX10_isMade 9 (.iload_n 3) 1 10 := by decide +kernel
theorem dX10_isMade_10 : gd cX10_isMade 10 (.invokevirtual 395) 3 13 := by decide +kernel
theorem dX10_isMade_13 : gb cX10_isMade 13 (.ifCond .eq 33) (33) 16 46 := by decide +kernel
theorem dX10_isMade_16 : gd cX10_isMade 16 (.aload_n 0) 1 17 := by decide +kernel
theorem dX10_isMade_17 : gd cX10_isMade 17 (.iload 5) 2 19 := by decide +kernel
theorem dX10_isMade_19 : gd cX10_isMade 19 (.invokevirtual 395) 3 22 := by decide +kernel
theorem dX10_isMade_22 : gb cX10_isMade 22 (.ifCond .eq 24) (24) 25 46 := by decide +kernel
theorem dX10_isMade_25 : gd cX10_isMade 25 (.aload_n 0) 1 26 := by decide +kernel
theorem dX10_isMade_26 : gd cX10_isMade 26 (.iload_n 2) 1 27 := by decide +kernel
theorem dX10_isMade_27 : gd cX10_isMade 27 (.invokevirtual 380) 3 30 := by decide +kernel
theorem dX10_isMade_30 : gb cX10_isMade 30 (.ifCond .eq 16) (16) 33 46 := by decide +kernel
theorem dX10_isMade_33 : gd cX10_isMade 33 (.aload_n 0) 1 34 := by decide +kernel
theorem dX10_isMade_34 : gd cX10_isMade 34 (.iload 4) 2 36 := by decide +kernel
theorem dX10_isMade_36 : gd cX10_isMade 36 (.invokevirtual 380) 3 39 := by decide +kernel
theorem dX10_isMade_39 : gb cX10_isMade 39 (.ifCond .eq 7) (7) 42 46 := by decide +kernel
theorem dX10_isMade_42 : decode cX10_isMade 42 = .ok (.iconst 1, 1) ∧ 42 + 1 = 43 ∧ Int32.ofInt (1) = (1) := by decide +kernel
theorem dX10_isMade_43 : gb cX10_isMade 43 (.goto 4) (4) 46 47 := by decide +kernel
theorem dX10_isMade_46 : decode cX10_isMade 46 = .ok (.iconst 0, 1) ∧ 46 + 1 = 47 ∧ Int32.ofInt (0) = (0) := by decide +kernel
theorem dX10_isMade_47 : gd cX10_isMade 47 (.ireturn) 1 48 := by decide +kernel
theorem dX10_made_0 : gd cX10_made 0 (.aload_n 0) 1 1 := by decide +kernel
theorem dX10_made_1 : decode cX10_made 1 = .ok (.iconst 0, 1) ∧ 1 + 1 = 2 ∧ Int32.ofInt (0) = (0) := by decide +kernel
theorem dX10_made_2 : gd cX10_made 2 (.putfield 39) 3 5 := by decide +kernel
theorem dX10_made_5 : gd cX10_made 5 (.aload_n 0) 1 6 := by decide +kernel
theorem dX10_made_6 : gd cX10_made 6 (.iload_n 1) 1 7 := by decide +kernel
theorem dX10_made_7 : gd cX10_made 7 (.iload_n 2) 1 8 := by decide +kernel
theorem dX10_made_8 : gd cX10_made 8 (.iload_n 3) 1 9 := by decide +kernel
theorem dX10_made_9 : gd cX10_made 9 (.iload 4) 2 11 := by decide +kernel
theorem dX10_made_11 : gd cX10_made 11 (.iload 5) 2 13 := by decide +kernel
theorem dX10_made_13 : gd cX10_made 13 (.invokevirtual 464) 3 16 := by decide +kernel
theorem dX10_made_16 : gb cX10_made 16 (.ifCond .ne 9) (9) 19 25 := by decide +kernel
theorem dX10_made_19 : gd cX10_made 19 (.aload_n 0) 1 20 := by decide +kernel
theorem dX10_made_20 : decode cX10_made 20 = .ok (.iconst 1, 1) ∧ 20 + 1 = 21 ∧ Int32.ofInt (1) = (1) := by decide +kernel
theorem dX10_made_21 : gd cX10_made 21 (.invokevirtual 45) 3 24 := by decide +kernel
theorem dX10_made_24 : gd cX10_made 24 (.ireturn) 1 25 := by decide +kernel
theorem dX10_made_25 : gd cX10_made 25 (.aload_n 0) 1 26 := by decide +kernel
theorem dX10_made_26 : gd cX10_made 26 (.aload_n 0) 1 27 := by decide +kernel
theorem dX10_made_27 : gd cX10_made 27 (.iload_n 1) 1 28 := by decide +kernel
theorem dX10_made_28 : gd cX10_made 28 (.iload_n 2) 1 29 := by decide +kernel
theorem dX10_made_29 : gd cX10_made 29 (.iload_n 3) 1 30 := by decide +kernel
theorem dX10_made_30 : gd cX10_made 30 (.iload 4) 2 32 := by decide +kernel
theorem dX10_made_32 : gd cX10_made 32 (.iload 5) 2 34 := by decide +kernel
theorem dX10_made_34 : gd cX10_made 34 (.invokevirtual 468) 3 37 := by decide +kernel
theorem dX10_made_37 : gb cX10_made 37 (.ifCond .eq 21) (21) 40 58 := by decide +kernel
theorem dX10_made_40 : gd cX10_made 40 (.aload_n 0) 1 41 := by decide +kernel
theorem dX10_made_41 : gd cX10_made 41 (.getfield 458) 3 44 := by decide +kernel
theorem dX10_made_44 : gd cX10_made 44 (.invokestatic 392) 3 47 := by decide +kernel
theorem dX10_made_47 : gd cX10_made 47 (.aload_n 0) 1 48 := by decide +kernel
theorem dX10_made_48 : gd cX10_made 48 (.getfield 461) 3 51 := by decide +kernel
theorem dX10_made_51 : gd cX10_made 51 (.invokestatic 392) 3 54 := by decide +kernel
theorem dX10_made_54 : gd cX10_made 54 (.iadd) 1 55 := by decide +kernel
theorem dX10_made_55 : gb cX10_made 55 (.goto 5) (5) 58 60 := by decide +kernel
theorem dX10_made_58 : decode cX10_made 58 = .ok (.bipush (-2), 2) ∧ 58 + 2 = 60 ∧ (Int8.ofInt (-2)).toInt32 = (-2) := by decide +kernel
theorem dX10_made_60 : gd cX10_made 60 (.invokevirtual 49) 3 63 := by decide +kernel
theorem dX10_made_63 : gd cX10_made 63 (.ireturn) 1 64 := by decide +kernel
theorem dX10_madeOf_0 : gd cX10_madeOf 0 (.aload_n 0) 1 1 := by decide +kernel
theorem dX10_madeOf_1 : decode cX10_madeOf 1 = .ok (.iconst 0, 1) ∧ 1 + 1 = 2 ∧ Int32.ofInt (0) = (0) := by decide +kernel
theorem dX10_madeOf_2 : gd cX10_madeOf 2 (.putfield 39) 3 5 := by decide +kernel
theorem dX10_madeOf_5 : gd cX10_madeOf 5 (.aload_n 0) 1 6 := by decide +kernel
theorem dX10_madeOf_6 : gd cX10_madeOf 6 (.iload_n 1) 1 7 := by decide +kernel
theorem dX10_madeOf_7 : gd cX10_madeOf 7 (.iload_n 2) 1 8 := by decide +kernel
theorem dX10_madeOf_8 : gd cX10_madeOf 8 (.iload_n 3) 1 9 := by decide +kernel
theorem dX10_madeOf_9 : gd cX10_madeOf 9 (.iload 4) 2 11 := by decide +kernel
theorem dX10_madeOf_11 : gd cX10_madeOf 11 (.iload 5) 2 13 := by decide +kernel
theorem dX10_madeOf_13 : gd cX10_madeOf 13 (.invokevirtual 464) 3 16 := by decide +kernel
theorem dX10_madeOf_16 : gb cX10_madeOf 16 (.ifCond .ne 9) (9) 19 25 := by decide +kernel
theorem dX10_madeOf_19 : gd cX10_madeOf 19 (.aload_n 0) 1 20 := by decide +kernel
theorem dX10_madeOf_20 : decode cX10_madeOf 20 = .ok (.iconst 1, 1) ∧ 20 + 1 = 21 ∧ Int32.ofInt (1) = (1) := by decide +kernel
theorem dX10_madeOf_21 : gd cX10_madeOf 21 (.invokevirtual 45) 3 24 := by decide +kernel
theorem dX10_madeOf_24 : gd cX10_madeOf 24 (.ireturn) 1 25 := by decide +kernel
theorem dX10_madeOf_25 : gd cX10_madeOf 25 (.aload_n 0) 1 26 := by decide +kernel
theorem dX10_madeOf_26 : gd cX10_madeOf 26 (.iload_n 1) 1 27 := by decide +kernel
theorem dX10_madeOf_27 : gd cX10_madeOf 27 (.iload_n 2) 1 28 := by decide +kernel
theorem dX10_madeOf_28 : gd cX10_madeOf 28 (.iload_n 3) 1 29 := by decide +kernel
theorem dX10_madeOf_29 : gd cX10_madeOf 29 (.iload 4) 2 31 := by decide +kernel
theorem dX10_madeOf_31 : gd cX10_madeOf 31 (.iload 5) 2 33 := by decide +kernel
theorem dX10_madeOf_33 : gd cX10_madeOf 33 (.invokevirtual 468) 3 36 := by decide +kernel
theorem dX10_madeOf_36 : gb cX10_madeOf 36 (.ifCond .eq 26) (26) 39 62 := by decide +kernel
theorem dX10_madeOf_39 : gd cX10_madeOf 39 (.aload_n 0) 1 40 := by decide +kernel
theorem dX10_madeOf_40 : gd cX10_madeOf 40 (.iload 6) 2 42 := by decide +kernel
theorem dX10_madeOf_42 : gb cX10_madeOf 42 (.ifCond .eq 10) (10) 45 52 := by decide +kernel
theorem dX10_madeOf_45 : gd cX10_madeOf 45 (.aload_n 0) 1 46 := by decide +kernel
theorem dX10_madeOf_46 : gd cX10_madeOf 46 (.getfield 461) 3 49 := by decide +kernel
theorem dX10_madeOf_49 : gb cX10_madeOf 49 (.goto 7) (7) 52 56 := by decide +kernel
theorem dX10_madeOf_52 : gd cX10_madeOf 52 (.aload_n 0) 1 53 := by decide +kernel
theorem dX10_madeOf_53 : gd cX10_madeOf 53 (.getfield 458) 3 56 := by decide +kernel
theorem dX10_madeOf_56 : gd cX10_madeOf 56 (.invokevirtual 49) 3 59 := by decide +kernel
theorem dX10_madeOf_59 : gb cX10_madeOf 59 (.goto 9) (9) 62 68 := by decide +kernel
theorem dX10_madeOf_62 : gd cX10_madeOf 62 (.aload_n 0) 1 63 := by decide +kernel
theorem dX10_madeOf_63 : decode cX10_madeOf 63 = .ok (.bipush 6, 2) ∧ 63 + 2 = 65 ∧ (Int8.ofInt (6)).toInt32 = (6) := by decide +kernel
theorem dX10_madeOf_65 : gd cX10_madeOf 65 (.invokevirtual 45) 3 68 := by decide +kernel
theorem dX10_madeOf_68 : gd cX10_madeOf 68 (.ireturn) 1 69 := by decide +kernel
theorem dX10_putties_0 : decode cX10_putties 0 = .ok (.iconst 0, 1) ∧ 0 + 1 = 1 ∧ Int32.ofInt (0) = (0) := by decide +kernel
theorem dX10_putties_1 : gd cX10_putties 1 (.istore_n 2) 1 2 := by decide +kernel
theorem dX10_putties_2 : decode cX10_putties 2 = .ok (.iconst 0, 1) ∧ 2 + 1 = 3 ∧ Int32.ofInt (0) = (0) := by decide +kernel
theorem dX10_putties_3 : gd cX10_putties 3 (.istore_n 3) 1 4 := by decide +kernel
theorem dX10_putties_4 : gd cX10_putties 4 (.iload_n 3) 1 5 := by decide +kernel
theorem dX10_putties_5 : decode cX10_putties 5 = .ok (.bipush 20, 2) ∧ 5 + 2 = 7 ∧ (Int8.ofInt (20)).toInt32 = (20) := by decide +kernel
theorem dX10_putties_7 : gb cX10_putties 7 (.if_icmp .ge 30) (30) 10 37 := by decide +kernel
theorem dX10_putties_10 : gd cX10_putties 10 (.iload_n 1) 1 11 := by decide +kernel
theorem dX10_putties_11 : gd cX10_putties 11 (.iload_n 3) 1 12 := by decide +kernel
theorem dX10_putties_12 : gd cX10_putties 12 (.invokestatic 367) 3 15 := by decide +kernel
theorem dX10_putties_15 : gb cX10_putties 15 (.ifCond .ne 6) (6) 18 21 := by decide +kernel
theorem dX10_putties_18 : gb cX10_putties 18 (.goto 13) (13) 21 31 := by decide +kernel
theorem dX10_putties_21 : gd cX10_putties 21 (.aload_n 0) 1 22 := by decide +kernel
theorem dX10_putties_22 : gd cX10_putties 22 (.getfield 33) 3 25 := by decide +kernel
theorem dX10_putties_25 : gd cX10_putties 25 (.iload_n 2) 1 26 := by decide +kernel
theorem dX10_putties_26 : gd cX10_putties 26 (.iload_n 3) 1 27 := by decide +kernel
theorem dX10_putties_27 : gd cX10_putties 27 (.iastore) 1 28 := by decide +kernel
theorem dX10_putties_28 : decode cX10_putties 28 = .ok (.iinc 2 1, 3) ∧ 28 + 3 = 31 ∧ Int32.ofInt (1) = (1) := by decide +kernel
theorem dX10_putties_31 : decode cX10_putties 31 = .ok (.iinc 3 1, 3) ∧ 31 + 3 = 34 ∧ Int32.ofInt (1) = (1) := by decide +kernel
theorem dX10_putties_34 : gb cX10_putties 34 (.goto (-30)) (-30) 37 4 := by decide +kernel
theorem dX10_putties_37 : decode cX10_putties 37 = .ok (.iconst 0, 1) ∧ 37 + 1 = 38 ∧ Int32.ofInt (0) = (0) := by decide +kernel
theorem dX10_putties_38 : gd cX10_putties 38 (.istore_n 3) 1 39 := by decide +kernel
theorem dX10_putties_39 : gd cX10_putties 39 (.iload_n 3) 1 40 := by decide +kernel
theorem dX10_putties_40 : decode cX10_putties 40 = .ok (.iconst 4, 1) ∧ 40 + 1 = 41 ∧ Int32.ofInt (4) = (4) := by decide +kernel
theorem dX10_putties_41 : gb cX10_putties 41 (.if_icmp .gt 112) (112) 44 153 := by decide +kernel
theorem dX10_putties_44 : gd cX10_putties 44 (.iload_n 3) 1 45 := by decide +kernel
theorem dX10_putties_45 : gd cX10_putties 45 (.iload_n 2) 1 46 := by decide +kernel
theorem dX10_putties_46 : gb cX10_putties 46 (.if_icmp .gt 107) (107) 49 153 := by decide +kernel
theorem dX10_putties_49 : decode cX10_putties 49 = .ok (.iconst 0, 1) ∧ 49 + 1 = 50 ∧ Int32.ofInt (0) = (0) := by decide +kernel
theorem dX10_putties_50 : gd cX10_putties 50 (.istore 4) 2 52 := by decide +kernel
theorem dX10_putties_52 : gd cX10_putties 52 (.iload 4) 2 54 := by decide +kernel
theorem dX10_putties_54 : gd cX10_putties 54 (.iload_n 3) 1 55 := by decide +kernel
theorem dX10_putties_55 : gb cX10_putties 55 (.if_icmp .ge 18) (18) 58 73 := by decide +kernel
theorem dX10_putties_58 : gd cX10_putties 58 (.aload_n 0) 1 59 := by decide +kernel
theorem dX10_putties_59 : gd cX10_putties 59 (.getfield 36) 3 62 := by decide +kernel
theorem dX10_putties_62 : gd cX10_putties 62 (.iload 4) 2 64 := by decide +kernel
theorem dX10_putties_64 : gd cX10_putties 64 (.iload 4) 2 66 := by decide +kernel
theorem dX10_putties_66 : gd cX10_putties 66 (.iastore) 1 67 := by decide +kernel
theorem dX10_putties_67 : decode cX10_putties 67 = .ok (.iinc 4 1, 3) ∧ 67 + 3 = 70 ∧ Int32.ofInt (1) = (1) := by decide +kernel
theorem dX10_putties_70 : gb cX10_putties 70 (.goto (-18)) (-18) 73 52 := by decide +kernel
theorem dX10_putties_73 : decode cX10_putties 73 = .ok (.iconst 1, 1) ∧ 73 + 1 = 74 ∧ Int32.ofInt (1) = (1) := by decide +kernel
theorem dX10_putties_74 : gd cX10_putties 74 (.istore 4) 2 76 := by decide +kernel
theorem dX10_putties_76 : gd cX10_putties 76 (.iload 4) 2 78 := by decide +kernel
theorem dX10_putties_78 : gb cX10_putties 78 (.ifCond .eq 69) (69) 81 147 := by decide +kernel
theorem dX10_putties_81 : decode cX10_putties 81 = .ok (.iconst 0, 1) ∧ 81 + 1 = 82 ∧ Int32.ofInt (0) = (0) := by decide +kernel
theorem dX10_putties_82 : gd cX10_putties 82 (.istore 5) 2 84 := by decide +kernel
theorem dX10_putties_84 : decode cX10_putties 84 = .ok (.iconst 0, 1) ∧ 84 + 1 = 85 ∧ Int32.ofInt (0) = (0) := by decide +kernel
theorem dX10_putties_85 : gd cX10_putties 85 (.istore 6) 2 87 := by decide +kernel
theorem dX10_putties_87 : gd cX10_putties 87 (.iload 6) 2 89 := by decide +kernel
theorem dX10_putties_89 : gd cX10_putties 89 (.iload_n 3) 1 90 := by decide +kernel
theorem dX10_putties_90 : gb cX10_putties 90 (.if_icmp .ge 28) (28) 93 118 := by decide +kernel
theorem dX10_putties_93 : gd cX10_putties 93 (.iload 5) 2 95 := by decide +kernel
theorem dX10_putties_95 : decode cX10_putties 95 = .ok (.iconst 1, 1) ∧ 95 + 1 = 96 ∧ Int32.ofInt (1) = (1) := by decide +kernel
theorem dX10_putties_96 : gd cX10_putties 96 (.aload_n 0) 1 97 := by decide +kernel
theorem dX10_putties_97 : gd cX10_putties 97 (.getfield 33) 3 100 := by decide +kernel
theorem dX10_putties_100 : gd cX10_putties 100 (.aload_n 0) 1 101 := by decide +kernel
theorem dX10_putties_101 : gd cX10_putties 101 (.getfield 36) 3 104 := by decide +kernel
theorem dX10_putties_104 : gd cX10_putties 104 (.iload 6) 2 106 := by decide +kernel
theorem dX10_putties_106 : gd cX10_putties 106 (.iaload) 1 107 := by decide +kernel
theorem dX10_putties_107 : gd cX10_putties 107 (.iaload) 1 108 := by decide +kernel
theorem dX10_putties_108 : gd cX10_putties 108 (.ishl) 1 109 := by decide +kernel
theorem dX10_putties_109 : gd cX10_putties 109 (.ior) 1 110 := by decide +kernel
theorem dX10_putties_110 : gd cX10_putties 110 (.istore 5) 2 112 := by decide +kernel
theorem dX10_putties_112 : decode cX10_putties 112 = .ok (.iinc 6 1, 3) ∧ 112 + 3 = 115 ∧ Int32.ofInt (1) = (1) := by decide +kernel
theorem dX10_putties_115 : gb cX10_putties 115 (.goto (-28)) (-28) 118 87 := by decide +kernel
theorem dX10_putties_118 : gd cX10_putties 118 (.aload_n 0) 1 119 := by decide +kernel
theorem dX10_putties_119 : gd cX10_putties 119 (.iload_n 1) 1 120 := by decide +kernel
theorem dX10_putties_120 : gd cX10_putties 120 (.iload 5) 2 122 := by decide +kernel
theorem dX10_putties_122 : decode cX10_putties 122 = .ok (.iconst (-1), 1) ∧ 122 + 1 = 123 ∧ Int32.ofInt (-1) = (-1) := by decide +kernel
theorem dX10_putties_123 : gd cX10_putties 123 (.ixor) 1 124 := by decide +kernel
theorem dX10_putties_124 : gd cX10_putties 124 (.iand) 1 125 := by decide +kernel
theorem dX10_putties_125 : gd cX10_putties 125 (.invokevirtual 404) 3 128 := by decide +kernel
theorem dX10_putties_128 : decode cX10_putties 128 = .ok (.bipush (-2), 2) ∧ 128 + 2 = 130 ∧ (Int8.ofInt (-2)).toInt32 = (-2) := by decide +kernel
theorem dX10_putties_130 : gb cX10_putties 130 (.if_icmp .ne 6) (6) 133 136 := by decide +kernel
theorem dX10_putties_133 : gd cX10_putties 133 (.iload 5) 2 135 := by decide +kernel
theorem dX10_putties_135 : gd cX10_putties 135 (.ireturn) 1 136 := by decide +kernel
theorem dX10_putties_136 : gd cX10_putties 136 (.aload_n 0) 1 137 := by decide +kernel
theorem dX10_putties_137 : gd cX10_putties 137 (.iload_n 3) 1 138 := by decide +kernel
theorem dX10_putties_138 : gd cX10_putties 138 (.iload_n 2) 1 139 := by decide +kernel
theorem dX10_putties_139 : gd cX10_putties 139 (.invokevirtual 471) 3 142 := by decide +kernel
theorem dX10_putties_142 : gd cX10_putties 142 (.istore 4) 2 144 := by decide +kernel
theorem dX10_putties_144 : gb cX10_putties 144 (.goto (-68)) (-68) 147 76 := by decide +kernel
theorem dX10_putties_147 : decode cX10_putties 147 = .ok (.iinc 3 1, 3) ∧ 147 + 3 = 150 ∧ Int32.ofInt (1) = (1) := by decide +kernel
theorem dX10_putties_150 : gb cX10_putties 150 (.goto (-111)) (-111) 153 39 := by decide +kernel
theorem dX10_putties_153 : decode cX10_putties 153 = .ok (.iconst (-1), 1) ∧ 153 + 1 = 154 ∧ Int32.ofInt (-1) = (-1) := by decide +kernel
theorem dX10_putties_154 : gd cX10_putties 154 (.ireturn) 1 155 := by decide +kernel
theorem dX10_nextPick_0 : gd cX10_nextPick 0 (.iload_n 1) 1 1 := by decide +kernel
theorem dX10_nextPick_1 : decode cX10_nextPick 1 = .ok (.iconst 1, 1) ∧ 1 + 1 = 2 ∧ Int32.ofInt (1) = (1) := by decide +kernel
theorem dX10_nextPick_2 : gd cX10_nextPick 2 (.isub) 1 3 := by decide +kernel
theorem dX10_nextPick_3 : gd cX10_nextPick 3 (.istore_n 3) 1 4 := by decide +kernel
theorem dX10_nextPick_4 : gd cX10_nextPick 4 (.iload_n 3) 1 5 := by decide +kernel
theorem dX10_nextPick_5 : gb cX10_nextPick 5 (.ifCond .lt 23) (23) 8 28 := by decide +kernel
theorem dX10_nextPick_8 : gd cX10_nextPick 8 (.aload_n 0) 1 9 := by decide +kernel
theorem dX10_nextPick_9 : gd cX10_nextPick 9 (.getfield 36) 3 12 := by decide +kernel
theorem dX10_nextPick_12 : gd cX10_nextPick 12 (.iload_n 3) 1 13 := by decide +kernel
theorem dX10_nextPick_13 : gd cX10_nextPick 13 (.iaload) 1 14 := by decide +kernel
theorem dX10_nextPick_14 : gd cX10_nextPick 14 (.iload_n 2) 1 15 := by decide +kernel
theorem dX10_nextPick_15 : gd cX10_nextPick 15 (.iload_n 1) 1 16 := by decide +kernel
theorem dX10_nextPick_16 : gd cX10_nextPick 16 (.isub) 1 17 := by decide +kernel
theorem dX10_nextPick_17 : gd cX10_nextPick 17 (.iload_n 3) 1 18 := by decide +kernel
theorem dX10_nextPick_18 : gd cX10_nextPick 18 (.iadd) 1 19 := by decide +kernel
theorem dX10_nextPick_19 : gb cX10_nextPick 19 (.if_icmp .ne 9) (9) 22 28 := by decide +kernel
theorem dX10_nextPick_22 : decode cX10_nextPick 22 = .ok (.iinc 3 (-1), 3) ∧ 22 + 3 = 25 ∧ Int32.ofInt (-1) = (-1) := by decide +kernel
theorem dX10_nextPick_25 : gb cX10_nextPick 25 (.goto (-21)) (-21) 28 4 := by decide +kernel
theorem dX10_nextPick_28 : gd cX10_nextPick 28 (.iload_n 3) 1 29 := by decide +kernel
theorem dX10_nextPick_29 : gb cX10_nextPick 29 (.ifCond .ge 5) (5) 32 34 := by decide +kernel
theorem dX10_nextPick_32 : decode cX10_nextPick 32 = .ok (.iconst 0, 1) ∧ 32 + 1 = 33 ∧ Int32.ofInt (0) = (0) := by decide +kernel
theorem dX10_nextPick_33 : gd cX10_nextPick 33 (.ireturn) 1 34 := by decide +kernel
theorem dX10_nextPick_34 : gd cX10_nextPick 34 (.aload_n 0) 1 35 := by decide +kernel
theorem dX10_nextPick_35 : gd cX10_nextPick 35 (.getfield 36) 3 38 := by decide +kernel
theorem dX10_nextPick_38 : gd cX10_nextPick 38 (.iload_n 3) 1 39 := by decide +kernel
theorem dX10_nextPick_39 : gd cX10_nextPick 39 (.dup2) 1 40 := by decide +kernel
theorem dX10_nextPick_40 : gd cX10_nextPick 40 (.iaload) 1 41 := by decide +kernel
theorem dX10_nextPick_41 : decode cX10_nextPick 41 = .ok (.iconst 1, 1) ∧ 41 + 1 = 42 ∧ Int32.ofInt (1) = (1) := by decide +kernel
theorem dX10_nextPick_42 : gd cX10_nextPick 42 (.iadd) 1 43 := by decide +kernel
theorem dX10_nextPick_43 : gd cX10_nextPick 43 (.iastore) 1 44 := by decide +kernel
theorem dX10_nextPick_44 : gd cX10_nextPick 44 (.iload_n 3) 1 45 := by decide +kernel
theorem dX10_nextPick_45 : decode cX10_nextPick 45 = .ok (.iconst 1, 1) ∧ 45 + 1 = 46 ∧ Int32.ofInt (1) = (1) := by decide +kernel
theorem dX10_nextPick_46 : gd cX10_nextPick 46 (.iadd) 1 47 := by decide +kernel
theorem dX10_nextPick_47 : gd cX10_nextPick 47 (.istore 4) 2 49 := by decide +kernel
theorem dX10_nextPick_49 : gd cX10_nextPick 49 (.iload 4) 2 51 := by decide +kernel
theorem dX10_nextPick_51 : gd cX10_nextPick 51 (.iload_n 1) 1 52 := by decide +kernel
theorem dX10_nextPick_52 : gb cX10_nextPick 52 (.if_icmp .ge 27) (27) 55 79 := by decide +kernel
theorem dX10_nextPick_55 : gd cX10_nextPick 55 (.aload_n 0) 1 56 := by decide +kernel
theorem dX10_nextPick_56 : gd cX10_nextPick 56 (.getfield 36) 3 59 := by decide +kernel
theorem dX10_nextPick_59 : gd cX10_nextPick 59 (.iload 4) 2 61 := by decide +kernel
theorem dX10_nextPick_61 : gd cX10_nextPick 61 (.aload_n 0) 1 62 := by decide +kernel
theorem dX10_nextPick_62 : gd cX10_nextPick 62 (.getfield 36) 3 65 := by decide +kernel
theorem dX10_nextPick_65 : gd cX10_nextPick 65 (.iload 4) 2 67 := by decide +kernel
theorem dX10_nextPick_67 : decode cX10_nextPick 67 = .ok (.iconst 1, 1) ∧ 67 + 1 = 68 ∧ Int32.ofInt (1) = (1) := by decide +kernel
theorem dX10_nextPick_68 : gd cX10_nextPick 68 (.isub) 1 69 := by decide +kernel
theorem dX10_nextPick_69 : gd cX10_nextPick 69 (.iaload) 1 70 := by decide +kernel
theorem dX10_nextPick_70 : decode cX10_nextPick 70 = .ok (.iconst 1, 1) ∧ 70 + 1 = 71 ∧ Int32.ofInt (1) = (1) := by decide +kernel
theorem dX10_nextPick_71 : gd cX10_nextPick 71 (.iadd) 1 72 := by decide +kernel
theorem dX10_nextPick_72 : gd cX10_nextPick 72 (.iastore) 1 73 := by decide +kernel
theorem dX10_nextPick_73 : decode cX10_nextPick 73 = .ok (.iinc 4 1, 3) ∧ 73 + 3 = 76 ∧ Int32.ofInt (1) = (1) := by decide +kernel
theorem dX10_nextPick_76 : gb cX10_nextPick 76 (.goto (-27)) (-27) 79 49 := by decide +kernel
theorem dX10_nextPick_79 : decode cX10_nextPick 79 = .ok (.iconst 1, 1) ∧ 79 + 1 = 80 ∧ Int32.ofInt (1) = (1) := by decide +kernel
theorem dX10_nextPick_80 : gd cX10_nextPick 80 (.ireturn) 1 81 := by decide +kernel
theorem dX10_putty_0 : gd cX10_putty 0 (.aload_n 0) 1 1 := by decide +kernel
theorem dX10_putty_1 : decode cX10_putty 1 = .ok (.iconst 0, 1) ∧ 1 + 1 = 2 ∧ Int32.ofInt (0) = (0) := by decide +kernel
theorem dX10_putty_2 : gd cX10_putty 2 (.putfield 39) 3 5 := by decide +kernel
theorem dX10_putty_5 : gd cX10_putty 5 (.aload_n 0) 1 6 := by decide +kernel
theorem dX10_putty_6 : gd cX10_putty 6 (.iload_n 1) 1 7 := by decide +kernel
theorem dX10_putty_7 : gd cX10_putty 7 (.iload_n 2) 1 8 := by decide +kernel
theorem dX10_putty_8 : gd cX10_putty 8 (.invokevirtual 398) 3 11 := by decide +kernel
theorem dX10_putty_11 : gd cX10_putty 11 (.istore_n 3) 1 12 := by decide +kernel
theorem dX10_putty_12 : gd cX10_putty 12 (.iload_n 3) 1 13 := by decide +kernel
theorem dX10_putty_13 : gb cX10_putty 13 (.ifCond .le 9) (9) 16 22 := by decide +kernel
theorem dX10_putty_16 : gd cX10_putty 16 (.aload_n 0) 1 17 := by decide +kernel
theorem dX10_putty_17 : gd cX10_putty 17 (.iload_n 3) 1 18 := by decide +kernel
theorem dX10_putty_18 : gd cX10_putty 18 (.invokevirtual 45) 3 21 := by decide +kernel
theorem dX10_putty_21 : gd cX10_putty 21 (.ireturn) 1 22 := by decide +kernel
theorem dX10_putty_22 : gd cX10_putty 22 (.aload_n 0) 1 23 := by decide +kernel
theorem dX10_putty_23 : gd cX10_putty 23 (.aload_n 0) 1 24 := by decide +kernel
theorem dX10_putty_24 : gd cX10_putty 24 (.iload_n 1) 1 25 := by decide +kernel
theorem dX10_putty_25 : gd cX10_putty 25 (.iload_n 2) 1 26 := by decide +kernel
theorem dX10_putty_26 : gd cX10_putty 26 (.invokevirtual 401) 3 29 := by decide +kernel
theorem dX10_putty_29 : gd cX10_putty 29 (.invokevirtual 474) 3 32 := by decide +kernel
theorem dX10_putty_32 : gd cX10_putty 32 (.istore 4) 2 34 := by decide +kernel
theorem dX10_putty_34 : gd cX10_putty 34 (.aload_n 0) 1 35 := by decide +kernel
theorem dX10_putty_35 : gd cX10_putty 35 (.iload 4) 2 37 := by decide +kernel
theorem dX10_putty_37 : decode cX10_putty 37 = .ok (.iconst (-1), 1) ∧ 37 + 1 = 38 ∧ Int32.ofInt (-1) = (-1) := by decide +kernel
theorem dX10_putty_38 : gb cX10_putty 38 (.if_icmp .ne 8) (8) 41 46 := by decide +kernel
theorem dX10_putty_41 : decode cX10_putty 41 = .ok (.bipush (-2), 2) ∧ 41 + 2 = 43 ∧ (Int8.ofInt (-2)).toInt32 = (-2) := by decide +kernel
theorem dX10_putty_43 : gb cX10_putty 43 (.goto 8) (8) 46 51 := by decide +kernel
theorem dX10_putty_46 : gd cX10_putty 46 (.iload 4) 2 48 := by decide +kernel
theorem dX10_putty_48 : gd cX10_putty 48 (.invokestatic 392) 3 51 := by decide +kernel
theorem dX10_putty_51 : gd cX10_putty 51 (.invokevirtual 49) 3 54 := by decide +kernel
theorem dX10_putty_54 : gd cX10_putty 54 (.ireturn) 1 55 := by decide +kernel
theorem dX10_puttyOf_0 : gd cX10_puttyOf 0 (.aload_n 0) 1 1 := by decide +kernel
theorem dX10_puttyOf_1 : decode cX10_puttyOf 1 = .ok (.iconst 0, 1) ∧ 1 + 1 = 2 ∧ Int32.ofInt (0) = (0) := by decide +kernel
theorem dX10_puttyOf_2 : gd cX10_puttyOf 2 (.putfield 39) 3 5 := by decide +kernel
theorem dX10_puttyOf_5 : gd cX10_puttyOf 5 (.aload_n 0) 1 6 := by decide +kernel
theorem dX10_puttyOf_6 : gd cX10_puttyOf 6 (.iload_n 1) 1 7 := by decide +kernel
theorem dX10_puttyOf_7 : gd cX10_puttyOf 7 (.iload_n 2) 1 8 := by decide +kernel
theorem dX10_puttyOf_8 : gd cX10_puttyOf 8 (.invokevirtual 398) 3 11 := by decide +kernel
theorem dX10_puttyOf_11 : gd cX10_puttyOf 11 (.istore_n 3) 1 12 := by decide +kernel
theorem dX10_puttyOf_12 : gd cX10_puttyOf 12 (.iload_n 3) 1 13 := by decide +kernel
theorem dX10_puttyOf_13 : gb cX10_puttyOf 13 (.ifCond .le 9) (9) 16 22 := by decide +kernel
theorem dX10_puttyOf_16 : gd cX10_puttyOf 16 (.aload_n 0) 1 17 := by decide +kernel
theorem dX10_puttyOf_17 : gd cX10_puttyOf 17 (.iload_n 3) 1 18 := by decide +kernel
theorem dX10_puttyOf_18 : gd cX10_puttyOf 18 (.invokevirtual 45) 3 21 := by decide +kernel
theorem dX10_puttyOf_21 : gd cX10_puttyOf 21 (.ireturn) 1 22 := by decide +kernel
theorem dX10_puttyOf_22 : gd cX10_puttyOf 22 (.aload_n 0) 1 23 := by decide +kernel
theorem dX10_puttyOf_23 : gd cX10_puttyOf 23 (.aload_n 0) 1 24 := by decide +kernel
theorem dX10_puttyOf_24 : gd cX10_puttyOf 24 (.iload_n 1) 1 25 := by decide +kernel
theorem dX10_puttyOf_25 : gd cX10_puttyOf 25 (.iload_n 2) 1 26 := by decide +kernel
theorem dX10_puttyOf_26 : gd cX10_puttyOf 26 (.invokevirtual 401) 3 29 := by decide +kernel
theorem dX10_puttyOf_29 : gd cX10_puttyOf 29 (.invokevirtual 474) 3 32 := by decide +kernel
theorem dX10_puttyOf_32 : gd cX10_puttyOf 32 (.istore 4) 2 34 := by decide +kernel
theorem dX10_puttyOf_34 : gd cX10_puttyOf 34 (.aload_n 0) 1 35 := by decide +kernel
theorem dX10_puttyOf_35 : gd cX10_puttyOf 35 (.iload 4) 2 37 := by decide +kernel
theorem dX10_puttyOf_37 : decode cX10_puttyOf 37 = .ok (.iconst (-1), 1) ∧ 37 + 1 = 38 ∧ Int32.ofInt (-1) = (-1) := by decide +kernel
theorem dX10_puttyOf_38 : gb cX10_puttyOf 38 (.if_icmp .ne 7) (7) 41 45 := by decide +kernel
theorem dX10_puttyOf_41 : decode cX10_puttyOf 41 = .ok (.iconst 0, 1) ∧ 41 + 1 = 42 ∧ Int32.ofInt (0) = (0) := by decide +kernel
theorem dX10_puttyOf_42 : gb cX10_puttyOf 42 (.goto 5) (5) 45 47 := by decide +kernel
theorem dX10_puttyOf_45 : gd cX10_puttyOf 45 (.iload 4) 2 47 := by decide +kernel
theorem dX10_puttyOf_47 : gd cX10_puttyOf 47 (.invokevirtual 49) 3 50 := by decide +kernel
theorem dX10_puttyOf_50 : gd cX10_puttyOf 50 (.ireturn) 1 51 := by decide +kernel
theorem dX10_scratchesOf_0 : gd cX10_scratchesOf 0 (.aload_n 0) 1 1 := by decide +kernel
theorem dX10_scratchesOf_1 : gd cX10_scratchesOf 1 (.iload_n 1) 1 2 := by decide +kernel
theorem dX10_scratchesOf_2 : gd cX10_scratchesOf 2 (.iload_n 2) 1 3 := by decide +kernel
theorem dX10_scratchesOf_3 : gd cX10_scratchesOf 3 (.invokevirtual 401) 3 6 := by decide +kernel
theorem dX10_scratchesOf_6 : gd cX10_scratchesOf 6 (.istore 4) 2 8 := by decide +kernel
theorem dX10_scratchesOf_8 : gd cX10_scratchesOf 8 (.aload_n 0) 1 9 := by decide +kernel
theorem dX10_scratchesOf_9 : gd cX10_scratchesOf 9 (.getfield 359) 3 12 := by decide +kernel
theorem dX10_scratchesOf_12 : gd cX10_scratchesOf 12 (.getfield 292) 3 15 := by decide +kernel
theorem dX10_scratchesOf_15 : gd cX10_scratchesOf 15 (.iload_n 3) 1 16 := by decide +kernel
theorem dX10_scratchesOf_16 : gd cX10_scratchesOf 16 (.iaload) 1 17 := by decide +kernel
theorem dX10_scratchesOf_17 : gd cX10_scratchesOf 17 (.iload 4) 2 19 := by decide +kernel
theorem dX10_scratchesOf_19 : decode cX10_scratchesOf 19 = .ok (.iconst (-1), 1) ∧ 19 + 1 = 20 ∧ Int32.ofInt (-1) = (-1) := by decide +kernel
theorem dX10_scratchesOf_20 : gd cX10_scratchesOf 20 (.ixor) 1 21 := by decide +kernel
theorem dX10_scratchesOf_21 : gd cX10_scratchesOf 21 (.iand) 1 22 := by decide +kernel
theorem dX10_scratchesOf_22 : gd cX10_scratchesOf 22 (.istore 5) 2 24 := by decide +kernel
theorem dX10_scratchesOf_24 : gd cX10_scratchesOf 24 (.iload 4) 2 26 := by decide +kernel
theorem dX10_scratchesOf_26 : gd cX10_scratchesOf 26 (.aload_n 0) 1 27 := by decide +kernel
theorem dX10_scratchesOf_27 : gd cX10_scratchesOf 27 (.getfield 359) 3 30 := by decide +kernel
theorem dX10_scratchesOf_30 : gd cX10_scratchesOf 30 (.getfield 292) 3 33 := by decide +kernel
theorem dX10_scratchesOf_33 : gd cX10_scratchesOf 33 (.iload_n 3) 1 34 := by decide +kernel
theorem dX10_scratchesOf_34 : gd cX10_scratchesOf 34 (.iaload) 1 35 := by decide +kernel
theorem dX10_scratchesOf_35 : decode cX10_scratchesOf 35 = .ok (.iconst (-1), 1) ∧ 35 + 1 = 36 ∧ Int32.ofInt (-1) = (-1) := by decide +kernel
theorem dX10_scratchesOf_36 : gd cX10_scratchesOf 36 (.ixor) 1 37 := by decide +kernel
theorem dX10_scratchesOf_37 : gd cX10_scratchesOf 37 (.iand) 1 38 := by decide +kernel
theorem dX10_scratchesOf_38 : gb cX10_scratchesOf 38 (.ifCond .ne 24) (24) 41 62 := by decide +kernel
theorem dX10_scratchesOf_41 : gd cX10_scratchesOf 41 (.iload 5) 2 43 := by decide +kernel
theorem dX10_scratchesOf_43 : gd cX10_scratchesOf 43 (.aload_n 0) 1 44 := by decide +kernel
theorem dX10_scratchesOf_44 : gd cX10_scratchesOf 44 (.iload_n 2) 1 45 := by decide +kernel
theorem dX10_scratchesOf_45 : gd cX10_scratchesOf 45 (.invokevirtual 374) 3 48 := by decide +kernel
theorem dX10_scratchesOf_48 : gd cX10_scratchesOf 48 (.aload_n 0) 1 49 := by decide +kernel
theorem dX10_scratchesOf_49 : gd cX10_scratchesOf 49 (.getfield 17) 3 52 := by decide +kernel
theorem dX10_scratchesOf_52 : decode cX10_scratchesOf 52 = .ok (.bipush 8, 2) ∧ 52 + 2 = 54 ∧ (Int8.ofInt (8)).toInt32 = (8) := by decide +kernel
theorem dX10_scratchesOf_54 : gd cX10_scratchesOf 54 (.iload_n 1) 1 55 := by decide +kernel
theorem dX10_scratchesOf_55 : gd cX10_scratchesOf 55 (.iadd) 1 56 := by decide +kernel
theorem dX10_scratchesOf_56 : gd cX10_scratchesOf 56 (.iaload) 1 57 := by decide +kernel
theorem dX10_scratchesOf_57 : gd cX10_scratchesOf 57 (.ior) 1 58 := by decide +kernel
theorem dX10_scratchesOf_58 : gd cX10_scratchesOf 58 (.iand) 1 59 := by decide +kernel
theorem dX10_scratchesOf_59 : gb cX10_scratchesOf 59 (.ifCond .eq 6) (6) 62 65 := by decide +kernel
theorem dX10_scratchesOf_62 : decode cX10_scratchesOf 62 = .ok (.bipush (-2), 2) ∧ 62 + 2 = 64 ∧ (Int8.ofInt (-2)).toInt32 = (-2) := by decide +kernel
theorem dX10_scratchesOf_64 : gd cX10_scratchesOf 64 (.ireturn) 1 65 := by decide +kernel
theorem dX10_scratchesOf_65 : gd cX10_scratchesOf 65 (.iload 5) 2 67 := by decide +kernel
theorem dX10_scratchesOf_67 : gd cX10_scratchesOf 67 (.invokestatic 392) 3 70 := by decide +kernel
theorem dX10_scratchesOf_70 : gd cX10_scratchesOf 70 (.ireturn) 1 71 := by decide +kernel
theorem dX10_scratches_0 : gd cX10_scratches 0 (.aload_n 0) 1 1 := by decide +kernel
theorem dX10_scratches_1 : decode cX10_scratches 1 = .ok (.iconst 0, 1) ∧ 1 + 1 = 2 ∧ Int32.ofInt (0) = (0) := by decide +kernel
theorem dX10_scratches_2 : gd cX10_scratches 2 (.putfield 39) 3 5 := by decide +kernel
theorem dX10_scratches_5 : gd cX10_scratches 5 (.aload_n 0) 1 6 := by decide +kernel
theorem dX10_scratches_6 : gd cX10_scratches 6 (.iload_n 3) 1 7 := by decide +kernel
theorem dX10_scratches_7 : gd cX10_scratches 7 (.invokevirtual 395) 3 10 := by decide +kernel
theorem dX10_scratches_10 : gb cX10_scratches 10 (.ifCond .ne 9) (9) 13 19 := by decide +kernel
theorem dX10_scratches_13 : gd cX10_scratches 13 (.aload_n 0) 1 14 := by decide +kernel
theorem dX10_scratches_14 : decode cX10_scratches 14 = .ok (.iconst 1, 1) ∧ 14 + 1 = 15 ∧ Int32.ofInt (1) = (1) := by decide +kernel
theorem dX10_scratches_15 : gd cX10_scratches 15 (.invokevirtual 45) 3 18 := by decide +kernel
theorem dX10_scratches_18 : gd cX10_scratches 18 (.ireturn) 1 19 := by decide +kernel
theorem dX10_scratches_19 : gd cX10_scratches 19 (.aload_n 0) 1 20 := by decide +kernel
theorem dX10_scratches_20 : gd cX10_scratches 20 (.iload_n 1) 1 21 := by decide +kernel
theorem dX10_scratches_21 : gd cX10_scratches 21 (.iload_n 2) 1 22 := by decide +kernel
theorem dX10_scratches_22 : gd cX10_scratches 22 (.invokevirtual 398) 3 25 := by decide +kernel
theorem dX10_scratches_25 : gd cX10_scratches 25 (.istore 4) 2 27 := by decide +kernel
theorem dX10_scratches_27 : gd cX10_scratches 27 (.iload 4) 2 29 := by decide +kernel
theorem dX10_scratches_29 : gb cX10_scratches 29 (.ifCond .le 12) (12) 32 41 := by decide +kernel
theorem dX10_scratches_32 : gd cX10_scratches 32 (.aload_n 0) 1 33 := by decide +kernel
theorem dX10_scratches_33 : gd cX10_scratches 33 (.iload 4) 2 35 := by decide +kernel
theorem dX10_scratches_35 : gd cX10_scratches 35 (.invokevirtual 45) 3 38 := by decide +kernel
theorem dX10_scratches_38 : gb cX10_scratches 38 (.goto 14) (14) 41 52 := by decide +kernel
theorem dX10_scratches_41 : gd cX10_scratches 41 (.aload_n 0) 1 42 := by decide +kernel
theorem dX10_scratches_42 : gd cX10_scratches 42 (.aload_n 0) 1 43 := by decide +kernel
theorem dX10_scratches_43 : gd cX10_scratches 43 (.iload_n 1) 1 44 := by decide +kernel
theorem dX10_scratches_44 : gd cX10_scratches 44 (.iload_n 2) 1 45 := by decide +kernel
theorem dX10_scratches_45 : gd cX10_scratches 45 (.iload_n 3) 1 46 := by decide +kernel
theorem dX10_scratches_46 : gd cX10_scratches 46 (.invokevirtual 477) 3 49 := by decide +kernel
theorem dX10_scratches_49 : gd cX10_scratches 49 (.invokevirtual 49) 3 52 := by decide +kernel
theorem dX10_scratches_52 : gd cX10_scratches 52 (.ireturn) 1 53 := by decide +kernel
theorem dX10_could_0 : gd cX10_could 0 (.aload_n 0) 1 1 := by decide +kernel
theorem dX10_could_1 : decode cX10_could 1 = .ok (.iconst 0, 1) ∧ 1 + 1 = 2 ∧ Int32.ofInt (0) = (0) := by decide +kernel
theorem dX10_could_2 : gd cX10_could 2 (.putfield 39) 3 5 := by decide +kernel
theorem dX10_could_5 : gd cX10_could 5 (.aload_n 0) 1 6 := by decide +kernel
theorem dX10_could_6 : gd cX10_could 6 (.iload_n 1) 1 7 := by decide +kernel
theorem dX10_could_7 : gd cX10_could 7 (.iload_n 2) 1 8 := by decide +kernel
theorem dX10_could_8 : gd cX10_could 8 (.invokevirtual 398) 3 11 := by decide +kernel
theorem dX10_could_11 : gd cX10_could 11 (.istore_n 3) 1 12 := by decide +kernel
theorem dX10_could_12 : gd cX10_could 12 (.iload_n 3) 1 13 := by decide +kernel
theorem dX10_could_13 : gb cX10_could 13 (.ifCond .le 9) (9) 16 22 := by decide +kernel
theorem dX10_could_16 : gd cX10_could 16 (.aload_n 0) 1 17 := by decide +kernel
theorem dX10_could_17 : gd cX10_could 17 (.iload_n 3) 1 18 := by decide +kernel
theorem dX10_could_18 : gd cX10_could 18 (.invokevirtual 45) 3 21 := by decide +kernel
theorem dX10_could_21 : gd cX10_could 21 (.ireturn) 1 22 := by decide +kernel
theorem dX10_could_22 : decode cX10_could 22 = .ok (.iconst 0, 1) ∧ 22 + 1 = 23 ∧ Int32.ofInt (0) = (0) := by decide +kernel
theorem dX10_could_23 : gd cX10_could 23 (.istore 4) 2 25 := by decide +kernel
theorem dX10_could_25 : decode cX10_could 25 = .ok (.iconst 0, 1) ∧ 25 + 1 = 26 ∧ Int32.ofInt (0) = (0) := by decide +kernel
theorem dX10_could_26 : gd cX10_could 26 (.istore 5) 2 28 := by decide +kernel
theorem dX10_could_28 : gd cX10_could 28 (.iload 5) 2 30 := by decide +kernel
theorem dX10_could_30 : gd cX10_could 30 (.aload_n 0) 1 31 := by decide +kernel
theorem dX10_could_31 : gd cX10_could 31 (.getfield 359) 3 34 := by decide +kernel
theorem dX10_could_34 : gd cX10_could 34 (.getfield 289) 3 37 := by decide +kernel
theorem dX10_could_37 : gb cX10_could 37 (.if_icmp .ge 35) (35) 40 72 := by decide +kernel
theorem dX10_could_40 : gd cX10_could 40 (.iload 4) 2 42 := by decide +kernel
theorem dX10_could_42 : gd cX10_could 42 (.aload_n 0) 1 43 := by decide +kernel
theorem dX10_could_43 : gd cX10_could 43 (.iload_n 1) 1 44 := by decide +kernel
theorem dX10_could_44 : gd cX10_could 44 (.iload_n 2) 1 45 := by decide +kernel
theorem dX10_could_45 : gd cX10_could 45 (.iload 5) 2 47 := by decide +kernel
theorem dX10_could_47 : gd cX10_could 47 (.invokevirtual 477) 3 50 := by decide +kernel
theorem dX10_could_50 : decode cX10_could 50 = .ok (.bipush (-2), 2) ∧ 50 + 2 = 52 ∧ (Int8.ofInt (-2)).toInt32 = (-2) := by decide +kernel
theorem dX10_could_52 : gb cX10_could 52 (.if_icmp .ne 7) (7) 55 59 := by decide +kernel
theorem dX10_could_55 : decode cX10_could 55 = .ok (.iconst 0, 1) ∧ 55 + 1 = 56 ∧ Int32.ofInt (0) = (0) := by decide +kernel
theorem dX10_could_56 : gb cX10_could 56 (.goto 7) (7) 59 63 := by decide +kernel
theorem dX10_could_59 : decode cX10_could 59 = .ok (.iconst 1, 1) ∧ 59 + 1 = 60 ∧ Int32.ofInt (1) = (1) := by decide +kernel
theorem dX10_could_60 : gd cX10_could 60 (.iload 5) 2 62 := by decide +kernel
theorem dX10_could_62 : gd cX10_could 62 (.ishl) 1 63 := by decide +kernel
theorem dX10_could_63 : gd cX10_could 63 (.ior) 1 64 := by decide +kernel
theorem dX10_could_64 : gd cX10_could 64 (.istore 4) 2 66 := by decide +kernel
theorem dX10_could_66 : decode cX10_could 66 = .ok (.iinc 5 1, 3) ∧ 66 + 3 = 69 ∧ Int32.ofInt (1) = (1) := by decide +kernel
theorem dX10_could_69 : gb cX10_could 69 (.goto (-41)) (-41) 72 28 := by decide +kernel
theorem dX10_could_72 : gd cX10_could 72 (.aload_n 0) 1 73 := by decide +kernel
theorem dX10_could_73 : gd cX10_could 73 (.iload 4) 2 75 := by decide +kernel
theorem dX10_could_75 : gd cX10_could 75 (.invokevirtual 49) 3 78 := by decide +kernel
theorem dX10_could_78 : gd cX10_could 78 (.ireturn) 1 79 := by decide +kernel
theorem dX10_isWhole_0 : decode cX10_isWhole 0 = .ok (.iconst 0, 1) ∧ 0 + 1 = 1 ∧ Int32.ofInt (0) = (0) := by decide +kernel
theorem dX10_isWhole_1 : gd cX10_isWhole 1 (.istore_n 2) 1 2 := by decide +kernel
theorem dX10_isWhole_2 : decode cX10_isWhole 2 = .ok (.iconst 0, 1) ∧ 2 + 1 = 3 ∧ Int32.ofInt (0) = (0) := by decide +kernel
theorem dX10_isWhole_3 : gd cX10_isWhole 3 (.istore_n 3) 1 4 := by decide +kernel
theorem dX10_isWhole_4 : gd cX10_isWhole 4 (.iload_n 3) 1 5 := by decide +kernel
theorem dX10_isWhole_5 : gd cX10_isWhole 5 (.aload_n 0) 1 6 := by decide +kernel
theorem dX10_isWhole_6 : gd cX10_isWhole 6 (.getfield 359) 3 9 := by decide +kernel
theorem dX10_isWhole_9 : gd cX10_isWhole 9 (.getfield 338) 3 12 := by decide +kernel
theorem dX10_isWhole_12 : gb cX10_isWhole 12 (.if_icmp .ge 48) (48) 15 60 := by decide +kernel
theorem dX10_isWhole_15 : gd cX10_isWhole 15 (.iload_n 1) 1 16 := by decide +kernel
theorem dX10_isWhole_16 : gd cX10_isWhole 16 (.iload_n 3) 1 17 := by decide +kernel
theorem dX10_isWhole_17 : gd cX10_isWhole 17 (.invokestatic 367) 3 20 := by decide +kernel
theorem dX10_isWhole_20 : gb cX10_isWhole 20 (.ifCond .ne 6) (6) 23 26 := by decide +kernel
theorem dX10_isWhole_23 : gb cX10_isWhole 23 (.goto 31) (31) 26 54 := by decide +kernel
theorem dX10_isWhole_26 : gd cX10_isWhole 26 (.iload_n 2) 1 27 := by decide +kernel
theorem dX10_isWhole_27 : gd cX10_isWhole 27 (.aload_n 0) 1 28 := by decide +kernel
theorem dX10_isWhole_28 : gd cX10_isWhole 28 (.getfield 359) 3 31 := by decide +kernel
theorem dX10_isWhole_31 : gd cX10_isWhole 31 (.getfield 344) 3 34 := by decide +kernel
theorem dX10_isWhole_34 : gd cX10_isWhole 34 (.iload_n 3) 1 35 := by decide +kernel
theorem dX10_isWhole_35 : gd cX10_isWhole 35 (.iaload) 1 36 := by decide +kernel
theorem dX10_isWhole_36 : gd cX10_isWhole 36 (.iand) 1 37 := by decide +kernel
theorem dX10_isWhole_37 : gb cX10_isWhole 37 (.ifCond .eq 5) (5) 40 42 := by decide +kernel
theorem dX10_isWhole_40 : decode cX10_isWhole 40 = .ok (.iconst 0, 1) ∧ 40 + 1 = 41 ∧ Int32.ofInt (0) = (0) := by decide +kernel
theorem dX10_isWhole_41 : gd cX10_isWhole 41 (.ireturn) 1 42 := by decide +kernel
theorem dX10_isWhole_42 : gd cX10_isWhole 42 (.iload_n 2) 1 43 := by decide +kernel
theorem dX10_isWhole_43 : gd cX10_isWhole 43 (.aload_n 0) 1 44 := by decide +kernel
theorem dX10_isWhole_44 : gd cX10_isWhole 44 (.getfield 359) 3 47 := by decide +kernel
theorem dX10_isWhole_47 : gd cX10_isWhole 47 (.getfield 344) 3 50 := by decide +kernel
theorem dX10_isWhole_50 : gd cX10_isWhole 50 (.iload_n 3) 1 51 := by decide +kernel
theorem dX10_isWhole_51 : gd cX10_isWhole 51 (.iaload) 1 52 := by decide +kernel
theorem dX10_isWhole_52 : gd cX10_isWhole 52 (.ior) 1 53 := by decide +kernel
theorem dX10_isWhole_53 : gd cX10_isWhole 53 (.istore_n 2) 1 54 := by decide +kernel
theorem dX10_isWhole_54 : decode cX10_isWhole 54 = .ok (.iinc 3 1, 3) ∧ 54 + 3 = 57 ∧ Int32.ofInt (1) = (1) := by decide +kernel
theorem dX10_isWhole_57 : gb cX10_isWhole 57 (.goto (-53)) (-53) 60 4 := by decide +kernel
theorem dX10_isWhole_60 : gd cX10_isWhole 60 (.iload_n 2) 1 61 := by decide +kernel
theorem dX10_isWhole_61 : gd cX10_isWhole 61 (.aload_n 0) 1 62 := by decide +kernel
theorem dX10_isWhole_62 : gd cX10_isWhole 62 (.getfield 359) 3 65 := by decide +kernel
theorem dX10_isWhole_65 : gd cX10_isWhole 65 (.invokevirtual 480) 3 68 := by decide +kernel
theorem dX10_isWhole_68 : gb cX10_isWhole 68 (.if_icmp .ne 7) (7) 71 75 := by decide +kernel
theorem dX10_isWhole_71 : decode cX10_isWhole 71 = .ok (.iconst 1, 1) ∧ 71 + 1 = 72 ∧ Int32.ofInt (1) = (1) := by decide +kernel
theorem dX10_isWhole_72 : gb cX10_isWhole 72 (.goto 4) (4) 75 76 := by decide +kernel
theorem dX10_isWhole_75 : decode cX10_isWhole 75 = .ok (.iconst 0, 1) ∧ 75 + 1 = 76 ∧ Int32.ofInt (0) = (0) := by decide +kernel
theorem dX10_isWhole_76 : gd cX10_isWhole 76 (.ireturn) 1 77 := by decide +kernel
theorem dX10_wholeAt_0 : decode cX10_wholeAt 0 = .ok (.iconst 0, 1) ∧ 0 + 1 = 1 ∧ Int32.ofInt (0) = (0) := by decide +kernel
theorem dX10_wholeAt_1 : gd cX10_wholeAt 1 (.istore_n 2) 1 2 := by decide +kernel
theorem dX10_wholeAt_2 : decode cX10_wholeAt 2 = .ok (.iconst 0, 1) ∧ 2 + 1 = 3 ∧ Int32.ofInt (0) = (0) := by decide +kernel
theorem dX10_wholeAt_3 : gd cX10_wholeAt 3 (.istore_n 3) 1 4 := by decide +kernel
theorem dX10_wholeAt_4 : gd cX10_wholeAt 4 (.aload_n 0) 1 5 := by decide +kernel
theorem dX10_wholeAt_5 : gd cX10_wholeAt 5 (.getfield 359) 3 8 := by decide +kernel
theorem dX10_wholeAt_8 : gb cX10_wholeAt 8 (.ifnull 43) (43) 11 51 := by decide +kernel
theorem dX10_wholeAt_11 : gd cX10_wholeAt 11 (.iload_n 3) 1 12 := by decide +kernel
theorem dX10_wholeAt_12 : decode cX10_wholeAt 12 = .ok (.iconst 1, 1) ∧ 12 + 1 = 13 ∧ Int32.ofInt (1) = (1) := by decide +kernel
theorem dX10_wholeAt_13 : gd cX10_wholeAt 13 (.aload_n 0) 1 14 := by decide +kernel
theorem dX10_wholeAt_14 : gd cX10_wholeAt 14 (.getfield 359) 3 17 := by decide +kernel
theorem dX10_wholeAt_17 : gd cX10_wholeAt 17 (.getfield 338) 3 20 := by decide +kernel
theorem dX10_wholeAt_20 : gd cX10_wholeAt 20 (.ishl) 1 21 := by decide +kernel
theorem dX10_wholeAt_21 : gb cX10_wholeAt 21 (.if_icmp .ge 30) (30) 24 51 := by decide +kernel
theorem dX10_wholeAt_24 : gd cX10_wholeAt 24 (.aload_n 0) 1 25 := by decide +kernel
theorem dX10_wholeAt_25 : gd cX10_wholeAt 25 (.iload_n 3) 1 26 := by decide +kernel
theorem dX10_wholeAt_26 : gd cX10_wholeAt 26 (.invokevirtual 483) 3 29 := by decide +kernel
theorem dX10_wholeAt_29 : gb cX10_wholeAt 29 (.ifCond .ne 6) (6) 32 35 := by decide +kernel
theorem dX10_wholeAt_32 : gb cX10_wholeAt 32 (.goto 13) (13) 35 45 := by decide +kernel
theorem dX10_wholeAt_35 : gd cX10_wholeAt 35 (.iload_n 2) 1 36 := by decide +kernel
theorem dX10_wholeAt_36 : gd cX10_wholeAt 36 (.iload_n 1) 1 37 := by decide +kernel
theorem dX10_wholeAt_37 : gb cX10_wholeAt 37 (.if_icmp .ne 5) (5) 40 42 := by decide +kernel
theorem dX10_wholeAt_40 : gd cX10_wholeAt 40 (.iload_n 3) 1 41 := by decide +kernel
theorem dX10_wholeAt_41 : gd cX10_wholeAt 41 (.ireturn) 1 42 := by decide +kernel
theorem dX10_wholeAt_42 : decode cX10_wholeAt 42 = .ok (.iinc 2 1, 3) ∧ 42 + 3 = 45 ∧ Int32.ofInt (1) = (1) := by decide +kernel
theorem dX10_wholeAt_45 : decode cX10_wholeAt 45 = .ok (.iinc 3 1, 3) ∧ 45 + 3 = 48 ∧ Int32.ofInt (1) = (1) := by decide +kernel
theorem dX10_wholeAt_48 : gb cX10_wholeAt 48 (.goto (-44)) (-44) 51 4 := by decide +kernel
theorem dX10_wholeAt_51 : decode cX10_wholeAt 51 = .ok (.iconst (-1), 1) ∧ 51 + 1 = 52 ∧ Int32.ofInt (-1) = (-1) := by decide +kernel
theorem dX10_wholeAt_52 : gd cX10_wholeAt 52 (.ireturn) 1 53 := by decide +kernel
theorem dX10_wholes_0 : gd cX10_wholes 0 (.aload_n 0) 1 1 := by decide +kernel
theorem dX10_wholes_1 : decode cX10_wholes 1 = .ok (.iconst 0, 1) ∧ 1 + 1 = 2 ∧ Int32.ofInt (0) = (0) := by decide +kernel
theorem dX10_wholes_2 : gd cX10_wholes 2 (.putfield 39) 3 5 := by decide +kernel
theorem dX10_wholes_5 : gd cX10_wholes 5 (.aload_n 0) 1 6 := by decide +kernel
theorem dX10_wholes_6 : gd cX10_wholes 6 (.getfield 359) 3 9 := by decide +kernel
theorem dX10_wholes_9 : gb cX10_wholes 9 (.ifnonnull 9) (9) 12 18 := by decide +kernel
theorem dX10_wholes_12 : gd cX10_wholes 12 (.aload_n 0) 1 13 := by decide +kernel
theorem dX10_wholes_13 : decode cX10_wholes 13 = .ok (.iconst 1, 1) ∧ 13 + 1 = 14 ∧ Int32.ofInt (1) = (1) := by decide +kernel
theorem dX10_wholes_14 : gd cX10_wholes 14 (.invokevirtual 45) 3 17 := by decide +kernel
theorem dX10_wholes_17 : gd cX10_wholes 17 (.ireturn) 1 18 := by decide +kernel
theorem dX10_wholes_18 : decode cX10_wholes 18 = .ok (.iconst 0, 1) ∧ 18 + 1 = 19 ∧ Int32.ofInt (0) = (0) := by decide +kernel
theorem dX10_wholes_19 : gd cX10_wholes 19 (.istore_n 1) 1 20 := by decide +kernel
theorem dX10_wholes_20 : decode cX10_wholes 20 = .ok (.iconst 0, 1) ∧ 20 + 1 = 21 ∧ Int32.ofInt (0) = (0) := by decide +kernel
theorem dX10_wholes_21 : gd cX10_wholes 21 (.istore_n 2) 1 22 := by decide +kernel
theorem dX10_wholes_22 : gd cX10_wholes 22 (.iload_n 2) 1 23 := by decide +kernel
theorem dX10_wholes_23 : decode cX10_wholes 23 = .ok (.iconst 1, 1) ∧ 23 + 1 = 24 ∧ Int32.ofInt (1) = (1) := by decide +kernel
theorem dX10_wholes_24 : gd cX10_wholes 24 (.aload_n 0) 1 25 := by decide +kernel
theorem dX10_wholes_25 : gd cX10_wholes 25 (.getfield 359) 3 28 := by decide +kernel
theorem dX10_wholes_28 : gd cX10_wholes 28 (.getfield 338) 3 31 := by decide +kernel
theorem dX10_wholes_31 : gd cX10_wholes 31 (.ishl) 1 32 := by decide +kernel
theorem dX10_wholes_32 : gb cX10_wholes 32 (.if_icmp .ge 25) (25) 35 57 := by decide +kernel
theorem dX10_wholes_35 : gd cX10_wholes 35 (.iload_n 1) 1 36 := by decide +kernel
theorem dX10_wholes_36 : gd cX10_wholes 36 (.aload_n 0) 1 37 := by decide +kernel
theorem dX10_wholes_37 : gd cX10_wholes 37 (.iload_n 2) 1 38 := by decide +kernel
theorem dX10_wholes_38 : gd cX10_wholes 38 (.invokevirtual 483) 3 41 := by decide +kernel
theorem dX10_wholes_41 : gb cX10_wholes 41 (.ifCond .eq 7) (7) 44 48 := by decide +kernel
theorem dX10_wholes_44 : decode cX10_wholes 44 = .ok (.iconst 1, 1) ∧ 44 + 1 = 45 ∧ Int32.ofInt (1) = (1) := by decide +kernel
theorem dX10_wholes_45 : gb cX10_wholes 45 (.goto 4) (4) 48 49 := by decide +kernel
theorem dX10_wholes_48 : decode cX10_wholes 48 = .ok (.iconst 0, 1) ∧ 48 + 1 = 49 ∧ Int32.ofInt (0) = (0) := by decide +kernel
theorem dX10_wholes_49 : gd cX10_wholes 49 (.iadd) 1 50 := by decide +kernel
theorem dX10_wholes_50 : gd cX10_wholes 50 (.istore_n 1) 1 51 := by decide +kernel
theorem dX10_wholes_51 : decode cX10_wholes 51 = .ok (.iinc 2 1, 3) ∧ 51 + 3 = 54 ∧ Int32.ofInt (1) = (1) := by decide +kernel
theorem dX10_wholes_54 : gb cX10_wholes 54 (.goto (-32)) (-32) 57 22 := by decide +kernel
theorem dX10_wholes_57 : gd cX10_wholes 57 (.aload_n 0) 1 58 := by decide +kernel
theorem dX10_wholes_58 : gd cX10_wholes 58 (.iload_n 1) 1 59 := by decide +kernel
theorem dX10_wholes_59 : gd cX10_wholes 59 (.invokevirtual 49) 3 62 := by decide +kernel
theorem dX10_wholes_62 : gd cX10_wholes 62 (.ireturn) 1 63 := by decide +kernel
theorem dX10_whole_0 : gd cX10_whole 0 (.aload_n 0) 1 1 := by decide +kernel
theorem dX10_whole_1 : decode cX10_whole 1 = .ok (.iconst 0, 1) ∧ 1 + 1 = 2 ∧ Int32.ofInt (0) = (0) := by decide +kernel
theorem dX10_whole_2 : gd cX10_whole 2 (.putfield 39) 3 5 := by decide +kernel
theorem dX10_whole_5 : gd cX10_whole 5 (.aload_n 0) 1 6 := by decide +kernel
theorem dX10_whole_6 : gd cX10_whole 6 (.iload_n 1) 1 7 := by decide +kernel
theorem dX10_whole_7 : gd cX10_whole 7 (.invokevirtual 486) 3 10 := by decide +kernel
theorem dX10_whole_10 : gd cX10_whole 10 (.istore_n 2) 1 11 := by decide +kernel
theorem dX10_whole_11 : gd cX10_whole 11 (.iload_n 2) 1 12 := by decide +kernel
theorem dX10_whole_12 : decode cX10_whole 12 = .ok (.iconst (-1), 1) ∧ 12 + 1 = 13 ∧ Int32.ofInt (-1) = (-1) := by decide +kernel
theorem dX10_whole_13 : gb cX10_whole 13 (.if_icmp .ne 11) (11) 16 24 := by decide +kernel
theorem dX10_whole_16 : gd cX10_whole 16 (.aload_n 0) 1 17 := by decide +kernel
theorem dX10_whole_17 : decode cX10_whole 17 = .ok (.iconst 1, 1) ∧ 17 + 1 = 18 ∧ Int32.ofInt (1) = (1) := by decide +kernel
theorem dX10_whole_18 : gd cX10_whole 18 (.invokevirtual 45) 3 21 := by decide +kernel
theorem dX10_whole_21 : gb cX10_whole 21 (.goto 8) (8) 24 29 := by decide +kernel
theorem dX10_whole_24 : gd cX10_whole 24 (.aload_n 0) 1 25 := by decide +kernel
theorem dX10_whole_25 : gd cX10_whole 25 (.iload_n 2) 1 26 := by decide +kernel
theorem dX10_whole_26 : gd cX10_whole 26 (.invokevirtual 49) 3 29 := by decide +kernel
theorem dX10_whole_29 : gd cX10_whole 29 (.ireturn) 1 30 := by decide +kernel
theorem dX10_writtenBy_0 : decode cX10_writtenBy 0 = .ok (.iconst 0, 1) ∧ 0 + 1 = 1 ∧ Int32.ofInt (0) = (0) := by decide +kernel
theorem dX10_writtenBy_1 : gd cX10_writtenBy 1 (.istore_n 2) 1 2 := by decide +kernel
theorem dX10_writtenBy_2 : decode cX10_writtenBy 2 = .ok (.iconst 0, 1) ∧ 2 + 1 = 3 ∧ Int32.ofInt (0) = (0) := by decide +kernel
theorem dX10_writtenBy_3 : gd cX10_writtenBy 3 (.istore_n 3) 1 4 := by decide +kernel
theorem dX10_writtenBy_4 : gd cX10_writtenBy 4 (.iload_n 3) 1 5 := by decide +kernel
theorem dX10_writtenBy_5 : gd cX10_writtenBy 5 (.aload_n 0) 1 6 := by decide +kernel
theorem dX10_writtenBy_6 : gd cX10_writtenBy 6 (.getfield 359) 3 9 := by decide +kernel
theorem dX10_writtenBy_9 : gd cX10_writtenBy 9 (.getfield 338) 3 12 := by decide +kernel
theorem dX10_writtenBy_12 : gb cX10_writtenBy 12 (.if_icmp .ge 33) (33) 15 45 := by decide +kernel
theorem dX10_writtenBy_15 : gd cX10_writtenBy 15 (.iload_n 2) 1 16 := by decide +kernel
theorem dX10_writtenBy_16 : gd cX10_writtenBy 16 (.iload_n 1) 1 17 := by decide +kernel
theorem dX10_writtenBy_17 : gd cX10_writtenBy 17 (.iload_n 3) 1 18 := by decide +kernel
theorem dX10_writtenBy_18 : gd cX10_writtenBy 18 (.invokestatic 367) 3 21 := by decide +kernel
theorem dX10_writtenBy_21 : gb cX10_writtenBy 21 (.ifCond .eq 15) (15) 24 36 := by decide +kernel
theorem dX10_writtenBy_24 : gd cX10_writtenBy 24 (.aload_n 0) 1 25 := by decide +kernel
theorem dX10_writtenBy_25 : gd cX10_writtenBy 25 (.getfield 359) 3 28 := by decide +kernel
theorem dX10_writtenBy_28 : gd cX10_writtenBy 28 (.getfield 347) 3 31 := by decide +kernel
theorem dX10_writtenBy_31 : gd cX10_writtenBy 31 (.iload_n 3) 1 32 := by decide +kernel
theorem dX10_writtenBy_32 : gd cX10_writtenBy 32 (.iaload) 1 33 := by decide +kernel
theorem dX10_writtenBy_33 : gb cX10_writtenBy 33 (.goto 4) (4) 36 37 := by decide +kernel
theorem dX10_writtenBy_36 : decode cX10_writtenBy 36 = .ok (.iconst 0, 1) ∧ 36 + 1 = 37 ∧ Int32.ofInt (0) = (0) := by decide +kernel
theorem dX10_writtenBy_37 : gd cX10_writtenBy 37 (.ior) 1 38 := by decide +kernel
theorem dX10_writtenBy_38 : gd cX10_writtenBy 38 (.istore_n 2) 1 39 := by decide +kernel
theorem dX10_writtenBy_39 : decode cX10_writtenBy 39 = .ok (.iinc 3 1, 3) ∧ 39 + 3 = 42 ∧ Int32.ofInt (1) = (1) := by decide +kernel
theorem dX10_writtenBy_42 : gb cX10_writtenBy 42 (.goto (-38)) (-38) 45 4 := by decide +kernel
theorem dX10_writtenBy_45 : gd cX10_writtenBy 45 (.iload_n 2) 1 46 := by decide +kernel
theorem dX10_writtenBy_46 : gd cX10_writtenBy 46 (.ireturn) 1 47 := by decide +kernel
theorem dX10_written_0 : gd cX10_written 0 (.aload_n 0) 1 1 := by decide +kernel
theorem dX10_written_1 : decode cX10_written 1 = .ok (.iconst 0, 1) ∧ 1 + 1 = 2 ∧ Int32.ofInt (0) = (0) := by decide +kernel
theorem dX10_written_2 : gd cX10_written 2 (.putfield 39) 3 5 := by decide +kernel
theorem dX10_written_5 : gd cX10_written 5 (.aload_n 0) 1 6 := by decide +kernel
theorem dX10_written_6 : gd cX10_written 6 (.iload_n 1) 1 7 := by decide +kernel
theorem dX10_written_7 : gd cX10_written 7 (.invokevirtual 486) 3 10 := by decide +kernel
theorem dX10_written_10 : gd cX10_written 10 (.istore_n 2) 1 11 := by decide +kernel
theorem dX10_written_11 : gd cX10_written 11 (.iload_n 2) 1 12 := by decide +kernel
theorem dX10_written_12 : decode cX10_written 12 = .ok (.iconst (-1), 1) ∧ 12 + 1 = 13 ∧ Int32.ofInt (-1) = (-1) := by decide +kernel
theorem dX10_written_13 : gb cX10_written 13 (.if_icmp .ne 11) (11) 16 24 := by decide +kernel
theorem dX10_written_16 : gd cX10_written 16 (.aload_n 0) 1 17 := by decide +kernel
theorem dX10_written_17 : decode cX10_written 17 = .ok (.iconst 1, 1) ∧ 17 + 1 = 18 ∧ Int32.ofInt (1) = (1) := by decide +kernel
theorem dX10_written_18 : gd cX10_written 18 (.invokevirtual 45) 3 21 := by decide +kernel
theorem dX10_written_21 : gb cX10_written 21 (.goto 12) (12) 24 33 := by decide +kernel
theorem dX10_written_24 : gd cX10_written 24 (.aload_n 0) 1 25 := by decide +kernel
theorem dX10_written_25 : gd cX10_written 25 (.aload_n 0) 1 26 := by decide +kernel
theorem dX10_written_26 : gd cX10_written 26 (.iload_n 2) 1 27 := by decide +kernel
theorem dX10_written_27 : gd cX10_written 27 (.invokevirtual 489) 3 30 := by decide +kernel
theorem dX10_written_30 : gd cX10_written 30 (.invokevirtual 49) 3 33 := by decide +kernel
theorem dX10_written_33 : gd cX10_written 33 (.ireturn) 1 34 := by decide +kernel
theorem dX10_wordOf_0 : gd cX10_wordOf 0 (.aload_n 0) 1 1 := by decide +kernel
theorem dX10_wordOf_1 : decode cX10_wordOf 1 = .ok (.iconst 0, 1) ∧ 1 + 1 = 2 ∧ Int32.ofInt (0) = (0) := by decide +kernel
theorem dX10_wordOf_2 : gd cX10_wordOf 2 (.putfield 39) 3 5 := by decide +kernel
theorem dX10_wordOf_5 : gd cX10_wordOf 5 (.aload_n 0) 1 6 := by decide +kernel
theorem dX10_wordOf_6 : gd cX10_wordOf 6 (.iload_n 1) 1 7 := by decide +kernel
theorem dX10_wordOf_7 : gd cX10_wordOf 7 (.invokevirtual 486) 3 10 := by decide +kernel
theorem dX10_wordOf_10 : gd cX10_wordOf 10 (.istore_n 2) 1 11 := by decide +kernel
theorem dX10_wordOf_11 : gd cX10_wordOf 11 (.iload_n 2) 1 12 := by decide +kernel
theorem dX10_wordOf_12 : decode cX10_wordOf 12 = .ok (.iconst (-1), 1) ∧ 12 + 1 = 13 ∧ Int32.ofInt (-1) = (-1) := by decide +kernel
theorem dX10_wordOf_13 : gb cX10_wordOf 13 (.if_icmp .ne 11) (11) 16 24 := by decide +kernel
theorem dX10_wordOf_16 : gd cX10_wordOf 16 (.aload_n 0) 1 17 := by decide +kernel
theorem dX10_wordOf_17 : decode cX10_wordOf 17 = .ok (.iconst 1, 1) ∧ 17 + 1 = 18 ∧ Int32.ofInt (1) = (1) := by decide +kernel
theorem dX10_wordOf_18 : gd cX10_wordOf 18 (.invokevirtual 45) 3 21 := by decide +kernel
theorem dX10_wordOf_21 : gb cX10_wordOf 21 (.goto 16) (16) 24 37 := by decide +kernel
theorem dX10_wordOf_24 : gd cX10_wordOf 24 (.aload_n 0) 1 25 := by decide +kernel
theorem dX10_wordOf_25 : gd cX10_wordOf 25 (.aload_n 0) 1 26 := by decide +kernel
theorem dX10_wordOf_26 : gd cX10_wordOf 26 (.aload_n 0) 1 27 := by decide +kernel
theorem dX10_wordOf_27 : gd cX10_wordOf 27 (.iload_n 2) 1 28 := by decide +kernel
theorem dX10_wordOf_28 : gd cX10_wordOf 28 (.invokevirtual 489) 3 31 := by decide +kernel
theorem dX10_wordOf_31 : gd cX10_wordOf 31 (.invokevirtual 404) 3 34 := by decide +kernel
theorem dX10_wordOf_34 : gd cX10_wordOf 34 (.invokevirtual 49) 3 37 := by decide +kernel
theorem dX10_wordOf_37 : gd cX10_wordOf 37 (.ireturn) 1 38 := by decide +kernel
theorem dX10_cellsOf_0 : decode cX10_cellsOf 0 = .ok (.iconst 0, 1) ∧ 0 + 1 = 1 ∧ Int32.ofInt (0) = (0) := by decide +kernel
theorem dX10_cellsOf_1 : gd cX10_cellsOf 1 (.istore_n 3) 1 2 := by decide +kernel
theorem dX10_cellsOf_2 : decode cX10_cellsOf 2 = .ok (.iconst 0, 1) ∧ 2 + 1 = 3 ∧ Int32.ofInt (0) = (0) := by decide +kernel
theorem dX10_cellsOf_3 : gd cX10_cellsOf 3 (.istore 4) 2 5 := by decide +kernel
theorem dX10_cellsOf_5 : gd cX10_cellsOf 5 (.iload 4) 2 7 := by decide +kernel
theorem dX10_cellsOf_7 : gd cX10_cellsOf 7 (.aload_n 0) 1 8 := by decide +kernel
theorem dX10_cellsOf_8 : gd cX10_cellsOf 8 (.getfield 359) 3 11 := by decide +kernel
theorem dX10_cellsOf_11 : gd cX10_cellsOf 11 (.getfield 338) 3 14 := by decide +kernel
theorem dX10_cellsOf_14 : gb cX10_cellsOf 14 (.if_icmp .ge 52) (52) 17 66 := by decide +kernel
theorem dX10_cellsOf_17 : gd cX10_cellsOf 17 (.iload_n 3) 1 18 := by decide +kernel
theorem dX10_cellsOf_18 : gd cX10_cellsOf 18 (.iload_n 2) 1 19 := by decide +kernel
theorem dX10_cellsOf_19 : gd cX10_cellsOf 19 (.iload 4) 2 21 := by decide +kernel
theorem dX10_cellsOf_21 : gd cX10_cellsOf 21 (.invokestatic 367) 3 24 := by decide +kernel
theorem dX10_cellsOf_24 : gb cX10_cellsOf 24 (.ifCond .eq 33) (33) 27 57 := by decide +kernel
theorem dX10_cellsOf_27 : gd cX10_cellsOf 27 (.aload_n 0) 1 28 := by decide +kernel
theorem dX10_cellsOf_28 : gd cX10_cellsOf 28 (.getfield 359) 3 31 := by decide +kernel
theorem dX10_cellsOf_31 : gd cX10_cellsOf 31 (.getfield 341) 3 34 := by decide +kernel
theorem dX10_cellsOf_34 : gd cX10_cellsOf 34 (.iload 4) 2 36 := by decide +kernel
theorem dX10_cellsOf_36 : gd cX10_cellsOf 36 (.iaload) 1 37 := by decide +kernel
theorem dX10_cellsOf_37 : gd cX10_cellsOf 37 (.iload_n 1) 1 38 := by decide +kernel
theorem dX10_cellsOf_38 : gb cX10_cellsOf 38 (.if_icmp .ne 19) (19) 41 57 := by decide +kernel
theorem dX10_cellsOf_41 : gd cX10_cellsOf 41 (.aload_n 0) 1 42 := by decide +kernel
theorem dX10_cellsOf_42 : gd cX10_cellsOf 42 (.getfield 359) 3 45 := by decide +kernel
theorem dX10_cellsOf_45 : gd cX10_cellsOf 45 (.getfield 344) 3 48 := by decide +kernel
theorem dX10_cellsOf_48 : gd cX10_cellsOf 48 (.iload 4) 2 50 := by decide +kernel
theorem dX10_cellsOf_50 : gd cX10_cellsOf 50 (.iaload) 1 51 := by decide +kernel
theorem dX10_cellsOf_51 : gd cX10_cellsOf 51 (.invokestatic 392) 3 54 := by decide +kernel
theorem dX10_cellsOf_54 : gb cX10_cellsOf 54 (.goto 4) (4) 57 58 := by decide +kernel
theorem dX10_cellsOf_57 : decode cX10_cellsOf 57 = .ok (.iconst 0, 1) ∧ 57 + 1 = 58 ∧ Int32.ofInt (0) = (0) := by decide +kernel
theorem dX10_cellsOf_58 : gd cX10_cellsOf 58 (.iadd) 1 59 := by decide +kernel
theorem dX10_cellsOf_59 : gd cX10_cellsOf 59 (.istore_n 3) 1 60 := by decide +kernel
theorem dX10_cellsOf_60 : decode cX10_cellsOf 60 = .ok (.iinc 4 1, 3) ∧ 60 + 3 = 63 ∧ Int32.ofInt (1) = (1) := by decide +kernel
theorem dX10_cellsOf_63 : gb cX10_cellsOf 63 (.goto (-58)) (-58) 66 5 := by decide +kernel
theorem dX10_cellsOf_66 : gd cX10_cellsOf 66 (.iload_n 3) 1 67 := by decide +kernel
theorem dX10_cellsOf_67 : gd cX10_cellsOf 67 (.ireturn) 1 68 := by decide +kernel
theorem dX10_owner_0 : gd cX10_owner 0 (.aload_n 0) 1 1 := by decide +kernel
theorem dX10_owner_1 : decode cX10_owner 1 = .ok (.iconst 0, 1) ∧ 1 + 1 = 2 ∧ Int32.ofInt (0) = (0) := by decide +kernel
theorem dX10_owner_2 : gd cX10_owner 2 (.putfield 39) 3 5 := by decide +kernel
theorem dX10_owner_5 : gd cX10_owner 5 (.aload_n 0) 1 6 := by decide +kernel
theorem dX10_owner_6 : gd cX10_owner 6 (.iload_n 1) 1 7 := by decide +kernel
theorem dX10_owner_7 : gd cX10_owner 7 (.invokevirtual 486) 3 10 := by decide +kernel
theorem dX10_owner_10 : gd cX10_owner 10 (.istore_n 2) 1 11 := by decide +kernel
theorem dX10_owner_11 : gd cX10_owner 11 (.iload_n 2) 1 12 := by decide +kernel
theorem dX10_owner_12 : decode cX10_owner 12 = .ok (.iconst (-1), 1) ∧ 12 + 1 = 13 ∧ Int32.ofInt (-1) = (-1) := by decide +kernel
theorem dX10_owner_13 : gb cX10_owner 13 (.if_icmp .ne 9) (9) 16 22 := by decide +kernel
theorem dX10_owner_16 : gd cX10_owner 16 (.aload_n 0) 1 17 := by decide +kernel
theorem dX10_owner_17 : decode cX10_owner 17 = .ok (.iconst 1, 1) ∧ 17 + 1 = 18 ∧ Int32.ofInt (1) = (1) := by decide +kernel
theorem dX10_owner_18 : gd cX10_owner 18 (.invokevirtual 45) 3 21 := by decide +kernel
theorem dX10_owner_21 : gd cX10_owner 21 (.ireturn) 1 22 := by decide +kernel
theorem dX10_owner_22 : decode cX10_owner 22 = .ok (.iconst 0, 1) ∧ 22 + 1 = 23 ∧ Int32.ofInt (0) = (0) := by decide +kernel
theorem dX10_owner_23 : gd cX10_owner 23 (.istore_n 3) 1 24 := by decide +kernel
theorem dX10_owner_24 : decode cX10_owner 24 = .ok (.iconst 1, 1) ∧ 24 + 1 = 25 ∧ Int32.ofInt (1) = (1) := by decide +kernel
theorem dX10_owner_25 : gd cX10_owner 25 (.istore 4) 2 27 := by decide +kernel
theorem dX10_owner_27 : gd cX10_owner 27 (.iload 4) 2 29 := by decide +kernel
theorem dX10_owner_29 : gd cX10_owner 29 (.aload_n 0) 1 30 := by decide +kernel
theorem dX10_owner_30 : gd cX10_owner 30 (.getfield 359) 3 33 := by decide +kernel
theorem dX10_owner_33 : gd cX10_owner 33 (.getfield 335) 3 36 := by decide +kernel
theorem dX10_owner_36 : gb cX10_owner 36 (.if_icmp .ge 28) (28) 39 64 := by decide +kernel
theorem dX10_owner_39 : gd cX10_owner 39 (.aload_n 0) 1 40 := by decide +kernel
theorem dX10_owner_40 : gd cX10_owner 40 (.iload 4) 2 42 := by decide +kernel
theorem dX10_owner_42 : gd cX10_owner 42 (.iload_n 2) 1 43 := by decide +kernel
theorem dX10_owner_43 : gd cX10_owner 43 (.invokevirtual 492) 3 46 := by decide +kernel
theorem dX10_owner_46 : gd cX10_owner 46 (.aload_n 0) 1 47 := by decide +kernel
theorem dX10_owner_47 : gd cX10_owner 47 (.iload_n 3) 1 48 := by decide +kernel
theorem dX10_owner_48 : gd cX10_owner 48 (.iload_n 2) 1 49 := by decide +kernel
theorem dX10_owner_49 : gd cX10_owner 49 (.invokevirtual 492) 3 52 := by decide +kernel
theorem dX10_owner_52 : gb cX10_owner 52 (.if_icmp .le 6) (6) 55 58 := by decide +kernel
theorem dX10_owner_55 : gd cX10_owner 55 (.iload 4) 2 57 := by decide +kernel
theorem dX10_owner_57 : gd cX10_owner 57 (.istore_n 3) 1 58 := by decide +kernel
theorem dX10_owner_58 : decode cX10_owner 58 = .ok (.iinc 4 1, 3) ∧ 58 + 3 = 61 ∧ Int32.ofInt (1) = (1) := by decide +kernel
theorem dX10_owner_61 : gb cX10_owner 61 (.goto (-34)) (-34) 64 27 := by decide +kernel
theorem dX10_owner_64 : gd cX10_owner 64 (.aload_n 0) 1 65 := by decide +kernel
theorem dX10_owner_65 : gd cX10_owner 65 (.iload_n 3) 1 66 := by decide +kernel
theorem dX10_owner_66 : gd cX10_owner 66 (.invokevirtual 49) 3 69 := by decide +kernel
theorem dX10_owner_69 : gd cX10_owner 69 (.ireturn) 1 70 := by decide +kernel
theorem dX10_missing_0 : gd cX10_missing 0 (.aload_n 0) 1 1 := by decide +kernel
theorem dX10_missing_1 : decode cX10_missing 1 = .ok (.iconst 0, 1) ∧ 1 + 1 = 2 ∧ Int32.ofInt (0) = (0) := by decide +kernel
theorem dX10_missing_2 : gd cX10_missing 2 (.putfield 39) 3 5 := by decide +kernel
theorem dX10_missing_5 : gd cX10_missing 5 (.aload_n 0) 1 6 := by decide +kernel
theorem dX10_missing_6 : gd cX10_missing 6 (.getfield 359) 3 9 := by decide +kernel
theorem dX10_missing_9 : gb cX10_missing 9 (.ifnonnull 9) (9) 12 18 := by decide +kernel
theorem dX10_missing_12 : gd cX10_missing 12 (.aload_n 0) 1 13 := by decide +kernel
theorem dX10_missing_13 : decode cX10_missing 13 = .ok (.iconst 1, 1) ∧ 13 + 1 = 14 ∧ Int32.ofInt (1) = (1) := by decide +kernel
theorem dX10_missing_14 : gd cX10_missing 14 (.invokevirtual 45) 3 17 := by decide +kernel
theorem dX10_missing_17 : gd cX10_missing 17 (.ireturn) 1 18 := by decide +kernel
theorem dX10_missing_18 : decode cX10_missing 18 = .ok (.iconst 0, 1) ∧ 18 + 1 = 19 ∧ Int32.ofInt (0) = (0) := by decide +kernel
theorem dX10_missing_19 : gd cX10_missing 19 (.istore_n 1) 1 20 := by decide +kernel
theorem dX10_missing_20 : decode cX10_missing 20 = .ok (.iconst 0, 1) ∧ 20 + 1 = 21 ∧ Int32.ofInt (0) = (0) := by decide +kernel
theorem dX10_missing_21 : gd cX10_missing 21 (.istore_n 2) 1 22 := by decide +kernel
theorem dX10_missing_22 : gd cX10_missing 22 (.iload_n 2) 1 23 := by decide +kernel
theorem dX10_missing_23 : gd cX10_missing 23 (.aload_n 0) 1 24 := by decide +kernel
theorem dX10_missing_24 : gd cX10_missing 24 (.getfield 359) 3 27 := by decide +kernel
theorem dX10_missing_27 : gd cX10_missing 27 (.getfield 338) 3 30 := by decide +kernel
theorem dX10_missing_30 : gb cX10_missing 30 (.if_icmp .ge 21) (21) 33 51 := by decide +kernel
theorem dX10_missing_33 : gd cX10_missing 33 (.iload_n 1) 1 34 := by decide +kernel
theorem dX10_missing_34 : gd cX10_missing 34 (.aload_n 0) 1 35 := by decide +kernel
theorem dX10_missing_35 : gd cX10_missing 35 (.getfield 359) 3 38 := by decide +kernel
theorem dX10_missing_38 : gd cX10_missing 38 (.getfield 344) 3 41 := by decide +kernel
theorem dX10_missing_41 : gd cX10_missing 41 (.iload_n 2) 1 42 := by decide +kernel
theorem dX10_missing_42 : gd cX10_missing 42 (.iaload) 1 43 := by decide +kernel
theorem dX10_missing_43 : gd cX10_missing 43 (.ior) 1 44 := by decide +kernel
theorem dX10_missing_44 : gd cX10_missing 44 (.istore_n 1) 1 45 := by decide +kernel
theorem dX10_missing_45 : decode cX10_missing 45 = .ok (.iinc 2 1, 3) ∧ 45 + 3 = 48 ∧ Int32.ofInt (1) = (1) := by decide +kernel
theorem dX10_missing_48 : gb cX10_missing 48 (.goto (-26)) (-26) 51 22 := by decide +kernel
theorem dX10_missing_51 : gd cX10_missing 51 (.aload_n 0) 1 52 := by decide +kernel
theorem dX10_missing_52 : gd cX10_missing 52 (.aload_n 0) 1 53 := by decide +kernel
theorem dX10_missing_53 : gd cX10_missing 53 (.getfield 359) 3 56 := by decide +kernel
theorem dX10_missing_56 : gd cX10_missing 56 (.invokevirtual 480) 3 59 := by decide +kernel
theorem dX10_missing_59 : gd cX10_missing 59 (.iload_n 1) 1 60 := by decide +kernel
theorem dX10_missing_60 : decode cX10_missing 60 = .ok (.iconst (-1), 1) ∧ 60 + 1 = 61 ∧ Int32.ofInt (-1) = (-1) := by decide +kernel
theorem dX10_missing_61 : gd cX10_missing 61 (.ixor) 1 62 := by decide +kernel
theorem dX10_missing_62 : gd cX10_missing 62 (.iand) 1 63 := by decide +kernel
theorem dX10_missing_63 : gd cX10_missing 63 (.invokevirtual 49) 3 66 := by decide +kernel
theorem dX10_missing_66 : gd cX10_missing 66 (.ireturn) 1 67 := by decide +kernel
theorem dX10_lightOfAll_0 : decode cX10_lightOfAll 0 = .ok (.iconst 0, 1) ∧ 0 + 1 = 1 ∧ Int32.ofInt (0) = (0) := by decide +kernel
theorem dX10_lightOfAll_1 : gd cX10_lightOfAll 1 (.istore_n 2) 1 2 := by decide +kernel
theorem dX10_lightOfAll_2 : decode cX10_lightOfAll 2 = .ok (.iconst 0, 1) ∧ 2 + 1 = 3 ∧ Int32.ofInt (0) = (0) := by decide +kernel
theorem dX10_lightOfAll_3 : gd cX10_lightOfAll 3 (.istore_n 3) 1 4 := by decide +kernel
theorem dX10_lightOfAll_4 : gd cX10_lightOfAll 4 (.iload_n 3) 1 5 := by decide +kernel
theorem dX10_lightOfAll_5 : gd cX10_lightOfAll 5 (.aload_n 0) 1 6 := by decide +kernel
theorem dX10_lightOfAll_6 : gd cX10_lightOfAll 6 (.getfield 359) 3 9 := by decide +kernel
theorem dX10_lightOfAll_9 : gd cX10_lightOfAll 9 (.getfield 215) 3 12 := by decide +kernel
theorem dX10_lightOfAll_12 : gb cX10_lightOfAll 12 (.if_icmp .ge 29) (29) 15 41 := by decide +kernel
theorem dX10_lightOfAll_15 : gd cX10_lightOfAll 15 (.iload_n 2) 1 16 := by decide +kernel
theorem dX10_lightOfAll_16 : gd cX10_lightOfAll 16 (.iload_n 1) 1 17 := by decide +kernel
theorem dX10_lightOfAll_17 : gd cX10_lightOfAll 17 (.iload_n 3) 1 18 := by decide +kernel
theorem dX10_lightOfAll_18 : gd cX10_lightOfAll 18 (.invokestatic 367) 3 21 := by decide +kernel
theorem dX10_lightOfAll_21 : gb cX10_lightOfAll 21 (.ifCond .eq 11) (11) 24 32 := by decide +kernel
theorem dX10_lightOfAll_24 : gd cX10_lightOfAll 24 (.aload_n 0) 1 25 := by decide +kernel
theorem dX10_lightOfAll_25 : gd cX10_lightOfAll 25 (.iload_n 3) 1 26 := by decide +kernel
theorem dX10_lightOfAll_26 : gd cX10_lightOfAll 26 (.invokevirtual 386) 3 29 := by decide +kernel
theorem dX10_lightOfAll_29 : gb cX10_lightOfAll 29 (.goto 4) (4) 32 33 := by decide +kernel
theorem dX10_lightOfAll_32 : decode cX10_lightOfAll 32 = .ok (.iconst 0, 1) ∧ 32 + 1 = 33 ∧ Int32.ofInt (0) = (0) := by decide +kernel
theorem dX10_lightOfAll_33 : gd cX10_lightOfAll 33 (.iadd) 1 34 := by decide +kernel
theorem dX10_lightOfAll_34 : gd cX10_lightOfAll 34 (.istore_n 2) 1 35 := by decide +kernel
theorem dX10_lightOfAll_35 : decode cX10_lightOfAll 35 = .ok (.iinc 3 1, 3) ∧ 35 + 3 = 38 ∧ Int32.ofInt (1) = (1) := by decide +kernel
theorem dX10_lightOfAll_38 : gb cX10_lightOfAll 38 (.goto (-34)) (-34) 41 4 := by decide +kernel
theorem dX10_lightOfAll_41 : gd cX10_lightOfAll 41 (.iload_n 2) 1 42 := by decide +kernel
theorem dX10_lightOfAll_42 : gd cX10_lightOfAll 42 (.ireturn) 1 43 := by decide +kernel
theorem dX10_shelf_0 : gd cX10_shelf 0 (.aload_n 0) 1 1 := by decide +kernel
theorem dX10_shelf_1 : decode cX10_shelf 1 = .ok (.iconst 0, 1) ∧ 1 + 1 = 2 ∧ Int32.ofInt (0) = (0) := by decide +kernel
theorem dX10_shelf_2 : gd cX10_shelf 2 (.putfield 39) 3 5 := by decide +kernel
theorem dX10_shelf_5 : gd cX10_shelf 5 (.aload_n 0) 1 6 := by decide +kernel
theorem dX10_shelf_6 : gd cX10_shelf 6 (.getfield 359) 3 9 := by decide +kernel
theorem dX10_shelf_9 : gb cX10_shelf 9 (.ifnonnull 9) (9) 12 18 := by decide +kernel
theorem dX10_shelf_12 : gd cX10_shelf 12 (.aload_n 0) 1 13 := by decide +kernel
theorem dX10_shelf_13 : decode cX10_shelf 13 = .ok (.iconst 1, 1) ∧ 13 + 1 = 14 ∧ Int32.ofInt (1) = (1) := by decide +kernel
theorem dX10_shelf_14 : gd cX10_shelf 14 (.invokevirtual 45) 3 17 := by decide +kernel
theorem dX10_shelf_17 : gd cX10_shelf 17 (.ireturn) 1 18 := by decide +kernel
theorem dX10_shelf_18 : gd cX10_shelf 18 (.aload_n 0) 1 19 := by decide +kernel
theorem dX10_shelf_19 : gd cX10_shelf 19 (.getfield 359) 3 22 := by decide +kernel
theorem dX10_shelf_22 : gd cX10_shelf 22 (.getfield 350) 3 25 := by decide +kernel
theorem dX10_shelf_25 : decode cX10_shelf 25 = .ok (.iconst (-1), 1) ∧ 25 + 1 = 26 ∧ Int32.ofInt (-1) = (-1) := by decide +kernel
theorem dX10_shelf_26 : gb cX10_shelf 26 (.if_icmp .ne 10) (10) 29 36 := by decide +kernel
theorem dX10_shelf_29 : gd cX10_shelf 29 (.aload_n 0) 1 30 := by decide +kernel
theorem dX10_shelf_30 : decode cX10_shelf 30 = .ok (.bipush 6, 2) ∧ 30 + 2 = 32 ∧ (Int8.ofInt (6)).toInt32 = (6) := by decide +kernel
theorem dX10_shelf_32 : gd cX10_shelf 32 (.invokevirtual 45) 3 35 := by decide +kernel
theorem dX10_shelf_35 : gd cX10_shelf 35 (.ireturn) 1 36 := by decide +kernel
theorem dX10_shelf_36 : decode cX10_shelf 36 = .ok (.iconst 0, 1) ∧ 36 + 1 = 37 ∧ Int32.ofInt (0) = (0) := by decide +kernel
theorem dX10_shelf_37 : gd cX10_shelf 37 (.istore_n 1) 1 38 := by decide +kernel
theorem dX10_shelf_38 : decode cX10_shelf 38 = .ok (.iconst 1, 1) ∧ 38 + 1 = 39 ∧ Int32.ofInt (1) = (1) := by decide +kernel
theorem dX10_shelf_39 : gd cX10_shelf 39 (.istore_n 2) 1 40 := by decide +kernel
theorem dX10_shelf_40 : gd cX10_shelf 40 (.iload_n 2) 1 41 := by decide +kernel
theorem dX10_shelf_41 : decode cX10_shelf 41 = .ok (.iconst 1, 1) ∧ 41 + 1 = 42 ∧ Int32.ofInt (1) = (1) := by decide +kernel
theorem dX10_shelf_42 : gd cX10_shelf 42 (.aload_n 0) 1 43 := by decide +kernel
theorem dX10_shelf_43 : gd cX10_shelf 43 (.getfield 359) 3 46 := by decide +kernel
theorem dX10_shelf_46 : gd cX10_shelf 46 (.getfield 215) 3 49 := by decide +kernel
theorem dX10_shelf_49 : gd cX10_shelf 49 (.ishl) 1 50 := by decide +kernel
theorem dX10_shelf_50 : gb cX10_shelf 50 (.if_icmp .ge 76) (76) 53 126 := by decide +kernel
theorem dX10_shelf_53 : gd cX10_shelf 53 (.iload_n 2) 1 54 := by decide +kernel
theorem dX10_shelf_54 : gd cX10_shelf 54 (.aload_n 0) 1 55 := by decide +kernel
theorem dX10_shelf_55 : gd cX10_shelf 55 (.getfield 17) 3 58 := by decide +kernel
theorem dX10_shelf_58 : decode cX10_shelf 58 = .ok (.bipush 16, 2) ∧ 58 + 2 = 60 ∧ (Int8.ofInt (16)).toInt32 = (16) := by decide +kernel
theorem dX10_shelf_60 : gd cX10_shelf 60 (.iaload) 1 61 := by decide +kernel
theorem dX10_shelf_61 : gd cX10_shelf 61 (.iand) 1 62 := by decide +kernel
theorem dX10_shelf_62 : gb cX10_shelf 62 (.ifCond .ne 58) (58) 65 120 := by decide +kernel
theorem dX10_shelf_65 : gd cX10_shelf 65 (.aload_n 0) 1 66 := by decide +kernel
theorem dX10_shelf_66 : gd cX10_shelf 66 (.iload_n 2) 1 67 := by decide +kernel
theorem dX10_shelf_67 : gd cX10_shelf 67 (.invokevirtual 495) 3 70 := by decide +kernel
theorem dX10_shelf_70 : gd cX10_shelf 70 (.aload_n 0) 1 71 := by decide +kernel
theorem dX10_shelf_71 : gd cX10_shelf 71 (.getfield 359) 3 74 := by decide +kernel
theorem dX10_shelf_74 : gd cX10_shelf 74 (.getfield 350) 3 77 := by decide +kernel
theorem dX10_shelf_77 : gb cX10_shelf 77 (.if_icmp .le 6) (6) 80 83 := by decide +kernel
theorem dX10_shelf_80 : gb cX10_shelf 80 (.goto 40) (40) 83 120 := by decide +kernel
theorem dX10_shelf_83 : gd cX10_shelf 83 (.iload_n 2) 1 84 := by decide +kernel
theorem dX10_shelf_84 : gd cX10_shelf 84 (.invokestatic 392) 3 87 := by decide +kernel
theorem dX10_shelf_87 : gd cX10_shelf 87 (.iload_n 1) 1 88 := by decide +kernel
theorem dX10_shelf_88 : gd cX10_shelf 88 (.invokestatic 392) 3 91 := by decide +kernel
theorem dX10_shelf_91 : gb cX10_shelf 91 (.if_icmp .gt 27) (27) 94 118 := by decide +kernel
theorem dX10_shelf_94 : gd cX10_shelf 94 (.iload_n 2) 1 95 := by decide +kernel
theorem dX10_shelf_95 : gd cX10_shelf 95 (.invokestatic 392) 3 98 := by decide +kernel
theorem dX10_shelf_98 : gd cX10_shelf 98 (.iload_n 1) 1 99 := by decide +kernel
theorem dX10_shelf_99 : gd cX10_shelf 99 (.invokestatic 392) 3 102 := by decide +kernel
theorem dX10_shelf_102 : gb cX10_shelf 102 (.if_icmp .ne 18) (18) 105 120 := by decide +kernel
theorem dX10_shelf_105 : gd cX10_shelf 105 (.aload_n 0) 1 106 := by decide +kernel
theorem dX10_shelf_106 : gd cX10_shelf 106 (.iload_n 2) 1 107 := by decide +kernel
theorem dX10_shelf_107 : gd cX10_shelf 107 (.invokevirtual 495) 3 110 := by decide +kernel
theorem dX10_shelf_110 : gd cX10_shelf 110 (.aload_n 0) 1 111 := by decide +kernel
theorem dX10_shelf_111 : gd cX10_shelf 111 (.iload_n 1) 1 112 := by decide +kernel
theorem dX10_shelf_112 : gd cX10_shelf 112 (.invokevirtual 495) 3 115 := by decide +kernel
theorem dX10_shelf_115 : gb cX10_shelf 115 (.if_icmp .le 5) (5) 118 120 := by decide +kernel
theorem dX10_shelf_118 : gd cX10_shelf 118 (.iload_n 2) 1 119 := by decide +kernel
theorem dX10_shelf_119 : gd cX10_shelf 119 (.istore_n 1) 1 120 := by decide +kernel
theorem dX10_shelf_120 : decode cX10_shelf 120 = .ok (.iinc 2 1, 3) ∧ 120 + 3 = 123 ∧ Int32.ofInt (1) = (1) := by decide +kernel
theorem dX10_shelf_123 : gb cX10_shelf 123 (.goto (-83)) (-83) 126 40 := by decide +kernel
theorem dX10_shelf_126 : gd cX10_shelf 126 (.aload_n 0) 1 127 := by decide +kernel
theorem dX10_shelf_127 : gd cX10_shelf 127 (.iload_n 1) 1 128 := by decide +kernel
theorem dX10_shelf_128 : gd cX10_shelf 128 (.invokevirtual 49) 3 131 := by decide +kernel
theorem dX10_shelf_131 : gd cX10_shelf 131 (.ireturn) 1 132 := by decide +kernel
theorem dX10_gainOf_0 : gd cX10_gainOf 0 (.aload_n 0) 1 1 := by decide +kernel
theorem dX10_gainOf_1 : gd cX10_gainOf 1 (.iload_n 1) 1 2 := by decide +kernel
theorem dX10_gainOf_2 : gd cX10_gainOf 2 (.iload_n 2) 1 3 := by decide +kernel
theorem dX10_gainOf_3 : gd cX10_gainOf 3 (.invokevirtual 401) 3 6 := by decide +kernel
theorem dX10_gainOf_6 : gd cX10_gainOf 6 (.istore_n 3) 1 7 := by decide +kernel
theorem dX10_gainOf_7 : gd cX10_gainOf 7 (.aload_n 0) 1 8 := by decide +kernel
theorem dX10_gainOf_8 : gd cX10_gainOf 8 (.iload_n 3) 1 9 := by decide +kernel
theorem dX10_gainOf_9 : gd cX10_gainOf 9 (.invokevirtual 404) 3 12 := by decide +kernel
theorem dX10_gainOf_12 : decode cX10_gainOf 12 = .ok (.bipush (-2), 2) ∧ 12 + 2 = 14 ∧ (Int8.ofInt (-2)).toInt32 = (-2) := by decide +kernel
theorem dX10_gainOf_14 : gb cX10_gainOf 14 (.if_icmp .ne 10) (10) 17 24 := by decide +kernel
theorem dX10_gainOf_17 : gd cX10_gainOf 17 (.iload_n 3) 1 18 := by decide +kernel
theorem dX10_gainOf_18 : gd cX10_gainOf 18 (.invokestatic 392) 3 21 := by decide +kernel
theorem dX10_gainOf_21 : gb cX10_gainOf 21 (.goto 8) (8) 24 29 := by decide +kernel
theorem dX10_gainOf_24 : gd cX10_gainOf 24 (.iload_n 3) 1 25 := by decide +kernel
theorem dX10_gainOf_25 : gd cX10_gainOf 25 (.invokestatic 392) 3 28 := by decide +kernel
theorem dX10_gainOf_28 : gd cX10_gainOf 28 (.ineg) 1 29 := by decide +kernel
theorem dX10_gainOf_29 : gd cX10_gainOf 29 (.ireturn) 1 30 := by decide +kernel
theorem dX10_gain_0 : gd cX10_gain 0 (.aload_n 0) 1 1 := by decide +kernel
theorem dX10_gain_1 : decode cX10_gain 1 = .ok (.iconst 0, 1) ∧ 1 + 1 = 2 ∧ Int32.ofInt (0) = (0) := by decide +kernel
theorem dX10_gain_2 : gd cX10_gain 2 (.putfield 39) 3 5 := by decide +kernel
theorem dX10_gain_5 : gd cX10_gain 5 (.aload_n 0) 1 6 := by decide +kernel
theorem dX10_gain_6 : gd cX10_gain 6 (.iload_n 1) 1 7 := by decide +kernel
theorem dX10_gain_7 : gd cX10_gain 7 (.iload_n 2) 1 8 := by decide +kernel
theorem dX10_gain_8 : gd cX10_gain 8 (.invokevirtual 398) 3 11 := by decide +kernel
theorem dX10_gain_11 : gd cX10_gain 11 (.istore_n 3) 1 12 := by decide +kernel
theorem dX10_gain_12 : gd cX10_gain 12 (.iload_n 3) 1 13 := by decide +kernel
theorem dX10_gain_13 : gb cX10_gain 13 (.ifCond .le 11) (11) 16 24 := by decide +kernel
theorem dX10_gain_16 : gd cX10_gain 16 (.aload_n 0) 1 17 := by decide +kernel
theorem dX10_gain_17 : gd cX10_gain 17 (.iload_n 3) 1 18 := by decide +kernel
theorem dX10_gain_18 : gd cX10_gain 18 (.invokevirtual 498) 3 21 := by decide +kernel
theorem dX10_gain_21 : gb cX10_gain 21 (.goto 13) (13) 24 34 := by decide +kernel
theorem dX10_gain_24 : gd cX10_gain 24 (.aload_n 0) 1 25 := by decide +kernel
theorem dX10_gain_25 : gd cX10_gain 25 (.aload_n 0) 1 26 := by decide +kernel
theorem dX10_gain_26 : gd cX10_gain 26 (.iload_n 1) 1 27 := by decide +kernel
theorem dX10_gain_27 : gd cX10_gain 27 (.iload_n 2) 1 28 := by decide +kernel
theorem dX10_gain_28 : gd cX10_gain 28 (.invokevirtual 501) 3 31 := by decide +kernel
theorem dX10_gain_31 : gd cX10_gain 31 (.invokevirtual 49) 3 34 := by decide +kernel
theorem dX10_gain_34 : gd cX10_gain 34 (.ireturn) 1 35 := by decide +kernel
theorem dX10_viewAt_0 : gd cX10_viewAt 0 (.iload_n 0) 1 1 := by decide +kernel
theorem dX10_viewAt_1 : gb cX10_viewAt 1 (.ifCond .ne 8) (8) 4 9 := by decide +kernel
theorem dX10_viewAt_4 : decode cX10_viewAt 4 = .ok (.bipush (-2), 2) ∧ 4 + 2 = 6 ∧ (Int8.ofInt (-2)).toInt32 = (-2) := by decide +kernel
theorem dX10_viewAt_6 : gb cX10_viewAt 6 (.goto 6) (6) 9 12 := by decide +kernel
theorem dX10_viewAt_9 : gd cX10_viewAt 9 (.iload_n 0) 1 10 := by decide +kernel
theorem dX10_viewAt_10 : decode cX10_viewAt 10 = .ok (.iconst 1, 1) ∧ 10 + 1 = 11 ∧ Int32.ofInt (1) = (1) := by decide +kernel
theorem dX10_viewAt_11 : gd cX10_viewAt 11 (.isub) 1 12 := by decide +kernel
theorem dX10_viewAt_12 : gd cX10_viewAt 12 (.ireturn) 1 13 := by decide +kernel
theorem dX10_isRest_0 : gd cX10_isRest 0 (.aload_n 0) 1 1 := by decide +kernel
theorem dX10_isRest_1 : gd cX10_isRest 1 (.iload_n 1) 1 2 := by decide +kernel
theorem dX10_isRest_2 : gd cX10_isRest 2 (.invokevirtual 383) 3 5 := by decide +kernel
theorem dX10_isRest_5 : gb cX10_isRest 5 (.ifCond .eq 5) (5) 8 10 := by decide +kernel
theorem dX10_isRest_8 : decode cX10_isRest 8 = .ok (.iconst 0, 1) ∧ 8 + 1 = 9 ∧ Int32.ofInt (0) = (0) := by decide +kernel
theorem dX10_isRest_9 : gd cX10_isRest 9 (.ireturn) 1 10 := by decide +kernel
theorem dX10_isRest_10 : gd cX10_isRest 10 (.aload_n 0) 1 11 := by decide +kernel
theorem dX10_isRest_11 : gd cX10_isRest 11 (.iload_n 1) 1 12 := by decide +kernel
theorem dX10_isRest_12 : gd cX10_isRest 12 (.iload_n 2) 1 13 := by decide +kernel
theorem dX10_isRest_13 : gd cX10_isRest 13 (.invokestatic 504) 3 16 := by decide +kernel
theorem dX10_isRest_16 : gd cX10_isRest 16 (.invokevirtual 501) 3 19 := by decide +kernel
theorem dX10_isRest_19 : gd cX10_isRest 19 (.istore_n 3) 1 20 := by decide +kernel
theorem dX10_isRest_20 : decode cX10_isRest 20 = .ok (.iconst 0, 1) ∧ 20 + 1 = 21 ∧ Int32.ofInt (0) = (0) := by decide +kernel
theorem dX10_isRest_21 : gd cX10_isRest 21 (.istore 4) 2 23 := by decide +kernel
theorem dX10_isRest_23 : gd cX10_isRest 23 (.iload 4) 2 25 := by decide +kernel
theorem dX10_isRest_25 : gd cX10_isRest 25 (.aload_n 0) 1 26 := by decide +kernel
theorem dX10_isRest_26 : gd cX10_isRest 26 (.getfield 359) 3 29 := by decide +kernel
theorem dX10_isRest_29 : gd cX10_isRest 29 (.getfield 215) 3 32 := by decide +kernel
theorem dX10_isRest_32 : gb cX10_isRest 32 (.if_icmp .ge 34) (34) 35 66 := by decide +kernel
theorem dX10_isRest_35 : gd cX10_isRest 35 (.aload_n 0) 1 36 := by decide +kernel
theorem dX10_isRest_36 : gd cX10_isRest 36 (.iload 4) 2 38 := by decide +kernel
theorem dX10_isRest_38 : gd cX10_isRest 38 (.invokevirtual 383) 3 41 := by decide +kernel
theorem dX10_isRest_41 : gb cX10_isRest 41 (.ifCond .ne 19) (19) 44 60 := by decide +kernel
theorem dX10_isRest_44 : gd cX10_isRest 44 (.aload_n 0) 1 45 := by decide +kernel
theorem dX10_isRest_45 : gd cX10_isRest 45 (.iload 4) 2 47 := by decide +kernel
theorem dX10_isRest_47 : gd cX10_isRest 47 (.iload_n 2) 1 48 := by decide +kernel
theorem dX10_isRest_48 : gd cX10_isRest 48 (.invokestatic 504) 3 51 := by decide +kernel
theorem dX10_isRest_51 : gd cX10_isRest 51 (.invokevirtual 501) 3 54 := by decide +kernel
theorem dX10_isRest_54 : gd cX10_isRest 54 (.iload_n 3) 1 55 := by decide +kernel
theorem dX10_isRest_55 : gb cX10_isRest 55 (.if_icmp .le 5) (5) 58 60 := by decide +kernel
theorem dX10_isRest_58 : decode cX10_isRest 58 = .ok (.iconst 0, 1) ∧ 58 + 1 = 59 ∧ Int32.ofInt (0) = (0) := by decide +kernel
theorem dX10_isRest_59 : gd cX10_isRest 59 (.ireturn) 1 60 := by decide +kernel
theorem dX10_isRest_60 : decode cX10_isRest 60 = .ok (.iinc 4 1, 3) ∧ 60 + 3 = 63 ∧ Int32.ofInt (1) = (1) := by decide +kernel
theorem dX10_isRest_63 : gb cX10_isRest 63 (.goto (-40)) (-40) 66 23 := by decide +kernel
theorem dX10_isRest_66 : decode cX10_isRest 66 = .ok (.iconst 0, 1) ∧ 66 + 1 = 67 ∧ Int32.ofInt (0) = (0) := by decide +kernel
theorem dX10_isRest_67 : gd cX10_isRest 67 (.istore 4) 2 69 := by decide +kernel
theorem dX10_isRest_69 : gd cX10_isRest 69 (.iload 4) 2 71 := by decide +kernel
theorem dX10_isRest_71 : gd cX10_isRest 71 (.aload_n 0) 1 72 := by decide +kernel
theorem dX10_isRest_72 : gd cX10_isRest 72 (.getfield 359) 3 75 := by decide +kernel
theorem dX10_isRest_75 : gd cX10_isRest 75 (.getfield 294) 3 78 := by decide +kernel
theorem dX10_isRest_78 : gb cX10_isRest 78 (.if_icmp .gt 25) (25) 81 103 := by decide +kernel
theorem dX10_isRest_81 : gd cX10_isRest 81 (.aload_n 0) 1 82 := by decide +kernel
theorem dX10_isRest_82 : gd cX10_isRest 82 (.iload_n 1) 1 83 := by decide +kernel
theorem dX10_isRest_83 : gd cX10_isRest 83 (.iload 4) 2 85 := by decide +kernel
theorem dX10_isRest_85 : gd cX10_isRest 85 (.invokestatic 504) 3 88 := by decide +kernel
theorem dX10_isRest_88 : gd cX10_isRest 88 (.invokevirtual 501) 3 91 := by decide +kernel
theorem dX10_isRest_91 : gd cX10_isRest 91 (.iload_n 3) 1 92 := by decide +kernel
theorem dX10_isRest_92 : gb cX10_isRest 92 (.if_icmp .ge 5) (5) 95 97 := by decide +kernel
theorem dX10_isRest_95 : decode cX10_isRest 95 = .ok (.iconst 0, 1) ∧ 95 + 1 = 96 ∧ Int32.ofInt (0) = (0) := by decide +kernel
theorem dX10_isRest_96 : gd cX10_isRest 96 (.ireturn) 1 97 := by decide +kernel
theorem dX10_isRest_97 : decode cX10_isRest 97 = .ok (.iinc 4 1, 3) ∧ 97 + 3 = 100 ∧ Int32.ofInt (1) = (1) := by decide +kernel
theorem dX10_isRest_100 : gb cX10_isRest 100 (.goto (-31)) (-31) 103 69 := by decide +kernel
theorem dX10_isRest_103 : decode cX10_isRest 103 = .ok (.iconst 1, 1) ∧ 103 + 1 = 104 ∧ Int32.ofInt (1) = (1) := by decide +kernel
theorem dX10_isRest_104 : gd cX10_isRest 104 (.ireturn) 1 105 := by decide +kernel
theorem dX10_rests_0 : gd cX10_rests 0 (.aload_n 0) 1 1 := by decide +kernel
theorem dX10_rests_1 : decode cX10_rests 1 = .ok (.iconst 0, 1) ∧ 1 + 1 = 2 ∧ Int32.ofInt (0) = (0) := by decide +kernel
theorem dX10_rests_2 : gd cX10_rests 2 (.putfield 39) 3 5 := by decide +kernel
theorem dX10_rests_5 : gd cX10_rests 5 (.aload_n 0) 1 6 := by decide +kernel
theorem dX10_rests_6 : gd cX10_rests 6 (.getfield 359) 3 9 := by decide +kernel
theorem dX10_rests_9 : gb cX10_rests 9 (.ifnonnull 9) (9) 12 18 := by decide +kernel
theorem dX10_rests_12 : gd cX10_rests 12 (.aload_n 0) 1 13 := by decide +kernel
theorem dX10_rests_13 : decode cX10_rests 13 = .ok (.iconst 1, 1) ∧ 13 + 1 = 14 ∧ Int32.ofInt (1) = (1) := by decide +kernel
theorem dX10_rests_14 : gd cX10_rests 14 (.invokevirtual 45) 3 17 := by decide +kernel
theorem dX10_rests_17 : gd cX10_rests 17 (.ireturn) 1 18 := by decide +kernel
theorem dX10_rests_18 : decode cX10_rests 18 = .ok (.iconst 0, 1) ∧ 18 + 1 = 19 ∧ Int32.ofInt (0) = (0) := by decide +kernel
theorem dX10_rests_19 : gd cX10_rests 19 (.istore_n 1) 1 20 := by decide +kernel
theorem dX10_rests_20 : decode cX10_rests 20 = .ok (.iconst 0, 1) ∧ 20 + 1 = 21 ∧ Int32.ofInt (0) = (0) := by decide +kernel
theorem dX10_rests_21 : gd cX10_rests 21 (.istore_n 2) 1 22 := by decide +kernel
theorem dX10_rests_22 : gd cX10_rests 22 (.iload_n 2) 1 23 := by decide +kernel
theorem dX10_rests_23 : gd cX10_rests 23 (.aload_n 0) 1 24 := by decide +kernel
theorem dX10_rests_24 : gd cX10_rests 24 (.getfield 359) 3 27 := by decide +kernel
theorem dX10_rests_27 : gd cX10_rests 27 (.getfield 215) 3 30 := by decide +kernel
theorem dX10_rests_30 : gb cX10_rests 30 (.if_icmp .ge 45) (45) 33 75 := by decide +kernel
theorem dX10_rests_33 : decode cX10_rests 33 = .ok (.iconst 0, 1) ∧ 33 + 1 = 34 ∧ Int32.ofInt (0) = (0) := by decide +kernel
theorem dX10_rests_34 : gd cX10_rests 34 (.istore_n 3) 1 35 := by decide +kernel
theorem dX10_rests_35 : gd cX10_rests 35 (.iload_n 3) 1 36 := by decide +kernel
theorem dX10_rests_36 : gd cX10_rests 36 (.aload_n 0) 1 37 := by decide +kernel
theorem dX10_rests_37 : gd cX10_rests 37 (.getfield 359) 3 40 := by decide +kernel
theorem dX10_rests_40 : gd cX10_rests 40 (.getfield 294) 3 43 := by decide +kernel
theorem dX10_rests_43 : gb cX10_rests 43 (.if_icmp .gt 26) (26) 46 69 := by decide +kernel
theorem dX10_rests_46 : gd cX10_rests 46 (.iload_n 1) 1 47 := by decide +kernel
theorem dX10_rests_47 : gd cX10_rests 47 (.aload_n 0) 1 48 := by decide +kernel
theorem dX10_rests_48 : gd cX10_rests 48 (.iload_n 2) 1 49 := by decide +kernel
theorem dX10_rests_49 : gd cX10_rests 49 (.iload_n 3) 1 50 := by decide +kernel
theorem dX10_rests_50 : gd cX10_rests 50 (.invokevirtual 507) 3 53 := by decide +kernel
theorem dX10_rests_53 : gb cX10_rests 53 (.ifCond .eq 7) (7) 56 60 := by decide +kernel
theorem dX10_rests_56 : decode cX10_rests 56 = .ok (.iconst 1, 1) ∧ 56 + 1 = 57 ∧ Int32.ofInt (1) = (1) := by decide +kernel
theorem dX10_rests_57 : gb cX10_rests 57 (.goto 4) (4) 60 61 := by decide +kernel
theorem dX10_rests_60 : decode cX10_rests 60 = .ok (.iconst 0, 1) ∧ 60 + 1 = 61 ∧ Int32.ofInt (0) = (0) := by decide +kernel
theorem dX10_rests_61 : gd cX10_rests 61 (.iadd) 1 62 := by decide +kernel
theorem dX10_rests_62 : gd cX10_rests 62 (.istore_n 1) 1 63 := by decide +kernel
theorem dX10_rests_63 : decode cX10_rests 63 = .ok (.iinc 3 1, 3) ∧ 63 + 3 = 66 ∧ Int32.ofInt (1) = (1) := by decide +kernel
theorem dX10_rests_66 : gb cX10_rests 66 (.goto (-31)) (-31) 69 35 := by decide +kernel
theorem dX10_rests_69 : decode cX10_rests 69 = .ok (.iinc 2 1, 3) ∧ 69 + 3 = 72 ∧ Int32.ofInt (1) = (1) := by decide +kernel
theorem dX10_rests_72 : gb cX10_rests 72 (.goto (-50)) (-50) 75 22 := by decide +kernel
theorem dX10_rests_75 : gd cX10_rests 75 (.aload_n 0) 1 76 := by decide +kernel
theorem dX10_rests_76 : gd cX10_rests 76 (.iload_n 1) 1 77 := by decide +kernel
theorem dX10_rests_77 : gd cX10_rests 77 (.invokevirtual 49) 3 80 := by decide +kernel
theorem dX10_rests_80 : gd cX10_rests 80 (.ireturn) 1 81 := by decide +kernel
theorem dX10_rest_0 : gd cX10_rest 0 (.aload_n 0) 1 1 := by decide +kernel
theorem dX10_rest_1 : decode cX10_rest 1 = .ok (.iconst 0, 1) ∧ 1 + 1 = 2 ∧ Int32.ofInt (0) = (0) := by decide +kernel
theorem dX10_rest_2 : gd cX10_rest 2 (.putfield 39) 3 5 := by decide +kernel
theorem dX10_rest_5 : gd cX10_rest 5 (.aload_n 0) 1 6 := by decide +kernel
theorem dX10_rest_6 : gd cX10_rest 6 (.getfield 359) 3 9 := by decide +kernel
theorem dX10_rest_9 : gb cX10_rest 9 (.ifnonnull 9) (9) 12 18 := by decide +kernel
theorem dX10_rest_12 : gd cX10_rest 12 (.aload_n 0) 1 13 := by decide +kernel
theorem dX10_rest_13 : decode cX10_rest 13 = .ok (.iconst 1, 1) ∧ 13 + 1 = 14 ∧ Int32.ofInt (1) = (1) := by decide +kernel
theorem dX10_rest_14 : gd cX10_rest 14 (.invokevirtual 45) 3 17 := by decide +kernel
theorem dX10_rest_17 : gd cX10_rest 17 (.ireturn) 1 18 := by decide +kernel
theorem dX10_rest_18 : decode cX10_rest 18 = .ok (.iconst 0, 1) ∧ 18 + 1 = 19 ∧ Int32.ofInt (0) = (0) := by decide +kernel
theorem dX10_rest_19 : gd cX10_rest 19 (.istore_n 1) 1 20 := by decide +kernel
theorem dX10_rest_20 : gd cX10_rest 20 (.iload_n 1) 1 21 := by decide +kernel
theorem dX10_rest_21 : gd cX10_rest 21 (.aload_n 0) 1 22 := by decide +kernel
theorem dX10_rest_22 : gd cX10_rest 22 (.getfield 359) 3 25 := by decide +kernel
theorem dX10_rest_25 : gd cX10_rest 25 (.getfield 215) 3 28 := by decide +kernel
theorem dX10_rest_28 : gb cX10_rest 28 (.if_icmp .ge 48) (48) 31 76 := by decide +kernel
theorem dX10_rest_31 : decode cX10_rest 31 = .ok (.iconst 0, 1) ∧ 31 + 1 = 32 ∧ Int32.ofInt (0) = (0) := by decide +kernel
theorem dX10_rest_32 : gd cX10_rest 32 (.istore_n 2) 1 33 := by decide +kernel
theorem dX10_rest_33 : gd cX10_rest 33 (.iload_n 2) 1 34 := by decide +kernel
theorem dX10_rest_34 : gd cX10_rest 34 (.aload_n 0) 1 35 := by decide +kernel
theorem dX10_rest_35 : gd cX10_rest 35 (.getfield 359) 3 38 := by decide +kernel
theorem dX10_rest_38 : gd cX10_rest 38 (.getfield 294) 3 41 := by decide +kernel
theorem dX10_rest_41 : gb cX10_rest 41 (.if_icmp .gt 29) (29) 44 70 := by decide +kernel
theorem dX10_rest_44 : gd cX10_rest 44 (.aload_n 0) 1 45 := by decide +kernel
theorem dX10_rest_45 : gd cX10_rest 45 (.iload_n 1) 1 46 := by decide +kernel
theorem dX10_rest_46 : gd cX10_rest 46 (.iload_n 2) 1 47 := by decide +kernel
theorem dX10_rest_47 : gd cX10_rest 47 (.invokevirtual 507) 3 50 := by decide +kernel
theorem dX10_rest_50 : gb cX10_rest 50 (.ifCond .eq 14) (14) 53 64 := by decide +kernel
theorem dX10_rest_53 : gd cX10_rest 53 (.aload_n 0) 1 54 := by decide +kernel
theorem dX10_rest_54 : decode cX10_rest 54 = .ok (.bipush 10, 2) ∧ 54 + 2 = 56 ∧ (Int8.ofInt (10)).toInt32 = (10) := by decide +kernel
theorem dX10_rest_56 : gd cX10_rest 56 (.iload_n 1) 1 57 := by decide +kernel
theorem dX10_rest_57 : gd cX10_rest 57 (.imul) 1 58 := by decide +kernel
theorem dX10_rest_58 : gd cX10_rest 58 (.iload_n 2) 1 59 := by decide +kernel
theorem dX10_rest_59 : gd cX10_rest 59 (.iadd) 1 60 := by decide +kernel
theorem dX10_rest_60 : gd cX10_rest 60 (.invokevirtual 49) 3 63 := by decide +kernel
theorem dX10_rest_63 : gd cX10_rest 63 (.ireturn) 1 64 := by decide +kernel
theorem dX10_rest_64 : decode cX10_rest 64 = .ok (.iinc 2 1, 3) ∧ 64 + 3 = 67 ∧ Int32.ofInt (1) = (1) := by decide +kernel
theorem dX10_rest_67 : gb cX10_rest 67 (.goto (-34)) (-34) 70 33 := by decide +kernel
theorem dX10_rest_70 : decode cX10_rest 70 = .ok (.iinc 1 1, 3) ∧ 70 + 3 = 73 ∧ Int32.ofInt (1) = (1) := by decide +kernel
theorem dX10_rest_73 : gb cX10_rest 73 (.goto (-53)) (-53) 76 20 := by decide +kernel
theorem dX10_rest_76 : gd cX10_rest 76 (.aload_n 0) 1 77 := by decide +kernel
theorem dX10_rest_77 : decode cX10_rest 77 = .ok (.bipush (-2), 2) ∧ 77 + 2 = 79 ∧ (Int8.ofInt (-2)).toInt32 = (-2) := by decide +kernel
theorem dX10_rest_79 : gd cX10_rest 79 (.invokevirtual 49) 3 82 := by decide +kernel
theorem dX10_rest_82 : gd cX10_rest 82 (.ireturn) 1 83 := by decide +kernel
theorem dX10_daysOf_0 : gd cX10_daysOf 0 (.iload_n 1) 1 1 := by decide +kernel
theorem dX10_daysOf_1 : gd cX10_daysOf 1 (.istore_n 3) 1 2 := by decide +kernel
theorem dX10_daysOf_2 : decode cX10_daysOf 2 = .ok (.iconst 1, 1) ∧ 2 + 1 = 3 ∧ Int32.ofInt (1) = (1) := by decide +kernel
theorem dX10_daysOf_3 : gd cX10_daysOf 3 (.aload_n 0) 1 4 := by decide +kernel
theorem dX10_daysOf_4 : gd cX10_daysOf 4 (.getfield 359) 3 7 := by decide +kernel
theorem dX10_daysOf_7 : gd cX10_daysOf 7 (.getfield 215) 3 10 := by decide +kernel
theorem dX10_daysOf_10 : gd cX10_daysOf 10 (.ishl) 1 11 := by decide +kernel
theorem dX10_daysOf_11 : decode cX10_daysOf 11 = .ok (.iconst 1, 1) ∧ 11 + 1 = 12 ∧ Int32.ofInt (1) = (1) := by decide +kernel
theorem dX10_daysOf_12 : gd cX10_daysOf 12 (.isub) 1 13 := by decide +kernel
theorem dX10_daysOf_13 : gd cX10_daysOf 13 (.aload_n 0) 1 14 := by decide +kernel
theorem dX10_daysOf_14 : gd cX10_daysOf 14 (.getfield 17) 3 17 := by decide +kernel
theorem dX10_daysOf_17 : decode cX10_daysOf 17 = .ok (.bipush 16, 2) ∧ 17 + 2 = 19 ∧ (Int8.ofInt (16)).toInt32 = (16) := by decide +kernel
theorem dX10_daysOf_19 : gd cX10_daysOf 19 (.iaload) 1 20 := by decide +kernel
theorem dX10_daysOf_20 : decode cX10_daysOf 20 = .ok (.iconst (-1), 1) ∧ 20 + 1 = 21 ∧ Int32.ofInt (-1) = (-1) := by decide +kernel
theorem dX10_daysOf_21 : gd cX10_daysOf 21 (.ixor) 1 22 := by decide +kernel
theorem dX10_daysOf_22 : gd cX10_daysOf 22 (.iand) 1 23 := by decide +kernel
theorem dX10_daysOf_23 : gd cX10_daysOf 23 (.istore 4) 2 25 := by decide +kernel
theorem dX10_daysOf_25 : gd cX10_daysOf 25 (.aload_n 0) 1 26 := by decide +kernel
theorem dX10_daysOf_26 : decode cX10_daysOf 26 = .ok (.iconst 0, 1) ∧ 26 + 1 = 27 ∧ Int32.ofInt (0) = (0) := by decide +kernel
theorem dX10_daysOf_27 : gd cX10_daysOf 27 (.putfield 510) 3 30 := by decide +kernel
theorem dX10_daysOf_30 : decode cX10_daysOf 30 = .ok (.iconst 1, 1) ∧ 30 + 1 = 31 ∧ Int32.ofInt (1) = (1) := by decide +kernel
theorem dX10_daysOf_31 : gd cX10_daysOf 31 (.istore 5) 2 33 := by decide +kernel
theorem dX10_daysOf_33 : gd cX10_daysOf 33 (.iload 5) 2 35 := by decide +kernel
theorem dX10_daysOf_35 : gd cX10_daysOf 35 (.iload_n 2) 1 36 := by decide +kernel
theorem dX10_daysOf_36 : gb cX10_daysOf 36 (.if_icmp .gt 162) (162) 39 198 := by decide +kernel
theorem dX10_daysOf_39 : gd cX10_daysOf 39 (.ldc2_w 513) 3 42 := by decide +kernel
theorem dX10_daysOf_42 : gd cX10_daysOf 42 (.iload_n 3) 1 43 := by decide +kernel
theorem dX10_daysOf_43 : gd cX10_daysOf 43 (.i2l) 1 44 := by decide +kernel
theorem dX10_daysOf_44 : gd cX10_daysOf 44 (.lmul) 1 45 := by decide +kernel
theorem dX10_daysOf_45 : gd cX10_daysOf 45 (.ldc2_w 515) 3 48 := by decide +kernel
theorem dX10_daysOf_48 : gd cX10_daysOf 48 (.ladd) 1 49 := by decide +kernel
theorem dX10_daysOf_49 : gd cX10_daysOf 49 (.ldc2_w 517) 3 52 := by decide +kernel
theorem dX10_daysOf_52 : gd cX10_daysOf 52 (.lrem) 1 53 := by decide +kernel
theorem dX10_daysOf_53 : gd cX10_daysOf 53 (.l2i) 1 54 := by decide +kernel
theorem dX10_daysOf_54 : gd cX10_daysOf 54 (.istore_n 3) 1 55 := by decide +kernel
theorem dX10_daysOf_55 : gd cX10_daysOf 55 (.iload_n 3) 1 56 := by decide +kernel
theorem dX10_daysOf_56 : decode cX10_daysOf 56 = .ok (.bipush 100, 2) ∧ 56 + 2 = 58 ∧ (Int8.ofInt (100)).toInt32 = (100) := by decide +kernel
theorem dX10_daysOf_58 : gd cX10_daysOf 58 (.irem) 1 59 := by decide +kernel
theorem dX10_daysOf_59 : gd cX10_daysOf 59 (.aload_n 0) 1 60 := by decide +kernel
theorem dX10_daysOf_60 : gd cX10_daysOf 60 (.getfield 359) 3 63 := by decide +kernel
theorem dX10_daysOf_63 : gd cX10_daysOf 63 (.getfield 261) 3 66 := by decide +kernel
theorem dX10_daysOf_66 : gb cX10_daysOf 66 (.if_icmp .ge 68) (68) 69 134 := by decide +kernel
theorem dX10_daysOf_69 : gd cX10_daysOf 69 (.aload_n 0) 1 70 := by decide +kernel
theorem dX10_daysOf_70 : gd cX10_daysOf 70 (.dup) 1 71 := by decide +kernel
theorem dX10_daysOf_71 : gd cX10_daysOf 71 (.getfield 510) 3 74 := by decide +kernel
theorem dX10_daysOf_74 : decode cX10_daysOf 74 = .ok (.iconst 1, 1) ∧ 74 + 1 = 75 ∧ Int32.ofInt (1) = (1) := by decide +kernel
theorem dX10_daysOf_75 : gd cX10_daysOf 75 (.iadd) 1 76 := by decide +kernel
theorem dX10_daysOf_76 : gd cX10_daysOf 76 (.putfield 510) 3 79 := by decide +kernel
theorem dX10_daysOf_79 : gd cX10_daysOf 79 (.ldc2_w 513) 3 82 := by decide +kernel
theorem dX10_daysOf_82 : gd cX10_daysOf 82 (.iload_n 3) 1 83 := by decide +kernel
theorem dX10_daysOf_83 : gd cX10_daysOf 83 (.i2l) 1 84 := by decide +kernel
theorem dX10_daysOf_84 : gd cX10_daysOf 84 (.lmul) 1 85 := by decide +kernel
theorem dX10_daysOf_85 : gd cX10_daysOf 85 (.ldc2_w 515) 3 88 := by decide +kernel
theorem dX10_daysOf_88 : gd cX10_daysOf 88 (.ladd) 1 89 := by decide +kernel
theorem dX10_daysOf_89 : gd cX10_daysOf 89 (.ldc2_w 517) 3 92 := by decide +kernel
theorem dX10_daysOf_92 : gd cX10_daysOf 92 (.lrem) 1 93 := by decide +kernel
theorem dX10_daysOf_93 : gd cX10_daysOf 93 (.l2i) 1 94 := by decide +kernel
theorem dX10_daysOf_94 : gd cX10_daysOf 94 (.istore_n 3) 1 95 := by decide +kernel
theorem dX10_daysOf_95 : gd cX10_daysOf 95 (.aload_n 0) 1 96 := by decide +kernel
theorem dX10_daysOf_96 : gd cX10_daysOf 96 (.getfield 359) 3 99 := by decide +kernel
theorem dX10_daysOf_99 : gd cX10_daysOf 99 (.getfield 283) 3 102 := by decide +kernel
theorem dX10_daysOf_102 : gd cX10_daysOf 102 (.iload_n 3) 1 103 := by decide +kernel
theorem dX10_daysOf_103 : gd cX10_daysOf 103 (.aload_n 0) 1 104 := by decide +kernel
theorem dX10_daysOf_104 : gd cX10_daysOf 104 (.getfield 359) 3 107 := by decide +kernel
theorem dX10_daysOf_107 : gd cX10_daysOf 107 (.getfield 215) 3 110 := by decide +kernel
theorem dX10_daysOf_110 : gd cX10_daysOf 110 (.irem) 1 111 := by decide +kernel
theorem dX10_daysOf_111 : gd cX10_daysOf 111 (.iaload) 1 112 := by decide +kernel
theorem dX10_daysOf_112 : decode cX10_daysOf 112 = .ok (.iconst 1, 1) ∧ 112 + 1 = 113 ∧ Int32.ofInt (1) = (1) := by decide +kernel
theorem dX10_daysOf_113 : gb cX10_daysOf 113 (.if_icmp .eq 21) (21) 116 134 := by decide +kernel
theorem dX10_daysOf_116 : gd cX10_daysOf 116 (.iload 4) 2 118 := by decide +kernel
theorem dX10_daysOf_118 : decode cX10_daysOf 118 = .ok (.iconst 1, 1) ∧ 118 + 1 = 119 ∧ Int32.ofInt (1) = (1) := by decide +kernel
theorem dX10_daysOf_119 : gd cX10_daysOf 119 (.iload_n 3) 1 120 := by decide +kernel
theorem dX10_daysOf_120 : gd cX10_daysOf 120 (.aload_n 0) 1 121 := by decide +kernel
theorem dX10_daysOf_121 : gd cX10_daysOf 121 (.getfield 359) 3 124 := by decide +kernel
theorem dX10_daysOf_124 : gd cX10_daysOf 124 (.getfield 215) 3 127 := by decide +kernel
theorem dX10_daysOf_127 : gd cX10_daysOf 127 (.irem) 1 128 := by decide +kernel
theorem dX10_daysOf_128 : gd cX10_daysOf 128 (.ishl) 1 129 := by decide +kernel
theorem dX10_daysOf_129 : decode cX10_daysOf 129 = .ok (.iconst (-1), 1) ∧ 129 + 1 = 130 ∧ Int32.ofInt (-1) = (-1) := by decide +kernel
theorem dX10_daysOf_130 : gd cX10_daysOf 130 (.ixor) 1 131 := by decide +kernel
theorem dX10_daysOf_131 : gd cX10_daysOf 131 (.iand) 1 132 := by decide +kernel
theorem dX10_daysOf_132 : gd cX10_daysOf 132 (.istore 4) 2 134 := by decide +kernel
theorem dX10_daysOf_134 : decode cX10_daysOf 134 = .ok (.iconst 0, 1) ∧ 134 + 1 = 135 ∧ Int32.ofInt (0) = (0) := by decide +kernel
theorem dX10_daysOf_135 : gd cX10_daysOf 135 (.istore 6) 2 137 := by decide +kernel
theorem dX10_daysOf_137 : gd cX10_daysOf 137 (.iload 6) 2 139 := by decide +kernel
theorem dX10_daysOf_139 : gd cX10_daysOf 139 (.aload_n 0) 1 140 := by decide +kernel
theorem dX10_daysOf_140 : gd cX10_daysOf 140 (.getfield 359) 3 143 := by decide +kernel
theorem dX10_daysOf_143 : gd cX10_daysOf 143 (.getfield 215) 3 146 := by decide +kernel
theorem dX10_daysOf_146 : gb cX10_daysOf 146 (.if_icmp .ge 46) (46) 149 192 := by decide +kernel
theorem dX10_daysOf_149 : gd cX10_daysOf 149 (.iload 5) 2 151 := by decide +kernel
theorem dX10_daysOf_151 : gd cX10_daysOf 151 (.aload_n 0) 1 152 := by decide +kernel
theorem dX10_daysOf_152 : gd cX10_daysOf 152 (.getfield 359) 3 155 := by decide +kernel
theorem dX10_daysOf_155 : gd cX10_daysOf 155 (.getfield 263) 3 158 := by decide +kernel
theorem dX10_daysOf_158 : gb cX10_daysOf 158 (.if_icmp .ne 34) (34) 161 192 := by decide +kernel
theorem dX10_daysOf_161 : gd cX10_daysOf 161 (.aload_n 0) 1 162 := by decide +kernel
theorem dX10_daysOf_162 : gd cX10_daysOf 162 (.getfield 359) 3 165 := by decide +kernel
theorem dX10_daysOf_165 : gd cX10_daysOf 165 (.getfield 283) 3 168 := by decide +kernel
theorem dX10_daysOf_168 : gd cX10_daysOf 168 (.iload 6) 2 170 := by decide +kernel
theorem dX10_daysOf_170 : gd cX10_daysOf 170 (.iaload) 1 171 := by decide +kernel
theorem dX10_daysOf_171 : decode cX10_daysOf 171 = .ok (.iconst 2, 1) ∧ 171 + 1 = 172 ∧ Int32.ofInt (2) = (2) := by decide +kernel
theorem dX10_daysOf_172 : gb cX10_daysOf 172 (.if_icmp .ne 14) (14) 175 186 := by decide +kernel
theorem dX10_daysOf_175 : gd cX10_daysOf 175 (.iload 4) 2 177 := by decide +kernel
theorem dX10_daysOf_177 : decode cX10_daysOf 177 = .ok (.iconst 1, 1) ∧ 177 + 1 = 178 ∧ Int32.ofInt (1) = (1) := by decide +kernel
theorem dX10_daysOf_178 : gd cX10_daysOf 178 (.iload 6) 2 180 := by decide +kernel
theorem dX10_daysOf_180 : gd cX10_daysOf 180 (.ishl) 1 181 := by decide +kernel
theorem dX10_daysOf_181 : decode cX10_daysOf 181 = .ok (.iconst (-1), 1) ∧ 181 + 1 = 182 ∧ Int32.ofInt (-1) = (-1) := by decide +kernel
theorem dX10_daysOf_182 : gd cX10_daysOf 182 (.ixor) 1 183 := by decide +kernel
theorem dX10_daysOf_183 : gd cX10_daysOf 183 (.iand) 1 184 := by decide +kernel
theorem dX10_daysOf_184 : gd cX10_daysOf 184 (.istore 4) 2 186 := by decide +kernel
theorem dX10_daysOf_186 : decode cX10_daysOf 186 = .ok (.iinc 6 1, 3) ∧ 186 + 3 = 189 ∧ Int32.ofInt (1) = (1) := by decide +kernel
theorem dX10_daysOf_189 : gb cX10_daysOf 189 (.goto (-52)) (-52) 192 137 := by decide +kernel
theorem dX10_daysOf_192 : decode cX10_daysOf 192 = .ok (.iinc 5 1, 3) ∧ 192 + 3 = 195 ∧ Int32.ofInt (1) = (1) := by decide +kernel
theorem dX10_daysOf_195 : gb cX10_daysOf 195 (.goto (-162)) (-162) 198 33 := by decide +kernel
theorem dX10_daysOf_198 : gd cX10_daysOf 198 (.iload 4) 2 200 := by decide +kernel
theorem dX10_daysOf_200 : gd cX10_daysOf 200 (.ireturn) 1 201 := by decide +kernel
theorem dX10_refusesDays_0 : gd cX10_refusesDays 0 (.aload_n 0) 1 1 := by decide +kernel
theorem dX10_refusesDays_1 : gd cX10_refusesDays 1 (.getfield 359) 3 4 := by decide +kernel
theorem dX10_refusesDays_4 : gb cX10_refusesDays 4 (.ifnonnull 7) (7) 7 11 := by decide +kernel
theorem dX10_refusesDays_7 : decode cX10_refusesDays 7 = .ok (.iconst 1, 1) ∧ 7 + 1 = 8 ∧ Int32.ofInt (1) = (1) := by decide +kernel
theorem dX10_refusesDays_8 : gb cX10_refusesDays 8 (.goto 29) (29) 11 37 := by decide +kernel
theorem dX10_refusesDays_11 : gd cX10_refusesDays 11 (.iload_n 1) 1 12 := by decide +kernel
theorem dX10_refusesDays_12 : decode cX10_refusesDays 12 = .ok (.iconst 0, 1) ∧ 12 + 1 = 13 ∧ Int32.ofInt (0) = (0) := by decide +kernel
theorem dX10_refusesDays_13 : gd cX10_refusesDays 13 (.ldc_w 519) 3 16 := by decide +kernel
theorem dX10_refusesDays_16 : gd cX10_refusesDays 16 (.invokestatic 134) 3 19 := by decide +kernel
theorem dX10_refusesDays_19 : gb cX10_refusesDays 19 (.ifCond .eq 17) (17) 22 36 := by decide +kernel
theorem dX10_refusesDays_22 : gd cX10_refusesDays 22 (.iload_n 2) 1 23 := by decide +kernel
theorem dX10_refusesDays_23 : decode cX10_refusesDays 23 = .ok (.iconst 0, 1) ∧ 23 + 1 = 24 ∧ Int32.ofInt (0) = (0) := by decide +kernel
theorem dX10_refusesDays_24 : decode cX10_refusesDays 24 = .ok (.bipush 99, 2) ∧ 24 + 2 = 26 ∧ (Int8.ofInt (99)).toInt32 = (99) := by decide +kernel
theorem dX10_refusesDays_26 : gd cX10_refusesDays 26 (.invokestatic 134) 3 29 := by decide +kernel
theorem dX10_refusesDays_29 : gb cX10_refusesDays 29 (.ifCond .eq 7) (7) 32 36 := by decide +kernel
theorem dX10_refusesDays_32 : decode cX10_refusesDays 32 = .ok (.iconst 0, 1) ∧ 32 + 1 = 33 ∧ Int32.ofInt (0) = (0) := by decide +kernel
theorem dX10_refusesDays_33 : gb cX10_refusesDays 33 (.goto 4) (4) 36 37 := by decide +kernel
theorem dX10_refusesDays_36 : decode cX10_refusesDays 36 = .ok (.iconst 2, 1) ∧ 36 + 1 = 37 ∧ Int32.ofInt (2) = (2) := by decide +kernel
theorem dX10_refusesDays_37 : gd cX10_refusesDays 37 (.ireturn) 1 38 := by decide +kernel
theorem dX10_left_0 : gd cX10_left 0 (.aload_n 0) 1 1 := by decide +kernel
theorem dX10_left_1 : decode cX10_left 1 = .ok (.iconst 0, 1) ∧ 1 + 1 = 2 ∧ Int32.ofInt (0) = (0) := by decide +kernel
theorem dX10_left_2 : gd cX10_left 2 (.putfield 39) 3 5 := by decide +kernel
theorem dX10_left_5 : gd cX10_left 5 (.aload_n 0) 1 6 := by decide +kernel
theorem dX10_left_6 : gd cX10_left 6 (.iload_n 1) 1 7 := by decide +kernel
theorem dX10_left_7 : gd cX10_left 7 (.iload_n 2) 1 8 := by decide +kernel
theorem dX10_left_8 : gd cX10_left 8 (.invokevirtual 520) 3 11 := by decide +kernel
theorem dX10_left_11 : gd cX10_left 11 (.istore_n 3) 1 12 := by decide +kernel
theorem dX10_left_12 : gd cX10_left 12 (.iload_n 3) 1 13 := by decide +kernel
theorem dX10_left_13 : gb cX10_left 13 (.ifCond .le 11) (11) 16 24 := by decide +kernel
theorem dX10_left_16 : gd cX10_left 16 (.aload_n 0) 1 17 := by decide +kernel
theorem dX10_left_17 : gd cX10_left 17 (.iload_n 3) 1 18 := by decide +kernel
theorem dX10_left_18 : gd cX10_left 18 (.invokevirtual 45) 3 21 := by decide +kernel
theorem dX10_left_21 : gb cX10_left 21 (.goto 13) (13) 24 34 := by decide +kernel
theorem dX10_left_24 : gd cX10_left 24 (.aload_n 0) 1 25 := by decide +kernel
theorem dX10_left_25 : gd cX10_left 25 (.aload_n 0) 1 26 := by decide +kernel
theorem dX10_left_26 : gd cX10_left 26 (.iload_n 1) 1 27 := by decide +kernel
theorem dX10_left_27 : gd cX10_left 27 (.iload_n 2) 1 28 := by decide +kernel
theorem dX10_left_28 : gd cX10_left 28 (.invokevirtual 523) 3 31 := by decide +kernel
theorem dX10_left_31 : gd cX10_left 31 (.invokevirtual 49) 3 34 := by decide +kernel
theorem dX10_left_34 : gd cX10_left 34 (.ireturn) 1 35 := by decide +kernel
theorem dX10_hails_0 : gd cX10_hails 0 (.aload_n 0) 1 1 := by decide +kernel
theorem dX10_hails_1 : decode cX10_hails 1 = .ok (.iconst 0, 1) ∧ 1 + 1 = 2 ∧ Int32.ofInt (0) = (0) := by decide +kernel
theorem dX10_hails_2 : gd cX10_hails 2 (.putfield 39) 3 5 := by decide +kernel
theorem dX10_hails_5 : gd cX10_hails 5 (.aload_n 0) 1 6 := by decide +kernel
theorem dX10_hails_6 : gd cX10_hails 6 (.iload_n 1) 1 7 := by decide +kernel
theorem dX10_hails_7 : gd cX10_hails 7 (.iload_n 2) 1 8 := by decide +kernel
theorem dX10_hails_8 : gd cX10_hails 8 (.invokevirtual 520) 3 11 := by decide +kernel
theorem dX10_hails_11 : gd cX10_hails 11 (.istore_n 3) 1 12 := by decide +kernel
theorem dX10_hails_12 : gd cX10_hails 12 (.iload_n 3) 1 13 := by decide +kernel
theorem dX10_hails_13 : gb cX10_hails 13 (.ifCond .le 9) (9) 16 22 := by decide +kernel
theorem dX10_hails_16 : gd cX10_hails 16 (.aload_n 0) 1 17 := by decide +kernel
theorem dX10_hails_17 : gd cX10_hails 17 (.iload_n 3) 1 18 := by decide +kernel
theorem dX10_hails_18 : gd cX10_hails 18 (.invokevirtual 45) 3 21 := by decide +kernel
theorem dX10_hails_21 : gd cX10_hails 21 (.ireturn) 1 22 := by decide +kernel
theorem dX10_hails_22 : gd cX10_hails 22 (.aload_n 0) 1 23 := by decide +kernel
theorem dX10_hails_23 : gd cX10_hails 23 (.iload_n 1) 1 24 := by decide +kernel
theorem dX10_hails_24 : gd cX10_hails 24 (.iload_n 2) 1 25 := by decide +kernel
theorem dX10_hails_25 : gd cX10_hails 25 (.invokevirtual 523) 3 28 := by decide +kernel
theorem dX10_hails_28 : gd cX10_hails 28 (.pop) 1 29 := by decide +kernel
theorem dX10_hails_29 : gd cX10_hails 29 (.aload_n 0) 1 30 := by decide +kernel
theorem dX10_hails_30 : gd cX10_hails 30 (.aload_n 0) 1 31 := by decide +kernel
theorem dX10_hails_31 : gd cX10_hails 31 (.getfield 510) 3 34 := by decide +kernel
theorem dX10_hails_34 : gd cX10_hails 34 (.invokevirtual 49) 3 37 := by decide +kernel
theorem dX10_hails_37 : gd cX10_hails 37 (.ireturn) 1 38 := by decide +kernel
theorem dX10_remembers_0 : gd cX10_remembers 0 (.aload_n 0) 1 1 := by decide +kernel
theorem dX10_remembers_1 : gd cX10_remembers 1 (.getfield 361) 3 4 := by decide +kernel
theorem dX10_remembers_4 : decode cX10_remembers 4 = .ok (.bipush 16, 2) ∧ 4 + 2 = 6 ∧ (Int8.ofInt (16)).toInt32 = (16) := by decide +kernel
theorem dX10_remembers_6 : gb cX10_remembers 6 (.if_icmp .ne 43) (43) 9 49 := by decide +kernel
theorem dX10_remembers_9 : decode cX10_remembers 9 = .ok (.iconst 0, 1) ∧ 9 + 1 = 10 ∧ Int32.ofInt (0) = (0) := by decide +kernel
theorem dX10_remembers_10 : gd cX10_remembers 10 (.istore_n 1) 1 11 := by decide +kernel
theorem dX10_remembers_11 : gd cX10_remembers 11 (.iload_n 1) 1 12 := by decide +kernel
theorem dX10_remembers_12 : decode cX10_remembers 12 = .ok (.sipush 255, 3) ∧ 12 + 3 = 15 ∧ (Int16.ofInt (255)).toInt32 = (255) := by decide +kernel
theorem dX10_remembers_15 : gb cX10_remembers 15 (.if_icmp .ge 24) (24) 18 39 := by decide +kernel
theorem dX10_remembers_18 : gd cX10_remembers 18 (.aload_n 0) 1 19 := by decide +kernel
theorem dX10_remembers_19 : gd cX10_remembers 19 (.getfield 21) 3 22 := by decide +kernel
theorem dX10_remembers_22 : gd cX10_remembers 22 (.iload_n 1) 1 23 := by decide +kernel
theorem dX10_remembers_23 : gd cX10_remembers 23 (.aload_n 0) 1 24 := by decide +kernel
theorem dX10_remembers_24 : gd cX10_remembers 24 (.getfield 21) 3 27 := by decide +kernel
theorem dX10_remembers_27 : gd cX10_remembers 27 (.iload_n 1) 1 28 := by decide +kernel
theorem dX10_remembers_28 : decode cX10_remembers 28 = .ok (.bipush 17, 2) ∧ 28 + 2 = 30 ∧ (Int8.ofInt (17)).toInt32 = (17) := by decide +kernel
theorem dX10_remembers_30 : gd cX10_remembers 30 (.iadd) 1 31 := by decide +kernel
theorem dX10_remembers_31 : gd cX10_remembers 31 (.iaload) 1 32 := by decide +kernel
theorem dX10_remembers_32 : gd cX10_remembers 32 (.iastore) 1 33 := by decide +kernel
theorem dX10_remembers_33 : decode cX10_remembers 33 = .ok (.iinc 1 1, 3) ∧ 33 + 3 = 36 ∧ Int32.ofInt (1) = (1) := by decide +kernel
theorem dX10_remembers_36 : gb cX10_remembers 36 (.goto (-25)) (-25) 39 11 := by decide +kernel
theorem dX10_remembers_39 : gd cX10_remembers 39 (.aload_n 0) 1 40 := by decide +kernel
theorem dX10_remembers_40 : gd cX10_remembers 40 (.dup) 1 41 := by decide +kernel
theorem dX10_remembers_41 : gd cX10_remembers 41 (.getfield 361) 3 44 := by decide +kernel
theorem dX10_remembers_44 : decode cX10_remembers 44 = .ok (.iconst 1, 1) ∧ 44 + 1 = 45 ∧ Int32.ofInt (1) = (1) := by decide +kernel
theorem dX10_remembers_45 : gd cX10_remembers 45 (.isub) 1 46 := by decide +kernel
theorem dX10_remembers_46 : gd cX10_remembers 46 (.putfield 361) 3 49 := by decide +kernel
theorem dX10_remembers_49 : decode cX10_remembers 49 = .ok (.iconst 0, 1) ∧ 49 + 1 = 50 ∧ Int32.ofInt (0) = (0) := by decide +kernel
theorem dX10_remembers_50 : gd cX10_remembers 50 (.istore_n 1) 1 51 := by decide +kernel
theorem dX10_remembers_51 : gd cX10_remembers 51 (.iload_n 1) 1 52 := by decide +kernel
theorem dX10_remembers_52 : decode cX10_remembers 52 = .ok (.bipush 17, 2) ∧ 52 + 2 = 54 ∧ (Int8.ofInt (17)).toInt32 = (17) := by decide +kernel
theorem dX10_remembers_54 : gb cX10_remembers 54 (.if_icmp .ge 29) (29) 57 83 := by decide +kernel
theorem dX10_remembers_57 : gd cX10_remembers 57 (.aload_n 0) 1 58 := by decide +kernel
theorem dX10_remembers_58 : gd cX10_remembers 58 (.getfield 21) 3 61 := by decide +kernel
theorem dX10_remembers_61 : decode cX10_remembers 61 = .ok (.bipush 17, 2) ∧ 61 + 2 = 63 ∧ (Int8.ofInt (17)).toInt32 = (17) := by decide +kernel
theorem dX10_remembers_63 : gd cX10_remembers 63 (.aload_n 0) 1 64 := by decide +kernel
theorem dX10_remembers_64 : gd cX10_remembers 64 (.getfield 361) 3 67 := by decide +kernel
theorem dX10_remembers_67 : gd cX10_remembers 67 (.imul) 1 68 := by decide +kernel
theorem dX10_remembers_68 : gd cX10_remembers 68 (.iload_n 1) 1 69 := by decide +kernel
theorem dX10_remembers_69 : gd cX10_remembers 69 (.iadd) 1 70 := by decide +kernel
theorem dX10_remembers_70 : gd cX10_remembers 70 (.aload_n 0) 1 71 := by decide +kernel
theorem dX10_remembers_71 : gd cX10_remembers 71 (.getfield 17) 3 74 := by decide +kernel
theorem dX10_remembers_74 : gd cX10_remembers 74 (.iload_n 1) 1 75 := by decide +kernel
theorem dX10_remembers_75 : gd cX10_remembers 75 (.iaload) 1 76 := by decide +kernel
theorem dX10_remembers_76 : gd cX10_remembers 76 (.iastore) 1 77 := by decide +kernel
theorem dX10_remembers_77 : decode cX10_remembers 77 = .ok (.iinc 1 1, 3) ∧ 77 + 3 = 80 ∧ Int32.ofInt (1) = (1) := by decide +kernel
theorem dX10_remembers_80 : gb cX10_remembers 80 (.goto (-29)) (-29) 83 51 := by decide +kernel
theorem dX10_remembers_83 : gd cX10_remembers 83 (.aload_n 0) 1 84 := by decide +kernel
theorem dX10_remembers_84 : gd cX10_remembers 84 (.dup) 1 85 := by decide +kernel
theorem dX10_remembers_85 : gd cX10_remembers 85 (.getfield 361) 3 88 := by decide +kernel
theorem dX10_remembers_88 : decode cX10_remembers 88 = .ok (.iconst 1, 1) ∧ 88 + 1 = 89 ∧ Int32.ofInt (1) = (1) := by decide +kernel
theorem dX10_remembers_89 : gd cX10_remembers 89 (.iadd) 1 90 := by decide +kernel
theorem dX10_remembers_90 : gd cX10_remembers 90 (.putfield 361) 3 93 := by decide +kernel
theorem dX10_remembers_93 : gd cX10_remembers 93 (.return_) 1 94 := by decide +kernel
theorem dX10_isCell_0 : gd cX10_isCell 0 (.aload_n 0) 1 1 := by decide +kernel
theorem dX10_isCell_1 : gd cX10_isCell 1 (.iload_n 1) 1 2 := by decide +kernel
theorem dX10_isCell_2 : gd cX10_isCell 2 (.invokevirtual 377) 3 5 := by decide +kernel
theorem dX10_isCell_5 : gb cX10_isCell 5 (.ifCond .eq 22) (22) 8 27 := by decide +kernel
theorem dX10_isCell_8 : gd cX10_isCell 8 (.iload_n 2) 1 9 := by decide +kernel
theorem dX10_isCell_9 : gb cX10_isCell 9 (.ifCond .lt 18) (18) 12 27 := by decide +kernel
theorem dX10_isCell_12 : gd cX10_isCell 12 (.iload_n 2) 1 13 := by decide +kernel
theorem dX10_isCell_13 : gd cX10_isCell 13 (.aload_n 0) 1 14 := by decide +kernel
theorem dX10_isCell_14 : gd cX10_isCell 14 (.getfield 359) 3 17 := by decide +kernel
theorem dX10_isCell_17 : gd cX10_isCell 17 (.invokevirtual 389) 3 20 := by decide +kernel
theorem dX10_isCell_20 : gb cX10_isCell 20 (.if_icmp .ge 7) (7) 23 27 := by decide +kernel
theorem dX10_isCell_23 : decode cX10_isCell 23 = .ok (.iconst 1, 1) ∧ 23 + 1 = 24 ∧ Int32.ofInt (1) = (1) := by decide +kernel
theorem dX10_isCell_24 : gb cX10_isCell 24 (.goto 4) (4) 27 28 := by decide +kernel
theorem dX10_isCell_27 : decode cX10_isCell 27 = .ok (.iconst 0, 1) ∧ 27 + 1 = 28 ∧ Int32.ofInt (0) = (0) := by decide +kernel
theorem dX10_isCell_28 : gd cX10_isCell 28 (.ireturn) 1 29 := by decide +kernel
theorem dX10_marksCell_0 : gd cX10_marksCell 0 (.aload_n 0) 1 1 := by decide +kernel
theorem dX10_marksCell_1 : gd cX10_marksCell 1 (.iload_n 2) 1 2 := by decide +kernel
theorem dX10_marksCell_2 : gd cX10_marksCell 2 (.iload_n 3) 1 3 := by decide +kernel
theorem dX10_marksCell_3 : gd cX10_marksCell 3 (.invokevirtual 526) 3 6 := by decide +kernel
theorem dX10_marksCell_6 : gb cX10_marksCell 6 (.ifCond .ne 9) (9) 9 15 := by decide +kernel
theorem dX10_marksCell_9 : gd cX10_marksCell 9 (.aload_n 0) 1 10 := by decide +kernel
theorem dX10_marksCell_10 : decode cX10_marksCell 10 = .ok (.iconst 1, 1) ∧ 10 + 1 = 11 ∧ Int32.ofInt (1) = (1) := by decide +kernel
theorem dX10_marksCell_11 : gd cX10_marksCell 11 (.invokevirtual 529) 3 14 := by decide +kernel
theorem dX10_marksCell_14 : gd cX10_marksCell 14 (.ireturn) 1 15 := by decide +kernel
theorem dX10_marksCell_15 : gd cX10_marksCell 15 (.aload_n 0) 1 16 := by decide +kernel
theorem dX10_marksCell_16 : gd cX10_marksCell 16 (.iload_n 2) 1 17 := by decide +kernel
theorem dX10_marksCell_17 : gd cX10_marksCell 17 (.invokevirtual 383) 3 20 := by decide +kernel
theorem dX10_marksCell_20 : gb cX10_marksCell 20 (.ifCond .ne 18) (18) 23 38 := by decide +kernel
theorem dX10_marksCell_23 : gd cX10_marksCell 23 (.aload_n 0) 1 24 := by decide +kernel
theorem dX10_marksCell_24 : gd cX10_marksCell 24 (.getfield 17) 3 27 := by decide +kernel
theorem dX10_marksCell_27 : gd cX10_marksCell 27 (.iload_n 1) 1 28 := by decide +kernel
theorem dX10_marksCell_28 : gd cX10_marksCell 28 (.iload_n 2) 1 29 := by decide +kernel
theorem dX10_marksCell_29 : gd cX10_marksCell 29 (.iadd) 1 30 := by decide +kernel
theorem dX10_marksCell_30 : gd cX10_marksCell 30 (.iaload) 1 31 := by decide +kernel
theorem dX10_marksCell_31 : gd cX10_marksCell 31 (.iload_n 3) 1 32 := by decide +kernel
theorem dX10_marksCell_32 : gd cX10_marksCell 32 (.invokestatic 367) 3 35 := by decide +kernel
theorem dX10_marksCell_35 : gb cX10_marksCell 35 (.ifCond .eq 9) (9) 38 44 := by decide +kernel
theorem dX10_marksCell_38 : gd cX10_marksCell 38 (.aload_n 0) 1 39 := by decide +kernel
theorem dX10_marksCell_39 : decode cX10_marksCell 39 = .ok (.iconst 5, 1) ∧ 39 + 1 = 40 ∧ Int32.ofInt (5) = (5) := by decide +kernel
theorem dX10_marksCell_40 : gd cX10_marksCell 40 (.invokevirtual 529) 3 43 := by decide +kernel
theorem dX10_marksCell_43 : gd cX10_marksCell 43 (.ireturn) 1 44 := by decide +kernel
theorem dX10_marksCell_44 : gd cX10_marksCell 44 (.aload_n 0) 1 45 := by decide +kernel
theorem dX10_marksCell_45 : gd cX10_marksCell 45 (.invokevirtual 532) 3 48 := by decide +kernel
theorem dX10_marksCell_48 : gd cX10_marksCell 48 (.aload_n 0) 1 49 := by decide +kernel
theorem dX10_marksCell_49 : gd cX10_marksCell 49 (.getfield 17) 3 52 := by decide +kernel
theorem dX10_marksCell_52 : gd cX10_marksCell 52 (.iload_n 1) 1 53 := by decide +kernel
theorem dX10_marksCell_53 : gd cX10_marksCell 53 (.iload_n 2) 1 54 := by decide +kernel
theorem dX10_marksCell_54 : gd cX10_marksCell 54 (.iadd) 1 55 := by decide +kernel
theorem dX10_marksCell_55 : gd cX10_marksCell 55 (.dup2) 1 56 := by decide +kernel
theorem dX10_marksCell_56 : gd cX10_marksCell 56 (.iaload) 1 57 := by decide +kernel
theorem dX10_marksCell_57 : decode cX10_marksCell 57 = .ok (.iconst 1, 1) ∧ 57 + 1 = 58 ∧ Int32.ofInt (1) = (1) := by decide +kernel
theorem dX10_marksCell_58 : gd cX10_marksCell 58 (.iload_n 3) 1 59 := by decide +kernel
theorem dX10_marksCell_59 : gd cX10_marksCell 59 (.ishl) 1 60 := by decide +kernel
theorem dX10_marksCell_60 : gd cX10_marksCell 60 (.ior) 1 61 := by decide +kernel
theorem dX10_marksCell_61 : gd cX10_marksCell 61 (.iastore) 1 62 := by decide +kernel
theorem dX10_marksCell_62 : gd cX10_marksCell 62 (.aload_n 0) 1 63 := by decide +kernel
theorem dX10_marksCell_63 : gd cX10_marksCell 63 (.invokevirtual 535) 3 66 := by decide +kernel
theorem dX10_marksCell_66 : gd cX10_marksCell 66 (.ireturn) 1 67 := by decide +kernel
theorem dX10_scratch_0 : gd cX10_scratch 0 (.aload_n 0) 1 1 := by decide +kernel
theorem dX10_scratch_1 : decode cX10_scratch 1 = .ok (.iconst 0, 1) ∧ 1 + 1 = 2 ∧ Int32.ofInt (0) = (0) := by decide +kernel
theorem dX10_scratch_2 : gd cX10_scratch 2 (.putfield 39) 3 5 := by decide +kernel
theorem dX10_scratch_5 : gd cX10_scratch 5 (.aload_n 0) 1 6 := by decide +kernel
theorem dX10_scratch_6 : decode cX10_scratch 6 = .ok (.iconst 0, 1) ∧ 6 + 1 = 7 ∧ Int32.ofInt (0) = (0) := by decide +kernel
theorem dX10_scratch_7 : gd cX10_scratch 7 (.iload_n 1) 1 8 := by decide +kernel
theorem dX10_scratch_8 : gd cX10_scratch 8 (.iload_n 2) 1 9 := by decide +kernel
theorem dX10_scratch_9 : gd cX10_scratch 9 (.invokevirtual 538) 3 12 := by decide +kernel
theorem dX10_scratch_12 : gd cX10_scratch 12 (.ireturn) 1 13 := by decide +kernel
theorem dX10_cover_0 : gd cX10_cover 0 (.aload_n 0) 1 1 := by decide +kernel
theorem dX10_cover_1 : decode cX10_cover 1 = .ok (.iconst 0, 1) ∧ 1 + 1 = 2 ∧ Int32.ofInt (0) = (0) := by decide +kernel
theorem dX10_cover_2 : gd cX10_cover 2 (.putfield 39) 3 5 := by decide +kernel
theorem dX10_cover_5 : gd cX10_cover 5 (.aload_n 0) 1 6 := by decide +kernel
theorem dX10_cover_6 : decode cX10_cover 6 = .ok (.bipush 8, 2) ∧ 6 + 2 = 8 ∧ (Int8.ofInt (8)).toInt32 = (8) := by decide +kernel
theorem dX10_cover_8 : gd cX10_cover 8 (.iload_n 1) 1 9 := by decide +kernel
theorem dX10_cover_9 : gd cX10_cover 9 (.iload_n 2) 1 10 := by decide +kernel
theorem dX10_cover_10 : gd cX10_cover 10 (.invokevirtual 538) 3 13 := by decide +kernel
theorem dX10_cover_13 : gd cX10_cover 13 (.ireturn) 1 14 := by decide +kernel
theorem dX10_breaks_0 : gd cX10_breaks 0 (.aload_n 0) 1 1 := by decide +kernel
theorem dX10_breaks_1 : decode cX10_breaks 1 = .ok (.iconst 0, 1) ∧ 1 + 1 = 2 ∧ Int32.ofInt (0) = (0) := by decide +kernel
theorem dX10_breaks_2 : gd cX10_breaks 2 (.putfield 39) 3 5 := by decide +kernel
theorem dX10_breaks_5 : gd cX10_breaks 5 (.aload_n 0) 1 6 := by decide +kernel
theorem dX10_breaks_6 : gd cX10_breaks 6 (.iload_n 1) 1 7 := by decide +kernel
theorem dX10_breaks_7 : gd cX10_breaks 7 (.invokevirtual 377) 3 10 := by decide +kernel
theorem dX10_breaks_10 : gb cX10_breaks 10 (.ifCond .ne 9) (9) 13 19 := by decide +kernel
theorem dX10_breaks_13 : gd cX10_breaks 13 (.aload_n 0) 1 14 := by decide +kernel
theorem dX10_breaks_14 : decode cX10_breaks 14 = .ok (.iconst 1, 1) ∧ 14 + 1 = 15 ∧ Int32.ofInt (1) = (1) := by decide +kernel
theorem dX10_breaks_15 : gd cX10_breaks 15 (.invokevirtual 529) 3 18 := by decide +kernel
theorem dX10_breaks_18 : gd cX10_breaks 18 (.ireturn) 1 19 := by decide +kernel
theorem dX10_breaks_19 : gd cX10_breaks 19 (.aload_n 0) 1 20 := by decide +kernel
theorem dX10_breaks_20 : gd cX10_breaks 20 (.iload_n 1) 1 21 := by decide +kernel
theorem dX10_breaks_21 : gd cX10_breaks 21 (.invokevirtual 383) 3 24 := by decide +kernel
theorem dX10_breaks_24 : gb cX10_breaks 24 (.ifCond .ne 16) (16) 27 40 := by decide +kernel
theorem dX10_breaks_27 : gd cX10_breaks 27 (.aload_n 0) 1 28 := by decide +kernel
theorem dX10_breaks_28 : gd cX10_breaks 28 (.getfield 359) 3 31 := by decide +kernel
theorem dX10_breaks_31 : gd cX10_breaks 31 (.getfield 283) 3 34 := by decide +kernel
theorem dX10_breaks_34 : gd cX10_breaks 34 (.iload_n 1) 1 35 := by decide +kernel
theorem dX10_breaks_35 : gd cX10_breaks 35 (.iaload) 1 36 := by decide +kernel
theorem dX10_breaks_36 : decode cX10_breaks 36 = .ok (.iconst 1, 1) ∧ 36 + 1 = 37 ∧ Int32.ofInt (1) = (1) := by decide +kernel
theorem dX10_breaks_37 : gb cX10_breaks 37 (.if_icmp .ne 9) (9) 40 46 := by decide +kernel
theorem dX10_breaks_40 : gd cX10_breaks 40 (.aload_n 0) 1 41 := by decide +kernel
theorem dX10_breaks_41 : decode cX10_breaks 41 = .ok (.iconst 5, 1) ∧ 41 + 1 = 42 ∧ Int32.ofInt (5) = (5) := by decide +kernel
theorem dX10_breaks_42 : gd cX10_breaks 42 (.invokevirtual 529) 3 45 := by decide +kernel
theorem dX10_breaks_45 : gd cX10_breaks 45 (.ireturn) 1 46 := by decide +kernel
theorem dX10_breaks_46 : gd cX10_breaks 46 (.aload_n 0) 1 47 := by decide +kernel
theorem dX10_breaks_47 : gd cX10_breaks 47 (.invokevirtual 532) 3 50 := by decide +kernel
theorem dX10_breaks_50 : gd cX10_breaks 50 (.aload_n 0) 1 51 := by decide +kernel
theorem dX10_breaks_51 : gd cX10_breaks 51 (.getfield 17) 3 54 := by decide +kernel
theorem dX10_breaks_54 : decode cX10_breaks 54 = .ok (.bipush 16, 2) ∧ 54 + 2 = 56 ∧ (Int8.ofInt (16)).toInt32 = (16) := by decide +kernel
theorem dX10_breaks_56 : gd cX10_breaks 56 (.dup2) 1 57 := by decide +kernel
theorem dX10_breaks_57 : gd cX10_breaks 57 (.iaload) 1 58 := by decide +kernel
theorem dX10_breaks_58 : decode cX10_breaks 58 = .ok (.iconst 1, 1) ∧ 58 + 1 = 59 ∧ Int32.ofInt (1) = (1) := by decide +kernel
theorem dX10_breaks_59 : gd cX10_breaks 59 (.iload_n 1) 1 60 := by decide +kernel
theorem dX10_breaks_60 : gd cX10_breaks 60 (.ishl) 1 61 := by decide +kernel
theorem dX10_breaks_61 : gd cX10_breaks 61 (.ior) 1 62 := by decide +kernel
theorem dX10_breaks_62 : gd cX10_breaks 62 (.iastore) 1 63 := by decide +kernel
theorem dX10_breaks_63 : gd cX10_breaks 63 (.aload_n 0) 1 64 := by decide +kernel
theorem dX10_breaks_64 : gd cX10_breaks 64 (.invokevirtual 535) 3 67 := by decide +kernel
theorem dX10_breaks_67 : gd cX10_breaks 67 (.ireturn) 1 68 := by decide +kernel
theorem dX10_undo_0 : gd cX10_undo 0 (.aload_n 0) 1 1 := by decide +kernel
theorem dX10_undo_1 : decode cX10_undo 1 = .ok (.iconst 0, 1) ∧ 1 + 1 = 2 ∧ Int32.ofInt (0) = (0) := by decide +kernel
theorem dX10_undo_2 : gd cX10_undo 2 (.putfield 39) 3 5 := by decide +kernel
theorem dX10_undo_5 : gd cX10_undo 5 (.aload_n 0) 1 6 := by decide +kernel
theorem dX10_undo_6 : gd cX10_undo 6 (.getfield 359) 3 9 := by decide +kernel
theorem dX10_undo_9 : gb cX10_undo 9 (.ifnull 10) (10) 12 19 := by decide +kernel
theorem dX10_undo_12 : gd cX10_undo 12 (.aload_n 0) 1 13 := by decide +kernel
theorem dX10_undo_13 : gd cX10_undo 13 (.getfield 361) 3 16 := by decide +kernel
theorem dX10_undo_16 : gb cX10_undo 16 (.ifCond .ne 10) (10) 19 26 := by decide +kernel
theorem dX10_undo_19 : gd cX10_undo 19 (.aload_n 0) 1 20 := by decide +kernel
theorem dX10_undo_20 : decode cX10_undo 20 = .ok (.bipush 6, 2) ∧ 20 + 2 = 22 ∧ (Int8.ofInt (6)).toInt32 = (6) := by decide +kernel
theorem dX10_undo_22 : gd cX10_undo 22 (.invokevirtual 529) 3 25 := by decide +kernel
theorem dX10_undo_25 : gd cX10_undo 25 (.ireturn) 1 26 := by decide +kernel
theorem dX10_undo_26 : gd cX10_undo 26 (.aload_n 0) 1 27 := by decide +kernel
theorem dX10_undo_27 : gd cX10_undo 27 (.dup) 1 28 := by decide +kernel
theorem dX10_undo_28 : gd cX10_undo 28 (.getfield 361) 3 31 := by decide +kernel
theorem dX10_undo_31 : decode cX10_undo 31 = .ok (.iconst 1, 1) ∧ 31 + 1 = 32 ∧ Int32.ofInt (1) = (1) := by decide +kernel
theorem dX10_undo_32 : gd cX10_undo 32 (.isub) 1 33 := by decide +kernel
theorem dX10_undo_33 : gd cX10_undo 33 (.putfield 361) 3 36 := by decide +kernel
theorem dX10_undo_36 : decode cX10_undo 36 = .ok (.iconst 0, 1) ∧ 36 + 1 = 37 ∧ Int32.ofInt (0) = (0) := by decide +kernel
theorem dX10_undo_37 : gd cX10_undo 37 (.istore_n 1) 1 38 := by decide +kernel
theorem dX10_undo_38 : gd cX10_undo 38 (.iload_n 1) 1 39 := by decide +kernel
theorem dX10_undo_39 : decode cX10_undo 39 = .ok (.bipush 17, 2) ∧ 39 + 2 = 41 ∧ (Int8.ofInt (17)).toInt32 = (17) := by decide +kernel
theorem dX10_undo_41 : gb cX10_undo 41 (.if_icmp .ge 29) (29) 44 70 := by decide +kernel
theorem dX10_undo_44 : gd cX10_undo 44 (.aload_n 0) 1 45 := by decide +kernel
theorem dX10_undo_45 : gd cX10_undo 45 (.getfield 17) 3 48 := by decide +kernel
theorem dX10_undo_48 : gd cX10_undo 48 (.iload_n 1) 1 49 := by decide +kernel
theorem dX10_undo_49 : gd cX10_undo 49 (.aload_n 0) 1 50 := by decide +kernel
theorem dX10_undo_50 : gd cX10_undo 50 (.getfield 21) 3 53 := by decide +kernel
theorem dX10_undo_53 : decode cX10_undo 53 = .ok (.bipush 17, 2) ∧ 53 + 2 = 55 ∧ (Int8.ofInt (17)).toInt32 = (17) := by decide +kernel
theorem dX10_undo_55 : gd cX10_undo 55 (.aload_n 0) 1 56 := by decide +kernel
theorem dX10_undo_56 : gd cX10_undo 56 (.getfield 361) 3 59 := by decide +kernel
theorem dX10_undo_59 : gd cX10_undo 59 (.imul) 1 60 := by decide +kernel
theorem dX10_undo_60 : gd cX10_undo 60 (.iload_n 1) 1 61 := by decide +kernel
theorem dX10_undo_61 : gd cX10_undo 61 (.iadd) 1 62 := by decide +kernel
theorem dX10_undo_62 : gd cX10_undo 62 (.iaload) 1 63 := by decide +kernel
theorem dX10_undo_63 : gd cX10_undo 63 (.iastore) 1 64 := by decide +kernel
theorem dX10_undo_64 : decode cX10_undo 64 = .ok (.iinc 1 1, 3) ∧ 64 + 3 = 67 ∧ Int32.ofInt (1) = (1) := by decide +kernel
theorem dX10_undo_67 : gb cX10_undo 67 (.goto (-29)) (-29) 70 38 := by decide +kernel
theorem dX10_undo_70 : gd cX10_undo 70 (.aload_n 0) 1 71 := by decide +kernel
theorem dX10_undo_71 : gd cX10_undo 71 (.invokevirtual 535) 3 74 := by decide +kernel
theorem dX10_undo_74 : gd cX10_undo 74 (.ireturn) 1 75 := by decide +kernel
theorem dX10_mark_0 : gd cX10_mark 0 (.aload_n 0) 1 1 := by decide +kernel
theorem dX10_mark_1 : decode cX10_mark 1 = .ok (.iconst 0, 1) ∧ 1 + 1 = 2 ∧ Int32.ofInt (0) = (0) := by decide +kernel
theorem dX10_mark_2 : gd cX10_mark 2 (.putfield 39) 3 5 := by decide +kernel
theorem dX10_mark_5 : gd cX10_mark 5 (.aload_n 0) 1 6 := by decide +kernel
theorem dX10_mark_6 : gd cX10_mark 6 (.getfield 359) 3 9 := by decide +kernel
theorem dX10_mark_9 : gb cX10_mark 9 (.ifnonnull 9) (9) 12 18 := by decide +kernel
theorem dX10_mark_12 : gd cX10_mark 12 (.aload_n 0) 1 13 := by decide +kernel
theorem dX10_mark_13 : decode cX10_mark 13 = .ok (.iconst 1, 1) ∧ 13 + 1 = 14 ∧ Int32.ofInt (1) = (1) := by decide +kernel
theorem dX10_mark_14 : gd cX10_mark 14 (.invokevirtual 45) 3 17 := by decide +kernel
theorem dX10_mark_17 : gd cX10_mark 17 (.ireturn) 1 18 := by decide +kernel
theorem dX10_mark_18 : gd cX10_mark 18 (.aload_n 0) 1 19 := by decide +kernel
theorem dX10_mark_19 : gd cX10_mark 19 (.getfield 364) 3 22 := by decide +kernel
theorem dX10_mark_22 : decode cX10_mark 22 = .ok (.iconst 3, 1) ∧ 22 + 1 = 23 ∧ Int32.ofInt (3) = (3) := by decide +kernel
theorem dX10_mark_23 : gb cX10_mark 23 (.if_icmp .ne 9) (9) 26 32 := by decide +kernel
theorem dX10_mark_26 : gd cX10_mark 26 (.aload_n 0) 1 27 := by decide +kernel
theorem dX10_mark_27 : decode cX10_mark 27 = .ok (.iconst 3, 1) ∧ 27 + 1 = 28 ∧ Int32.ofInt (3) = (3) := by decide +kernel
theorem dX10_mark_28 : gd cX10_mark 28 (.invokevirtual 45) 3 31 := by decide +kernel
theorem dX10_mark_31 : gd cX10_mark 31 (.ireturn) 1 32 := by decide +kernel
theorem dX10_mark_32 : decode cX10_mark 32 = .ok (.iconst 0, 1) ∧ 32 + 1 = 33 ∧ Int32.ofInt (0) = (0) := by decide +kernel
theorem dX10_mark_33 : gd cX10_mark 33 (.istore_n 1) 1 34 := by decide +kernel
theorem dX10_mark_34 : gd cX10_mark 34 (.iload_n 1) 1 35 := by decide +kernel
theorem dX10_mark_35 : decode cX10_mark 35 = .ok (.bipush 17, 2) ∧ 35 + 2 = 37 ∧ (Int8.ofInt (17)).toInt32 = (17) := by decide +kernel
theorem dX10_mark_37 : gb cX10_mark 37 (.if_icmp .ge 29) (29) 40 66 := by decide +kernel
theorem dX10_mark_40 : gd cX10_mark 40 (.aload_n 0) 1 41 := by decide +kernel
theorem dX10_mark_41 : gd cX10_mark 41 (.getfield 24) 3 44 := by decide +kernel
theorem dX10_mark_44 : decode cX10_mark 44 = .ok (.bipush 17, 2) ∧ 44 + 2 = 46 ∧ (Int8.ofInt (17)).toInt32 = (17) := by decide +kernel
theorem dX10_mark_46 : gd cX10_mark 46 (.aload_n 0) 1 47 := by decide +kernel
theorem dX10_mark_47 : gd cX10_mark 47 (.getfield 364) 3 50 := by decide +kernel
theorem dX10_mark_50 : gd cX10_mark 50 (.imul) 1 51 := by decide +kernel
theorem dX10_mark_51 : gd cX10_mark 51 (.iload_n 1) 1 52 := by decide +kernel
theorem dX10_mark_52 : gd cX10_mark 52 (.iadd) 1 53 := by decide +kernel
theorem dX10_mark_53 : gd cX10_mark 53 (.aload_n 0) 1 54 := by decide +kernel
theorem dX10_mark_54 : gd cX10_mark 54 (.getfield 17) 3 57 := by decide +kernel
theorem dX10_mark_57 : gd cX10_mark 57 (.iload_n 1) 1 58 := by decide +kernel
theorem dX10_mark_58 : gd cX10_mark 58 (.iaload) 1 59 := by decide +kernel
theorem dX10_mark_59 : gd cX10_mark 59 (.iastore) 1 60 := by decide +kernel
theorem dX10_mark_60 : decode cX10_mark 60 = .ok (.iinc 1 1, 3) ∧ 60 + 3 = 63 ∧ Int32.ofInt (1) = (1) := by decide +kernel
theorem dX10_mark_63 : gb cX10_mark 63 (.goto (-29)) (-29) 66 34 := by decide +kernel
theorem dX10_mark_66 : gd cX10_mark 66 (.aload_n 0) 1 67 := by decide +kernel
theorem dX10_mark_67 : gd cX10_mark 67 (.dup) 1 68 := by decide +kernel
theorem dX10_mark_68 : gd cX10_mark 68 (.getfield 364) 3 71 := by decide +kernel
theorem dX10_mark_71 : decode cX10_mark 71 = .ok (.iconst 1, 1) ∧ 71 + 1 = 72 ∧ Int32.ofInt (1) = (1) := by decide +kernel
theorem dX10_mark_72 : gd cX10_mark 72 (.iadd) 1 73 := by decide +kernel
theorem dX10_mark_73 : gd cX10_mark 73 (.putfield 364) 3 76 := by decide +kernel
theorem dX10_mark_76 : gd cX10_mark 76 (.aload_n 0) 1 77 := by decide +kernel
theorem dX10_mark_77 : gd cX10_mark 77 (.aload_n 0) 1 78 := by decide +kernel
theorem dX10_mark_78 : gd cX10_mark 78 (.getfield 364) 3 81 := by decide +kernel
theorem dX10_mark_81 : decode cX10_mark 81 = .ok (.iconst 1, 1) ∧ 81 + 1 = 82 ∧ Int32.ofInt (1) = (1) := by decide +kernel
theorem dX10_mark_82 : gd cX10_mark 82 (.isub) 1 83 := by decide +kernel
theorem dX10_mark_83 : gd cX10_mark 83 (.invokevirtual 49) 3 86 := by decide +kernel
theorem dX10_mark_86 : gd cX10_mark 86 (.ireturn) 1 87 := by decide +kernel
theorem dX10_back_0 : gd cX10_back 0 (.aload_n 0) 1 1 := by decide +kernel
theorem dX10_back_1 : decode cX10_back 1 = .ok (.iconst 0, 1) ∧ 1 + 1 = 2 ∧ Int32.ofInt (0) = (0) := by decide +kernel
theorem dX10_back_2 : gd cX10_back 2 (.putfield 39) 3 5 := by decide +kernel
theorem dX10_back_5 : gd cX10_back 5 (.aload_n 0) 1 6 := by decide +kernel
theorem dX10_back_6 : gd cX10_back 6 (.getfield 359) 3 9 := by decide +kernel
theorem dX10_back_9 : gb cX10_back 9 (.ifnull 15) (15) 12 24 := by decide +kernel
theorem dX10_back_12 : gd cX10_back 12 (.iload_n 1) 1 13 := by decide +kernel
theorem dX10_back_13 : gb cX10_back 13 (.ifCond .lt 11) (11) 16 24 := by decide +kernel
theorem dX10_back_16 : gd cX10_back 16 (.iload_n 1) 1 17 := by decide +kernel
theorem dX10_back_17 : gd cX10_back 17 (.aload_n 0) 1 18 := by decide +kernel
theorem dX10_back_18 : gd cX10_back 18 (.getfield 364) 3 21 := by decide +kernel
theorem dX10_back_21 : gb cX10_back 21 (.if_icmp .lt 9) (9) 24 30 := by decide +kernel
theorem dX10_back_24 : gd cX10_back 24 (.aload_n 0) 1 25 := by decide +kernel
theorem dX10_back_25 : decode cX10_back 25 = .ok (.iconst 1, 1) ∧ 25 + 1 = 26 ∧ Int32.ofInt (1) = (1) := by decide +kernel
theorem dX10_back_26 : gd cX10_back 26 (.invokevirtual 529) 3 29 := by decide +kernel
theorem dX10_back_29 : gd cX10_back 29 (.ireturn) 1 30 := by decide +kernel
theorem dX10_back_30 : decode cX10_back 30 = .ok (.iconst 0, 1) ∧ 30 + 1 = 31 ∧ Int32.ofInt (0) = (0) := by decide +kernel
theorem dX10_back_31 : gd cX10_back 31 (.istore_n 2) 1 32 := by decide +kernel
theorem dX10_back_32 : gd cX10_back 32 (.iload_n 2) 1 33 := by decide +kernel
theorem dX10_back_33 : decode cX10_back 33 = .ok (.bipush 17, 2) ∧ 33 + 2 = 35 ∧ (Int8.ofInt (17)).toInt32 = (17) := by decide +kernel
theorem dX10_back_35 : gb cX10_back 35 (.if_icmp .ge 26) (26) 38 61 := by decide +kernel
theorem dX10_back_38 : gd cX10_back 38 (.aload_n 0) 1 39 := by decide +kernel
theorem dX10_back_39 : gd cX10_back 39 (.getfield 17) 3 42 := by decide +kernel
theorem dX10_back_42 : gd cX10_back 42 (.iload_n 2) 1 43 := by decide +kernel
theorem dX10_back_43 : gd cX10_back 43 (.aload_n 0) 1 44 := by decide +kernel
theorem dX10_back_44 : gd cX10_back 44 (.getfield 24) 3 47 := by decide +kernel
theorem dX10_back_47 : decode cX10_back 47 = .ok (.bipush 17, 2) ∧ 47 + 2 = 49 ∧ (Int8.ofInt (17)).toInt32 = (17) := by decide +kernel
theorem dX10_back_49 : gd cX10_back 49 (.iload_n 1) 1 50 := by decide +kernel
theorem dX10_back_50 : gd cX10_back 50 (.imul) 1 51 := by decide +kernel
theorem dX10_back_51 : gd cX10_back 51 (.iload_n 2) 1 52 := by decide +kernel
theorem dX10_back_52 : gd cX10_back 52 (.iadd) 1 53 := by decide +kernel
theorem dX10_back_53 : gd cX10_back 53 (.iaload) 1 54 := by decide +kernel
theorem dX10_back_54 : gd cX10_back 54 (.iastore) 1 55 := by decide +kernel
theorem dX10_back_55 : decode cX10_back 55 = .ok (.iinc 2 1, 3) ∧ 55 + 3 = 58 ∧ Int32.ofInt (1) = (1) := by decide +kernel
theorem dX10_back_58 : gb cX10_back 58 (.goto (-26)) (-26) 61 32 := by decide +kernel
theorem dX10_back_61 : gd cX10_back 61 (.aload_n 0) 1 62 := by decide +kernel
theorem dX10_back_62 : decode cX10_back 62 = .ok (.iconst 0, 1) ∧ 62 + 1 = 63 ∧ Int32.ofInt (0) = (0) := by decide +kernel
theorem dX10_back_63 : gd cX10_back 63 (.putfield 361) 3 66 := by decide +kernel
theorem dX10_back_66 : gd cX10_back 66 (.aload_n 0) 1 67 := by decide +kernel
theorem dX10_back_67 : gd cX10_back 67 (.invokevirtual 535) 3 70 := by decide +kernel
theorem dX10_back_70 : gd cX10_back 70 (.ireturn) 1 71 := by decide +kernel
theorem dX10_led_0 : gd cX10_led 0 (.aload_n 0) 1 1 := by decide +kernel
theorem dX10_led_1 : decode cX10_led 1 = .ok (.iconst 0, 1) ∧ 1 + 1 = 2 ∧ Int32.ofInt (0) = (0) := by decide +kernel
theorem dX10_led_2 : gd cX10_led 2 (.putfield 39) 3 5 := by decide +kernel
theorem dX10_led_5 : decode cX10_led 5 = .ok (.iconst 0, 1) ∧ 5 + 1 = 6 ∧ Int32.ofInt (0) = (0) := by decide +kernel
theorem dX10_led_6 : gd cX10_led 6 (.istore_n 2) 1 7 := by decide +kernel
theorem dX10_led_7 : decode cX10_led 7 = .ok (.iconst 0, 1) ∧ 7 + 1 = 8 ∧ Int32.ofInt (0) = (0) := by decide +kernel
theorem dX10_led_8 : gd cX10_led 8 (.istore_n 3) 1 9 := by decide +kernel
theorem dX10_led_9 : gd cX10_led 9 (.aload_n 0) 1 10 := by decide +kernel
theorem dX10_led_10 : gd cX10_led 10 (.getfield 359) 3 13 := by decide +kernel
theorem dX10_led_13 : gb cX10_led 13 (.ifnull 55) (55) 16 68 := by decide +kernel
theorem dX10_led_16 : gd cX10_led 16 (.iload_n 3) 1 17 := by decide +kernel
theorem dX10_led_17 : gd cX10_led 17 (.aload_n 0) 1 18 := by decide +kernel
theorem dX10_led_18 : gd cX10_led 18 (.getfield 359) 3 21 := by decide +kernel
theorem dX10_led_21 : gd cX10_led 21 (.getfield 215) 3 24 := by decide +kernel
theorem dX10_led_24 : gb cX10_led 24 (.if_icmp .ge 44) (44) 27 68 := by decide +kernel
theorem dX10_led_27 : gd cX10_led 27 (.aload_n 0) 1 28 := by decide +kernel
theorem dX10_led_28 : gd cX10_led 28 (.iload_n 3) 1 29 := by decide +kernel
theorem dX10_led_29 : gd cX10_led 29 (.invokevirtual 383) 3 32 := by decide +kernel
theorem dX10_led_32 : gb cX10_led 32 (.ifCond .ne 30) (30) 35 62 := by decide +kernel
theorem dX10_led_35 : gd cX10_led 35 (.aload_n 0) 1 36 := by decide +kernel
theorem dX10_led_36 : gd cX10_led 36 (.aload_n 0) 1 37 := by decide +kernel
theorem dX10_led_37 : gd cX10_led 37 (.iload_n 3) 1 38 := by decide +kernel
theorem dX10_led_38 : gd cX10_led 38 (.invokevirtual 371) 3 41 := by decide +kernel
theorem dX10_led_41 : gd cX10_led 41 (.invokevirtual 404) 3 44 := by decide +kernel
theorem dX10_led_44 : decode cX10_led 44 = .ok (.bipush (-2), 2) ∧ 44 + 2 = 46 ∧ (Int8.ofInt (-2)).toInt32 = (-2) := by decide +kernel
theorem dX10_led_46 : gb cX10_led 46 (.if_icmp .ne 6) (6) 49 52 := by decide +kernel
theorem dX10_led_49 : gb cX10_led 49 (.goto 13) (13) 52 62 := by decide +kernel
theorem dX10_led_52 : gd cX10_led 52 (.iload_n 2) 1 53 := by decide +kernel
theorem dX10_led_53 : gd cX10_led 53 (.iload_n 1) 1 54 := by decide +kernel
theorem dX10_led_54 : gb cX10_led 54 (.if_icmp .ne 5) (5) 57 59 := by decide +kernel
theorem dX10_led_57 : gd cX10_led 57 (.iload_n 3) 1 58 := by decide +kernel
theorem dX10_led_58 : gd cX10_led 58 (.ireturn) 1 59 := by decide +kernel
theorem dX10_led_59 : decode cX10_led 59 = .ok (.iinc 2 1, 3) ∧ 59 + 3 = 62 ∧ Int32.ofInt (1) = (1) := by decide +kernel
theorem dX10_led_62 : decode cX10_led 62 = .ok (.iinc 3 1, 3) ∧ 62 + 3 = 65 ∧ Int32.ofInt (1) = (1) := by decide +kernel
theorem dX10_led_65 : gb cX10_led 65 (.goto (-56)) (-56) 68 9 := by decide +kernel
theorem dX10_led_68 : gd cX10_led 68 (.aload_n 0) 1 69 := by decide +kernel
theorem dX10_led_69 : decode cX10_led 69 = .ok (.iconst 1, 1) ∧ 69 + 1 = 70 ∧ Int32.ofInt (1) = (1) := by decide +kernel
theorem dX10_led_70 : gd cX10_led 70 (.putfield 39) 3 73 := by decide +kernel
theorem dX10_led_73 : decode cX10_led 73 = .ok (.iconst 0, 1) ∧ 73 + 1 = 74 ∧ Int32.ofInt (0) = (0) := by decide +kernel
theorem dX10_led_74 : gd cX10_led 74 (.ireturn) 1 75 := by decide +kernel
theorem dX10_size_0 : gd cX10_size 0 (.aload_n 0) 1 1 := by decide +kernel
theorem dX10_size_1 : decode cX10_size 1 = .ok (.iconst 0, 1) ∧ 1 + 1 = 2 ∧ Int32.ofInt (0) = (0) := by decide +kernel
theorem dX10_size_2 : gd cX10_size 2 (.putfield 39) 3 5 := by decide +kernel
theorem dX10_size_5 : gd cX10_size 5 (.iload_n 1) 1 6 := by decide +kernel
theorem dX10_size_6 : decode cX10_size 6 = .ok (.bipush 15, 2) ∧ 6 + 2 = 8 ∧ (Int8.ofInt (15)).toInt32 = (15) := by decide +kernel
theorem dX10_size_8 : gb cX10_size 8 (.if_icmp .ne 8) (8) 11 16 := by decide +kernel
theorem dX10_size_11 : gd cX10_size 11 (.aload_n 0) 1 12 := by decide +kernel
theorem dX10_size_12 : gd cX10_size 12 (.getfield 352) 3 15 := by decide +kernel
theorem dX10_size_15 : gd cX10_size 15 (.ireturn) 1 16 := by decide +kernel
theorem dX10_size_16 : gd cX10_size 16 (.iload_n 1) 1 17 := by decide +kernel
theorem dX10_size_17 : decode cX10_size 17 = .ok (.iconst 0, 1) ∧ 17 + 1 = 18 ∧ Int32.ofInt (0) = (0) := by decide +kernel
theorem dX10_size_18 : decode cX10_size 18 = .ok (.bipush 14, 2) ∧ 18 + 2 = 20 ∧ (Int8.ofInt (14)).toInt32 = (14) := by decide +kernel
theorem dX10_size_20 : gd cX10_size 20 (.invokestatic 134) 3 23 := by decide +kernel
theorem dX10_size_23 : gb cX10_size 23 (.ifCond .ne 5) (5) 26 28 := by decide +kernel
theorem dX10_size_26 : decode cX10_size 26 = .ok (.iconst (-1), 1) ∧ 26 + 1 = 27 ∧ Int32.ofInt (-1) = (-1) := by decide +kernel
theorem dX10_size_27 : gd cX10_size 27 (.ireturn) 1 28 := by decide +kernel
theorem dX10_size_28 : gd cX10_size 28 (.aload_n 0) 1 29 := by decide +kernel
theorem dX10_size_29 : gd cX10_size 29 (.getfield 359) 3 32 := by decide +kernel
theorem dX10_size_32 : gb cX10_size 32 (.ifnonnull 5) (5) 35 37 := by decide +kernel
theorem dX10_size_35 : decode cX10_size 35 = .ok (.iconst 0, 1) ∧ 35 + 1 = 36 ∧ Int32.ofInt (0) = (0) := by decide +kernel
theorem dX10_size_36 : gd cX10_size 36 (.ireturn) 1 37 := by decide +kernel
theorem dX10_size_37 : gd cX10_size 37 (.iload_n 1) 1 38 := by decide +kernel
theorem dX10_size_38 : gsw cX10_size 38 (182) (0) (13) #[70, 78, 86, 94, 102, 110, 118, 126, 134, 142, 153, 161, 169, 177] 70 [108, 116, 124, 132, 140, 148, 156, 164, 172, 180, 191, 199, 207, 215] 220 := by unfold gsw; decide +kernel
theorem dX10_size_108 : gd cX10_size 108 (.aload_n 0) 1 109 := by decide +kernel
theorem dX10_size_109 : gd cX10_size 109 (.getfield 359) 3 112 := by decide +kernel
theorem dX10_size_112 : gd cX10_size 112 (.getfield 171) 3 115 := by decide +kernel
theorem dX10_size_115 : gd cX10_size 115 (.ireturn) 1 116 := by decide +kernel
theorem dX10_size_116 : gd cX10_size 116 (.aload_n 0) 1 117 := by decide +kernel
theorem dX10_size_117 : gd cX10_size 117 (.getfield 359) 3 120 := by decide +kernel
theorem dX10_size_120 : gd cX10_size 120 (.getfield 206) 3 123 := by decide +kernel
theorem dX10_size_123 : gd cX10_size 123 (.ireturn) 1 124 := by decide +kernel
theorem dX10_size_124 : gd cX10_size 124 (.aload_n 0) 1 125 := by decide +kernel
theorem dX10_size_125 : gd cX10_size 125 (.getfield 359) 3 128 := by decide +kernel
theorem dX10_size_128 : gd cX10_size 128 (.getfield 261) 3 131 := by decide +kernel
theorem dX10_size_131 : gd cX10_size 131 (.ireturn) 1 132 := by decide +kernel
theorem dX10_size_132 : gd cX10_size 132 (.aload_n 0) 1 133 := by decide +kernel
theorem dX10_size_133 : gd cX10_size 133 (.getfield 359) 3 136 := by decide +kernel
theorem dX10_size_136 : gd cX10_size 136 (.getfield 263) 3 139 := by decide +kernel
theorem dX10_size_139 : gd cX10_size 139 (.ireturn) 1 140 := by decide +kernel
theorem dX10_size_140 : gd cX10_size 140 (.aload_n 0) 1 141 := by decide +kernel
theorem dX10_size_141 : gd cX10_size 141 (.getfield 359) 3 144 := by decide +kernel
theorem dX10_size_144 : gd cX10_size 144 (.getfield 215) 3 147 := by decide +kernel
theorem dX10_size_147 : gd cX10_size 147 (.ireturn) 1 148 := by decide +kernel
theorem dX10_size_148 : gd cX10_size 148 (.aload_n 0) 1 149 := by decide +kernel
theorem dX10_size_149 : gd cX10_size 149 (.getfield 359) 3 152 := by decide +kernel
theorem dX10_size_152 : gd cX10_size 152 (.getfield 289) 3 155 := by decide +kernel
theorem dX10_size_155 : gd cX10_size 155 (.ireturn) 1 156 := by decide +kernel
theorem dX10_size_156 : gd cX10_size 156 (.aload_n 0) 1 157 := by decide +kernel
theorem dX10_size_157 : gd cX10_size 157 (.getfield 359) 3 160 := by decide +kernel
theorem dX10_size_160 : gd cX10_size 160 (.getfield 294) 3 163 := by decide +kernel
theorem dX10_size_163 : gd cX10_size 163 (.ireturn) 1 164 := by decide +kernel
theorem dX10_size_164 : gd cX10_size 164 (.aload_n 0) 1 165 := by decide +kernel
theorem dX10_size_165 : gd cX10_size 165 (.getfield 359) 3 168 := by decide +kernel
theorem dX10_size_168 : gd cX10_size 168 (.getfield 300) 3 171 := by decide +kernel
theorem dX10_size_171 : gd cX10_size 171 (.ireturn) 1 172 := by decide +kernel
theorem dX10_size_172 : gd cX10_size 172 (.aload_n 0) 1 173 := by decide +kernel
theorem dX10_size_173 : gd cX10_size 173 (.getfield 359) 3 176 := by decide +kernel
theorem dX10_size_176 : gd cX10_size 176 (.getfield 309) 3 179 := by decide +kernel
theorem dX10_size_179 : gd cX10_size 179 (.ireturn) 1 180 := by decide +kernel
theorem dX10_size_180 : gd cX10_size 180 (.aload_n 0) 1 181 := by decide +kernel
theorem dX10_size_181 : gd cX10_size 181 (.getfield 359) 3 184 := by decide +kernel
theorem dX10_size_184 : gd cX10_size 184 (.getfield 322) 3 187 := by decide +kernel
theorem dX10_size_187 : gd cX10_size 187 (.invokestatic 392) 3 190 := by decide +kernel
theorem dX10_size_190 : gd cX10_size 190 (.ireturn) 1 191 := by decide +kernel
theorem dX10_size_191 : gd cX10_size 191 (.aload_n 0) 1 192 := by decide +kernel
theorem dX10_size_192 : gd cX10_size 192 (.getfield 359) 3 195 := by decide +kernel
theorem dX10_size_195 : gd cX10_size 195 (.getfield 325) 3 198 := by decide +kernel
theorem dX10_size_198 : gd cX10_size 198 (.ireturn) 1 199 := by decide +kernel
theorem dX10_size_199 : gd cX10_size 199 (.aload_n 0) 1 200 := by decide +kernel
theorem dX10_size_200 : gd cX10_size 200 (.getfield 359) 3 203 := by decide +kernel
theorem dX10_size_203 : gd cX10_size 203 (.getfield 335) 3 206 := by decide +kernel
theorem dX10_size_206 : gd cX10_size 206 (.ireturn) 1 207 := by decide +kernel
theorem dX10_size_207 : gd cX10_size 207 (.aload_n 0) 1 208 := by decide +kernel
theorem dX10_size_208 : gd cX10_size 208 (.getfield 359) 3 211 := by decide +kernel
theorem dX10_size_211 : gd cX10_size 211 (.getfield 338) 3 214 := by decide +kernel
theorem dX10_size_214 : gd cX10_size 214 (.ireturn) 1 215 := by decide +kernel
theorem dX10_size_215 : gd cX10_size 215 (.aload_n 0) 1 216 := by decide +kernel
theorem dX10_size_216 : gd cX10_size 216 (.getfield 361) 3 219 := by decide +kernel
theorem dX10_size_219 : gd cX10_size 219 (.ireturn) 1 220 := by decide +kernel
theorem dX10_size_220 : gd cX10_size 220 (.aload_n 0) 1 221 := by decide +kernel
theorem dX10_size_221 : gd cX10_size 221 (.getfield 364) 3 224 := by decide +kernel
theorem dX10_size_224 : gd cX10_size 224 (.ireturn) 1 225 := by decide +kernel
theorem dX10_trouble_0 : gd cX10_trouble 0 (.aload_n 0) 1 1 := by decide +kernel
theorem dX10_trouble_1 : decode cX10_trouble 1 = .ok (.iconst 0, 1) ∧ 1 + 1 = 2 ∧ Int32.ofInt (0) = (0) := by decide +kernel
theorem dX10_trouble_2 : gd cX10_trouble 2 (.putfield 39) 3 5 := by decide +kernel
theorem dX10_trouble_5 : gd cX10_trouble 5 (.aload_n 0) 1 6 := by decide +kernel
theorem dX10_trouble_6 : gd cX10_trouble 6 (.getfield 42) 3 9 := by decide +kernel
theorem dX10_trouble_9 : gd cX10_trouble 9 (.ireturn) 1 10 := by decide +kernel
