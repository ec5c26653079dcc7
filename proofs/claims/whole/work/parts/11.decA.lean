/-! DECODE ROWS, by program -/
theorem dX0_init_0 : gd cX0_init 0 (.aload_n 0) 1 1 := by decide +kernel
theorem dX0_init_1 : gd cX0_init 1 (.invokespecial 3) 3 4 := by decide +kernel
theorem dX0_init_4 : gd cX0_init 4 (.aload_n 0) 1 5 := by decide +kernel
theorem dX0_init_5 : decode cX0_init 5 = .ok (.bipush 11, 2) ∧ 5 + 2 = 7 ∧ (Int8.ofInt (11)).toInt32 = (11) := by decide +kernel
theorem dX0_init_7 : gd cX0_init 7 (.newarray .int) 2 9 := by decide +kernel
theorem dX0_init_9 : gd cX0_init 9 (.putfield 11) 3 12 := by decide +kernel
theorem dX0_init_12 : gd cX0_init 12 (.aload_n 0) 1 13 := by decide +kernel
theorem dX0_init_13 : decode cX0_init 13 = .ok (.bipush 8, 2) ∧ 13 + 2 = 15 ∧ (Int8.ofInt (8)).toInt32 = (8) := by decide +kernel
theorem dX0_init_15 : gd cX0_init 15 (.newarray .int) 2 17 := by decide +kernel
theorem dX0_init_17 : gd cX0_init 17 (.putfield 15) 3 20 := by decide +kernel
theorem dX0_init_20 : gd cX0_init 20 (.aload_n 0) 1 21 := by decide +kernel
theorem dX0_init_21 : decode cX0_init 21 = .ok (.bipush 8, 2) ∧ 21 + 2 = 23 ∧ (Int8.ofInt (8)).toInt32 = (8) := by decide +kernel
theorem dX0_init_23 : gd cX0_init 23 (.newarray .int) 2 25 := by decide +kernel
theorem dX0_init_25 : gd cX0_init 25 (.putfield 18) 3 28 := by decide +kernel
theorem dX0_init_28 : gd cX0_init 28 (.aload_n 0) 1 29 := by decide +kernel
theorem dX0_init_29 : decode cX0_init 29 = .ok (.bipush 8, 2) ∧ 29 + 2 = 31 ∧ (Int8.ofInt (8)).toInt32 = (8) := by decide +kernel
theorem dX0_init_31 : gd cX0_init 31 (.newarray .int) 2 33 := by decide +kernel
theorem dX0_init_33 : gd cX0_init 33 (.putfield 21) 3 36 := by decide +kernel
theorem dX0_init_36 : gd cX0_init 36 (.aload_n 0) 1 37 := by decide +kernel
theorem dX0_init_37 : decode cX0_init 37 = .ok (.bipush 6, 2) ∧ 37 + 2 = 39 ∧ (Int8.ofInt (6)).toInt32 = (6) := by decide +kernel
theorem dX0_init_39 : gd cX0_init 39 (.newarray .int) 2 41 := by decide +kernel
theorem dX0_init_41 : gd cX0_init 41 (.putfield 24) 3 44 := by decide +kernel
theorem dX0_init_44 : gd cX0_init 44 (.aload_n 0) 1 45 := by decide +kernel
theorem dX0_init_45 : decode cX0_init 45 = .ok (.bipush 7, 2) ∧ 45 + 2 = 47 ∧ (Int8.ofInt (7)).toInt32 = (7) := by decide +kernel
theorem dX0_init_47 : gd cX0_init 47 (.newarray .int) 2 49 := by decide +kernel
theorem dX0_init_49 : gd cX0_init 49 (.putfield 27) 3 52 := by decide +kernel
theorem dX0_init_52 : gd cX0_init 52 (.aload_n 0) 1 53 := by decide +kernel
theorem dX0_init_53 : decode cX0_init 53 = .ok (.bipush 49, 2) ∧ 53 + 2 = 55 ∧ (Int8.ofInt (49)).toInt32 = (49) := by decide +kernel
theorem dX0_init_55 : gd cX0_init 55 (.newarray .int) 2 57 := by decide +kernel
theorem dX0_init_57 : gd cX0_init 57 (.putfield 30) 3 60 := by decide +kernel
theorem dX0_init_60 : gd cX0_init 60 (.aload_n 0) 1 61 := by decide +kernel
theorem dX0_init_61 : decode cX0_init 61 = .ok (.bipush 49, 2) ∧ 61 + 2 = 63 ∧ (Int8.ofInt (49)).toInt32 = (49) := by decide +kernel
theorem dX0_init_63 : gd cX0_init 63 (.newarray .int) 2 65 := by decide +kernel
theorem dX0_init_65 : gd cX0_init 65 (.putfield 33) 3 68 := by decide +kernel
theorem dX0_init_68 : gd cX0_init 68 (.aload_n 0) 1 69 := by decide +kernel
theorem dX0_init_69 : decode cX0_init 69 = .ok (.bipush 6, 2) ∧ 69 + 2 = 71 ∧ (Int8.ofInt (6)).toInt32 = (6) := by decide +kernel
theorem dX0_init_71 : gd cX0_init 71 (.newarray .int) 2 73 := by decide +kernel
theorem dX0_init_73 : gd cX0_init 73 (.putfield 36) 3 76 := by decide +kernel
theorem dX0_init_76 : gd cX0_init 76 (.aload_n 0) 1 77 := by decide +kernel
theorem dX0_init_77 : decode cX0_init 77 = .ok (.bipush 6, 2) ∧ 77 + 2 = 79 ∧ (Int8.ofInt (6)).toInt32 = (6) := by decide +kernel
theorem dX0_init_79 : gd cX0_init 79 (.newarray .int) 2 81 := by decide +kernel
theorem dX0_init_81 : gd cX0_init 81 (.putfield 39) 3 84 := by decide +kernel
theorem dX0_init_84 : gd cX0_init 84 (.aload_n 0) 1 85 := by decide +kernel
theorem dX0_init_85 : decode cX0_init 85 = .ok (.bipush 6, 2) ∧ 85 + 2 = 87 ∧ (Int8.ofInt (6)).toInt32 = (6) := by decide +kernel
theorem dX0_init_87 : gd cX0_init 87 (.newarray .int) 2 89 := by decide +kernel
theorem dX0_init_89 : gd cX0_init 89 (.putfield 42) 3 92 := by decide +kernel
theorem dX0_init_92 : gd cX0_init 92 (.aload_n 0) 1 93 := by decide +kernel
theorem dX0_init_93 : decode cX0_init 93 = .ok (.bipush 8, 2) ∧ 93 + 2 = 95 ∧ (Int8.ofInt (8)).toInt32 = (8) := by decide +kernel
theorem dX0_init_95 : gd cX0_init 95 (.newarray .int) 2 97 := by decide +kernel
theorem dX0_init_97 : gd cX0_init 97 (.putfield 45) 3 100 := by decide +kernel
theorem dX0_init_100 : gd cX0_init 100 (.aload_n 0) 1 101 := by decide +kernel
theorem dX0_init_101 : decode cX0_init 101 = .ok (.bipush 8, 2) ∧ 101 + 2 = 103 ∧ (Int8.ofInt (8)).toInt32 = (8) := by decide +kernel
theorem dX0_init_103 : gd cX0_init 103 (.newarray .int) 2 105 := by decide +kernel
theorem dX0_init_105 : gd cX0_init 105 (.putfield 48) 3 108 := by decide +kernel
theorem dX0_init_108 : gd cX0_init 108 (.aload_n 0) 1 109 := by decide +kernel
theorem dX0_init_109 : decode cX0_init 109 = .ok (.bipush 8, 2) ∧ 109 + 2 = 111 ∧ (Int8.ofInt (8)).toInt32 = (8) := by decide +kernel
theorem dX0_init_111 : gd cX0_init 111 (.newarray .int) 2 113 := by decide +kernel
theorem dX0_init_113 : gd cX0_init 113 (.putfield 51) 3 116 := by decide +kernel
theorem dX0_init_116 : gd cX0_init 116 (.return_) 1 117 := by decide +kernel
theorem dX0_clear_0 : decode cX0_clear 0 = .ok (.iconst 0, 1) ∧ 0 + 1 = 1 ∧ Int32.ofInt (0) = (0) := by decide +kernel
theorem dX0_clear_1 : gd cX0_clear 1 (.istore_n 1) 1 2 := by decide +kernel
theorem dX0_clear_2 : gd cX0_clear 2 (.iload_n 1) 1 3 := by decide +kernel
theorem dX0_clear_3 : decode cX0_clear 3 = .ok (.bipush 11, 2) ∧ 3 + 2 = 5 ∧ (Int8.ofInt (11)).toInt32 = (11) := by decide +kernel
theorem dX0_clear_5 : gb cX0_clear 5 (.if_icmp .ge 16) (16) 8 21 := by decide +kernel
theorem dX0_clear_8 : gd cX0_clear 8 (.aload_n 0) 1 9 := by decide +kernel
theorem dX0_clear_9 : gd cX0_clear 9 (.getfield 11) 3 12 := by decide +kernel
theorem dX0_clear_12 : gd cX0_clear 12 (.iload_n 1) 1 13 := by decide +kernel
theorem dX0_clear_13 : decode cX0_clear 13 = .ok (.iconst 0, 1) ∧ 13 + 1 = 14 ∧ Int32.ofInt (0) = (0) := by decide +kernel
theorem dX0_clear_14 : gd cX0_clear 14 (.iastore) 1 15 := by decide +kernel
theorem dX0_clear_15 : decode cX0_clear 15 = .ok (.iinc 1 1, 3) ∧ 15 + 3 = 18 ∧ Int32.ofInt (1) = (1) := by decide +kernel
theorem dX0_clear_18 : gb cX0_clear 18 (.goto (-16)) (-16) 21 2 := by decide +kernel
theorem dX0_clear_21 : decode cX0_clear 21 = .ok (.iconst 0, 1) ∧ 21 + 1 = 22 ∧ Int32.ofInt (0) = (0) := by decide +kernel
theorem dX0_clear_22 : gd cX0_clear 22 (.istore_n 1) 1 23 := by decide +kernel
theorem dX0_clear_23 : gd cX0_clear 23 (.iload_n 1) 1 24 := by decide +kernel
theorem dX0_clear_24 : decode cX0_clear 24 = .ok (.bipush 49, 2) ∧ 24 + 2 = 26 ∧ (Int8.ofInt (49)).toInt32 = (49) := by decide +kernel
theorem dX0_clear_26 : gb cX0_clear 26 (.if_icmp .ge 23) (23) 29 49 := by decide +kernel
theorem dX0_clear_29 : gd cX0_clear 29 (.aload_n 0) 1 30 := by decide +kernel
theorem dX0_clear_30 : gd cX0_clear 30 (.getfield 30) 3 33 := by decide +kernel
theorem dX0_clear_33 : gd cX0_clear 33 (.iload_n 1) 1 34 := by decide +kernel
theorem dX0_clear_34 : decode cX0_clear 34 = .ok (.iconst 0, 1) ∧ 34 + 1 = 35 ∧ Int32.ofInt (0) = (0) := by decide +kernel
theorem dX0_clear_35 : gd cX0_clear 35 (.iastore) 1 36 := by decide +kernel
theorem dX0_clear_36 : gd cX0_clear 36 (.aload_n 0) 1 37 := by decide +kernel
theorem dX0_clear_37 : gd cX0_clear 37 (.getfield 33) 3 40 := by decide +kernel
theorem dX0_clear_40 : gd cX0_clear 40 (.iload_n 1) 1 41 := by decide +kernel
theorem dX0_clear_41 : decode cX0_clear 41 = .ok (.iconst 0, 1) ∧ 41 + 1 = 42 ∧ Int32.ofInt (0) = (0) := by decide +kernel
theorem dX0_clear_42 : gd cX0_clear 42 (.iastore) 1 43 := by decide +kernel
theorem dX0_clear_43 : decode cX0_clear 43 = .ok (.iinc 1 1, 3) ∧ 43 + 3 = 46 ∧ Int32.ofInt (1) = (1) := by decide +kernel
theorem dX0_clear_46 : gb cX0_clear 46 (.goto (-23)) (-23) 49 23 := by decide +kernel
theorem dX0_clear_49 : gd cX0_clear 49 (.aload_n 0) 1 50 := by decide +kernel
theorem dX0_clear_50 : decode cX0_clear 50 = .ok (.iconst 0, 1) ∧ 50 + 1 = 51 ∧ Int32.ofInt (0) = (0) := by decide +kernel
theorem dX0_clear_51 : gd cX0_clear 51 (.putfield 54) 3 54 := by decide +kernel
theorem dX0_clear_54 : gd cX0_clear 54 (.aload_n 0) 1 55 := by decide +kernel
theorem dX0_clear_55 : decode cX0_clear 55 = .ok (.iconst 0, 1) ∧ 55 + 1 = 56 ∧ Int32.ofInt (0) = (0) := by decide +kernel
theorem dX0_clear_56 : gd cX0_clear 56 (.putfield 58) 3 59 := by decide +kernel
theorem dX0_clear_59 : gd cX0_clear 59 (.aload_n 0) 1 60 := by decide +kernel
theorem dX0_clear_60 : decode cX0_clear 60 = .ok (.iconst 0, 1) ∧ 60 + 1 = 61 ∧ Int32.ofInt (0) = (0) := by decide +kernel
theorem dX0_clear_61 : gd cX0_clear 61 (.putfield 61) 3 64 := by decide +kernel
theorem dX0_clear_64 : gd cX0_clear 64 (.aload_n 0) 1 65 := by decide +kernel
theorem dX0_clear_65 : decode cX0_clear 65 = .ok (.iconst 0, 1) ∧ 65 + 1 = 66 ∧ Int32.ofInt (0) = (0) := by decide +kernel
theorem dX0_clear_66 : gd cX0_clear 66 (.putfield 64) 3 69 := by decide +kernel
theorem dX0_clear_69 : gd cX0_clear 69 (.aload_n 0) 1 70 := by decide +kernel
theorem dX0_clear_70 : decode cX0_clear 70 = .ok (.iconst 0, 1) ∧ 70 + 1 = 71 ∧ Int32.ofInt (0) = (0) := by decide +kernel
theorem dX0_clear_71 : gd cX0_clear 71 (.putfield 67) 3 74 := by decide +kernel
theorem dX0_clear_74 : gd cX0_clear 74 (.aload_n 0) 1 75 := by decide +kernel
theorem dX0_clear_75 : decode cX0_clear 75 = .ok (.iconst 0, 1) ∧ 75 + 1 = 76 ∧ Int32.ofInt (0) = (0) := by decide +kernel
theorem dX0_clear_76 : gd cX0_clear 76 (.putfield 70) 3 79 := by decide +kernel
theorem dX0_clear_79 : gd cX0_clear 79 (.return_) 1 80 := by decide +kernel
theorem dX0_cells_0 : gd cX0_cells 0 (.aload_n 0) 1 1 := by decide +kernel
theorem dX0_cells_1 : gd cX0_cells 1 (.getfield 54) 3 4 := by decide +kernel
theorem dX0_cells_4 : gd cX0_cells 4 (.aload_n 0) 1 5 := by decide +kernel
theorem dX0_cells_5 : gd cX0_cells 5 (.getfield 58) 3 8 := by decide +kernel
theorem dX0_cells_8 : gd cX0_cells 8 (.imul) 1 9 := by decide +kernel
theorem dX0_cells_9 : gd cX0_cells 9 (.ireturn) 1 10 := by decide +kernel
theorem dX0_allCells_0 : decode cX0_allCells 0 = .ok (.iconst 1, 1) ∧ 0 + 1 = 1 ∧ Int32.ofInt (1) = (1) := by decide +kernel
theorem dX0_allCells_1 : gd cX0_allCells 1 (.aload_n 0) 1 2 := by decide +kernel
theorem dX0_allCells_2 : gd cX0_allCells 2 (.invokevirtual 73) 3 5 := by decide +kernel
theorem dX0_allCells_5 : gd cX0_allCells 5 (.ishl) 1 6 := by decide +kernel
theorem dX0_allCells_6 : decode cX0_allCells 6 = .ok (.iconst 1, 1) ∧ 6 + 1 = 7 ∧ Int32.ofInt (1) = (1) := by decide +kernel
theorem dX0_allCells_7 : gd cX0_allCells 7 (.isub) 1 8 := by decide +kernel
theorem dX0_allCells_8 : gd cX0_allCells 8 (.ireturn) 1 9 := by decide +kernel
theorem dX0_darkOf_0 : gd cX0_darkOf 0 (.iload_n 1) 1 1 := by decide +kernel
theorem dX0_darkOf_1 : gb cX0_darkOf 1 (.ifCond .lt 18) (18) 4 19 := by decide +kernel
theorem dX0_darkOf_4 : gd cX0_darkOf 4 (.iload_n 1) 1 5 := by decide +kernel
theorem dX0_darkOf_5 : decode cX0_darkOf 5 = .ok (.bipush 6, 2) ∧ 5 + 2 = 7 ∧ (Int8.ofInt (6)).toInt32 = (6) := by decide +kernel
theorem dX0_darkOf_7 : gb cX0_darkOf 7 (.if_icmp .ge 12) (12) 10 19 := by decide +kernel
theorem dX0_darkOf_10 : gd cX0_darkOf 10 (.aload_n 0) 1 11 := by decide +kernel
theorem dX0_darkOf_11 : gd cX0_darkOf 11 (.getfield 24) 3 14 := by decide +kernel
theorem dX0_darkOf_14 : gd cX0_darkOf 14 (.iload_n 1) 1 15 := by decide +kernel
theorem dX0_darkOf_15 : gd cX0_darkOf 15 (.iaload) 1 16 := by decide +kernel
theorem dX0_darkOf_16 : gb cX0_darkOf 16 (.goto 4) (4) 19 20 := by decide +kernel
theorem dX0_darkOf_19 : decode cX0_darkOf 19 = .ok (.iconst 0, 1) ∧ 19 + 1 = 20 ∧ Int32.ofInt (0) = (0) := by decide +kernel
theorem dX0_darkOf_20 : gd cX0_darkOf 20 (.ireturn) 1 21 := by decide +kernel
theorem dX0_firstWord_0 : decode cX0_firstWord 0 = .ok (.iconst 0, 1) ∧ 0 + 1 = 1 ∧ Int32.ofInt (0) = (0) := by decide +kernel
theorem dX0_firstWord_1 : gd cX0_firstWord 1 (.istore_n 2) 1 2 := by decide +kernel
theorem dX0_firstWord_2 : gd cX0_firstWord 2 (.iload_n 2) 1 3 := by decide +kernel
theorem dX0_firstWord_3 : gd cX0_firstWord 3 (.aload_n 0) 1 4 := by decide +kernel
theorem dX0_firstWord_4 : gd cX0_firstWord 4 (.getfield 11) 3 7 := by decide +kernel
theorem dX0_firstWord_7 : decode cX0_firstWord 7 = .ok (.iconst 2, 1) ∧ 7 + 1 = 8 ∧ Int32.ofInt (2) = (2) := by decide +kernel
theorem dX0_firstWord_8 : gd cX0_firstWord 8 (.iaload) 1 9 := by decide +kernel
theorem dX0_firstWord_9 : gb cX0_firstWord 9 (.if_icmp .ge 21) (21) 12 30 := by decide +kernel
theorem dX0_firstWord_12 : gd cX0_firstWord 12 (.aload_n 0) 1 13 := by decide +kernel
theorem dX0_firstWord_13 : gd cX0_firstWord 13 (.getfield 21) 3 16 := by decide +kernel
theorem dX0_firstWord_16 : gd cX0_firstWord 16 (.iload_n 2) 1 17 := by decide +kernel
theorem dX0_firstWord_17 : gd cX0_firstWord 17 (.iaload) 1 18 := by decide +kernel
theorem dX0_firstWord_18 : gd cX0_firstWord 18 (.iload_n 1) 1 19 := by decide +kernel
theorem dX0_firstWord_19 : gb cX0_firstWord 19 (.if_icmp .ne 5) (5) 22 24 := by decide +kernel
theorem dX0_firstWord_22 : gd cX0_firstWord 22 (.iload_n 2) 1 23 := by decide +kernel
theorem dX0_firstWord_23 : gd cX0_firstWord 23 (.ireturn) 1 24 := by decide +kernel
theorem dX0_firstWord_24 : decode cX0_firstWord 24 = .ok (.iinc 2 1, 3) ∧ 24 + 3 = 27 ∧ Int32.ofInt (1) = (1) := by decide +kernel
theorem dX0_firstWord_27 : gb cX0_firstWord 27 (.goto (-25)) (-25) 30 2 := by decide +kernel
theorem dX0_firstWord_30 : decode cX0_firstWord 30 = .ok (.bipush (-2), 2) ∧ 30 + 2 = 32 ∧ (Int8.ofInt (-2)).toInt32 = (-2) := by decide +kernel
theorem dX0_firstWord_32 : gd cX0_firstWord 32 (.ireturn) 1 33 := by decide +kernel
theorem dX0_street_0 : gd cX0_street 0 (.iload_n 0) 1 1 := by decide +kernel
theorem dX0_street_1 : decode cX0_street 1 = .ok (.bipush 7, 2) ∧ 1 + 2 = 3 ∧ (Int8.ofInt (7)).toInt32 = (7) := by decide +kernel
theorem dX0_street_3 : gd cX0_street 3 (.imul) 1 4 := by decide +kernel
theorem dX0_street_4 : gd cX0_street 4 (.iload_n 1) 1 5 := by decide +kernel
theorem dX0_street_5 : gd cX0_street 5 (.iadd) 1 6 := by decide +kernel
theorem dX0_street_6 : gd cX0_street 6 (.ireturn) 1 7 := by decide +kernel
theorem dX0_hasThief_0 : gd cX0_hasThief 0 (.aload_n 0) 1 1 := by decide +kernel
theorem dX0_hasThief_1 : gd cX0_hasThief 1 (.getfield 70) 3 4 := by decide +kernel
theorem dX0_hasThief_4 : gd cX0_hasThief 4 (.iload_n 1) 1 5 := by decide +kernel
theorem dX0_hasThief_5 : gd cX0_hasThief 5 (.ishr) 1 6 := by decide +kernel
theorem dX0_hasThief_6 : decode cX0_hasThief 6 = .ok (.iconst 1, 1) ∧ 6 + 1 = 7 ∧ Int32.ofInt (1) = (1) := by decide +kernel
theorem dX0_hasThief_7 : gd cX0_hasThief 7 (.iand) 1 8 := by decide +kernel
theorem dX0_hasThief_8 : gb cX0_hasThief 8 (.ifCond .eq 7) (7) 11 15 := by decide +kernel
theorem dX0_hasThief_11 : decode cX0_hasThief 11 = .ok (.iconst 1, 1) ∧ 11 + 1 = 12 ∧ Int32.ofInt (1) = (1) := by decide +kernel
theorem dX0_hasThief_12 : gb cX0_hasThief 12 (.goto 4) (4) 15 16 := by decide +kernel
theorem dX0_hasThief_15 : decode cX0_hasThief 15 = .ok (.iconst 0, 1) ∧ 15 + 1 = 16 ∧ Int32.ofInt (0) = (0) := by decide +kernel
theorem dX0_hasThief_16 : gd cX0_hasThief 16 (.ireturn) 1 17 := by decide +kernel
theorem dX0_isWhole_0 : decode cX0_isWhole 0 = .ok (.iconst 0, 1) ∧ 0 + 1 = 1 ∧ Int32.ofInt (0) = (0) := by decide +kernel
theorem dX0_isWhole_1 : gd cX0_isWhole 1 (.istore_n 2) 1 2 := by decide +kernel
theorem dX0_isWhole_2 : decode cX0_isWhole 2 = .ok (.iconst 0, 1) ∧ 2 + 1 = 3 ∧ Int32.ofInt (0) = (0) := by decide +kernel
theorem dX0_isWhole_3 : gd cX0_isWhole 3 (.istore_n 3) 1 4 := by decide +kernel
theorem dX0_isWhole_4 : gd cX0_isWhole 4 (.iload_n 3) 1 5 := by decide +kernel
theorem dX0_isWhole_5 : gd cX0_isWhole 5 (.aload_n 0) 1 6 := by decide +kernel
theorem dX0_isWhole_6 : gd cX0_isWhole 6 (.getfield 11) 3 9 := by decide +kernel
theorem dX0_isWhole_9 : decode cX0_isWhole 9 = .ok (.bipush 9, 2) ∧ 9 + 2 = 11 ∧ (Int8.ofInt (9)).toInt32 = (9) := by decide +kernel
theorem dX0_isWhole_11 : gd cX0_isWhole 11 (.iaload) 1 12 := by decide +kernel
theorem dX0_isWhole_12 : gb cX0_isWhole 12 (.if_icmp .ge 39) (39) 15 51 := by decide +kernel
theorem dX0_isWhole_15 : gd cX0_isWhole 15 (.iload_n 1) 1 16 := by decide +kernel
theorem dX0_isWhole_16 : gd cX0_isWhole 16 (.iload_n 3) 1 17 := by decide +kernel
theorem dX0_isWhole_17 : gd cX0_isWhole 17 (.ishr) 1 18 := by decide +kernel
theorem dX0_isWhole_18 : decode cX0_isWhole 18 = .ok (.iconst 1, 1) ∧ 18 + 1 = 19 ∧ Int32.ofInt (1) = (1) := by decide +kernel
theorem dX0_isWhole_19 : gd cX0_isWhole 19 (.iand) 1 20 := by decide +kernel
theorem dX0_isWhole_20 : gb cX0_isWhole 20 (.ifCond .eq 25) (25) 23 45 := by decide +kernel
theorem dX0_isWhole_23 : gd cX0_isWhole 23 (.iload_n 2) 1 24 := by decide +kernel
theorem dX0_isWhole_24 : gd cX0_isWhole 24 (.aload_n 0) 1 25 := by decide +kernel
theorem dX0_isWhole_25 : gd cX0_isWhole 25 (.getfield 48) 3 28 := by decide +kernel
theorem dX0_isWhole_28 : gd cX0_isWhole 28 (.iload_n 3) 1 29 := by decide +kernel
theorem dX0_isWhole_29 : gd cX0_isWhole 29 (.iaload) 1 30 := by decide +kernel
theorem dX0_isWhole_30 : gd cX0_isWhole 30 (.iand) 1 31 := by decide +kernel
theorem dX0_isWhole_31 : gb cX0_isWhole 31 (.ifCond .eq 5) (5) 34 36 := by decide +kernel
theorem dX0_isWhole_34 : decode cX0_isWhole 34 = .ok (.iconst 0, 1) ∧ 34 + 1 = 35 ∧ Int32.ofInt (0) = (0) := by decide +kernel
theorem dX0_isWhole_35 : gd cX0_isWhole 35 (.ireturn) 1 36 := by decide +kernel
theorem dX0_isWhole_36 : gd cX0_isWhole 36 (.iload_n 2) 1 37 := by decide +kernel
theorem dX0_isWhole_37 : gd cX0_isWhole 37 (.aload_n 0) 1 38 := by decide +kernel
theorem dX0_isWhole_38 : gd cX0_isWhole 38 (.getfield 48) 3 41 := by decide +kernel
theorem dX0_isWhole_41 : gd cX0_isWhole 41 (.iload_n 3) 1 42 := by decide +kernel
theorem dX0_isWhole_42 : gd cX0_isWhole 42 (.iaload) 1 43 := by decide +kernel
theorem dX0_isWhole_43 : gd cX0_isWhole 43 (.ior) 1 44 := by decide +kernel
theorem dX0_isWhole_44 : gd cX0_isWhole 44 (.istore_n 2) 1 45 := by decide +kernel
theorem dX0_isWhole_45 : decode cX0_isWhole 45 = .ok (.iinc 3 1, 3) ∧ 45 + 3 = 48 ∧ Int32.ofInt (1) = (1) := by decide +kernel
theorem dX0_isWhole_48 : gb cX0_isWhole 48 (.goto (-44)) (-44) 51 4 := by decide +kernel
theorem dX0_isWhole_51 : gd cX0_isWhole 51 (.iload_n 2) 1 52 := by decide +kernel
theorem dX0_isWhole_52 : gd cX0_isWhole 52 (.aload_n 0) 1 53 := by decide +kernel
theorem dX0_isWhole_53 : gd cX0_isWhole 53 (.invokevirtual 77) 3 56 := by decide +kernel
theorem dX0_isWhole_56 : gb cX0_isWhole 56 (.if_icmp .ne 7) (7) 59 63 := by decide +kernel
theorem dX0_isWhole_59 : decode cX0_isWhole 59 = .ok (.iconst 1, 1) ∧ 59 + 1 = 60 ∧ Int32.ofInt (1) = (1) := by decide +kernel
theorem dX0_isWhole_60 : gb cX0_isWhole 60 (.goto 4) (4) 63 64 := by decide +kernel
theorem dX0_isWhole_63 : decode cX0_isWhole 63 = .ok (.iconst 0, 1) ∧ 63 + 1 = 64 ∧ Int32.ofInt (0) = (0) := by decide +kernel
theorem dX0_isWhole_64 : gd cX0_isWhole 64 (.ireturn) 1 65 := by decide +kernel
theorem dX0_countWholes_0 : decode cX0_countWholes 0 = .ok (.iconst 0, 1) ∧ 0 + 1 = 1 ∧ Int32.ofInt (0) = (0) := by decide +kernel
theorem dX0_countWholes_1 : gd cX0_countWholes 1 (.istore_n 1) 1 2 := by decide +kernel
theorem dX0_countWholes_2 : decode cX0_countWholes 2 = .ok (.iconst 1, 1) ∧ 2 + 1 = 3 ∧ Int32.ofInt (1) = (1) := by decide +kernel
theorem dX0_countWholes_3 : gd cX0_countWholes 3 (.istore_n 2) 1 4 := by decide +kernel
theorem dX0_countWholes_4 : gd cX0_countWholes 4 (.iload_n 2) 1 5 := by decide +kernel
theorem dX0_countWholes_5 : decode cX0_countWholes 5 = .ok (.iconst 1, 1) ∧ 5 + 1 = 6 ∧ Int32.ofInt (1) = (1) := by decide +kernel
theorem dX0_countWholes_6 : gd cX0_countWholes 6 (.aload_n 0) 1 7 := by decide +kernel
theorem dX0_countWholes_7 : gd cX0_countWholes 7 (.getfield 11) 3 10 := by decide +kernel
theorem dX0_countWholes_10 : decode cX0_countWholes 10 = .ok (.bipush 9, 2) ∧ 10 + 2 = 12 ∧ (Int8.ofInt (9)).toInt32 = (9) := by decide +kernel
theorem dX0_countWholes_12 : gd cX0_countWholes 12 (.iaload) 1 13 := by decide +kernel
theorem dX0_countWholes_13 : gd cX0_countWholes 13 (.ishl) 1 14 := by decide +kernel
theorem dX0_countWholes_14 : gb cX0_countWholes 14 (.if_icmp .ge 20) (20) 17 34 := by decide +kernel
theorem dX0_countWholes_17 : gd cX0_countWholes 17 (.aload_n 0) 1 18 := by decide +kernel
theorem dX0_countWholes_18 : gd cX0_countWholes 18 (.iload_n 2) 1 19 := by decide +kernel
theorem dX0_countWholes_19 : gd cX0_countWholes 19 (.invokevirtual 80) 3 22 := by decide +kernel
theorem dX0_countWholes_22 : gb cX0_countWholes 22 (.ifCond .eq 6) (6) 25 28 := by decide +kernel
theorem dX0_countWholes_25 : decode cX0_countWholes 25 = .ok (.iinc 1 1, 3) ∧ 25 + 3 = 28 ∧ Int32.ofInt (1) = (1) := by decide +kernel
theorem dX0_countWholes_28 : decode cX0_countWholes 28 = .ok (.iinc 2 1, 3) ∧ 28 + 3 = 31 ∧ Int32.ofInt (1) = (1) := by decide +kernel
theorem dX0_countWholes_31 : gb cX0_countWholes 31 (.goto (-27)) (-27) 34 4 := by decide +kernel
theorem dX0_countWholes_34 : gd cX0_countWholes 34 (.iload_n 1) 1 35 := by decide +kernel
theorem dX0_countWholes_35 : gd cX0_countWholes 35 (.ireturn) 1 36 := by decide +kernel
theorem dX0_wholeAt_0 : decode cX0_wholeAt 0 = .ok (.iconst 0, 1) ∧ 0 + 1 = 1 ∧ Int32.ofInt (0) = (0) := by decide +kernel
theorem dX0_wholeAt_1 : gd cX0_wholeAt 1 (.istore_n 2) 1 2 := by decide +kernel
theorem dX0_wholeAt_2 : decode cX0_wholeAt 2 = .ok (.iconst 1, 1) ∧ 2 + 1 = 3 ∧ Int32.ofInt (1) = (1) := by decide +kernel
theorem dX0_wholeAt_3 : gd cX0_wholeAt 3 (.istore_n 3) 1 4 := by decide +kernel
theorem dX0_wholeAt_4 : gd cX0_wholeAt 4 (.iload_n 3) 1 5 := by decide +kernel
theorem dX0_wholeAt_5 : decode cX0_wholeAt 5 = .ok (.iconst 1, 1) ∧ 5 + 1 = 6 ∧ Int32.ofInt (1) = (1) := by decide +kernel
theorem dX0_wholeAt_6 : gd cX0_wholeAt 6 (.aload_n 0) 1 7 := by decide +kernel
theorem dX0_wholeAt_7 : gd cX0_wholeAt 7 (.getfield 11) 3 10 := by decide +kernel
theorem dX0_wholeAt_10 : decode cX0_wholeAt 10 = .ok (.bipush 9, 2) ∧ 10 + 2 = 12 ∧ (Int8.ofInt (9)).toInt32 = (9) := by decide +kernel
theorem dX0_wholeAt_12 : gd cX0_wholeAt 12 (.iaload) 1 13 := by decide +kernel
theorem dX0_wholeAt_13 : gd cX0_wholeAt 13 (.ishl) 1 14 := by decide +kernel
theorem dX0_wholeAt_14 : gb cX0_wholeAt 14 (.if_icmp .ge 27) (27) 17 41 := by decide +kernel
theorem dX0_wholeAt_17 : gd cX0_wholeAt 17 (.aload_n 0) 1 18 := by decide +kernel
theorem dX0_wholeAt_18 : gd cX0_wholeAt 18 (.iload_n 3) 1 19 := by decide +kernel
theorem dX0_wholeAt_19 : gd cX0_wholeAt 19 (.invokevirtual 80) 3 22 := by decide +kernel
theorem dX0_wholeAt_22 : gb cX0_wholeAt 22 (.ifCond .eq 13) (13) 25 35 := by decide +kernel
theorem dX0_wholeAt_25 : gd cX0_wholeAt 25 (.iload_n 2) 1 26 := by decide +kernel
theorem dX0_wholeAt_26 : gd cX0_wholeAt 26 (.iload_n 1) 1 27 := by decide +kernel
theorem dX0_wholeAt_27 : gb cX0_wholeAt 27 (.if_icmp .ne 5) (5) 30 32 := by decide +kernel
theorem dX0_wholeAt_30 : gd cX0_wholeAt 30 (.iload_n 3) 1 31 := by decide +kernel
theorem dX0_wholeAt_31 : gd cX0_wholeAt 31 (.ireturn) 1 32 := by decide +kernel
theorem dX0_wholeAt_32 : decode cX0_wholeAt 32 = .ok (.iinc 2 1, 3) ∧ 32 + 3 = 35 ∧ Int32.ofInt (1) = (1) := by decide +kernel
theorem dX0_wholeAt_35 : decode cX0_wholeAt 35 = .ok (.iinc 3 1, 3) ∧ 35 + 3 = 38 ∧ Int32.ofInt (1) = (1) := by decide +kernel
theorem dX0_wholeAt_38 : gb cX0_wholeAt 38 (.goto (-34)) (-34) 41 4 := by decide +kernel
theorem dX0_wholeAt_41 : decode cX0_wholeAt 41 = .ok (.iconst 0, 1) ∧ 41 + 1 = 42 ∧ Int32.ofInt (0) = (0) := by decide +kernel
theorem dX0_wholeAt_42 : gd cX0_wholeAt 42 (.ireturn) 1 43 := by decide +kernel
theorem dX0_strokesOfShards_0 : decode cX0_strokesOfShards 0 = .ok (.iconst 0, 1) ∧ 0 + 1 = 1 ∧ Int32.ofInt (0) = (0) := by decide +kernel
theorem dX0_strokesOfShards_1 : gd cX0_strokesOfShards 1 (.istore_n 2) 1 2 := by decide +kernel
theorem dX0_strokesOfShards_2 : decode cX0_strokesOfShards 2 = .ok (.iconst 0, 1) ∧ 2 + 1 = 3 ∧ Int32.ofInt (0) = (0) := by decide +kernel
theorem dX0_strokesOfShards_3 : gd cX0_strokesOfShards 3 (.istore_n 3) 1 4 := by decide +kernel
theorem dX0_strokesOfShards_4 : gd cX0_strokesOfShards 4 (.iload_n 3) 1 5 := by decide +kernel
theorem dX0_strokesOfShards_5 : gd cX0_strokesOfShards 5 (.aload_n 0) 1 6 := by decide +kernel
theorem dX0_strokesOfShards_6 : gd cX0_strokesOfShards 6 (.getfield 11) 3 9 := by decide +kernel
theorem dX0_strokesOfShards_9 : decode cX0_strokesOfShards 9 = .ok (.bipush 9, 2) ∧ 9 + 2 = 11 ∧ (Int8.ofInt (9)).toInt32 = (9) := by decide +kernel
theorem dX0_strokesOfShards_11 : gd cX0_strokesOfShards 11 (.iaload) 1 12 := by decide +kernel
theorem dX0_strokesOfShards_12 : gb cX0_strokesOfShards 12 (.if_icmp .ge 26) (26) 15 38 := by decide +kernel
theorem dX0_strokesOfShards_15 : gd cX0_strokesOfShards 15 (.iload_n 1) 1 16 := by decide +kernel
theorem dX0_strokesOfShards_16 : gd cX0_strokesOfShards 16 (.iload_n 3) 1 17 := by decide +kernel
theorem dX0_strokesOfShards_17 : gd cX0_strokesOfShards 17 (.ishr) 1 18 := by decide +kernel
theorem dX0_strokesOfShards_18 : decode cX0_strokesOfShards 18 = .ok (.iconst 1, 1) ∧ 18 + 1 = 19 ∧ Int32.ofInt (1) = (1) := by decide +kernel
theorem dX0_strokesOfShards_19 : gd cX0_strokesOfShards 19 (.iand) 1 20 := by decide +kernel
theorem dX0_strokesOfShards_20 : gb cX0_strokesOfShards 20 (.ifCond .eq 12) (12) 23 32 := by decide +kernel
theorem dX0_strokesOfShards_23 : gd cX0_strokesOfShards 23 (.iload_n 2) 1 24 := by decide +kernel
theorem dX0_strokesOfShards_24 : gd cX0_strokesOfShards 24 (.aload_n 0) 1 25 := by decide +kernel
theorem dX0_strokesOfShards_25 : gd cX0_strokesOfShards 25 (.getfield 51) 3 28 := by decide +kernel
theorem dX0_strokesOfShards_28 : gd cX0_strokesOfShards 28 (.iload_n 3) 1 29 := by decide +kernel
theorem dX0_strokesOfShards_29 : gd cX0_strokesOfShards 29 (.iaload) 1 30 := by decide +kernel
theorem dX0_strokesOfShards_30 : gd cX0_strokesOfShards 30 (.ior) 1 31 := by decide +kernel
theorem dX0_strokesOfShards_31 : gd cX0_strokesOfShards 31 (.istore_n 2) 1 32 := by decide +kernel
theorem dX0_strokesOfShards_32 : decode cX0_strokesOfShards 32 = .ok (.iinc 3 1, 3) ∧ 32 + 3 = 35 ∧ Int32.ofInt (1) = (1) := by decide +kernel
theorem dX0_strokesOfShards_35 : gb cX0_strokesOfShards 35 (.goto (-31)) (-31) 38 4 := by decide +kernel
theorem dX0_strokesOfShards_38 : gd cX0_strokesOfShards 38 (.iload_n 2) 1 39 := by decide +kernel
theorem dX0_strokesOfShards_39 : gd cX0_strokesOfShards 39 (.ireturn) 1 40 := by decide +kernel
theorem dX0_ownerOfMost_0 : decode cX0_ownerOfMost 0 = .ok (.iconst 0, 1) ∧ 0 + 1 = 1 ∧ Int32.ofInt (0) = (0) := by decide +kernel
theorem dX0_ownerOfMost_1 : gd cX0_ownerOfMost 1 (.istore_n 2) 1 2 := by decide +kernel
theorem dX0_ownerOfMost_2 : decode cX0_ownerOfMost 2 = .ok (.iconst (-1), 1) ∧ 2 + 1 = 3 ∧ Int32.ofInt (-1) = (-1) := by decide +kernel
theorem dX0_ownerOfMost_3 : gd cX0_ownerOfMost 3 (.istore_n 3) 1 4 := by decide +kernel
theorem dX0_ownerOfMost_4 : decode cX0_ownerOfMost 4 = .ok (.iconst 0, 1) ∧ 4 + 1 = 5 ∧ Int32.ofInt (0) = (0) := by decide +kernel
theorem dX0_ownerOfMost_5 : gd cX0_ownerOfMost 5 (.istore 4) 2 7 := by decide +kernel
theorem dX0_ownerOfMost_7 : gd cX0_ownerOfMost 7 (.iload 4) 2 9 := by decide +kernel
theorem dX0_ownerOfMost_9 : gd cX0_ownerOfMost 9 (.aload_n 0) 1 10 := by decide +kernel
theorem dX0_ownerOfMost_10 : gd cX0_ownerOfMost 10 (.getfield 11) 3 13 := by decide +kernel
theorem dX0_ownerOfMost_13 : decode cX0_ownerOfMost 13 = .ok (.bipush 8, 2) ∧ 13 + 2 = 15 ∧ (Int8.ofInt (8)).toInt32 = (8) := by decide +kernel
theorem dX0_ownerOfMost_15 : gd cX0_ownerOfMost 15 (.iaload) 1 16 := by decide +kernel
theorem dX0_ownerOfMost_16 : gb cX0_ownerOfMost 16 (.if_icmp .ge 30) (30) 19 46 := by decide +kernel
theorem dX0_ownerOfMost_19 : gd cX0_ownerOfMost 19 (.aload_n 0) 1 20 := by decide +kernel
theorem dX0_ownerOfMost_20 : gd cX0_ownerOfMost 20 (.iload_n 1) 1 21 := by decide +kernel
theorem dX0_ownerOfMost_21 : gd cX0_ownerOfMost 21 (.iload 4) 2 23 := by decide +kernel
theorem dX0_ownerOfMost_23 : gd cX0_ownerOfMost 23 (.invokevirtual 84) 3 26 := by decide +kernel
theorem dX0_ownerOfMost_26 : gd cX0_ownerOfMost 26 (.istore 5) 2 28 := by decide +kernel
theorem dX0_ownerOfMost_28 : gd cX0_ownerOfMost 28 (.iload 5) 2 30 := by decide +kernel
theorem dX0_ownerOfMost_30 : gd cX0_ownerOfMost 30 (.iload_n 3) 1 31 := by decide +kernel
theorem dX0_ownerOfMost_31 : gb cX0_ownerOfMost 31 (.if_icmp .le 9) (9) 34 40 := by decide +kernel
theorem dX0_ownerOfMost_34 : gd cX0_ownerOfMost 34 (.iload 5) 2 36 := by decide +kernel
theorem dX0_ownerOfMost_36 : gd cX0_ownerOfMost 36 (.istore_n 3) 1 37 := by decide +kernel
theorem dX0_ownerOfMost_37 : gd cX0_ownerOfMost 37 (.iload 4) 2 39 := by decide +kernel
theorem dX0_ownerOfMost_39 : gd cX0_ownerOfMost 39 (.istore_n 2) 1 40 := by decide +kernel
theorem dX0_ownerOfMost_40 : decode cX0_ownerOfMost 40 = .ok (.iinc 4 1, 3) ∧ 40 + 3 = 43 ∧ Int32.ofInt (1) = (1) := by decide +kernel
theorem dX0_ownerOfMost_43 : gb cX0_ownerOfMost 43 (.goto (-36)) (-36) 46 7 := by decide +kernel
theorem dX0_ownerOfMost_46 : gd cX0_ownerOfMost 46 (.iload_n 2) 1 47 := by decide +kernel
theorem dX0_ownerOfMost_47 : gd cX0_ownerOfMost 47 (.ireturn) 1 48 := by decide +kernel
theorem dX0_cellsOfPerson_0 : decode cX0_cellsOfPerson 0 = .ok (.iconst 0, 1) ∧ 0 + 1 = 1 ∧ Int32.ofInt (0) = (0) := by decide +kernel
theorem dX0_cellsOfPerson_1 : gd cX0_cellsOfPerson 1 (.istore_n 3) 1 2 := by decide +kernel
theorem dX0_cellsOfPerson_2 : decode cX0_cellsOfPerson 2 = .ok (.iconst 0, 1) ∧ 2 + 1 = 3 ∧ Int32.ofInt (0) = (0) := by decide +kernel
theorem dX0_cellsOfPerson_3 : gd cX0_cellsOfPerson 3 (.istore 4) 2 5 := by decide +kernel
theorem dX0_cellsOfPerson_5 : gd cX0_cellsOfPerson 5 (.iload 4) 2 7 := by decide +kernel
theorem dX0_cellsOfPerson_7 : gd cX0_cellsOfPerson 7 (.aload_n 0) 1 8 := by decide +kernel
theorem dX0_cellsOfPerson_8 : gd cX0_cellsOfPerson 8 (.getfield 11) 3 11 := by decide +kernel
theorem dX0_cellsOfPerson_11 : decode cX0_cellsOfPerson 11 = .ok (.bipush 9, 2) ∧ 11 + 2 = 13 ∧ (Int8.ofInt (9)).toInt32 = (9) := by decide +kernel
theorem dX0_cellsOfPerson_13 : gd cX0_cellsOfPerson 13 (.iaload) 1 14 := by decide +kernel
theorem dX0_cellsOfPerson_14 : gb cX0_cellsOfPerson 14 (.if_icmp .ge 42) (42) 17 56 := by decide +kernel
theorem dX0_cellsOfPerson_17 : gd cX0_cellsOfPerson 17 (.iload_n 1) 1 18 := by decide +kernel
theorem dX0_cellsOfPerson_18 : gd cX0_cellsOfPerson 18 (.iload 4) 2 20 := by decide +kernel
theorem dX0_cellsOfPerson_20 : gd cX0_cellsOfPerson 20 (.ishr) 1 21 := by decide +kernel
theorem dX0_cellsOfPerson_21 : decode cX0_cellsOfPerson 21 = .ok (.iconst 1, 1) ∧ 21 + 1 = 22 ∧ Int32.ofInt (1) = (1) := by decide +kernel
theorem dX0_cellsOfPerson_22 : gd cX0_cellsOfPerson 22 (.iand) 1 23 := by decide +kernel
theorem dX0_cellsOfPerson_23 : gb cX0_cellsOfPerson 23 (.ifCond .eq 27) (27) 26 50 := by decide +kernel
theorem dX0_cellsOfPerson_26 : gd cX0_cellsOfPerson 26 (.aload_n 0) 1 27 := by decide +kernel
theorem dX0_cellsOfPerson_27 : gd cX0_cellsOfPerson 27 (.getfield 45) 3 30 := by decide +kernel
theorem dX0_cellsOfPerson_30 : gd cX0_cellsOfPerson 30 (.iload 4) 2 32 := by decide +kernel
theorem dX0_cellsOfPerson_32 : gd cX0_cellsOfPerson 32 (.iaload) 1 33 := by decide +kernel
theorem dX0_cellsOfPerson_33 : gd cX0_cellsOfPerson 33 (.iload_n 2) 1 34 := by decide +kernel
theorem dX0_cellsOfPerson_34 : gb cX0_cellsOfPerson 34 (.if_icmp .ne 16) (16) 37 50 := by decide +kernel
theorem dX0_cellsOfPerson_37 : gd cX0_cellsOfPerson 37 (.iload_n 3) 1 38 := by decide +kernel
theorem dX0_cellsOfPerson_38 : gd cX0_cellsOfPerson 38 (.aload_n 0) 1 39 := by decide +kernel
theorem dX0_cellsOfPerson_39 : gd cX0_cellsOfPerson 39 (.getfield 48) 3 42 := by decide +kernel
theorem dX0_cellsOfPerson_42 : gd cX0_cellsOfPerson 42 (.iload 4) 2 44 := by decide +kernel
theorem dX0_cellsOfPerson_44 : gd cX0_cellsOfPerson 44 (.iaload) 1 45 := by decide +kernel
theorem dX0_cellsOfPerson_45 : gd cX0_cellsOfPerson 45 (.invokestatic 88) 3 48 := by decide +kernel
theorem dX0_cellsOfPerson_48 : gd cX0_cellsOfPerson 48 (.iadd) 1 49 := by decide +kernel
theorem dX0_cellsOfPerson_49 : gd cX0_cellsOfPerson 49 (.istore_n 3) 1 50 := by decide +kernel
theorem dX0_cellsOfPerson_50 : decode cX0_cellsOfPerson 50 = .ok (.iinc 4 1, 3) ∧ 50 + 3 = 53 ∧ Int32.ofInt (1) = (1) := by decide +kernel
theorem dX0_cellsOfPerson_53 : gb cX0_cellsOfPerson 53 (.goto (-48)) (-48) 56 5 := by decide +kernel
theorem dX0_cellsOfPerson_56 : gd cX0_cellsOfPerson 56 (.iload_n 3) 1 57 := by decide +kernel
theorem dX0_cellsOfPerson_57 : gd cX0_cellsOfPerson 57 (.ireturn) 1 58 := by decide +kernel
theorem dX0_cellsWithoutShard_0 : decode cX0_cellsWithoutShard 0 = .ok (.iconst 0, 1) ∧ 0 + 1 = 1 ∧ Int32.ofInt (0) = (0) := by decide +kernel
theorem dX0_cellsWithoutShard_1 : gd cX0_cellsWithoutShard 1 (.istore_n 1) 1 2 := by decide +kernel
theorem dX0_cellsWithoutShard_2 : decode cX0_cellsWithoutShard 2 = .ok (.iconst 0, 1) ∧ 2 + 1 = 3 ∧ Int32.ofInt (0) = (0) := by decide +kernel
theorem dX0_cellsWithoutShard_3 : gd cX0_cellsWithoutShard 3 (.istore_n 2) 1 4 := by decide +kernel
theorem dX0_cellsWithoutShard_4 : gd cX0_cellsWithoutShard 4 (.iload_n 2) 1 5 := by decide +kernel
theorem dX0_cellsWithoutShard_5 : gd cX0_cellsWithoutShard 5 (.aload_n 0) 1 6 := by decide +kernel
theorem dX0_cellsWithoutShard_6 : gd cX0_cellsWithoutShard 6 (.getfield 11) 3 9 := by decide +kernel
theorem dX0_cellsWithoutShard_9 : decode cX0_cellsWithoutShard 9 = .ok (.bipush 9, 2) ∧ 9 + 2 = 11 ∧ (Int8.ofInt (9)).toInt32 = (9) := by decide +kernel
theorem dX0_cellsWithoutShard_11 : gd cX0_cellsWithoutShard 11 (.iaload) 1 12 := by decide +kernel
theorem dX0_cellsWithoutShard_12 : gb cX0_cellsWithoutShard 12 (.if_icmp .ge 18) (18) 15 30 := by decide +kernel
theorem dX0_cellsWithoutShard_15 : gd cX0_cellsWithoutShard 15 (.iload_n 1) 1 16 := by decide +kernel
theorem dX0_cellsWithoutShard_16 : gd cX0_cellsWithoutShard 16 (.aload_n 0) 1 17 := by decide +kernel
theorem dX0_cellsWithoutShard_17 : gd cX0_cellsWithoutShard 17 (.getfield 48) 3 20 := by decide +kernel
theorem dX0_cellsWithoutShard_20 : gd cX0_cellsWithoutShard 20 (.iload_n 2) 1 21 := by decide +kernel
theorem dX0_cellsWithoutShard_21 : gd cX0_cellsWithoutShard 21 (.iaload) 1 22 := by decide +kernel
theorem dX0_cellsWithoutShard_22 : gd cX0_cellsWithoutShard 22 (.ior) 1 23 := by decide +kernel
theorem dX0_cellsWithoutShard_23 : gd cX0_cellsWithoutShard 23 (.istore_n 1) 1 24 := by decide +kernel
theorem dX0_cellsWithoutShard_24 : decode cX0_cellsWithoutShard 24 = .ok (.iinc 2 1, 3) ∧ 24 + 3 = 27 ∧ Int32.ofInt (1) = (1) := by decide +kernel
theorem dX0_cellsWithoutShard_27 : gb cX0_cellsWithoutShard 27 (.goto (-23)) (-23) 30 4 := by decide +kernel
theorem dX0_cellsWithoutShard_30 : gd cX0_cellsWithoutShard 30 (.aload_n 0) 1 31 := by decide +kernel
theorem dX0_cellsWithoutShard_31 : gd cX0_cellsWithoutShard 31 (.invokevirtual 77) 3 34 := by decide +kernel
theorem dX0_cellsWithoutShard_34 : gd cX0_cellsWithoutShard 34 (.iload_n 1) 1 35 := by decide +kernel
theorem dX0_cellsWithoutShard_35 : decode cX0_cellsWithoutShard 35 = .ok (.iconst (-1), 1) ∧ 35 + 1 = 36 ∧ Int32.ofInt (-1) = (-1) := by decide +kernel
theorem dX0_cellsWithoutShard_36 : gd cX0_cellsWithoutShard 36 (.ixor) 1 37 := by decide +kernel
theorem dX0_cellsWithoutShard_37 : gd cX0_cellsWithoutShard 37 (.iand) 1 38 := by decide +kernel
theorem dX0_cellsWithoutShard_38 : gd cX0_cellsWithoutShard 38 (.ireturn) 1 39 := by decide +kernel
theorem dX1_init_0 : gd cX1_init 0 (.aload_n 0) 1 1 := by decide +kernel
theorem dX1_init_1 : gd cX1_init 1 (.invokespecial 1) 3 4 := by decide +kernel
theorem dX1_init_4 : gd cX1_init 4 (.aload_n 0) 1 5 := by decide +kernel
theorem dX1_init_5 : decode cX1_init 5 = .ok (.iconst 0, 1) ∧ 5 + 1 = 6 ∧ Int32.ofInt (0) = (0) := by decide +kernel
theorem dX1_init_6 : gd cX1_init 6 (.putfield 7) 3 9 := by decide +kernel
theorem dX1_init_9 : gd cX1_init 9 (.aload_n 0) 1 10 := by decide +kernel
theorem dX1_init_10 : decode cX1_init 10 = .ok (.iconst 0, 1) ∧ 10 + 1 = 11 ∧ Int32.ofInt (0) = (0) := by decide +kernel
theorem dX1_init_11 : gd cX1_init 11 (.putfield 13) 3 14 := by decide +kernel
theorem dX1_init_14 : gd cX1_init 14 (.aload_n 0) 1 15 := by decide +kernel
theorem dX1_init_15 : decode cX1_init 15 = .ok (.iconst 0, 1) ∧ 15 + 1 = 16 ∧ Int32.ofInt (0) = (0) := by decide +kernel
theorem dX1_init_16 : gd cX1_init 16 (.putfield 16) 3 19 := by decide +kernel
theorem dX1_init_19 : gd cX1_init 19 (.return_) 1 20 := by decide +kernel
theorem dX1_pass_0 : gd cX1_pass 0 (.aload_n 0) 1 1 := by decide +kernel
theorem dX1_pass_1 : gd cX1_pass 1 (.iload_n 3) 1 2 := by decide +kernel
theorem dX1_pass_2 : gd cX1_pass 2 (.putfield 7) 3 5 := by decide +kernel
theorem dX1_pass_5 : gd cX1_pass 5 (.aload_n 0) 1 6 := by decide +kernel
theorem dX1_pass_6 : gd cX1_pass 6 (.iload_n 2) 1 7 := by decide +kernel
theorem dX1_pass_7 : gd cX1_pass 7 (.putfield 13) 3 10 := by decide +kernel
theorem dX1_pass_10 : gd cX1_pass 10 (.aload_n 0) 1 11 := by decide +kernel
theorem dX1_pass_11 : decode cX1_pass 11 = .ok (.iconst 0, 1) ∧ 11 + 1 = 12 ∧ Int32.ofInt (0) = (0) := by decide +kernel
theorem dX1_pass_12 : gd cX1_pass 12 (.putfield 16) 3 15 := by decide +kernel
theorem dX1_pass_15 : decode cX1_pass 15 = .ok (.iconst 1, 1) ∧ 15 + 1 = 16 ∧ Int32.ofInt (1) = (1) := by decide +kernel
theorem dX1_pass_16 : gd cX1_pass 16 (.istore 5) 2 18 := by decide +kernel
theorem dX1_pass_18 : gd cX1_pass 18 (.iload 5) 2 20 := by decide +kernel
theorem dX1_pass_20 : gd cX1_pass 20 (.iload 4) 2 22 := by decide +kernel
theorem dX1_pass_22 : gb cX1_pass 22 (.if_icmp .gt 52) (52) 25 74 := by decide +kernel
theorem dX1_pass_25 : gd cX1_pass 25 (.aload_n 0) 1 26 := by decide +kernel
theorem dX1_pass_26 : gd cX1_pass 26 (.invokevirtual 19) 3 29 := by decide +kernel
theorem dX1_pass_29 : decode cX1_pass 29 = .ok (.bipush 100, 2) ∧ 29 + 2 = 31 ∧ (Int8.ofInt (100)).toInt32 = (100) := by decide +kernel
theorem dX1_pass_31 : gd cX1_pass 31 (.irem) 1 32 := by decide +kernel
theorem dX1_pass_32 : gd cX1_pass 32 (.aload_n 1) 1 33 := by decide +kernel
theorem dX1_pass_33 : gd cX1_pass 33 (.getfield 23) 3 36 := by decide +kernel
theorem dX1_pass_36 : gb cX1_pass 36 (.if_icmp .ge 18) (18) 39 54 := by decide +kernel
theorem dX1_pass_39 : gd cX1_pass 39 (.aload_n 0) 1 40 := by decide +kernel
theorem dX1_pass_40 : gd cX1_pass 40 (.dup) 1 41 := by decide +kernel
theorem dX1_pass_41 : gd cX1_pass 41 (.getfield 16) 3 44 := by decide +kernel
theorem dX1_pass_44 : decode cX1_pass 44 = .ok (.iconst 1, 1) ∧ 44 + 1 = 45 ∧ Int32.ofInt (1) = (1) := by decide +kernel
theorem dX1_pass_45 : gd cX1_pass 45 (.iadd) 1 46 := by decide +kernel
theorem dX1_pass_46 : gd cX1_pass 46 (.putfield 16) 3 49 := by decide +kernel
theorem dX1_pass_49 : gd cX1_pass 49 (.aload_n 0) 1 50 := by decide +kernel
theorem dX1_pass_50 : gd cX1_pass 50 (.aload_n 1) 1 51 := by decide +kernel
theorem dX1_pass_51 : gd cX1_pass 51 (.invokevirtual 28) 3 54 := by decide +kernel
theorem dX1_pass_54 : gd cX1_pass 54 (.iload 5) 2 56 := by decide +kernel
theorem dX1_pass_56 : gd cX1_pass 56 (.aload_n 1) 1 57 := by decide +kernel
theorem dX1_pass_57 : gd cX1_pass 57 (.getfield 32) 3 60 := by decide +kernel
theorem dX1_pass_60 : gb cX1_pass 60 (.if_icmp .ne 8) (8) 63 68 := by decide +kernel
theorem dX1_pass_63 : gd cX1_pass 63 (.aload_n 0) 1 64 := by decide +kernel
theorem dX1_pass_64 : gd cX1_pass 64 (.aload_n 1) 1 65 := by decide +kernel
theorem dX1_pass_65 : gd cX1_pass 65 (.invokevirtual 35) 3 68 := by decide +kernel
theorem dX1_pass_68 : decode cX1_pass 68 = .ok (.iinc 5 1, 3) ∧ 68 + 3 = 71 ∧ Int32.ofInt (1) = (1) := by decide +kernel
theorem dX1_pass_71 : gb cX1_pass 71 (.goto (-53)) (-53) 74 18 := by decide +kernel
theorem dX1_pass_74 : gd cX1_pass 74 (.return_) 1 75 := by decide +kernel
theorem dX1_draw_0 : gd cX1_draw 0 (.aload_n 0) 1 1 := by decide +kernel
theorem dX1_draw_1 : decode cX1_draw 1 = .ok (.bipush 75, 2) ∧ 1 + 2 = 3 ∧ (Int8.ofInt (75)).toInt32 = (75) := by decide +kernel
theorem dX1_draw_3 : gd cX1_draw 3 (.aload_n 0) 1 4 := by decide +kernel
theorem dX1_draw_4 : gd cX1_draw 4 (.getfield 7) 3 7 := by decide +kernel
theorem dX1_draw_7 : gd cX1_draw 7 (.imul) 1 8 := by decide +kernel
theorem dX1_draw_8 : decode cX1_draw 8 = .ok (.bipush 74, 2) ∧ 8 + 2 = 10 ∧ (Int8.ofInt (74)).toInt32 = (74) := by decide +kernel
theorem dX1_draw_10 : gd cX1_draw 10 (.iadd) 1 11 := by decide +kernel
theorem dX1_draw_11 : gd cX1_draw 11 (.ldc 38) 2 13 := by decide +kernel
theorem dX1_draw_13 : gd cX1_draw 13 (.irem) 1 14 := by decide +kernel
theorem dX1_draw_14 : gd cX1_draw 14 (.putfield 7) 3 17 := by decide +kernel
theorem dX1_draw_17 : gd cX1_draw 17 (.aload_n 0) 1 18 := by decide +kernel
theorem dX1_draw_18 : gd cX1_draw 18 (.getfield 7) 3 21 := by decide +kernel
theorem dX1_draw_21 : gd cX1_draw 21 (.ireturn) 1 22 := by decide +kernel
theorem dX1_strike_0 : gd cX1_strike 0 (.aload_n 1) 1 1 := by decide +kernel
theorem dX1_strike_1 : gd cX1_strike 1 (.getfield 39) 3 4 := by decide +kernel
theorem dX1_strike_4 : decode cX1_strike 4 = .ok (.iconst 1, 1) ∧ 4 + 1 = 5 ∧ Int32.ofInt (1) = (1) := by decide +kernel
theorem dX1_strike_5 : gd cX1_strike 5 (.iaload) 1 6 := by decide +kernel
theorem dX1_strike_6 : gd cX1_strike 6 (.istore_n 2) 1 7 := by decide +kernel
theorem dX1_strike_7 : gd cX1_strike 7 (.iload_n 2) 1 8 := by decide +kernel
theorem dX1_strike_8 : gb cX1_strike 8 (.ifCond .le 34) (34) 11 42 := by decide +kernel
theorem dX1_strike_11 : gd cX1_strike 11 (.aload_n 0) 1 12 := by decide +kernel
theorem dX1_strike_12 : gd cX1_strike 12 (.invokevirtual 19) 3 15 := by decide +kernel
theorem dX1_strike_15 : gd cX1_strike 15 (.iload_n 2) 1 16 := by decide +kernel
theorem dX1_strike_16 : gd cX1_strike 16 (.irem) 1 17 := by decide +kernel
theorem dX1_strike_17 : gd cX1_strike 17 (.istore_n 3) 1 18 := by decide +kernel
theorem dX1_strike_18 : gd cX1_strike 18 (.aload_n 1) 1 19 := by decide +kernel
theorem dX1_strike_19 : gd cX1_strike 19 (.getfield 43) 3 22 := by decide +kernel
theorem dX1_strike_22 : gd cX1_strike 22 (.iload_n 3) 1 23 := by decide +kernel
theorem dX1_strike_23 : gd cX1_strike 23 (.iaload) 1 24 := by decide +kernel
theorem dX1_strike_24 : decode cX1_strike 24 = .ok (.iconst 1, 1) ∧ 24 + 1 = 25 ∧ Int32.ofInt (1) = (1) := by decide +kernel
theorem dX1_strike_25 : gb cX1_strike 25 (.if_icmp .eq 17) (17) 28 42 := by decide +kernel
theorem dX1_strike_28 : gd cX1_strike 28 (.aload_n 0) 1 29 := by decide +kernel
theorem dX1_strike_29 : gd cX1_strike 29 (.dup) 1 30 := by decide +kernel
theorem dX1_strike_30 : gd cX1_strike 30 (.getfield 13) 3 33 := by decide +kernel
theorem dX1_strike_33 : decode cX1_strike 33 = .ok (.iconst 1, 1) ∧ 33 + 1 = 34 ∧ Int32.ofInt (1) = (1) := by decide +kernel
theorem dX1_strike_34 : gd cX1_strike 34 (.iload_n 3) 1 35 := by decide +kernel
theorem dX1_strike_35 : gd cX1_strike 35 (.ishl) 1 36 := by decide +kernel
theorem dX1_strike_36 : decode cX1_strike 36 = .ok (.iconst (-1), 1) ∧ 36 + 1 = 37 ∧ Int32.ofInt (-1) = (-1) := by decide +kernel
theorem dX1_strike_37 : gd cX1_strike 37 (.ixor) 1 38 := by decide +kernel
theorem dX1_strike_38 : gd cX1_strike 38 (.iand) 1 39 := by decide +kernel
theorem dX1_strike_39 : gd cX1_strike 39 (.putfield 13) 3 42 := by decide +kernel
theorem dX1_strike_42 : gd cX1_strike 42 (.return_) 1 43 := by decide +kernel
theorem dX1_melt_0 : decode cX1_melt 0 = .ok (.iconst 0, 1) ∧ 0 + 1 = 1 ∧ Int32.ofInt (0) = (0) := by decide +kernel
theorem dX1_melt_1 : gd cX1_melt 1 (.istore_n 2) 1 2 := by decide +kernel
theorem dX1_melt_2 : gd cX1_melt 2 (.iload_n 2) 1 3 := by decide +kernel
theorem dX1_melt_3 : gd cX1_melt 3 (.aload_n 1) 1 4 := by decide +kernel
theorem dX1_melt_4 : gd cX1_melt 4 (.getfield 39) 3 7 := by decide +kernel
theorem dX1_melt_7 : decode cX1_melt 7 = .ok (.iconst 1, 1) ∧ 7 + 1 = 8 ∧ Int32.ofInt (1) = (1) := by decide +kernel
theorem dX1_melt_8 : gd cX1_melt 8 (.iaload) 1 9 := by decide +kernel
theorem dX1_melt_9 : gb cX1_melt 9 (.if_icmp .ge 33) (33) 12 42 := by decide +kernel
theorem dX1_melt_12 : gd cX1_melt 12 (.aload_n 1) 1 13 := by decide +kernel
theorem dX1_melt_13 : gd cX1_melt 13 (.getfield 43) 3 16 := by decide +kernel
theorem dX1_melt_16 : gd cX1_melt 16 (.iload_n 2) 1 17 := by decide +kernel
theorem dX1_melt_17 : gd cX1_melt 17 (.iaload) 1 18 := by decide +kernel
theorem dX1_melt_18 : decode cX1_melt 18 = .ok (.iconst 2, 1) ∧ 18 + 1 = 19 ∧ Int32.ofInt (2) = (2) := by decide +kernel
theorem dX1_melt_19 : gb cX1_melt 19 (.if_icmp .ne 17) (17) 22 36 := by decide +kernel
theorem dX1_melt_22 : gd cX1_melt 22 (.aload_n 0) 1 23 := by decide +kernel
theorem dX1_melt_23 : gd cX1_melt 23 (.dup) 1 24 := by decide +kernel
theorem dX1_melt_24 : gd cX1_melt 24 (.getfield 13) 3 27 := by decide +kernel
theorem dX1_melt_27 : decode cX1_melt 27 = .ok (.iconst 1, 1) ∧ 27 + 1 = 28 ∧ Int32.ofInt (1) = (1) := by decide +kernel
theorem dX1_melt_28 : gd cX1_melt 28 (.iload_n 2) 1 29 := by decide +kernel
theorem dX1_melt_29 : gd cX1_melt 29 (.ishl) 1 30 := by decide +kernel
theorem dX1_melt_30 : decode cX1_melt 30 = .ok (.iconst (-1), 1) ∧ 30 + 1 = 31 ∧ Int32.ofInt (-1) = (-1) := by decide +kernel
theorem dX1_melt_31 : gd cX1_melt 31 (.ixor) 1 32 := by decide +kernel
theorem dX1_melt_32 : gd cX1_melt 32 (.iand) 1 33 := by decide +kernel
theorem dX1_melt_33 : gd cX1_melt 33 (.putfield 13) 3 36 := by decide +kernel
theorem dX1_melt_36 : decode cX1_melt 36 = .ok (.iinc 2 1, 3) ∧ 36 + 3 = 39 ∧ Int32.ofInt (1) = (1) := by decide +kernel
theorem dX1_melt_39 : gb cX1_melt 39 (.goto (-37)) (-37) 42 2 := by decide +kernel
theorem dX1_melt_42 : gd cX1_melt 42 (.return_) 1 43 := by decide +kernel
theorem dX4_init_0 : gd cX4_init 0 (.aload_n 0) 1 1 := by decide +kernel
theorem dX4_init_1 : gd cX4_init 1 (.invokespecial 1) 3 4 := by decide +kernel
theorem dX4_init_4 : gd cX4_init 4 (.aload_n 0) 1 5 := by decide +kernel
theorem dX4_init_5 : decode cX4_init 5 = .ok (.sipush 1100, 3) ∧ 5 + 3 = 8 ∧ (Int16.ofInt (1100)).toInt32 = (1100) := by decide +kernel
theorem dX4_init_8 : gd cX4_init 8 (.newarray .byte) 2 10 := by decide +kernel
theorem dX4_init_10 : gd cX4_init 10 (.putfield 9) 3 13 := by decide +kernel
theorem dX4_init_13 : gd cX4_init 13 (.aload_n 0) 1 14 := by decide +kernel
theorem dX4_init_14 : decode cX4_init 14 = .ok (.iconst 0, 1) ∧ 14 + 1 = 15 ∧ Int32.ofInt (0) = (0) := by decide +kernel
theorem dX4_init_15 : gd cX4_init 15 (.putfield 13) 3 18 := by decide +kernel
theorem dX4_init_18 : gd cX4_init 18 (.return_) 1 19 := by decide +kernel
theorem dX4_hasRoom_0 : gd cX4_hasRoom 0 (.aload_n 0) 1 1 := by decide +kernel
theorem dX4_hasRoom_1 : gd cX4_hasRoom 1 (.getfield 13) 3 4 := by decide +kernel
theorem dX4_hasRoom_4 : decode cX4_hasRoom 4 = .ok (.bipush 20, 2) ∧ 4 + 2 = 6 ∧ (Int8.ofInt (20)).toInt32 = (20) := by decide +kernel
theorem dX4_hasRoom_6 : gd cX4_hasRoom 6 (.iadd) 1 7 := by decide +kernel
theorem dX4_hasRoom_7 : decode cX4_hasRoom 7 = .ok (.sipush 1100, 3) ∧ 7 + 3 = 10 ∧ (Int16.ofInt (1100)).toInt32 = (1100) := by decide +kernel
theorem dX4_hasRoom_10 : gb cX4_hasRoom 10 (.if_icmp .gt 7) (7) 13 17 := by decide +kernel
theorem dX4_hasRoom_13 : decode cX4_hasRoom 13 = .ok (.iconst 1, 1) ∧ 13 + 1 = 14 ∧ Int32.ofInt (1) = (1) := by decide +kernel
theorem dX4_hasRoom_14 : gb cX4_hasRoom 14 (.goto 4) (4) 17 18 := by decide +kernel
theorem dX4_hasRoom_17 : decode cX4_hasRoom 17 = .ok (.iconst 0, 1) ∧ 17 + 1 = 18 ∧ Int32.ofInt (0) = (0) := by decide +kernel
theorem dX4_hasRoom_18 : gd cX4_hasRoom 18 (.ireturn) 1 19 := by decide +kernel
theorem dX4_put_0 : decode cX4_put 0 = .ok (.bipush 24, 2) ∧ 0 + 2 = 2 ∧ (Int8.ofInt (24)).toInt32 = (24) := by decide +kernel
theorem dX4_put_2 : gd cX4_put 2 (.istore_n 2) 1 3 := by decide +kernel
theorem dX4_put_3 : gd cX4_put 3 (.iload_n 2) 1 4 := by decide +kernel
theorem dX4_put_4 : gb cX4_put 4 (.ifCond .lt 42) (42) 7 46 := by decide +kernel
theorem dX4_put_7 : gd cX4_put 7 (.aload_n 0) 1 8 := by decide +kernel
theorem dX4_put_8 : gd cX4_put 8 (.getfield 13) 3 11 := by decide +kernel
theorem dX4_put_11 : decode cX4_put 11 = .ok (.sipush 1100, 3) ∧ 11 + 3 = 14 ∧ (Int16.ofInt (1100)).toInt32 = (1100) := by decide +kernel
theorem dX4_put_14 : gb cX4_put 14 (.if_icmp .ge 26) (26) 17 40 := by decide +kernel
theorem dX4_put_17 : gd cX4_put 17 (.aload_n 0) 1 18 := by decide +kernel
theorem dX4_put_18 : gd cX4_put 18 (.getfield 9) 3 21 := by decide +kernel
theorem dX4_put_21 : gd cX4_put 21 (.aload_n 0) 1 22 := by decide +kernel
theorem dX4_put_22 : gd cX4_put 22 (.getfield 13) 3 25 := by decide +kernel
theorem dX4_put_25 : gd cX4_put 25 (.iload_n 1) 1 26 := by decide +kernel
theorem dX4_put_26 : gd cX4_put 26 (.iload_n 2) 1 27 := by decide +kernel
theorem dX4_put_27 : gd cX4_put 27 (.ishr) 1 28 := by decide +kernel
theorem dX4_put_28 : gd cX4_put 28 (.i2b) 1 29 := by decide +kernel
theorem dX4_put_29 : gd cX4_put 29 (.bastore) 1 30 := by decide +kernel
theorem dX4_put_30 : gd cX4_put 30 (.aload_n 0) 1 31 := by decide +kernel
theorem dX4_put_31 : gd cX4_put 31 (.dup) 1 32 := by decide +kernel
theorem dX4_put_32 : gd cX4_put 32 (.getfield 13) 3 35 := by decide +kernel
theorem dX4_put_35 : decode cX4_put 35 = .ok (.iconst 1, 1) ∧ 35 + 1 = 36 ∧ Int32.ofInt (1) = (1) := by decide +kernel
theorem dX4_put_36 : gd cX4_put 36 (.iadd) 1 37 := by decide +kernel
theorem dX4_put_37 : gd cX4_put 37 (.putfield 13) 3 40 := by decide +kernel
theorem dX4_put_40 : decode cX4_put 40 = .ok (.iinc 2 (-8), 3) ∧ 40 + 3 = 43 ∧ Int32.ofInt (-8) = (-8) := by decide +kernel
theorem dX4_put_43 : gb cX4_put 43 (.goto (-40)) (-40) 46 3 := by decide +kernel
theorem dX4_put_46 : gd cX4_put 46 (.return_) 1 47 := by decide +kernel
theorem dX5_init_0 : gd cX5_init 0 (.aload_n 0) 1 1 := by decide +kernel
theorem dX5_init_1 : gd cX5_init 1 (.invokespecial 1) 3 4 := by decide +kernel
theorem dX5_init_4 : gd cX5_init 4 (.aload_n 0) 1 5 := by decide +kernel
theorem dX5_init_5 : gd cX5_init 5 (.aload_n 1) 1 6 := by decide +kernel
theorem dX5_init_6 : gd cX5_init 6 (.getfield 7) 3 9 := by decide +kernel
theorem dX5_init_9 : gd cX5_init 9 (.putfield 13) 3 12 := by decide +kernel
theorem dX5_init_12 : gd cX5_init 12 (.aload_n 0) 1 13 := by decide +kernel
theorem dX5_init_13 : decode cX5_init 13 = .ok (.iconst 0, 1) ∧ 13 + 1 = 14 ∧ Int32.ofInt (0) = (0) := by decide +kernel
theorem dX5_init_14 : gd cX5_init 14 (.putfield 16) 3 17 := by decide +kernel
theorem dX5_init_17 : gd cX5_init 17 (.aload_n 0) 1 18 := by decide +kernel
theorem dX5_init_18 : decode cX5_init 18 = .ok (.iconst 0, 1) ∧ 18 + 1 = 19 ∧ Int32.ofInt (0) = (0) := by decide +kernel
theorem dX5_init_19 : gd cX5_init 19 (.putfield 20) 3 22 := by decide +kernel
theorem dX5_init_22 : gd cX5_init 22 (.aload_n 0) 1 23 := by decide +kernel
theorem dX5_init_23 : decode cX5_init 23 = .ok (.iconst 0, 1) ∧ 23 + 1 = 24 ∧ Int32.ofInt (0) = (0) := by decide +kernel
theorem dX5_init_24 : gd cX5_init 24 (.putfield 23) 3 27 := by decide +kernel
theorem dX5_init_27 : gd cX5_init 27 (.aload_n 0) 1 28 := by decide +kernel
theorem dX5_init_28 : decode cX5_init 28 = .ok (.iconst 0, 1) ∧ 28 + 1 = 29 ∧ Int32.ofInt (0) = (0) := by decide +kernel
theorem dX5_init_29 : gd cX5_init 29 (.putfield 26) 3 32 := by decide +kernel
theorem dX5_init_32 : gd cX5_init 32 (.return_) 1 33 := by decide +kernel
theorem dX5_open_0 : gd cX5_open 0 (.aload_n 0) 1 1 := by decide +kernel
theorem dX5_open_1 : gd cX5_open 1 (.iload_n 1) 1 2 := by decide +kernel
theorem dX5_open_2 : gd cX5_open 2 (.aload_n 0) 1 3 := by decide +kernel
theorem dX5_open_3 : gd cX5_open 3 (.getfield 13) 3 6 := by decide +kernel
theorem dX5_open_6 : gd cX5_open 6 (.arraylength) 1 7 := by decide +kernel
theorem dX5_open_7 : gd cX5_open 7 (.invokestatic 29) 3 10 := by decide +kernel
theorem dX5_open_10 : gd cX5_open 10 (.putfield 16) 3 13 := by decide +kernel
theorem dX5_open_13 : gd cX5_open 13 (.aload_n 0) 1 14 := by decide +kernel
theorem dX5_open_14 : decode cX5_open 14 = .ok (.iconst 0, 1) ∧ 14 + 1 = 15 ∧ Int32.ofInt (0) = (0) := by decide +kernel
theorem dX5_open_15 : gd cX5_open 15 (.putfield 23) 3 18 := by decide +kernel
theorem dX5_open_18 : gd cX5_open 18 (.aload_n 0) 1 19 := by decide +kernel
theorem dX5_open_19 : decode cX5_open 19 = .ok (.iconst 0, 1) ∧ 19 + 1 = 20 ∧ Int32.ofInt (0) = (0) := by decide +kernel
theorem dX5_open_20 : gd cX5_open 20 (.putfield 26) 3 23 := by decide +kernel
theorem dX5_open_23 : gd cX5_open 23 (.aload_n 0) 1 24 := by decide +kernel
theorem dX5_open_24 : gd cX5_open 24 (.invokevirtual 35) 3 27 := by decide +kernel
theorem dX5_open_27 : gd cX5_open 27 (.return_) 1 28 := by decide +kernel
theorem dX5_step_0 : gd cX5_step 0 (.aload_n 0) 1 1 := by decide +kernel
theorem dX5_step_1 : gd cX5_step 1 (.getfield 23) 3 4 := by decide +kernel
theorem dX5_step_4 : gd cX5_step 4 (.aload_n 0) 1 5 := by decide +kernel
theorem dX5_step_5 : gd cX5_step 5 (.getfield 26) 3 8 := by decide +kernel
theorem dX5_step_8 : gd cX5_step 8 (.iadd) 1 9 := by decide +kernel
theorem dX5_step_9 : gd cX5_step 9 (.istore_n 1) 1 10 := by decide +kernel
theorem dX5_step_10 : gd cX5_step 10 (.iload_n 1) 1 11 := by decide +kernel
theorem dX5_step_11 : gd cX5_step 11 (.aload_n 0) 1 12 := by decide +kernel
theorem dX5_step_12 : gd cX5_step 12 (.getfield 16) 3 15 := by decide +kernel
theorem dX5_step_15 : gb cX5_step 15 (.if_icmp .ge 20) (20) 18 35 := by decide +kernel
theorem dX5_step_18 : gd cX5_step 18 (.aload_n 0) 1 19 := by decide +kernel
theorem dX5_step_19 : gd cX5_step 19 (.getfield 13) 3 22 := by decide +kernel
theorem dX5_step_22 : gd cX5_step 22 (.iload_n 1) 1 23 := by decide +kernel
theorem dX5_step_23 : gd cX5_step 23 (.baload) 1 24 := by decide +kernel
theorem dX5_step_24 : decode cX5_step 24 = .ok (.bipush 32, 2) ∧ 24 + 2 = 26 ∧ (Int8.ofInt (32)).toInt32 = (32) := by decide +kernel
theorem dX5_step_26 : gb cX5_step 26 (.if_icmp .ne 9) (9) 29 35 := by decide +kernel
theorem dX5_step_29 : decode cX5_step 29 = .ok (.iinc 1 1, 3) ∧ 29 + 3 = 32 ∧ Int32.ofInt (1) = (1) := by decide +kernel
theorem dX5_step_32 : gb cX5_step 32 (.goto (-22)) (-22) 35 10 := by decide +kernel
theorem dX5_step_35 : gd cX5_step 35 (.aload_n 0) 1 36 := by decide +kernel
theorem dX5_step_36 : gd cX5_step 36 (.iload_n 1) 1 37 := by decide +kernel
theorem dX5_step_37 : gd cX5_step 37 (.putfield 23) 3 40 := by decide +kernel
theorem dX5_step_40 : gd cX5_step 40 (.aload_n 0) 1 41 := by decide +kernel
theorem dX5_step_41 : gd cX5_step 41 (.aload_n 0) 1 42 := by decide +kernel
theorem dX5_step_42 : gd cX5_step 42 (.iload_n 1) 1 43 := by decide +kernel
theorem dX5_step_43 : gd cX5_step 43 (.invokevirtual 38) 3 46 := by decide +kernel
theorem dX5_step_46 : gd cX5_step 46 (.putfield 20) 3 49 := by decide +kernel
theorem dX5_step_49 : gd cX5_step 49 (.aload_n 0) 1 50 := by decide +kernel
theorem dX5_step_50 : gd cX5_step 50 (.aload_n 0) 1 51 := by decide +kernel
theorem dX5_step_51 : gd cX5_step 51 (.getfield 20) 3 54 := by decide +kernel
theorem dX5_step_54 : gb cX5_step 54 (.ifCond .ne 7) (7) 57 61 := by decide +kernel
theorem dX5_step_57 : decode cX5_step 57 = .ok (.iconst 0, 1) ∧ 57 + 1 = 58 ∧ Int32.ofInt (0) = (0) := by decide +kernel
theorem dX5_step_58 : gb cX5_step 58 (.goto 4) (4) 61 62 := by decide +kernel
theorem dX5_step_61 : decode cX5_step 61 = .ok (.iconst 1, 1) ∧ 61 + 1 = 62 ∧ Int32.ofInt (1) = (1) := by decide +kernel
theorem dX5_step_62 : gd cX5_step 62 (.putfield 26) 3 65 := by decide +kernel
theorem dX5_step_65 : gd cX5_step 65 (.aload_n 0) 1 66 := by decide +kernel
theorem dX5_step_66 : gd cX5_step 66 (.getfield 20) 3 69 := by decide +kernel
theorem dX5_step_69 : decode cX5_step 69 = .ok (.iconst 1, 1) ∧ 69 + 1 = 70 ∧ Int32.ofInt (1) = (1) := by decide +kernel
theorem dX5_step_70 : gb cX5_step 70 (.if_icmp .eq 12) (12) 73 82 := by decide +kernel
theorem dX5_step_73 : gd cX5_step 73 (.aload_n 0) 1 74 := by decide +kernel
theorem dX5_step_74 : gd cX5_step 74 (.getfield 20) 3 77 := by decide +kernel
theorem dX5_step_77 : decode cX5_step 77 = .ok (.iconst 2, 1) ∧ 77 + 1 = 78 ∧ Int32.ofInt (2) = (2) := by decide +kernel
theorem dX5_step_78 : gb cX5_step 78 (.if_icmp .eq 4) (4) 81 82 := by decide +kernel
theorem dX5_step_81 : gd cX5_step 81 (.return_) 1 82 := by decide +kernel
theorem dX5_step_82 : gd cX5_step 82 (.aload_n 0) 1 83 := by decide +kernel
theorem dX5_step_83 : gd cX5_step 83 (.getfield 23) 3 86 := by decide +kernel
theorem dX5_step_86 : gd cX5_step 86 (.aload_n 0) 1 87 := by decide +kernel
theorem dX5_step_87 : gd cX5_step 87 (.getfield 26) 3 90 := by decide +kernel
theorem dX5_step_90 : gd cX5_step 90 (.iadd) 1 91 := by decide +kernel
theorem dX5_step_91 : gd cX5_step 91 (.aload_n 0) 1 92 := by decide +kernel
theorem dX5_step_92 : gd cX5_step 92 (.getfield 16) 3 95 := by decide +kernel
theorem dX5_step_95 : gb cX5_step 95 (.if_icmp .ge 36) (36) 98 131 := by decide +kernel
theorem dX5_step_98 : gd cX5_step 98 (.aload_n 0) 1 99 := by decide +kernel
theorem dX5_step_99 : gd cX5_step 99 (.aload_n 0) 1 100 := by decide +kernel
theorem dX5_step_100 : gd cX5_step 100 (.getfield 23) 3 103 := by decide +kernel
theorem dX5_step_103 : gd cX5_step 103 (.aload_n 0) 1 104 := by decide +kernel
theorem dX5_step_104 : gd cX5_step 104 (.getfield 26) 3 107 := by decide +kernel
theorem dX5_step_107 : gd cX5_step 107 (.iadd) 1 108 := by decide +kernel
theorem dX5_step_108 : gd cX5_step 108 (.invokevirtual 38) 3 111 := by decide +kernel
theorem dX5_step_111 : gd cX5_step 111 (.aload_n 0) 1 112 := by decide +kernel
theorem dX5_step_112 : gd cX5_step 112 (.getfield 20) 3 115 := by decide +kernel
theorem dX5_step_115 : gb cX5_step 115 (.if_icmp .ne 16) (16) 118 131 := by decide +kernel
theorem dX5_step_118 : gd cX5_step 118 (.aload_n 0) 1 119 := by decide +kernel
theorem dX5_step_119 : gd cX5_step 119 (.dup) 1 120 := by decide +kernel
theorem dX5_step_120 : gd cX5_step 120 (.getfield 26) 3 123 := by decide +kernel
theorem dX5_step_123 : decode cX5_step 123 = .ok (.iconst 1, 1) ∧ 123 + 1 = 124 ∧ Int32.ofInt (1) = (1) := by decide +kernel
theorem dX5_step_124 : gd cX5_step 124 (.iadd) 1 125 := by decide +kernel
theorem dX5_step_125 : gd cX5_step 125 (.putfield 26) 3 128 := by decide +kernel
theorem dX5_step_128 : gb cX5_step 128 (.goto (-46)) (-46) 131 82 := by decide +kernel
theorem dX5_step_131 : gd cX5_step 131 (.aload_n 0) 1 132 := by decide +kernel
theorem dX5_step_132 : gd cX5_step 132 (.getfield 26) 3 135 := by decide +kernel
theorem dX5_step_135 : gd cX5_step 135 (.aload_n 0) 1 136 := by decide +kernel
theorem dX5_step_136 : gd cX5_step 136 (.getfield 20) 3 139 := by decide +kernel
theorem dX5_step_139 : decode cX5_step 139 = .ok (.iconst 1, 1) ∧ 139 + 1 = 140 ∧ Int32.ofInt (1) = (1) := by decide +kernel
theorem dX5_step_140 : gb cX5_step 140 (.if_icmp .ne 8) (8) 143 148 := by decide +kernel
theorem dX5_step_143 : decode cX5_step 143 = .ok (.bipush 8, 2) ∧ 143 + 2 = 145 ∧ (Int8.ofInt (8)).toInt32 = (8) := by decide +kernel
theorem dX5_step_145 : gb cX5_step 145 (.goto 4) (4) 148 149 := by decide +kernel
theorem dX5_step_148 : decode cX5_step 148 = .ok (.iconst 2, 1) ∧ 148 + 1 = 149 ∧ Int32.ofInt (2) = (2) := by decide +kernel
theorem dX5_step_149 : gb cX5_step 149 (.if_icmp .le 8) (8) 152 157 := by decide +kernel
theorem dX5_step_152 : gd cX5_step 152 (.aload_n 0) 1 153 := by decide +kernel
theorem dX5_step_153 : decode cX5_step 153 = .ok (.iconst 5, 1) ∧ 153 + 1 = 154 ∧ Int32.ofInt (5) = (5) := by decide +kernel
theorem dX5_step_154 : gd cX5_step 154 (.putfield 20) 3 157 := by decide +kernel
theorem dX5_step_157 : gd cX5_step 157 (.return_) 1 158 := by decide +kernel
theorem dX5_sortAt_0 : gd cX5_sortAt 0 (.iload_n 1) 1 1 := by decide +kernel
theorem dX5_sortAt_1 : gd cX5_sortAt 1 (.aload_n 0) 1 2 := by decide +kernel
theorem dX5_sortAt_2 : gd cX5_sortAt 2 (.getfield 16) 3 5 := by decide +kernel
theorem dX5_sortAt_5 : gb cX5_sortAt 5 (.if_icmp .lt 5) (5) 8 10 := by decide +kernel
theorem dX5_sortAt_8 : decode cX5_sortAt 8 = .ok (.iconst 0, 1) ∧ 8 + 1 = 9 ∧ Int32.ofInt (0) = (0) := by decide +kernel
theorem dX5_sortAt_9 : gd cX5_sortAt 9 (.ireturn) 1 10 := by decide +kernel
theorem dX5_sortAt_10 : gd cX5_sortAt 10 (.aload_n 0) 1 11 := by decide +kernel
theorem dX5_sortAt_11 : gd cX5_sortAt 11 (.getfield 13) 3 14 := by decide +kernel
theorem dX5_sortAt_14 : gd cX5_sortAt 14 (.iload_n 1) 1 15 := by decide +kernel
theorem dX5_sortAt_15 : gd cX5_sortAt 15 (.baload) 1 16 := by decide +kernel
theorem dX5_sortAt_16 : gd cX5_sortAt 16 (.istore_n 2) 1 17 := by decide +kernel
theorem dX5_sortAt_17 : gd cX5_sortAt 17 (.iload_n 2) 1 18 := by decide +kernel
theorem dX5_sortAt_18 : decode cX5_sortAt 18 = .ok (.bipush 97, 2) ∧ 18 + 2 = 20 ∧ (Int8.ofInt (97)).toInt32 = (97) := by decide +kernel
theorem dX5_sortAt_20 : gb cX5_sortAt 20 (.if_icmp .lt 11) (11) 23 31 := by decide +kernel
theorem dX5_sortAt_23 : gd cX5_sortAt 23 (.iload_n 2) 1 24 := by decide +kernel
theorem dX5_sortAt_24 : decode cX5_sortAt 24 = .ok (.bipush 122, 2) ∧ 24 + 2 = 26 ∧ (Int8.ofInt (122)).toInt32 = (122) := by decide +kernel
theorem dX5_sortAt_26 : gb cX5_sortAt 26 (.if_icmp .gt 5) (5) 29 31 := by decide +kernel
theorem dX5_sortAt_29 : decode cX5_sortAt 29 = .ok (.iconst 1, 1) ∧ 29 + 1 = 30 ∧ Int32.ofInt (1) = (1) := by decide +kernel
theorem dX5_sortAt_30 : gd cX5_sortAt 30 (.ireturn) 1 31 := by decide +kernel
theorem dX5_sortAt_31 : gd cX5_sortAt 31 (.iload_n 2) 1 32 := by decide +kernel
theorem dX5_sortAt_32 : decode cX5_sortAt 32 = .ok (.bipush 48, 2) ∧ 32 + 2 = 34 ∧ (Int8.ofInt (48)).toInt32 = (48) := by decide +kernel
theorem dX5_sortAt_34 : gb cX5_sortAt 34 (.if_icmp .lt 11) (11) 37 45 := by decide +kernel
theorem dX5_sortAt_37 : gd cX5_sortAt 37 (.iload_n 2) 1 38 := by decide +kernel
theorem dX5_sortAt_38 : decode cX5_sortAt 38 = .ok (.bipush 57, 2) ∧ 38 + 2 = 40 ∧ (Int8.ofInt (57)).toInt32 = (57) := by decide +kernel
theorem dX5_sortAt_40 : gb cX5_sortAt 40 (.if_icmp .gt 5) (5) 43 45 := by decide +kernel
theorem dX5_sortAt_43 : decode cX5_sortAt 43 = .ok (.iconst 2, 1) ∧ 43 + 1 = 44 ∧ Int32.ofInt (2) = (2) := by decide +kernel
theorem dX5_sortAt_44 : gd cX5_sortAt 44 (.ireturn) 1 45 := by decide +kernel
theorem dX5_sortAt_45 : gd cX5_sortAt 45 (.iload_n 2) 1 46 := by decide +kernel
theorem dX5_sortAt_46 : decode cX5_sortAt 46 = .ok (.bipush 59, 2) ∧ 46 + 2 = 48 ∧ (Int8.ofInt (59)).toInt32 = (59) := by decide +kernel
theorem dX5_sortAt_48 : gb cX5_sortAt 48 (.if_icmp .ne 5) (5) 51 53 := by decide +kernel
theorem dX5_sortAt_51 : decode cX5_sortAt 51 = .ok (.iconst 3, 1) ∧ 51 + 1 = 52 ∧ Int32.ofInt (3) = (3) := by decide +kernel
theorem dX5_sortAt_52 : gd cX5_sortAt 52 (.ireturn) 1 53 := by decide +kernel
theorem dX5_sortAt_53 : gd cX5_sortAt 53 (.iload_n 2) 1 54 := by decide +kernel
theorem dX5_sortAt_54 : decode cX5_sortAt 54 = .ok (.bipush 44, 2) ∧ 54 + 2 = 56 ∧ (Int8.ofInt (44)).toInt32 = (44) := by decide +kernel
theorem dX5_sortAt_56 : gb cX5_sortAt 56 (.if_icmp .ne 7) (7) 59 63 := by decide +kernel
theorem dX5_sortAt_59 : decode cX5_sortAt 59 = .ok (.iconst 4, 1) ∧ 59 + 1 = 60 ∧ Int32.ofInt (4) = (4) := by decide +kernel
theorem dX5_sortAt_60 : gb cX5_sortAt 60 (.goto 4) (4) 63 64 := by decide +kernel
theorem dX5_sortAt_63 : decode cX5_sortAt 63 = .ok (.iconst 5, 1) ∧ 63 + 1 = 64 ∧ Int32.ofInt (5) = (5) := by decide +kernel
theorem dX5_sortAt_64 : gd cX5_sortAt 64 (.ireturn) 1 65 := by decide +kernel
theorem dX5_is_0 : gd cX5_is 0 (.aload_n 0) 1 1 := by decide +kernel
theorem dX5_is_1 : gd cX5_is 1 (.getfield 20) 3 4 := by decide +kernel
theorem dX5_is_4 : decode cX5_is 4 = .ok (.iconst 1, 1) ∧ 4 + 1 = 5 ∧ Int32.ofInt (1) = (1) := by decide +kernel
theorem dX5_is_5 : gb cX5_is 5 (.if_icmp .ne 14) (14) 8 19 := by decide +kernel
theorem dX5_is_8 : gd cX5_is 8 (.aload_n 0) 1 9 := by decide +kernel
theorem dX5_is_9 : gd cX5_is 9 (.getfield 26) 3 12 := by decide +kernel
theorem dX5_is_12 : gd cX5_is 12 (.aload_n 1) 1 13 := by decide +kernel
theorem dX5_is_13 : gd cX5_is 13 (.invokevirtual 42) 3 16 := by decide +kernel
theorem dX5_is_16 : gb cX5_is 16 (.if_icmp .eq 5) (5) 19 21 := by decide +kernel
theorem dX5_is_19 : decode cX5_is 19 = .ok (.iconst 0, 1) ∧ 19 + 1 = 20 ∧ Int32.ofInt (0) = (0) := by decide +kernel
theorem dX5_is_20 : gd cX5_is 20 (.ireturn) 1 21 := by decide +kernel
theorem dX5_is_21 : decode cX5_is 21 = .ok (.iconst 0, 1) ∧ 21 + 1 = 22 ∧ Int32.ofInt (0) = (0) := by decide +kernel
theorem dX5_is_22 : gd cX5_is 22 (.istore_n 2) 1 23 := by decide +kernel
theorem dX5_is_23 : gd cX5_is 23 (.iload_n 2) 1 24 := by decide +kernel
theorem dX5_is_24 : gd cX5_is 24 (.aload_n 0) 1 25 := by decide +kernel
theorem dX5_is_25 : gd cX5_is 25 (.getfield 26) 3 28 := by decide +kernel
theorem dX5_is_28 : gb cX5_is 28 (.if_icmp .ge 30) (30) 31 58 := by decide +kernel
theorem dX5_is_31 : gd cX5_is 31 (.aload_n 0) 1 32 := by decide +kernel
theorem dX5_is_32 : gd cX5_is 32 (.getfield 13) 3 35 := by decide +kernel
theorem dX5_is_35 : gd cX5_is 35 (.aload_n 0) 1 36 := by decide +kernel
theorem dX5_is_36 : gd cX5_is 36 (.getfield 23) 3 39 := by decide +kernel
theorem dX5_is_39 : gd cX5_is 39 (.iload_n 2) 1 40 := by decide +kernel
theorem dX5_is_40 : gd cX5_is 40 (.iadd) 1 41 := by decide +kernel
theorem dX5_is_41 : gd cX5_is 41 (.baload) 1 42 := by decide +kernel
theorem dX5_is_42 : gd cX5_is 42 (.aload_n 1) 1 43 := by decide +kernel
theorem dX5_is_43 : gd cX5_is 43 (.iload_n 2) 1 44 := by decide +kernel
theorem dX5_is_44 : gd cX5_is 44 (.invokevirtual 47) 3 47 := by decide +kernel
theorem dX5_is_47 : gb cX5_is 47 (.if_icmp .eq 5) (5) 50 52 := by decide +kernel
theorem dX5_is_50 : decode cX5_is 50 = .ok (.iconst 0, 1) ∧ 50 + 1 = 51 ∧ Int32.ofInt (0) = (0) := by decide +kernel
theorem dX5_is_51 : gd cX5_is 51 (.ireturn) 1 52 := by decide +kernel
theorem dX5_is_52 : decode cX5_is 52 = .ok (.iinc 2 1, 3) ∧ 52 + 3 = 55 ∧ Int32.ofInt (1) = (1) := by decide +kernel
theorem dX5_is_55 : gb cX5_is 55 (.goto (-32)) (-32) 58 23 := by decide +kernel
theorem dX5_is_58 : decode cX5_is 58 = .ok (.iconst 1, 1) ∧ 58 + 1 = 59 ∧ Int32.ofInt (1) = (1) := by decide +kernel
theorem dX5_is_59 : gd cX5_is 59 (.ireturn) 1 60 := by decide +kernel
theorem dX5_letter_0 : gd cX5_letter 0 (.iload_n 1) 1 1 := by decide +kernel
theorem dX5_letter_1 : gb cX5_letter 1 (.ifCond .lt 25) (25) 4 26 := by decide +kernel
theorem dX5_letter_4 : gd cX5_letter 4 (.iload_n 1) 1 5 := by decide +kernel
theorem dX5_letter_5 : gd cX5_letter 5 (.aload_n 0) 1 6 := by decide +kernel
theorem dX5_letter_6 : gd cX5_letter 6 (.getfield 26) 3 9 := by decide +kernel
theorem dX5_letter_9 : gb cX5_letter 9 (.if_icmp .ge 17) (17) 12 26 := by decide +kernel
theorem dX5_letter_12 : gd cX5_letter 12 (.aload_n 0) 1 13 := by decide +kernel
theorem dX5_letter_13 : gd cX5_letter 13 (.getfield 13) 3 16 := by decide +kernel
theorem dX5_letter_16 : gd cX5_letter 16 (.aload_n 0) 1 17 := by decide +kernel
theorem dX5_letter_17 : gd cX5_letter 17 (.getfield 23) 3 20 := by decide +kernel
theorem dX5_letter_20 : gd cX5_letter 20 (.iload_n 1) 1 21 := by decide +kernel
theorem dX5_letter_21 : gd cX5_letter 21 (.iadd) 1 22 := by decide +kernel
theorem dX5_letter_22 : gd cX5_letter 22 (.baload) 1 23 := by decide +kernel
theorem dX5_letter_23 : gb cX5_letter 23 (.goto 4) (4) 26 27 := by decide +kernel
theorem dX5_letter_26 : decode cX5_letter 26 = .ok (.iconst 0, 1) ∧ 26 + 1 = 27 ∧ Int32.ofInt (0) = (0) := by decide +kernel
theorem dX5_letter_27 : gd cX5_letter 27 (.ireturn) 1 28 := by decide +kernel
theorem dX5_key_0 : decode cX5_key 0 = .ok (.lconst 0, 1) ∧ 0 + 1 = 1 ∧ Int64.ofNat (((0 : Fin 2)) : Nat) = (0) := by decide +kernel
theorem dX5_key_1 : gd cX5_key 1 (.lstore_n 1) 1 2 := by decide +kernel
theorem dX5_key_2 : decode cX5_key 2 = .ok (.iconst 0, 1) ∧ 2 + 1 = 3 ∧ Int32.ofInt (0) = (0) := by decide +kernel
theorem dX5_key_3 : gd cX5_key 3 (.istore_n 3) 1 4 := by decide +kernel
theorem dX5_key_4 : gd cX5_key 4 (.iload_n 3) 1 5 := by decide +kernel
theorem dX5_key_5 : gd cX5_key 5 (.aload_n 0) 1 6 := by decide +kernel
theorem dX5_key_6 : gd cX5_key 6 (.getfield 26) 3 9 := by decide +kernel
theorem dX5_key_9 : gb cX5_key 9 (.if_icmp .ge 31) (31) 12 40 := by decide +kernel
theorem dX5_key_12 : gd cX5_key 12 (.lload_n 1) 1 13 := by decide +kernel
theorem dX5_key_13 : decode cX5_key 13 = .ok (.iconst 5, 1) ∧ 13 + 1 = 14 ∧ Int32.ofInt (5) = (5) := by decide +kernel
theorem dX5_key_14 : gd cX5_key 14 (.lshl) 1 15 := by decide +kernel
theorem dX5_key_15 : gd cX5_key 15 (.aload_n 0) 1 16 := by decide +kernel
theorem dX5_key_16 : gd cX5_key 16 (.getfield 13) 3 19 := by decide +kernel
theorem dX5_key_19 : gd cX5_key 19 (.aload_n 0) 1 20 := by decide +kernel
theorem dX5_key_20 : gd cX5_key 20 (.getfield 23) 3 23 := by decide +kernel
theorem dX5_key_23 : gd cX5_key 23 (.iload_n 3) 1 24 := by decide +kernel
theorem dX5_key_24 : gd cX5_key 24 (.iadd) 1 25 := by decide +kernel
theorem dX5_key_25 : gd cX5_key 25 (.baload) 1 26 := by decide +kernel
theorem dX5_key_26 : decode cX5_key 26 = .ok (.bipush 97, 2) ∧ 26 + 2 = 28 ∧ (Int8.ofInt (97)).toInt32 = (97) := by decide +kernel
theorem dX5_key_28 : gd cX5_key 28 (.isub) 1 29 := by decide +kernel
theorem dX5_key_29 : decode cX5_key 29 = .ok (.iconst 1, 1) ∧ 29 + 1 = 30 ∧ Int32.ofInt (1) = (1) := by decide +kernel
theorem dX5_key_30 : gd cX5_key 30 (.iadd) 1 31 := by decide +kernel
theorem dX5_key_31 : gd cX5_key 31 (.i2l) 1 32 := by decide +kernel
theorem dX5_key_32 : gd cX5_key 32 (.ladd) 1 33 := by decide +kernel
theorem dX5_key_33 : gd cX5_key 33 (.lstore_n 1) 1 34 := by decide +kernel
theorem dX5_key_34 : decode cX5_key 34 = .ok (.iinc 3 1, 3) ∧ 34 + 3 = 37 ∧ Int32.ofInt (1) = (1) := by decide +kernel
theorem dX5_key_37 : gb cX5_key 37 (.goto (-33)) (-33) 40 4 := by decide +kernel
theorem dX5_key_40 : gd cX5_key 40 (.lload_n 1) 1 41 := by decide +kernel
theorem dX5_key_41 : gd cX5_key 41 (.lreturn) 1 42 := by decide +kernel
theorem dX5_value_0 : decode cX5_value 0 = .ok (.iconst 0, 1) ∧ 0 + 1 = 1 ∧ Int32.ofInt (0) = (0) := by decide +kernel
theorem dX5_value_1 : gd cX5_value 1 (.istore_n 1) 1 2 := by decide +kernel
theorem dX5_value_2 : decode cX5_value 2 = .ok (.iconst 0, 1) ∧ 2 + 1 = 3 ∧ Int32.ofInt (0) = (0) := by decide +kernel
theorem dX5_value_3 : gd cX5_value 3 (.istore_n 2) 1 4 := by decide +kernel
theorem dX5_value_4 : gd cX5_value 4 (.iload_n 2) 1 5 := by decide +kernel
theorem dX5_value_5 : gd cX5_value 5 (.aload_n 0) 1 6 := by decide +kernel
theorem dX5_value_6 : gd cX5_value 6 (.getfield 26) 3 9 := by decide +kernel
theorem dX5_value_9 : gb cX5_value 9 (.if_icmp .ge 29) (29) 12 38 := by decide +kernel
theorem dX5_value_12 : decode cX5_value 12 = .ok (.bipush 10, 2) ∧ 12 + 2 = 14 ∧ (Int8.ofInt (10)).toInt32 = (10) := by decide +kernel
theorem dX5_value_14 : gd cX5_value 14 (.iload_n 1) 1 15 := by decide +kernel
theorem dX5_value_15 : gd cX5_value 15 (.imul) 1 16 := by decide +kernel
theorem dX5_value_16 : gd cX5_value 16 (.aload_n 0) 1 17 := by decide +kernel
theorem dX5_value_17 : gd cX5_value 17 (.getfield 13) 3 20 := by decide +kernel
theorem dX5_value_20 : gd cX5_value 20 (.aload_n 0) 1 21 := by decide +kernel
theorem dX5_value_21 : gd cX5_value 21 (.getfield 23) 3 24 := by decide +kernel
theorem dX5_value_24 : gd cX5_value 24 (.iload_n 2) 1 25 := by decide +kernel
theorem dX5_value_25 : gd cX5_value 25 (.iadd) 1 26 := by decide +kernel
theorem dX5_value_26 : gd cX5_value 26 (.baload) 1 27 := by decide +kernel
theorem dX5_value_27 : decode cX5_value 27 = .ok (.bipush 48, 2) ∧ 27 + 2 = 29 ∧ (Int8.ofInt (48)).toInt32 = (48) := by decide +kernel
theorem dX5_value_29 : gd cX5_value 29 (.isub) 1 30 := by decide +kernel
theorem dX5_value_30 : gd cX5_value 30 (.iadd) 1 31 := by decide +kernel
theorem dX5_value_31 : gd cX5_value 31 (.istore_n 1) 1 32 := by decide +kernel
theorem dX5_value_32 : decode cX5_value 32 = .ok (.iinc 2 1, 3) ∧ 32 + 3 = 35 ∧ Int32.ofInt (1) = (1) := by decide +kernel
theorem dX5_value_35 : gb cX5_value 35 (.goto (-31)) (-31) 38 4 := by decide +kernel
theorem dX5_value_38 : gd cX5_value 38 (.iload_n 1) 1 39 := by decide +kernel
theorem dX5_value_39 : gd cX5_value 39 (.ireturn) 1 40 := by decide +kernel
theorem dX6_init_0 : gd cX6_init 0 (.aload_n 0) 1 1 := by decide +kernel
theorem dX6_init_1 : gd cX6_init 1 (.invokespecial 1) 3 4 := by decide +kernel
theorem dX6_init_4 : gd cX6_init 4 (.aload_n 0) 1 5 := by decide +kernel
theorem dX6_init_5 : decode cX6_init 5 = .ok (.iconst 0, 1) ∧ 5 + 1 = 6 ∧ Int32.ofInt (0) = (0) := by decide +kernel
theorem dX6_init_6 : gd cX6_init 6 (.putfield 7) 3 9 := by decide +kernel
theorem dX6_init_9 : gd cX6_init 9 (.aload_n 0) 1 10 := by decide +kernel
theorem dX6_init_10 : decode cX6_init 10 = .ok (.iconst 0, 1) ∧ 10 + 1 = 11 ∧ Int32.ofInt (0) = (0) := by decide +kernel
theorem dX6_init_11 : gd cX6_init 11 (.putfield 13) 3 14 := by decide +kernel
theorem dX6_init_14 : gd cX6_init 14 (.return_) 1 15 := by decide +kernel
theorem dX6_make_0 : gd cX6_make 0 (.iload 5) 2 2 := by decide +kernel
theorem dX6_make_2 : gd cX6_make 2 (.iload_n 1) 1 3 := by decide +kernel
theorem dX6_make_3 : gd cX6_make 3 (.iload_n 3) 1 4 := by decide +kernel
theorem dX6_make_4 : gd cX6_make 4 (.ior) 1 5 := by decide +kernel
theorem dX6_make_5 : decode cX6_make 5 = .ok (.iconst (-1), 1) ∧ 5 + 1 = 6 ∧ Int32.ofInt (-1) = (-1) := by decide +kernel
theorem dX6_make_6 : gd cX6_make 6 (.ixor) 1 7 := by decide +kernel
theorem dX6_make_7 : gd cX6_make 7 (.iand) 1 8 := by decide +kernel
theorem dX6_make_8 : gd cX6_make 8 (.istore 6) 2 10 := by decide +kernel
theorem dX6_make_10 : gd cX6_make 10 (.iload 6) 2 12 := by decide +kernel
theorem dX6_make_12 : gd cX6_make 12 (.iload 4) 2 14 := by decide +kernel
theorem dX6_make_14 : gd cX6_make 14 (.iand) 1 15 := by decide +kernel
theorem dX6_make_15 : gd cX6_make 15 (.istore 7) 2 17 := by decide +kernel
theorem dX6_make_17 : gd cX6_make 17 (.iload 6) 2 19 := by decide +kernel
theorem dX6_make_19 : gd cX6_make 19 (.iload 4) 2 21 := by decide +kernel
theorem dX6_make_21 : decode cX6_make 21 = .ok (.iconst (-1), 1) ∧ 21 + 1 = 22 ∧ Int32.ofInt (-1) = (-1) := by decide +kernel
theorem dX6_make_22 : gd cX6_make 22 (.ixor) 1 23 := by decide +kernel
theorem dX6_make_23 : gd cX6_make 23 (.iand) 1 24 := by decide +kernel
theorem dX6_make_24 : gd cX6_make 24 (.istore 8) 2 26 := by decide +kernel
theorem dX6_make_26 : gd cX6_make 26 (.iload_n 1) 1 27 := by decide +kernel
theorem dX6_make_27 : gd cX6_make 27 (.iload_n 2) 1 28 := by decide +kernel
theorem dX6_make_28 : gd cX6_make 28 (.iand) 1 29 := by decide +kernel
theorem dX6_make_29 : gb cX6_make 29 (.ifCond .ne 14) (14) 32 43 := by decide +kernel
theorem dX6_make_32 : gd cX6_make 32 (.iload_n 3) 1 33 := by decide +kernel
theorem dX6_make_33 : gd cX6_make 33 (.iload 4) 2 35 := by decide +kernel
theorem dX6_make_35 : gd cX6_make 35 (.iand) 1 36 := by decide +kernel
theorem dX6_make_36 : gb cX6_make 36 (.ifCond .ne 7) (7) 39 43 := by decide +kernel
theorem dX6_make_39 : decode cX6_make 39 = .ok (.iconst 1, 1) ∧ 39 + 1 = 40 ∧ Int32.ofInt (1) = (1) := by decide +kernel
theorem dX6_make_40 : gb cX6_make 40 (.goto 4) (4) 43 44 := by decide +kernel
theorem dX6_make_43 : decode cX6_make 43 = .ok (.iconst 0, 1) ∧ 43 + 1 = 44 ∧ Int32.ofInt (0) = (0) := by decide +kernel
theorem dX6_make_44 : gd cX6_make 44 (.istore 9) 2 46 := by decide +kernel
theorem dX6_make_46 : gd cX6_make 46 (.iload_n 1) 1 47 := by decide +kernel
theorem dX6_make_47 : gd cX6_make 47 (.iload_n 3) 1 48 := by decide +kernel
theorem dX6_make_48 : gd cX6_make 48 (.ior) 1 49 := by decide +kernel
theorem dX6_make_49 : gd cX6_make 49 (.iload 5) 2 51 := by decide +kernel
theorem dX6_make_51 : decode cX6_make 51 = .ok (.iconst (-1), 1) ∧ 51 + 1 = 52 ∧ Int32.ofInt (-1) = (-1) := by decide +kernel
theorem dX6_make_52 : gd cX6_make 52 (.ixor) 1 53 := by decide +kernel
theorem dX6_make_53 : gd cX6_make 53 (.iand) 1 54 := by decide +kernel
theorem dX6_make_54 : gb cX6_make 54 (.ifCond .ne 16) (16) 57 70 := by decide +kernel
theorem dX6_make_57 : gd cX6_make 57 (.iload 8) 2 59 := by decide +kernel
theorem dX6_make_59 : gd cX6_make 59 (.iload_n 2) 1 60 := by decide +kernel
theorem dX6_make_60 : decode cX6_make 60 = .ok (.iconst (-1), 1) ∧ 60 + 1 = 61 ∧ Int32.ofInt (-1) = (-1) := by decide +kernel
theorem dX6_make_61 : gd cX6_make 61 (.ixor) 1 62 := by decide +kernel
theorem dX6_make_62 : gd cX6_make 62 (.iand) 1 63 := by decide +kernel
theorem dX6_make_63 : gb cX6_make 63 (.ifCond .ne 7) (7) 66 70 := by decide +kernel
theorem dX6_make_66 : decode cX6_make 66 = .ok (.iconst 1, 1) ∧ 66 + 1 = 67 ∧ Int32.ofInt (1) = (1) := by decide +kernel
theorem dX6_make_67 : gb cX6_make 67 (.goto 4) (4) 70 71 := by decide +kernel
theorem dX6_make_70 : decode cX6_make 70 = .ok (.iconst 0, 1) ∧ 70 + 1 = 71 ∧ Int32.ofInt (0) = (0) := by decide +kernel
theorem dX6_make_71 : gd cX6_make 71 (.istore 10) 2 73 := by decide +kernel
theorem dX6_make_73 : gd cX6_make 73 (.iload 9) 2 75 := by decide +kernel
theorem dX6_make_75 : gb cX6_make 75 (.ifCond .eq 8) (8) 78 83 := by decide +kernel
theorem dX6_make_78 : gd cX6_make 78 (.iload 10) 2 80 := by decide +kernel
theorem dX6_make_80 : gb cX6_make 80 (.ifCond .ne 5) (5) 83 85 := by decide +kernel
theorem dX6_make_83 : decode cX6_make 83 = .ok (.iconst 0, 1) ∧ 83 + 1 = 84 ∧ Int32.ofInt (0) = (0) := by decide +kernel
theorem dX6_make_84 : gd cX6_make 84 (.ireturn) 1 85 := by decide +kernel
theorem dX6_make_85 : gd cX6_make 85 (.aload_n 0) 1 86 := by decide +kernel
theorem dX6_make_86 : gd cX6_make 86 (.iload_n 1) 1 87 := by decide +kernel
theorem dX6_make_87 : gd cX6_make 87 (.iload 8) 2 89 := by decide +kernel
theorem dX6_make_89 : gd cX6_make 89 (.ior) 1 90 := by decide +kernel
theorem dX6_make_90 : gd cX6_make 90 (.putfield 7) 3 93 := by decide +kernel
theorem dX6_make_93 : gd cX6_make 93 (.aload_n 0) 1 94 := by decide +kernel
theorem dX6_make_94 : gd cX6_make 94 (.iload_n 3) 1 95 := by decide +kernel
theorem dX6_make_95 : gd cX6_make 95 (.iload 7) 2 97 := by decide +kernel
theorem dX6_make_97 : gd cX6_make 97 (.ior) 1 98 := by decide +kernel
theorem dX6_make_98 : gd cX6_make 98 (.putfield 13) 3 101 := by decide +kernel
theorem dX6_make_101 : decode cX6_make 101 = .ok (.iconst 1, 1) ∧ 101 + 1 = 102 ∧ Int32.ofInt (1) = (1) := by decide +kernel
theorem dX6_make_102 : gd cX6_make 102 (.ireturn) 1 103 := by decide +kernel
theorem dX6_strokes_0 : gd cX6_strokes 0 (.aload_n 0) 1 1 := by decide +kernel
theorem dX6_strokes_1 : gd cX6_strokes 1 (.getfield 7) 3 4 := by decide +kernel
theorem dX6_strokes_4 : gd cX6_strokes 4 (.invokestatic 16) 3 7 := by decide +kernel
theorem dX6_strokes_7 : gd cX6_strokes 7 (.aload_n 0) 1 8 := by decide +kernel
theorem dX6_strokes_8 : gd cX6_strokes 8 (.getfield 13) 3 11 := by decide +kernel
theorem dX6_strokes_11 : gd cX6_strokes 11 (.invokestatic 16) 3 14 := by decide +kernel
theorem dX6_strokes_14 : gd cX6_strokes 14 (.iadd) 1 15 := by decide +kernel
theorem dX6_strokes_15 : gd cX6_strokes 15 (.ireturn) 1 16 := by decide +kernel
theorem dJ6_bitCount_0f7a4_0 : gd cJ6_bitCount_0f7a4 0 (.iload_n 0) 1 1 := by decide +kernel
theorem dJ6_bitCount_0f7a4_1 : gd cJ6_bitCount_0f7a4 1 (.iload_n 0) 1 2 := by decide +kernel
theorem dJ6_bitCount_0f7a4_2 : decode cJ6_bitCount_0f7a4 2 = .ok (.iconst 1, 1) ∧ 2 + 1 = 3 ∧ Int32.ofInt (1) = (1) := by decide +kernel
theorem dJ6_bitCount_0f7a4_3 : gd cJ6_bitCount_0f7a4 3 (.iushr) 1 4 := by decide +kernel
theorem dJ6_bitCount_0f7a4_4 : gd cJ6_bitCount_0f7a4 4 (.ldc_w 265) 3 7 := by decide +kernel
theorem dJ6_bitCount_0f7a4_7 : gd cJ6_bitCount_0f7a4 7 (.iand) 1 8 := by decide +kernel
theorem dJ6_bitCount_0f7a4_8 : gd cJ6_bitCount_0f7a4 8 (.isub) 1 9 := by decide +kernel
theorem dJ6_bitCount_0f7a4_9 : gd cJ6_bitCount_0f7a4 9 (.istore_n 0) 1 10 := by decide +kernel
theorem dJ6_bitCount_0f7a4_10 : gd cJ6_bitCount_0f7a4 10 (.iload_n 0) 1 11 := by decide +kernel
theorem dJ6_bitCount_0f7a4_11 : gd cJ6_bitCount_0f7a4 11 (.ldc_w 266) 3 14 := by decide +kernel
theorem dJ6_bitCount_0f7a4_14 : gd cJ6_bitCount_0f7a4 14 (.iand) 1 15 := by decide +kernel
theorem dJ6_bitCount_0f7a4_15 : gd cJ6_bitCount_0f7a4 15 (.iload_n 0) 1 16 := by decide +kernel
theorem dJ6_bitCount_0f7a4_16 : decode cJ6_bitCount_0f7a4 16 = .ok (.iconst 2, 1) ∧ 16 + 1 = 17 ∧ Int32.ofInt (2) = (2) := by decide +kernel
theorem dJ6_bitCount_0f7a4_17 : gd cJ6_bitCount_0f7a4 17 (.iushr) 1 18 := by decide +kernel
theorem dJ6_bitCount_0f7a4_18 : gd cJ6_bitCount_0f7a4 18 (.ldc_w 266) 3 21 := by decide +kernel
theorem dJ6_bitCount_0f7a4_21 : gd cJ6_bitCount_0f7a4 21 (.iand) 1 22 := by decide +kernel
theorem dJ6_bitCount_0f7a4_22 : gd cJ6_bitCount_0f7a4 22 (.iadd) 1 23 := by decide +kernel
theorem dJ6_bitCount_0f7a4_23 : gd cJ6_bitCount_0f7a4 23 (.istore_n 0) 1 24 := by decide +kernel
theorem dJ6_bitCount_0f7a4_24 : gd cJ6_bitCount_0f7a4 24 (.iload_n 0) 1 25 := by decide +kernel
theorem dJ6_bitCount_0f7a4_25 : gd cJ6_bitCount_0f7a4 25 (.iload_n 0) 1 26 := by decide +kernel
theorem dJ6_bitCount_0f7a4_26 : decode cJ6_bitCount_0f7a4 26 = .ok (.iconst 4, 1) ∧ 26 + 1 = 27 ∧ Int32.ofInt (4) = (4) := by decide +kernel
theorem dJ6_bitCount_0f7a4_27 : gd cJ6_bitCount_0f7a4 27 (.iushr) 1 28 := by decide +kernel
theorem dJ6_bitCount_0f7a4_28 : gd cJ6_bitCount_0f7a4 28 (.iadd) 1 29 := by decide +kernel
theorem dJ6_bitCount_0f7a4_29 : gd cJ6_bitCount_0f7a4 29 (.ldc_w 267) 3 32 := by decide +kernel
theorem dJ6_bitCount_0f7a4_32 : gd cJ6_bitCount_0f7a4 32 (.iand) 1 33 := by decide +kernel
theorem dJ6_bitCount_0f7a4_33 : gd cJ6_bitCount_0f7a4 33 (.istore_n 0) 1 34 := by decide +kernel
theorem dJ6_bitCount_0f7a4_34 : gd cJ6_bitCount_0f7a4 34 (.iload_n 0) 1 35 := by decide +kernel
theorem dJ6_bitCount_0f7a4_35 : gd cJ6_bitCount_0f7a4 35 (.iload_n 0) 1 36 := by decide +kernel
theorem dJ6_bitCount_0f7a4_36 : decode cJ6_bitCount_0f7a4 36 = .ok (.bipush 8, 2) ∧ 36 + 2 = 38 ∧ (Int8.ofInt (8)).toInt32 = (8) := by decide +kernel
theorem dJ6_bitCount_0f7a4_38 : gd cJ6_bitCount_0f7a4 38 (.iushr) 1 39 := by decide +kernel
theorem dJ6_bitCount_0f7a4_39 : gd cJ6_bitCount_0f7a4 39 (.iadd) 1 40 := by decide +kernel
theorem dJ6_bitCount_0f7a4_40 : gd cJ6_bitCount_0f7a4 40 (.istore_n 0) 1 41 := by decide +kernel
theorem dJ6_bitCount_0f7a4_41 : gd cJ6_bitCount_0f7a4 41 (.iload_n 0) 1 42 := by decide +kernel
theorem dJ6_bitCount_0f7a4_42 : gd cJ6_bitCount_0f7a4 42 (.iload_n 0) 1 43 := by decide +kernel
theorem dJ6_bitCount_0f7a4_43 : decode cJ6_bitCount_0f7a4 43 = .ok (.bipush 16, 2) ∧ 43 + 2 = 45 ∧ (Int8.ofInt (16)).toInt32 = (16) := by decide +kernel
theorem dJ6_bitCount_0f7a4_45 : gd cJ6_bitCount_0f7a4 45 (.iushr) 1 46 := by decide +kernel
theorem dJ6_bitCount_0f7a4_46 : gd cJ6_bitCount_0f7a4 46 (.iadd) 1 47 := by decide +kernel
theorem dJ6_bitCount_0f7a4_47 : gd cJ6_bitCount_0f7a4 47 (.istore_n 0) 1 48 := by decide +kernel
theorem dJ6_bitCount_0f7a4_48 : gd cJ6_bitCount_0f7a4 48 (.iload_n 0) 1 49 := by decide +kernel
theorem dJ6_bitCount_0f7a4_49 : decode cJ6_bitCount_0f7a4 49 = .ok (.bipush 63, 2) ∧ 49 + 2 = 51 ∧ (Int8.ofInt (63)).toInt32 = (63) := by decide +kernel
theorem dJ6_bitCount_0f7a4_51 : gd cJ6_bitCount_0f7a4 51 (.iand) 1 52 := by decide +kernel
theorem dJ6_bitCount_0f7a4_52 : gd cJ6_bitCount_0f7a4 52 (.ireturn) 1 53 := by decide +kernel
theorem dJ9_min_7cf53_0 : gd cJ9_min_7cf53 0 (.iload_n 0) 1 1 := by decide +kernel
theorem dJ9_min_7cf53_1 : gd cJ9_min_7cf53 1 (.iload_n 1) 1 2 := by decide +kernel
theorem dJ9_min_7cf53_2 : gb cJ9_min_7cf53 2 (.if_icmp .gt 7) (7) 5 9 := by decide +kernel
theorem dJ9_min_7cf53_5 : gd cJ9_min_7cf53 5 (.iload_n 0) 1 6 := by decide +kernel
theorem dJ9_min_7cf53_6 : gb cJ9_min_7cf53 6 (.goto 4) (4) 9 10 := by decide +kernel
theorem dJ9_min_7cf53_9 : gd cJ9_min_7cf53 9 (.iload_n 1) 1 10 := by decide +kernel
theorem dJ9_min_7cf53_10 : gd cJ9_min_7cf53 10 (.ireturn) 1 11 := by decide +kernel
