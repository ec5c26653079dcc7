/-! DECODE ROWS, by program -/
theorem dX8_init_0 : gd cX8_init 0 (.aload_n 0) 1 1 := by decide +kernel
theorem dX8_init_1 : gd cX8_init 1 (.invokespecial 1) 3 4 := by decide +kernel
theorem dX8_init_4 : gd cX8_init 4 (.aload_n 0) 1 5 := by decide +kernel
theorem dX8_init_5 : gd cX8_init 5 (.new 7) 3 8 := by decide +kernel
theorem dX8_init_8 : gd cX8_init 8 (.dup) 1 9 := by decide +kernel
theorem dX8_init_9 : gd cX8_init 9 (.invokespecial 9) 3 12 := by decide +kernel
theorem dX8_init_12 : gd cX8_init 12 (.putfield 10) 3 15 := by decide +kernel
theorem dX8_init_15 : gd cX8_init 15 (.aload_n 0) 1 16 := by decide +kernel
theorem dX8_init_16 : gd cX8_init 16 (.new 16) 3 19 := by decide +kernel
theorem dX8_init_19 : gd cX8_init 19 (.dup) 1 20 := by decide +kernel
theorem dX8_init_20 : gd cX8_init 20 (.invokespecial 18) 3 23 := by decide +kernel
theorem dX8_init_23 : gd cX8_init 23 (.putfield 19) 3 26 := by decide +kernel
theorem dX8_init_26 : gd cX8_init 26 (.aload_n 0) 1 27 := by decide +kernel
theorem dX8_init_27 : gd cX8_init 27 (.new 16) 3 30 := by decide +kernel
theorem dX8_init_30 : gd cX8_init 30 (.dup) 1 31 := by decide +kernel
theorem dX8_init_31 : gd cX8_init 31 (.invokespecial 18) 3 34 := by decide +kernel
theorem dX8_init_34 : gd cX8_init 34 (.putfield 23) 3 37 := by decide +kernel
theorem dX8_init_37 : gd cX8_init 37 (.aload_n 0) 1 38 := by decide +kernel
theorem dX8_init_38 : gd cX8_init 38 (.new 26) 3 41 := by decide +kernel
theorem dX8_init_41 : gd cX8_init 41 (.dup) 1 42 := by decide +kernel
theorem dX8_init_42 : gd cX8_init 42 (.aload_n 0) 1 43 := by decide +kernel
theorem dX8_init_43 : gd cX8_init 43 (.getfield 10) 3 46 := by decide +kernel
theorem dX8_init_46 : gd cX8_init 46 (.aload_n 0) 1 47 := by decide +kernel
theorem dX8_init_47 : gd cX8_init 47 (.getfield 23) 3 50 := by decide +kernel
theorem dX8_init_50 : gd cX8_init 50 (.invokespecial 28) 3 53 := by decide +kernel
theorem dX8_init_53 : gd cX8_init 53 (.putfield 31) 3 56 := by decide +kernel
theorem dX8_init_56 : gd cX8_init 56 (.aload_n 0) 1 57 := by decide +kernel
theorem dX8_init_57 : gd cX8_init 57 (.new 35) 3 60 := by decide +kernel
theorem dX8_init_60 : gd cX8_init 60 (.dup) 1 61 := by decide +kernel
theorem dX8_init_61 : gd cX8_init 61 (.aload_n 0) 1 62 := by decide +kernel
theorem dX8_init_62 : gd cX8_init 62 (.getfield 19) 3 65 := by decide +kernel
theorem dX8_init_65 : gd cX8_init 65 (.invokespecial 37) 3 68 := by decide +kernel
theorem dX8_init_68 : gd cX8_init 68 (.putfield 40) 3 71 := by decide +kernel
theorem dX8_init_71 : gd cX8_init 71 (.aload_n 0) 1 72 := by decide +kernel
theorem dX8_init_72 : gd cX8_init 72 (.new 44) 3 75 := by decide +kernel
theorem dX8_init_75 : gd cX8_init 75 (.dup) 1 76 := by decide +kernel
theorem dX8_init_76 : gd cX8_init 76 (.aload_n 0) 1 77 := by decide +kernel
theorem dX8_init_77 : gd cX8_init 77 (.getfield 19) 3 80 := by decide +kernel
theorem dX8_init_80 : gd cX8_init 80 (.invokespecial 46) 3 83 := by decide +kernel
theorem dX8_init_83 : gd cX8_init 83 (.putfield 47) 3 86 := by decide +kernel
theorem dX8_init_86 : gd cX8_init 86 (.aload_n 0) 1 87 := by decide +kernel
theorem dX8_init_87 : gd cX8_init 87 (.new 51) 3 90 := by decide +kernel
theorem dX8_init_90 : gd cX8_init 90 (.dup) 1 91 := by decide +kernel
theorem dX8_init_91 : gd cX8_init 91 (.invokespecial 53) 3 94 := by decide +kernel
theorem dX8_init_94 : gd cX8_init 94 (.putfield 54) 3 97 := by decide +kernel
theorem dX8_init_97 : gd cX8_init 97 (.aload_n 0) 1 98 := by decide +kernel
theorem dX8_init_98 : gd cX8_init 98 (.new 58) 3 101 := by decide +kernel
theorem dX8_init_101 : gd cX8_init 101 (.dup) 1 102 := by decide +kernel
theorem dX8_init_102 : gd cX8_init 102 (.invokespecial 60) 3 105 := by decide +kernel
theorem dX8_init_105 : gd cX8_init 105 (.putfield 61) 3 108 := by decide +kernel
theorem dX8_init_108 : gd cX8_init 108 (.aload_n 0) 1 109 := by decide +kernel
theorem dX8_init_109 : decode cX8_init 109 = .ok (.iconst 0, 1) ∧ 109 + 1 = 110 ∧ Int32.ofInt (0) = (0) := by decide +kernel
theorem dX8_init_110 : gd cX8_init 110 (.putfield 65) 3 113 := by decide +kernel
theorem dX8_init_113 : gd cX8_init 113 (.aload_n 0) 1 114 := by decide +kernel
theorem dX8_init_114 : decode cX8_init 114 = .ok (.iconst 0, 1) ∧ 114 + 1 = 115 ∧ Int32.ofInt (0) = (0) := by decide +kernel
theorem dX8_init_115 : gd cX8_init 115 (.putfield 69) 3 118 := by decide +kernel
theorem dX8_init_118 : gd cX8_init 118 (.aload_n 0) 1 119 := by decide +kernel
theorem dX8_init_119 : decode cX8_init 119 = .ok (.iconst (-1), 1) ∧ 119 + 1 = 120 ∧ Int32.ofInt (-1) = (-1) := by decide +kernel
theorem dX8_init_120 : gd cX8_init 120 (.putfield 72) 3 123 := by decide +kernel
theorem dX8_init_123 : gd cX8_init 123 (.return_) 1 124 := by decide +kernel
theorem dX8_feed_0 : gd cX8_feed 0 (.aload_n 0) 1 1 := by decide +kernel
theorem dX8_feed_1 : gd cX8_feed 1 (.getfield 10) 3 4 := by decide +kernel
theorem dX8_feed_4 : gd cX8_feed 4 (.invokevirtual 75) 3 7 := by decide +kernel
theorem dX8_feed_7 : gb cX8_feed 7 (.ifCond .ne 5) (5) 10 12 := by decide +kernel
theorem dX8_feed_10 : decode cX8_feed 10 = .ok (.iconst (-1), 1) ∧ 10 + 1 = 11 ∧ Int32.ofInt (-1) = (-1) := by decide +kernel
theorem dX8_feed_11 : gd cX8_feed 11 (.ireturn) 1 12 := by decide +kernel
theorem dX8_feed_12 : gd cX8_feed 12 (.aload_n 0) 1 13 := by decide +kernel
theorem dX8_feed_13 : gd cX8_feed 13 (.getfield 10) 3 16 := by decide +kernel
theorem dX8_feed_16 : gd cX8_feed 16 (.iload_n 1) 1 17 := by decide +kernel
theorem dX8_feed_17 : gd cX8_feed 17 (.invokevirtual 79) 3 20 := by decide +kernel
theorem dX8_feed_20 : gd cX8_feed 20 (.aload_n 0) 1 21 := by decide +kernel
theorem dX8_feed_21 : gd cX8_feed 21 (.getfield 10) 3 24 := by decide +kernel
theorem dX8_feed_24 : gd cX8_feed 24 (.iload_n 2) 1 25 := by decide +kernel
theorem dX8_feed_25 : gd cX8_feed 25 (.invokevirtual 79) 3 28 := by decide +kernel
theorem dX8_feed_28 : gd cX8_feed 28 (.aload_n 0) 1 29 := by decide +kernel
theorem dX8_feed_29 : gd cX8_feed 29 (.getfield 10) 3 32 := by decide +kernel
theorem dX8_feed_32 : gd cX8_feed 32 (.iload_n 3) 1 33 := by decide +kernel
theorem dX8_feed_33 : gd cX8_feed 33 (.invokevirtual 79) 3 36 := by decide +kernel
theorem dX8_feed_36 : gd cX8_feed 36 (.aload_n 0) 1 37 := by decide +kernel
theorem dX8_feed_37 : gd cX8_feed 37 (.getfield 10) 3 40 := by decide +kernel
theorem dX8_feed_40 : gd cX8_feed 40 (.iload 4) 2 42 := by decide +kernel
theorem dX8_feed_42 : gd cX8_feed 42 (.invokevirtual 79) 3 45 := by decide +kernel
theorem dX8_feed_45 : gd cX8_feed 45 (.aload_n 0) 1 46 := by decide +kernel
theorem dX8_feed_46 : gd cX8_feed 46 (.getfield 10) 3 49 := by decide +kernel
theorem dX8_feed_49 : gd cX8_feed 49 (.iload 5) 2 51 := by decide +kernel
theorem dX8_feed_51 : gd cX8_feed 51 (.invokevirtual 79) 3 54 := by decide +kernel
theorem dX8_feed_54 : gd cX8_feed 54 (.aload_n 0) 1 55 := by decide +kernel
theorem dX8_feed_55 : gd cX8_feed 55 (.getfield 10) 3 58 := by decide +kernel
theorem dX8_feed_58 : gd cX8_feed 58 (.getfield 83) 3 61 := by decide +kernel
theorem dX8_feed_61 : gd cX8_feed 61 (.ireturn) 1 62 := by decide +kernel
theorem dX8_city_0 : gd cX8_city 0 (.iload_n 1) 1 1 := by decide +kernel
theorem dX8_city_1 : gb cX8_city 1 (.ifCond .lt 14) (14) 4 15 := by decide +kernel
theorem dX8_city_4 : gd cX8_city 4 (.iload_n 1) 1 5 := by decide +kernel
theorem dX8_city_5 : gd cX8_city 5 (.aload_n 0) 1 6 := by decide +kernel
theorem dX8_city_6 : gd cX8_city 6 (.getfield 10) 3 9 := by decide +kernel
theorem dX8_city_9 : gd cX8_city 9 (.getfield 83) 3 12 := by decide +kernel
theorem dX8_city_12 : gb cX8_city 12 (.if_icmp .le 9) (9) 15 21 := by decide +kernel
theorem dX8_city_15 : gd cX8_city 15 (.aload_n 0) 1 16 := by decide +kernel
theorem dX8_city_16 : decode cX8_city 16 = .ok (.iconst 2, 1) ∧ 16 + 1 = 17 ∧ Int32.ofInt (2) = (2) := by decide +kernel
theorem dX8_city_17 : gd cX8_city 17 (.invokevirtual 86) 3 20 := by decide +kernel
theorem dX8_city_20 : gd cX8_city 20 (.ireturn) 1 21 := by decide +kernel
theorem dX8_city_21 : gd cX8_city 21 (.aload_n 0) 1 22 := by decide +kernel
theorem dX8_city_22 : gd cX8_city 22 (.getfield 31) 3 25 := by decide +kernel
theorem dX8_city_25 : gd cX8_city 25 (.iload_n 1) 1 26 := by decide +kernel
theorem dX8_city_26 : gd cX8_city 26 (.aload_n 0) 1 27 := by decide +kernel
theorem dX8_city_27 : gd cX8_city 27 (.getfield 23) 3 30 := by decide +kernel
theorem dX8_city_30 : gd cX8_city 30 (.invokevirtual 90) 3 33 := by decide +kernel
theorem dX8_city_33 : gd cX8_city 33 (.istore_n 2) 1 34 := by decide +kernel
theorem dX8_city_34 : gd cX8_city 34 (.aload_n 0) 1 35 := by decide +kernel
theorem dX8_city_35 : gd cX8_city 35 (.getfield 10) 3 38 := by decide +kernel
theorem dX8_city_38 : decode cX8_city 38 = .ok (.iconst 0, 1) ∧ 38 + 1 = 39 ∧ Int32.ofInt (0) = (0) := by decide +kernel
theorem dX8_city_39 : gd cX8_city 39 (.putfield 83) 3 42 := by decide +kernel
theorem dX8_city_42 : gd cX8_city 42 (.aload_n 0) 1 43 := by decide +kernel
theorem dX8_city_43 : gd cX8_city 43 (.aload_n 0) 1 44 := by decide +kernel
theorem dX8_city_44 : gd cX8_city 44 (.getfield 31) 3 47 := by decide +kernel
theorem dX8_city_47 : gd cX8_city 47 (.getfield 94) 3 50 := by decide +kernel
theorem dX8_city_50 : gd cX8_city 50 (.putfield 69) 3 53 := by decide +kernel
theorem dX8_city_53 : gd cX8_city 53 (.aload_n 0) 1 54 := by decide +kernel
theorem dX8_city_54 : gd cX8_city 54 (.aload_n 0) 1 55 := by decide +kernel
theorem dX8_city_55 : gd cX8_city 55 (.getfield 31) 3 58 := by decide +kernel
theorem dX8_city_58 : gd cX8_city 58 (.getfield 97) 3 61 := by decide +kernel
theorem dX8_city_61 : gd cX8_city 61 (.putfield 72) 3 64 := by decide +kernel
theorem dX8_city_64 : gd cX8_city 64 (.iload_n 2) 1 65 := by decide +kernel
theorem dX8_city_65 : gb cX8_city 65 (.ifCond .ne 9) (9) 68 74 := by decide +kernel
theorem dX8_city_68 : gd cX8_city 68 (.aload_n 0) 1 69 := by decide +kernel
theorem dX8_city_69 : decode cX8_city 69 = .ok (.iconst 4, 1) ∧ 69 + 1 = 70 ∧ Int32.ofInt (4) = (4) := by decide +kernel
theorem dX8_city_70 : gd cX8_city 70 (.invokevirtual 86) 3 73 := by decide +kernel
theorem dX8_city_73 : gd cX8_city 73 (.ireturn) 1 74 := by decide +kernel
theorem dX8_city_74 : gd cX8_city 74 (.aload_n 0) 1 75 := by decide +kernel
theorem dX8_city_75 : gd cX8_city 75 (.getfield 19) 3 78 := by decide +kernel
theorem dX8_city_78 : gd cX8_city 78 (.astore_n 3) 1 79 := by decide +kernel
theorem dX8_city_79 : gd cX8_city 79 (.aload_n 0) 1 80 := by decide +kernel
theorem dX8_city_80 : gd cX8_city 80 (.aload_n 0) 1 81 := by decide +kernel
theorem dX8_city_81 : gd cX8_city 81 (.getfield 23) 3 84 := by decide +kernel
theorem dX8_city_84 : gd cX8_city 84 (.putfield 19) 3 87 := by decide +kernel
theorem dX8_city_87 : gd cX8_city 87 (.aload_n 0) 1 88 := by decide +kernel
theorem dX8_city_88 : gd cX8_city 88 (.aload_n 3) 1 89 := by decide +kernel
theorem dX8_city_89 : gd cX8_city 89 (.putfield 23) 3 92 := by decide +kernel
theorem dX8_city_92 : gd cX8_city 92 (.aload_n 0) 1 93 := by decide +kernel
theorem dX8_city_93 : gd cX8_city 93 (.getfield 40) 3 96 := by decide +kernel
theorem dX8_city_96 : gd cX8_city 96 (.aload_n 0) 1 97 := by decide +kernel
theorem dX8_city_97 : gd cX8_city 97 (.getfield 19) 3 100 := by decide +kernel
theorem dX8_city_100 : gd cX8_city 100 (.invokevirtual 100) 3 103 := by decide +kernel
theorem dX8_city_103 : gd cX8_city 103 (.aload_n 0) 1 104 := by decide +kernel
theorem dX8_city_104 : gd cX8_city 104 (.aload_n 0) 1 105 := by decide +kernel
theorem dX8_city_105 : gd cX8_city 105 (.getfield 19) 3 108 := by decide +kernel
theorem dX8_city_108 : gd cX8_city 108 (.getfield 103) 3 111 := by decide +kernel
theorem dX8_city_111 : decode cX8_city 111 = .ok (.iconst 1, 1) ∧ 111 + 1 = 112 ∧ Int32.ofInt (1) = (1) := by decide +kernel
theorem dX8_city_112 : gd cX8_city 112 (.iaload) 1 113 := by decide +kernel
theorem dX8_city_113 : gd cX8_city 113 (.invokevirtual 107) 3 116 := by decide +kernel
theorem dX8_city_116 : gd cX8_city 116 (.ireturn) 1 117 := by decide +kernel
theorem dX8_fault_0 : gd cX8_fault 0 (.aload_n 0) 1 1 := by decide +kernel
theorem dX8_fault_1 : gd cX8_fault 1 (.getfield 69) 3 4 := by decide +kernel
theorem dX8_fault_4 : gd cX8_fault 4 (.ireturn) 1 5 := by decide +kernel
theorem dX8_where_0 : gd cX8_where 0 (.aload_n 0) 1 1 := by decide +kernel
theorem dX8_where_1 : gd cX8_where 1 (.getfield 65) 3 4 := by decide +kernel
theorem dX8_where_4 : decode cX8_where 4 = .ok (.iconst 4, 1) ∧ 4 + 1 = 5 ∧ Int32.ofInt (4) = (4) := by decide +kernel
theorem dX8_where_5 : gb cX8_where 5 (.if_icmp .ne 10) (10) 8 15 := by decide +kernel
theorem dX8_where_8 : gd cX8_where 8 (.aload_n 0) 1 9 := by decide +kernel
theorem dX8_where_9 : gd cX8_where 9 (.getfield 72) 3 12 := by decide +kernel
theorem dX8_where_12 : gb cX8_where 12 (.goto 4) (4) 15 16 := by decide +kernel
theorem dX8_where_15 : decode cX8_where 15 = .ok (.iconst (-1), 1) ∧ 15 + 1 = 16 ∧ Int32.ofInt (-1) = (-1) := by decide +kernel
theorem dX8_where_16 : gd cX8_where 16 (.ireturn) 1 17 := by decide +kernel
theorem dX8_pane_0 : gd cX8_pane 0 (.aload_n 0) 1 1 := by decide +kernel
theorem dX8_pane_1 : gd cX8_pane 1 (.iload_n 1) 1 2 := by decide +kernel
theorem dX8_pane_2 : gd cX8_pane 2 (.invokevirtual 110) 3 5 := by decide +kernel
theorem dX8_pane_5 : gb cX8_pane 5 (.ifCond .ne 9) (9) 8 14 := by decide +kernel
theorem dX8_pane_8 : gd cX8_pane 8 (.aload_n 0) 1 9 := by decide +kernel
theorem dX8_pane_9 : decode cX8_pane 9 = .ok (.iconst 1, 1) ∧ 9 + 1 = 10 ∧ Int32.ofInt (1) = (1) := by decide +kernel
theorem dX8_pane_10 : gd cX8_pane 10 (.invokevirtual 86) 3 13 := by decide +kernel
theorem dX8_pane_13 : gd cX8_pane 13 (.ireturn) 1 14 := by decide +kernel
theorem dX8_pane_14 : gd cX8_pane 14 (.iload_n 2) 1 15 := by decide +kernel
theorem dX8_pane_15 : gsw cX8_pane 15 (109) (0) (4) #[33, 47, 61, 75, 96] 33 [48, 62, 76, 90, 111] 124 := by unfold gsw; decide +kernel
theorem dX8_pane_48 : gd cX8_pane 48 (.aload_n 0) 1 49 := by decide +kernel
theorem dX8_pane_49 : gd cX8_pane 49 (.aload_n 0) 1 50 := by decide +kernel
theorem dX8_pane_50 : gd cX8_pane 50 (.getfield 19) 3 53 := by decide +kernel
theorem dX8_pane_53 : gd cX8_pane 53 (.getfield 114) 3 56 := by decide +kernel
theorem dX8_pane_56 : gd cX8_pane 56 (.iload_n 1) 1 57 := by decide +kernel
theorem dX8_pane_57 : gd cX8_pane 57 (.iaload) 1 58 := by decide +kernel
theorem dX8_pane_58 : gd cX8_pane 58 (.invokevirtual 107) 3 61 := by decide +kernel
theorem dX8_pane_61 : gd cX8_pane 61 (.ireturn) 1 62 := by decide +kernel
theorem dX8_pane_62 : gd cX8_pane 62 (.aload_n 0) 1 63 := by decide +kernel
theorem dX8_pane_63 : gd cX8_pane 63 (.aload_n 0) 1 64 := by decide +kernel
theorem dX8_pane_64 : gd cX8_pane 64 (.getfield 40) 3 67 := by decide +kernel
theorem dX8_pane_67 : gd cX8_pane 67 (.getfield 117) 3 70 := by decide +kernel
theorem dX8_pane_70 : gd cX8_pane 70 (.iload_n 1) 1 71 := by decide +kernel
theorem dX8_pane_71 : gd cX8_pane 71 (.iaload) 1 72 := by decide +kernel
theorem dX8_pane_72 : gd cX8_pane 72 (.invokevirtual 107) 3 75 := by decide +kernel
theorem dX8_pane_75 : gd cX8_pane 75 (.ireturn) 1 76 := by decide +kernel
theorem dX8_pane_76 : gd cX8_pane 76 (.aload_n 0) 1 77 := by decide +kernel
theorem dX8_pane_77 : gd cX8_pane 77 (.aload_n 0) 1 78 := by decide +kernel
theorem dX8_pane_78 : gd cX8_pane 78 (.getfield 40) 3 81 := by decide +kernel
theorem dX8_pane_81 : gd cX8_pane 81 (.getfield 120) 3 84 := by decide +kernel
theorem dX8_pane_84 : gd cX8_pane 84 (.iload_n 1) 1 85 := by decide +kernel
theorem dX8_pane_85 : gd cX8_pane 85 (.iaload) 1 86 := by decide +kernel
theorem dX8_pane_86 : gd cX8_pane 86 (.invokevirtual 107) 3 89 := by decide +kernel
theorem dX8_pane_89 : gd cX8_pane 89 (.ireturn) 1 90 := by decide +kernel
theorem dX8_pane_90 : gd cX8_pane 90 (.aload_n 0) 1 91 := by decide +kernel
theorem dX8_pane_91 : gd cX8_pane 91 (.aload_n 0) 1 92 := by decide +kernel
theorem dX8_pane_92 : gd cX8_pane 92 (.getfield 40) 3 95 := by decide +kernel
theorem dX8_pane_95 : gd cX8_pane 95 (.iload_n 1) 1 96 := by decide +kernel
theorem dX8_pane_96 : gd cX8_pane 96 (.invokevirtual 123) 3 99 := by decide +kernel
theorem dX8_pane_99 : gb cX8_pane 99 (.ifCond .eq 7) (7) 102 106 := by decide +kernel
theorem dX8_pane_102 : decode cX8_pane 102 = .ok (.iconst 1, 1) ∧ 102 + 1 = 103 ∧ Int32.ofInt (1) = (1) := by decide +kernel
theorem dX8_pane_103 : gb cX8_pane 103 (.goto 4) (4) 106 107 := by decide +kernel
theorem dX8_pane_106 : decode cX8_pane 106 = .ok (.iconst 0, 1) ∧ 106 + 1 = 107 ∧ Int32.ofInt (0) = (0) := by decide +kernel
theorem dX8_pane_107 : gd cX8_pane 107 (.invokevirtual 107) 3 110 := by decide +kernel
theorem dX8_pane_110 : gd cX8_pane 110 (.ireturn) 1 111 := by decide +kernel
theorem dX8_pane_111 : gd cX8_pane 111 (.aload_n 0) 1 112 := by decide +kernel
theorem dX8_pane_112 : gd cX8_pane 112 (.aload_n 0) 1 113 := by decide +kernel
theorem dX8_pane_113 : gd cX8_pane 113 (.getfield 40) 3 116 := by decide +kernel
theorem dX8_pane_116 : gd cX8_pane 116 (.iload_n 1) 1 117 := by decide +kernel
theorem dX8_pane_117 : gd cX8_pane 117 (.invokevirtual 126) 3 120 := by decide +kernel
theorem dX8_pane_120 : gd cX8_pane 120 (.invokevirtual 107) 3 123 := by decide +kernel
theorem dX8_pane_123 : gd cX8_pane 123 (.ireturn) 1 124 := by decide +kernel
theorem dX8_pane_124 : gd cX8_pane 124 (.aload_n 0) 1 125 := by decide +kernel
theorem dX8_pane_125 : decode cX8_pane 125 = .ok (.iconst 1, 1) ∧ 125 + 1 = 126 ∧ Int32.ofInt (1) = (1) := by decide +kernel
theorem dX8_pane_126 : gd cX8_pane 126 (.invokevirtual 86) 3 129 := by decide +kernel
theorem dX8_pane_129 : gd cX8_pane 129 (.ireturn) 1 130 := by decide +kernel
theorem dX8_word_0 : gd cX8_word 0 (.aload_n 0) 1 1 := by decide +kernel
theorem dX8_word_1 : gd cX8_word 1 (.iload_n 1) 1 2 := by decide +kernel
theorem dX8_word_2 : gd cX8_word 2 (.invokevirtual 129) 3 5 := by decide +kernel
theorem dX8_word_5 : gb cX8_word 5 (.ifCond .eq 19) (19) 8 24 := by decide +kernel
theorem dX8_word_8 : gd cX8_word 8 (.aload_n 0) 1 9 := by decide +kernel
theorem dX8_word_9 : gd cX8_word 9 (.aload_n 0) 1 10 := by decide +kernel
theorem dX8_word_10 : gd cX8_word 10 (.getfield 19) 3 13 := by decide +kernel
theorem dX8_word_13 : gd cX8_word 13 (.getfield 132) 3 16 := by decide +kernel
theorem dX8_word_16 : gd cX8_word 16 (.iload_n 1) 1 17 := by decide +kernel
theorem dX8_word_17 : gd cX8_word 17 (.iaload) 1 18 := by decide +kernel
theorem dX8_word_18 : gd cX8_word 18 (.invokevirtual 107) 3 21 := by decide +kernel
theorem dX8_word_21 : gb cX8_word 21 (.goto 8) (8) 24 29 := by decide +kernel
theorem dX8_word_24 : gd cX8_word 24 (.aload_n 0) 1 25 := by decide +kernel
theorem dX8_word_25 : decode cX8_word 25 = .ok (.iconst 1, 1) ∧ 25 + 1 = 26 ∧ Int32.ofInt (1) = (1) := by decide +kernel
theorem dX8_word_26 : gd cX8_word 26 (.invokevirtual 86) 3 29 := by decide +kernel
theorem dX8_word_29 : gd cX8_word 29 (.ireturn) 1 30 := by decide +kernel
theorem dX8_view_0 : gd cX8_view 0 (.aload_n 0) 1 1 := by decide +kernel
theorem dX8_view_1 : gd cX8_view 1 (.iload_n 1) 1 2 := by decide +kernel
theorem dX8_view_2 : gd cX8_view 2 (.invokevirtual 135) 3 5 := by decide +kernel
theorem dX8_view_5 : gb cX8_view 5 (.ifCond .eq 19) (19) 8 24 := by decide +kernel
theorem dX8_view_8 : gd cX8_view 8 (.aload_n 0) 1 9 := by decide +kernel
theorem dX8_view_9 : gd cX8_view 9 (.aload_n 0) 1 10 := by decide +kernel
theorem dX8_view_10 : gd cX8_view 10 (.getfield 19) 3 13 := by decide +kernel
theorem dX8_view_13 : gd cX8_view 13 (.getfield 138) 3 16 := by decide +kernel
theorem dX8_view_16 : gd cX8_view 16 (.iload_n 1) 1 17 := by decide +kernel
theorem dX8_view_17 : gd cX8_view 17 (.iaload) 1 18 := by decide +kernel
theorem dX8_view_18 : gd cX8_view 18 (.invokevirtual 107) 3 21 := by decide +kernel
theorem dX8_view_21 : gb cX8_view 21 (.goto 8) (8) 24 29 := by decide +kernel
theorem dX8_view_24 : gd cX8_view 24 (.aload_n 0) 1 25 := by decide +kernel
theorem dX8_view_25 : decode cX8_view 25 = .ok (.iconst 1, 1) ∧ 25 + 1 = 26 ∧ Int32.ofInt (1) = (1) := by decide +kernel
theorem dX8_view_26 : gd cX8_view 26 (.invokevirtual 86) 3 29 := by decide +kernel
theorem dX8_view_29 : gd cX8_view 29 (.ireturn) 1 30 := by decide +kernel
theorem dX8_seen_0 : gd cX8_seen 0 (.aload_n 0) 1 1 := by decide +kernel
theorem dX8_seen_1 : gd cX8_seen 1 (.iload_n 1) 1 2 := by decide +kernel
theorem dX8_seen_2 : gd cX8_seen 2 (.aload_n 0) 1 3 := by decide +kernel
theorem dX8_seen_3 : gd cX8_seen 3 (.iload_n 2) 1 4 := by decide +kernel
theorem dX8_seen_4 : gd cX8_seen 4 (.invokevirtual 141) 3 7 := by decide +kernel
theorem dX8_seen_7 : gd cX8_seen 7 (.invokevirtual 144) 3 10 := by decide +kernel
theorem dX8_seen_10 : gd cX8_seen 10 (.istore_n 3) 1 11 := by decide +kernel
theorem dX8_seen_11 : gd cX8_seen 11 (.iload_n 3) 1 12 := by decide +kernel
theorem dX8_seen_12 : gb cX8_seen 12 (.ifCond .ne 19) (19) 15 31 := by decide +kernel
theorem dX8_seen_15 : gd cX8_seen 15 (.aload_n 0) 1 16 := by decide +kernel
theorem dX8_seen_16 : gd cX8_seen 16 (.aload_n 0) 1 17 := by decide +kernel
theorem dX8_seen_17 : gd cX8_seen 17 (.getfield 40) 3 20 := by decide +kernel
theorem dX8_seen_20 : gd cX8_seen 20 (.iload_n 1) 1 21 := by decide +kernel
theorem dX8_seen_21 : gd cX8_seen 21 (.iload_n 2) 1 22 := by decide +kernel
theorem dX8_seen_22 : gd cX8_seen 22 (.invokevirtual 148) 3 25 := by decide +kernel
theorem dX8_seen_25 : gd cX8_seen 25 (.invokevirtual 107) 3 28 := by decide +kernel
theorem dX8_seen_28 : gb cX8_seen 28 (.goto 8) (8) 31 36 := by decide +kernel
theorem dX8_seen_31 : gd cX8_seen 31 (.aload_n 0) 1 32 := by decide +kernel
theorem dX8_seen_32 : gd cX8_seen 32 (.iload_n 3) 1 33 := by decide +kernel
theorem dX8_seen_33 : gd cX8_seen 33 (.invokevirtual 86) 3 36 := by decide +kernel
theorem dX8_seen_36 : gd cX8_seen 36 (.ireturn) 1 37 := by decide +kernel
theorem dX8_read_0 : gd cX8_read 0 (.aload_n 0) 1 1 := by decide +kernel
theorem dX8_read_1 : gd cX8_read 1 (.iload_n 1) 1 2 := by decide +kernel
theorem dX8_read_2 : gd cX8_read 2 (.aload_n 0) 1 3 := by decide +kernel
theorem dX8_read_3 : gd cX8_read 3 (.iload_n 2) 1 4 := by decide +kernel
theorem dX8_read_4 : gd cX8_read 4 (.invokevirtual 141) 3 7 := by decide +kernel
theorem dX8_read_7 : gd cX8_read 7 (.invokevirtual 144) 3 10 := by decide +kernel
theorem dX8_read_10 : gd cX8_read 10 (.istore_n 3) 1 11 := by decide +kernel
theorem dX8_read_11 : gd cX8_read 11 (.iload_n 3) 1 12 := by decide +kernel
theorem dX8_read_12 : gb cX8_read 12 (.ifCond .ne 19) (19) 15 31 := by decide +kernel
theorem dX8_read_15 : gd cX8_read 15 (.aload_n 0) 1 16 := by decide +kernel
theorem dX8_read_16 : gd cX8_read 16 (.aload_n 0) 1 17 := by decide +kernel
theorem dX8_read_17 : gd cX8_read 17 (.getfield 40) 3 20 := by decide +kernel
theorem dX8_read_20 : gd cX8_read 20 (.iload_n 1) 1 21 := by decide +kernel
theorem dX8_read_21 : gd cX8_read 21 (.iload_n 2) 1 22 := by decide +kernel
theorem dX8_read_22 : gd cX8_read 22 (.invokevirtual 152) 3 25 := by decide +kernel
theorem dX8_read_25 : gd cX8_read 25 (.invokevirtual 107) 3 28 := by decide +kernel
theorem dX8_read_28 : gb cX8_read 28 (.goto 8) (8) 31 36 := by decide +kernel
theorem dX8_read_31 : gd cX8_read 31 (.aload_n 0) 1 32 := by decide +kernel
theorem dX8_read_32 : gd cX8_read 32 (.iload_n 3) 1 33 := by decide +kernel
theorem dX8_read_33 : gd cX8_read 33 (.invokevirtual 86) 3 36 := by decide +kernel
theorem dX8_read_36 : gd cX8_read 36 (.ireturn) 1 37 := by decide +kernel
theorem dX8_together_0 : gd cX8_together 0 (.aload_n 0) 1 1 := by decide +kernel
theorem dX8_together_1 : gd cX8_together 1 (.iload_n 1) 1 2 := by decide +kernel
theorem dX8_together_2 : gd cX8_together 2 (.iload_n 2) 1 3 := by decide +kernel
theorem dX8_together_3 : gd cX8_together 3 (.invokevirtual 155) 3 6 := by decide +kernel
theorem dX8_together_6 : gd cX8_together 6 (.istore_n 3) 1 7 := by decide +kernel
theorem dX8_together_7 : gd cX8_together 7 (.iload_n 3) 1 8 := by decide +kernel
theorem dX8_together_8 : gb cX8_together 8 (.ifCond .ne 19) (19) 11 27 := by decide +kernel
theorem dX8_together_11 : gd cX8_together 11 (.aload_n 0) 1 12 := by decide +kernel
theorem dX8_together_12 : gd cX8_together 12 (.aload_n 0) 1 13 := by decide +kernel
theorem dX8_together_13 : gd cX8_together 13 (.getfield 40) 3 16 := by decide +kernel
theorem dX8_together_16 : gd cX8_together 16 (.iload_n 1) 1 17 := by decide +kernel
theorem dX8_together_17 : gd cX8_together 17 (.iload_n 2) 1 18 := by decide +kernel
theorem dX8_together_18 : gd cX8_together 18 (.invokevirtual 158) 3 21 := by decide +kernel
theorem dX8_together_21 : gd cX8_together 21 (.invokevirtual 107) 3 24 := by decide +kernel
theorem dX8_together_24 : gb cX8_together 24 (.goto 8) (8) 27 32 := by decide +kernel
theorem dX8_together_27 : gd cX8_together 27 (.aload_n 0) 1 28 := by decide +kernel
theorem dX8_together_28 : gd cX8_together 28 (.iload_n 3) 1 29 := by decide +kernel
theorem dX8_together_29 : gd cX8_together 29 (.invokevirtual 86) 3 32 := by decide +kernel
theorem dX8_together_32 : gd cX8_together 32 (.ireturn) 1 33 := by decide +kernel
theorem dX8_readTogether_0 : gd cX8_readTogether 0 (.aload_n 0) 1 1 := by decide +kernel
theorem dX8_readTogether_1 : gd cX8_readTogether 1 (.iload_n 1) 1 2 := by decide +kernel
theorem dX8_readTogether_2 : gd cX8_readTogether 2 (.iload_n 2) 1 3 := by decide +kernel
theorem dX8_readTogether_3 : gd cX8_readTogether 3 (.invokevirtual 155) 3 6 := by decide +kernel
theorem dX8_readTogether_6 : gd cX8_readTogether 6 (.istore_n 3) 1 7 := by decide +kernel
theorem dX8_readTogether_7 : gd cX8_readTogether 7 (.iload_n 3) 1 8 := by decide +kernel
theorem dX8_readTogether_8 : gb cX8_readTogether 8 (.ifCond .ne 26) (26) 11 34 := by decide +kernel
theorem dX8_readTogether_11 : gd cX8_readTogether 11 (.aload_n 0) 1 12 := by decide +kernel
theorem dX8_readTogether_12 : gd cX8_readTogether 12 (.aload_n 0) 1 13 := by decide +kernel
theorem dX8_readTogether_13 : gd cX8_readTogether 13 (.getfield 19) 3 16 := by decide +kernel
theorem dX8_readTogether_16 : gd cX8_readTogether 16 (.aload_n 0) 1 17 := by decide +kernel
theorem dX8_readTogether_17 : gd cX8_readTogether 17 (.getfield 40) 3 20 := by decide +kernel
theorem dX8_readTogether_20 : gd cX8_readTogether 20 (.iload_n 1) 1 21 := by decide +kernel
theorem dX8_readTogether_21 : gd cX8_readTogether 21 (.iload_n 2) 1 22 := by decide +kernel
theorem dX8_readTogether_22 : gd cX8_readTogether 22 (.invokevirtual 158) 3 25 := by decide +kernel
theorem dX8_readTogether_25 : gd cX8_readTogether 25 (.invokevirtual 161) 3 28 := by decide +kernel
theorem dX8_readTogether_28 : gd cX8_readTogether 28 (.invokevirtual 107) 3 31 := by decide +kernel
theorem dX8_readTogether_31 : gb cX8_readTogether 31 (.goto 8) (8) 34 39 := by decide +kernel
theorem dX8_readTogether_34 : gd cX8_readTogether 34 (.aload_n 0) 1 35 := by decide +kernel
theorem dX8_readTogether_35 : gd cX8_readTogether 35 (.iload_n 3) 1 36 := by decide +kernel
theorem dX8_readTogether_36 : gd cX8_readTogether 36 (.invokevirtual 86) 3 39 := by decide +kernel
theorem dX8_readTogether_39 : gd cX8_readTogether 39 (.ireturn) 1 40 := by decide +kernel
theorem dX8_viewsFor_0 : gd cX8_viewsFor 0 (.aload_n 0) 1 1 := by decide +kernel
theorem dX8_viewsFor_1 : gd cX8_viewsFor 1 (.iload_n 1) 1 2 := by decide +kernel
theorem dX8_viewsFor_2 : gd cX8_viewsFor 2 (.aload_n 0) 1 3 := by decide +kernel
theorem dX8_viewsFor_3 : gd cX8_viewsFor 3 (.iload_n 2) 1 4 := by decide +kernel
theorem dX8_viewsFor_4 : gd cX8_viewsFor 4 (.invokevirtual 129) 3 7 := by decide +kernel
theorem dX8_viewsFor_7 : gd cX8_viewsFor 7 (.invokevirtual 144) 3 10 := by decide +kernel
theorem dX8_viewsFor_10 : gd cX8_viewsFor 10 (.istore_n 3) 1 11 := by decide +kernel
theorem dX8_viewsFor_11 : gd cX8_viewsFor 11 (.iload_n 3) 1 12 := by decide +kernel
theorem dX8_viewsFor_12 : gb cX8_viewsFor 12 (.ifCond .eq 9) (9) 15 21 := by decide +kernel
theorem dX8_viewsFor_15 : gd cX8_viewsFor 15 (.aload_n 0) 1 16 := by decide +kernel
theorem dX8_viewsFor_16 : gd cX8_viewsFor 16 (.iload_n 3) 1 17 := by decide +kernel
theorem dX8_viewsFor_17 : gd cX8_viewsFor 17 (.invokevirtual 86) 3 20 := by decide +kernel
theorem dX8_viewsFor_20 : gd cX8_viewsFor 20 (.ireturn) 1 21 := by decide +kernel
theorem dX8_viewsFor_21 : decode cX8_viewsFor 21 = .ok (.iconst 0, 1) ∧ 21 + 1 = 22 ∧ Int32.ofInt (0) = (0) := by decide +kernel
theorem dX8_viewsFor_22 : gd cX8_viewsFor 22 (.istore 4) 2 24 := by decide +kernel
theorem dX8_viewsFor_24 : decode cX8_viewsFor 24 = .ok (.iconst 0, 1) ∧ 24 + 1 = 25 ∧ Int32.ofInt (0) = (0) := by decide +kernel
theorem dX8_viewsFor_25 : gd cX8_viewsFor 25 (.istore 5) 2 27 := by decide +kernel
theorem dX8_viewsFor_27 : gd cX8_viewsFor 27 (.iload 5) 2 29 := by decide +kernel
theorem dX8_viewsFor_29 : gd cX8_viewsFor 29 (.aload_n 0) 1 30 := by decide +kernel
theorem dX8_viewsFor_30 : gd cX8_viewsFor 30 (.getfield 19) 3 33 := by decide +kernel
theorem dX8_viewsFor_33 : gd cX8_viewsFor 33 (.getfield 103) 3 36 := by decide +kernel
theorem dX8_viewsFor_36 : decode cX8_viewsFor 36 = .ok (.iconst 3, 1) ∧ 36 + 1 = 37 ∧ Int32.ofInt (3) = (3) := by decide +kernel
theorem dX8_viewsFor_37 : gd cX8_viewsFor 37 (.iaload) 1 38 := by decide +kernel
theorem dX8_viewsFor_38 : gb cX8_viewsFor 38 (.if_icmp .ge 32) (32) 41 70 := by decide +kernel
theorem dX8_viewsFor_41 : gd cX8_viewsFor 41 (.aload_n 0) 1 42 := by decide +kernel
theorem dX8_viewsFor_42 : gd cX8_viewsFor 42 (.getfield 40) 3 45 := by decide +kernel
theorem dX8_viewsFor_45 : gd cX8_viewsFor 45 (.iload_n 1) 1 46 := by decide +kernel
theorem dX8_viewsFor_46 : gd cX8_viewsFor 46 (.iload 5) 2 48 := by decide +kernel
theorem dX8_viewsFor_48 : gd cX8_viewsFor 48 (.invokevirtual 152) 3 51 := by decide +kernel
theorem dX8_viewsFor_51 : gd cX8_viewsFor 51 (.iload_n 2) 1 52 := by decide +kernel
theorem dX8_viewsFor_52 : gb cX8_viewsFor 52 (.if_icmp .ne 12) (12) 55 64 := by decide +kernel
theorem dX8_viewsFor_55 : gd cX8_viewsFor 55 (.iload 4) 2 57 := by decide +kernel
theorem dX8_viewsFor_57 : decode cX8_viewsFor 57 = .ok (.iconst 1, 1) ∧ 57 + 1 = 58 ∧ Int32.ofInt (1) = (1) := by decide +kernel
theorem dX8_viewsFor_58 : gd cX8_viewsFor 58 (.iload 5) 2 60 := by decide +kernel
theorem dX8_viewsFor_60 : gd cX8_viewsFor 60 (.ishl) 1 61 := by decide +kernel
theorem dX8_viewsFor_61 : gd cX8_viewsFor 61 (.ior) 1 62 := by decide +kernel
theorem dX8_viewsFor_62 : gd cX8_viewsFor 62 (.istore 4) 2 64 := by decide +kernel
theorem dX8_viewsFor_64 : decode cX8_viewsFor 64 = .ok (.iinc 5 1, 3) ∧ 64 + 3 = 67 ∧ Int32.ofInt (1) = (1) := by decide +kernel
theorem dX8_viewsFor_67 : gb cX8_viewsFor 67 (.goto (-40)) (-40) 70 27 := by decide +kernel
theorem dX8_viewsFor_70 : gd cX8_viewsFor 70 (.aload_n 0) 1 71 := by decide +kernel
theorem dX8_viewsFor_71 : gd cX8_viewsFor 71 (.iload 4) 2 73 := by decide +kernel
theorem dX8_viewsFor_73 : gd cX8_viewsFor 73 (.invokevirtual 107) 3 76 := by decide +kernel
theorem dX8_viewsFor_76 : gd cX8_viewsFor 76 (.ireturn) 1 77 := by decide +kernel
theorem dX8_pairFor_0 : gd cX8_pairFor 0 (.aload_n 0) 1 1 := by decide +kernel
theorem dX8_pairFor_1 : gd cX8_pairFor 1 (.iload_n 1) 1 2 := by decide +kernel
theorem dX8_pairFor_2 : gd cX8_pairFor 2 (.invokevirtual 129) 3 5 := by decide +kernel
theorem dX8_pairFor_5 : gb cX8_pairFor 5 (.ifCond .eq 26) (26) 8 31 := by decide +kernel
theorem dX8_pairFor_8 : gd cX8_pairFor 8 (.aload_n 0) 1 9 := by decide +kernel
theorem dX8_pairFor_9 : gd cX8_pairFor 9 (.aload_n 0) 1 10 := by decide +kernel
theorem dX8_pairFor_10 : gd cX8_pairFor 10 (.getfield 40) 3 13 := by decide +kernel
theorem dX8_pairFor_13 : gd cX8_pairFor 13 (.aload_n 0) 1 14 := by decide +kernel
theorem dX8_pairFor_14 : gd cX8_pairFor 14 (.getfield 19) 3 17 := by decide +kernel
theorem dX8_pairFor_17 : gd cX8_pairFor 17 (.getfield 132) 3 20 := by decide +kernel
theorem dX8_pairFor_20 : gd cX8_pairFor 20 (.iload_n 1) 1 21 := by decide +kernel
theorem dX8_pairFor_21 : gd cX8_pairFor 21 (.iaload) 1 22 := by decide +kernel
theorem dX8_pairFor_22 : gd cX8_pairFor 22 (.invokevirtual 164) 3 25 := by decide +kernel
theorem dX8_pairFor_25 : gd cX8_pairFor 25 (.invokevirtual 107) 3 28 := by decide +kernel
theorem dX8_pairFor_28 : gb cX8_pairFor 28 (.goto 8) (8) 31 36 := by decide +kernel
theorem dX8_pairFor_31 : gd cX8_pairFor 31 (.aload_n 0) 1 32 := by decide +kernel
theorem dX8_pairFor_32 : decode cX8_pairFor 32 = .ok (.iconst 1, 1) ∧ 32 + 1 = 33 ∧ Int32.ofInt (1) = (1) := by decide +kernel
theorem dX8_pairFor_33 : gd cX8_pairFor 33 (.invokevirtual 86) 3 36 := by decide +kernel
theorem dX8_pairFor_36 : gd cX8_pairFor 36 (.ireturn) 1 37 := by decide +kernel
theorem dX8_soonest_0 : gd cX8_soonest 0 (.aload_n 0) 1 1 := by decide +kernel
theorem dX8_soonest_1 : gd cX8_soonest 1 (.iload_n 1) 1 2 := by decide +kernel
theorem dX8_soonest_2 : gd cX8_soonest 2 (.invokevirtual 167) 3 5 := by decide +kernel
theorem dX8_soonest_5 : gb cX8_soonest 5 (.ifCond .eq 11) (11) 8 16 := by decide +kernel
theorem dX8_soonest_8 : gd cX8_soonest 8 (.aload_n 0) 1 9 := by decide +kernel
theorem dX8_soonest_9 : gd cX8_soonest 9 (.iload_n 2) 1 10 := by decide +kernel
theorem dX8_soonest_10 : gd cX8_soonest 10 (.invokevirtual 167) 3 13 := by decide +kernel
theorem dX8_soonest_13 : gb cX8_soonest 13 (.ifCond .ne 9) (9) 16 22 := by decide +kernel
theorem dX8_soonest_16 : gd cX8_soonest 16 (.aload_n 0) 1 17 := by decide +kernel
theorem dX8_soonest_17 : decode cX8_soonest 17 = .ok (.iconst 1, 1) ∧ 17 + 1 = 18 ∧ Int32.ofInt (1) = (1) := by decide +kernel
theorem dX8_soonest_18 : gd cX8_soonest 18 (.invokevirtual 86) 3 21 := by decide +kernel
theorem dX8_soonest_21 : gd cX8_soonest 21 (.ireturn) 1 22 := by decide +kernel
theorem dX8_soonest_22 : gd cX8_soonest 22 (.aload_n 0) 1 23 := by decide +kernel
theorem dX8_soonest_23 : gd cX8_soonest 23 (.aload_n 0) 1 24 := by decide +kernel
theorem dX8_soonest_24 : gd cX8_soonest 24 (.iload_n 1) 1 25 := by decide +kernel
theorem dX8_soonest_25 : gd cX8_soonest 25 (.iload_n 2) 1 26 := by decide +kernel
theorem dX8_soonest_26 : decode cX8_soonest 26 = .ok (.iconst 0, 1) ∧ 26 + 1 = 27 ∧ Int32.ofInt (0) = (0) := by decide +kernel
theorem dX8_soonest_27 : gd cX8_soonest 27 (.invokevirtual 170) 3 30 := by decide +kernel
theorem dX8_soonest_30 : gd cX8_soonest 30 (.invokevirtual 107) 3 33 := by decide +kernel
theorem dX8_soonest_33 : gd cX8_soonest 33 (.ireturn) 1 34 := by decide +kernel
theorem dX8_soonestAt_0 : gd cX8_soonestAt 0 (.aload_n 0) 1 1 := by decide +kernel
theorem dX8_soonestAt_1 : gd cX8_soonestAt 1 (.iload_n 1) 1 2 := by decide +kernel
theorem dX8_soonestAt_2 : gd cX8_soonestAt 2 (.invokevirtual 167) 3 5 := by decide +kernel
theorem dX8_soonestAt_5 : gb cX8_soonestAt 5 (.ifCond .eq 11) (11) 8 16 := by decide +kernel
theorem dX8_soonestAt_8 : gd cX8_soonestAt 8 (.aload_n 0) 1 9 := by decide +kernel
theorem dX8_soonestAt_9 : gd cX8_soonestAt 9 (.iload_n 2) 1 10 := by decide +kernel
theorem dX8_soonestAt_10 : gd cX8_soonestAt 10 (.invokevirtual 167) 3 13 := by decide +kernel
theorem dX8_soonestAt_13 : gb cX8_soonestAt 13 (.ifCond .ne 9) (9) 16 22 := by decide +kernel
theorem dX8_soonestAt_16 : gd cX8_soonestAt 16 (.aload_n 0) 1 17 := by decide +kernel
theorem dX8_soonestAt_17 : decode cX8_soonestAt 17 = .ok (.iconst 1, 1) ∧ 17 + 1 = 18 ∧ Int32.ofInt (1) = (1) := by decide +kernel
theorem dX8_soonestAt_18 : gd cX8_soonestAt 18 (.invokevirtual 86) 3 21 := by decide +kernel
theorem dX8_soonestAt_21 : gd cX8_soonestAt 21 (.ireturn) 1 22 := by decide +kernel
theorem dX8_soonestAt_22 : gd cX8_soonestAt 22 (.aload_n 0) 1 23 := by decide +kernel
theorem dX8_soonestAt_23 : gd cX8_soonestAt 23 (.getfield 47) 3 26 := by decide +kernel
theorem dX8_soonestAt_26 : gd cX8_soonestAt 26 (.aload_n 0) 1 27 := by decide +kernel
theorem dX8_soonestAt_27 : gd cX8_soonestAt 27 (.getfield 19) 3 30 := by decide +kernel
theorem dX8_soonestAt_30 : gd cX8_soonestAt 30 (.iload_n 1) 1 31 := by decide +kernel
theorem dX8_soonestAt_31 : gd cX8_soonestAt 31 (.iload_n 2) 1 32 := by decide +kernel
theorem dX8_soonestAt_32 : decode cX8_soonestAt 32 = .ok (.iconst 0, 1) ∧ 32 + 1 = 33 ∧ Int32.ofInt (0) = (0) := by decide +kernel
theorem dX8_soonestAt_33 : gd cX8_soonestAt 33 (.invokevirtual 174) 3 36 := by decide +kernel
theorem dX8_soonestAt_36 : gd cX8_soonestAt 36 (.aload_n 0) 1 37 := by decide +kernel
theorem dX8_soonestAt_37 : gd cX8_soonestAt 37 (.iload_n 3) 1 38 := by decide +kernel
theorem dX8_soonestAt_38 : gd cX8_soonestAt 38 (.invokevirtual 178) 3 41 := by decide +kernel
theorem dX8_soonestAt_41 : gd cX8_soonestAt 41 (.ireturn) 1 42 := by decide +kernel
theorem dX8_secret_0 : gd cX8_secret 0 (.aload_n 0) 1 1 := by decide +kernel
theorem dX8_secret_1 : gd cX8_secret 1 (.iload_n 1) 1 2 := by decide +kernel
theorem dX8_secret_2 : gd cX8_secret 2 (.aload_n 0) 1 3 := by decide +kernel
theorem dX8_secret_3 : gd cX8_secret 3 (.iload_n 2) 1 4 := by decide +kernel
theorem dX8_secret_4 : gd cX8_secret 4 (.invokevirtual 167) 3 7 := by decide +kernel
theorem dX8_secret_7 : gb cX8_secret 7 (.ifCond .eq 15) (15) 10 22 := by decide +kernel
theorem dX8_secret_10 : gd cX8_secret 10 (.aload_n 0) 1 11 := by decide +kernel
theorem dX8_secret_11 : gd cX8_secret 11 (.iload_n 3) 1 12 := by decide +kernel
theorem dX8_secret_12 : gd cX8_secret 12 (.invokevirtual 167) 3 15 := by decide +kernel
theorem dX8_secret_15 : gb cX8_secret 15 (.ifCond .eq 7) (7) 18 22 := by decide +kernel
theorem dX8_secret_18 : decode cX8_secret 18 = .ok (.iconst 1, 1) ∧ 18 + 1 = 19 ∧ Int32.ofInt (1) = (1) := by decide +kernel
theorem dX8_secret_19 : gb cX8_secret 19 (.goto 4) (4) 22 23 := by decide +kernel
theorem dX8_secret_22 : decode cX8_secret 22 = .ok (.iconst 0, 1) ∧ 22 + 1 = 23 ∧ Int32.ofInt (0) = (0) := by decide +kernel
theorem dX8_secret_23 : gd cX8_secret 23 (.invokevirtual 144) 3 26 := by decide +kernel
theorem dX8_secret_26 : gd cX8_secret 26 (.istore 4) 2 28 := by decide +kernel
theorem dX8_secret_28 : gd cX8_secret 28 (.iload 4) 2 30 := by decide +kernel
theorem dX8_secret_30 : gb cX8_secret 30 (.ifCond .ne 24) (24) 33 54 := by decide +kernel
theorem dX8_secret_33 : gd cX8_secret 33 (.aload_n 0) 1 34 := by decide +kernel
theorem dX8_secret_34 : gd cX8_secret 34 (.aload_n 0) 1 35 := by decide +kernel
theorem dX8_secret_35 : gd cX8_secret 35 (.iload_n 2) 1 36 := by decide +kernel
theorem dX8_secret_36 : gd cX8_secret 36 (.iload_n 3) 1 37 := by decide +kernel
theorem dX8_secret_37 : gd cX8_secret 37 (.aload_n 0) 1 38 := by decide +kernel
theorem dX8_secret_38 : gd cX8_secret 38 (.getfield 40) 3 41 := by decide +kernel
theorem dX8_secret_41 : gd cX8_secret 41 (.iload_n 1) 1 42 := by decide +kernel
theorem dX8_secret_42 : gd cX8_secret 42 (.invokevirtual 181) 3 45 := by decide +kernel
theorem dX8_secret_45 : gd cX8_secret 45 (.invokevirtual 170) 3 48 := by decide +kernel
theorem dX8_secret_48 : gd cX8_secret 48 (.invokevirtual 107) 3 51 := by decide +kernel
theorem dX8_secret_51 : gb cX8_secret 51 (.goto 9) (9) 54 60 := by decide +kernel
theorem dX8_secret_54 : gd cX8_secret 54 (.aload_n 0) 1 55 := by decide +kernel
theorem dX8_secret_55 : gd cX8_secret 55 (.iload 4) 2 57 := by decide +kernel
theorem dX8_secret_57 : gd cX8_secret 57 (.invokevirtual 86) 3 60 := by decide +kernel
theorem dX8_secret_60 : gd cX8_secret 60 (.ireturn) 1 61 := by decide +kernel
theorem dX8_secretAt_0 : gd cX8_secretAt 0 (.aload_n 0) 1 1 := by decide +kernel
theorem dX8_secretAt_1 : gd cX8_secretAt 1 (.iload_n 1) 1 2 := by decide +kernel
theorem dX8_secretAt_2 : gd cX8_secretAt 2 (.aload_n 0) 1 3 := by decide +kernel
theorem dX8_secretAt_3 : gd cX8_secretAt 3 (.iload_n 2) 1 4 := by decide +kernel
theorem dX8_secretAt_4 : gd cX8_secretAt 4 (.invokevirtual 167) 3 7 := by decide +kernel
theorem dX8_secretAt_7 : gb cX8_secretAt 7 (.ifCond .eq 15) (15) 10 22 := by decide +kernel
theorem dX8_secretAt_10 : gd cX8_secretAt 10 (.aload_n 0) 1 11 := by decide +kernel
theorem dX8_secretAt_11 : gd cX8_secretAt 11 (.iload_n 3) 1 12 := by decide +kernel
theorem dX8_secretAt_12 : gd cX8_secretAt 12 (.invokevirtual 167) 3 15 := by decide +kernel
theorem dX8_secretAt_15 : gb cX8_secretAt 15 (.ifCond .eq 7) (7) 18 22 := by decide +kernel
theorem dX8_secretAt_18 : decode cX8_secretAt 18 = .ok (.iconst 1, 1) ∧ 18 + 1 = 19 ∧ Int32.ofInt (1) = (1) := by decide +kernel
theorem dX8_secretAt_19 : gb cX8_secretAt 19 (.goto 4) (4) 22 23 := by decide +kernel
theorem dX8_secretAt_22 : decode cX8_secretAt 22 = .ok (.iconst 0, 1) ∧ 22 + 1 = 23 ∧ Int32.ofInt (0) = (0) := by decide +kernel
theorem dX8_secretAt_23 : gd cX8_secretAt 23 (.invokevirtual 144) 3 26 := by decide +kernel
theorem dX8_secretAt_26 : gd cX8_secretAt 26 (.istore 5) 2 28 := by decide +kernel
theorem dX8_secretAt_28 : gd cX8_secretAt 28 (.iload 5) 2 30 := by decide +kernel
theorem dX8_secretAt_30 : gb cX8_secretAt 30 (.ifCond .eq 10) (10) 33 40 := by decide +kernel
theorem dX8_secretAt_33 : gd cX8_secretAt 33 (.aload_n 0) 1 34 := by decide +kernel
theorem dX8_secretAt_34 : gd cX8_secretAt 34 (.iload 5) 2 36 := by decide +kernel
theorem dX8_secretAt_36 : gd cX8_secretAt 36 (.invokevirtual 86) 3 39 := by decide +kernel
theorem dX8_secretAt_39 : gd cX8_secretAt 39 (.ireturn) 1 40 := by decide +kernel
theorem dX8_secretAt_40 : gd cX8_secretAt 40 (.aload_n 0) 1 41 := by decide +kernel
theorem dX8_secretAt_41 : gd cX8_secretAt 41 (.getfield 47) 3 44 := by decide +kernel
theorem dX8_secretAt_44 : gd cX8_secretAt 44 (.aload_n 0) 1 45 := by decide +kernel
theorem dX8_secretAt_45 : gd cX8_secretAt 45 (.getfield 19) 3 48 := by decide +kernel
theorem dX8_secretAt_48 : gd cX8_secretAt 48 (.iload_n 2) 1 49 := by decide +kernel
theorem dX8_secretAt_49 : gd cX8_secretAt 49 (.iload_n 3) 1 50 := by decide +kernel
theorem dX8_secretAt_50 : gd cX8_secretAt 50 (.aload_n 0) 1 51 := by decide +kernel
theorem dX8_secretAt_51 : gd cX8_secretAt 51 (.getfield 40) 3 54 := by decide +kernel
theorem dX8_secretAt_54 : gd cX8_secretAt 54 (.iload_n 1) 1 55 := by decide +kernel
theorem dX8_secretAt_55 : gd cX8_secretAt 55 (.invokevirtual 181) 3 58 := by decide +kernel
theorem dX8_secretAt_58 : gd cX8_secretAt 58 (.invokevirtual 174) 3 61 := by decide +kernel
theorem dX8_secretAt_61 : gd cX8_secretAt 61 (.aload_n 0) 1 62 := by decide +kernel
theorem dX8_secretAt_62 : gd cX8_secretAt 62 (.iload 4) 2 64 := by decide +kernel
theorem dX8_secretAt_64 : gd cX8_secretAt 64 (.invokevirtual 178) 3 67 := by decide +kernel
theorem dX8_secretAt_67 : gd cX8_secretAt 67 (.ireturn) 1 68 := by decide +kernel
theorem dX8_safest_0 : gd cX8_safest 0 (.aload_n 0) 1 1 := by decide +kernel
theorem dX8_safest_1 : gd cX8_safest 1 (.iload_n 1) 1 2 := by decide +kernel
theorem dX8_safest_2 : gd cX8_safest 2 (.iload_n 2) 1 3 := by decide +kernel
theorem dX8_safest_3 : gd cX8_safest 3 (.iload_n 3) 1 4 := by decide +kernel
theorem dX8_safest_4 : gd cX8_safest 4 (.invokevirtual 184) 3 7 := by decide +kernel
theorem dX8_safest_7 : gd cX8_safest 7 (.istore 5) 2 9 := by decide +kernel
theorem dX8_safest_9 : gd cX8_safest 9 (.iload 5) 2 11 := by decide +kernel
theorem dX8_safest_11 : gb cX8_safest 11 (.ifCond .eq 11) (11) 14 22 := by decide +kernel
theorem dX8_safest_14 : gd cX8_safest 14 (.aload_n 0) 1 15 := by decide +kernel
theorem dX8_safest_15 : gd cX8_safest 15 (.iload 5) 2 17 := by decide +kernel
theorem dX8_safest_17 : gd cX8_safest 17 (.invokevirtual 86) 3 20 := by decide +kernel
theorem dX8_safest_20 : gd cX8_safest 20 (.i2l) 1 21 := by decide +kernel
theorem dX8_safest_21 : gd cX8_safest 21 (.lreturn) 1 22 := by decide +kernel
theorem dX8_safest_22 : gd cX8_safest 22 (.aload_n 0) 1 23 := by decide +kernel
theorem dX8_safest_23 : decode cX8_safest 23 = .ok (.iconst 0, 1) ∧ 23 + 1 = 24 ∧ Int32.ofInt (0) = (0) := by decide +kernel
theorem dX8_safest_24 : gd cX8_safest 24 (.putfield 65) 3 27 := by decide +kernel
theorem dX8_safest_27 : gd cX8_safest 27 (.aload_n 0) 1 28 := by decide +kernel
theorem dX8_safest_28 : gd cX8_safest 28 (.getfield 47) 3 31 := by decide +kernel
theorem dX8_safest_31 : gd cX8_safest 31 (.getfield 187) 3 34 := by decide +kernel
theorem dX8_safest_34 : gd cX8_safest 34 (.ldc2_w 191) 3 37 := by decide +kernel
theorem dX8_safest_37 : gd cX8_safest 37 (.invokestatic 193) 3 40 := by decide +kernel
theorem dX8_safest_40 : gd cX8_safest 40 (.lstore 6) 2 42 := by decide +kernel
theorem dX8_safest_42 : gd cX8_safest 42 (.iload 4) 2 44 := by decide +kernel
theorem dX8_safest_44 : gb cX8_safest 44 (.ifCond .eq 9) (9) 47 53 := by decide +kernel
theorem dX8_safest_47 : gd cX8_safest 47 (.ldc2_w 191) 3 50 := by decide +kernel
theorem dX8_safest_50 : gb cX8_safest 50 (.goto 10) (10) 53 60 := by decide +kernel
theorem dX8_safest_53 : gd cX8_safest 53 (.aload_n 0) 1 54 := by decide +kernel
theorem dX8_safest_54 : gd cX8_safest 54 (.getfield 47) 3 57 := by decide +kernel
theorem dX8_safest_57 : gd cX8_safest 57 (.getfield 187) 3 60 := by decide +kernel
theorem dX8_safest_60 : gd cX8_safest 60 (.lload 6) 2 62 := by decide +kernel
theorem dX8_safest_62 : gd cX8_safest 62 (.ldiv) 1 63 := by decide +kernel
theorem dX8_safest_63 : gd cX8_safest 63 (.lreturn) 1 64 := by decide +kernel
theorem dX8_safestAt_0 : gd cX8_safestAt 0 (.aload_n 0) 1 1 := by decide +kernel
theorem dX8_safestAt_1 : gd cX8_safestAt 1 (.iload_n 1) 1 2 := by decide +kernel
theorem dX8_safestAt_2 : gd cX8_safestAt 2 (.iload_n 2) 1 3 := by decide +kernel
theorem dX8_safestAt_3 : gd cX8_safestAt 3 (.iload_n 3) 1 4 := by decide +kernel
theorem dX8_safestAt_4 : gd cX8_safestAt 4 (.invokevirtual 184) 3 7 := by decide +kernel
theorem dX8_safestAt_7 : gd cX8_safestAt 7 (.istore 5) 2 9 := by decide +kernel
theorem dX8_safestAt_9 : gd cX8_safestAt 9 (.iload 5) 2 11 := by decide +kernel
theorem dX8_safestAt_11 : gb cX8_safestAt 11 (.ifCond .ne 12) (12) 14 23 := by decide +kernel
theorem dX8_safestAt_14 : gd cX8_safestAt 14 (.aload_n 0) 1 15 := by decide +kernel
theorem dX8_safestAt_15 : gd cX8_safestAt 15 (.iload 4) 2 17 := by decide +kernel
theorem dX8_safestAt_17 : gd cX8_safestAt 17 (.invokevirtual 178) 3 20 := by decide +kernel
theorem dX8_safestAt_20 : gb cX8_safestAt 20 (.goto 9) (9) 23 29 := by decide +kernel
theorem dX8_safestAt_23 : gd cX8_safestAt 23 (.aload_n 0) 1 24 := by decide +kernel
theorem dX8_safestAt_24 : gd cX8_safestAt 24 (.iload 5) 2 26 := by decide +kernel
theorem dX8_safestAt_26 : gd cX8_safestAt 26 (.invokevirtual 86) 3 29 := by decide +kernel
theorem dX8_safestAt_29 : gd cX8_safestAt 29 (.ireturn) 1 30 := by decide +kernel
theorem dX8_sent_0 : gd cX8_sent 0 (.aload_n 0) 1 1 := by decide +kernel
theorem dX8_sent_1 : gd cX8_sent 1 (.iload_n 1) 1 2 := by decide +kernel
theorem dX8_sent_2 : gd cX8_sent 2 (.invokevirtual 197) 3 5 := by decide +kernel
theorem dX8_sent_5 : gb cX8_sent 5 (.ifCond .ne 9) (9) 8 14 := by decide +kernel
theorem dX8_sent_8 : gd cX8_sent 8 (.aload_n 0) 1 9 := by decide +kernel
theorem dX8_sent_9 : decode cX8_sent 9 = .ok (.iconst 1, 1) ∧ 9 + 1 = 10 ∧ Int32.ofInt (1) = (1) := by decide +kernel
theorem dX8_sent_10 : gd cX8_sent 10 (.invokevirtual 86) 3 13 := by decide +kernel
theorem dX8_sent_13 : gd cX8_sent 13 (.ireturn) 1 14 := by decide +kernel
theorem dX8_sent_14 : gd cX8_sent 14 (.iload_n 2) 1 15 := by decide +kernel
theorem dX8_sent_15 : gsw cX8_sent 15 (99) (0) (3) #[29, 43, 57, 71] 29 [44, 58, 72, 86] 114 := by unfold gsw; decide +kernel
theorem dX8_sent_44 : gd cX8_sent 44 (.aload_n 0) 1 45 := by decide +kernel
theorem dX8_sent_45 : gd cX8_sent 45 (.aload_n 0) 1 46 := by decide +kernel
theorem dX8_sent_46 : gd cX8_sent 46 (.getfield 19) 3 49 := by decide +kernel
theorem dX8_sent_49 : gd cX8_sent 49 (.getfield 200) 3 52 := by decide +kernel
theorem dX8_sent_52 : gd cX8_sent 52 (.iload_n 1) 1 53 := by decide +kernel
theorem dX8_sent_53 : gd cX8_sent 53 (.iaload) 1 54 := by decide +kernel
theorem dX8_sent_54 : gd cX8_sent 54 (.invokevirtual 107) 3 57 := by decide +kernel
theorem dX8_sent_57 : gd cX8_sent 57 (.ireturn) 1 58 := by decide +kernel
theorem dX8_sent_58 : gd cX8_sent 58 (.aload_n 0) 1 59 := by decide +kernel
theorem dX8_sent_59 : gd cX8_sent 59 (.aload_n 0) 1 60 := by decide +kernel
theorem dX8_sent_60 : gd cX8_sent 60 (.getfield 19) 3 63 := by decide +kernel
theorem dX8_sent_63 : gd cX8_sent 63 (.getfield 203) 3 66 := by decide +kernel
theorem dX8_sent_66 : gd cX8_sent 66 (.iload_n 1) 1 67 := by decide +kernel
theorem dX8_sent_67 : gd cX8_sent 67 (.iaload) 1 68 := by decide +kernel
theorem dX8_sent_68 : gd cX8_sent 68 (.invokevirtual 107) 3 71 := by decide +kernel
theorem dX8_sent_71 : gd cX8_sent 71 (.ireturn) 1 72 := by decide +kernel
theorem dX8_sent_72 : gd cX8_sent 72 (.aload_n 0) 1 73 := by decide +kernel
theorem dX8_sent_73 : gd cX8_sent 73 (.aload_n 0) 1 74 := by decide +kernel
theorem dX8_sent_74 : gd cX8_sent 74 (.getfield 19) 3 77 := by decide +kernel
theorem dX8_sent_77 : gd cX8_sent 77 (.getfield 206) 3 80 := by decide +kernel
theorem dX8_sent_80 : gd cX8_sent 80 (.iload_n 1) 1 81 := by decide +kernel
theorem dX8_sent_81 : gd cX8_sent 81 (.iaload) 1 82 := by decide +kernel
theorem dX8_sent_82 : gd cX8_sent 82 (.invokevirtual 107) 3 85 := by decide +kernel
theorem dX8_sent_85 : gd cX8_sent 85 (.ireturn) 1 86 := by decide +kernel
theorem dX8_sent_86 : gd cX8_sent 86 (.aload_n 0) 1 87 := by decide +kernel
theorem dX8_sent_87 : gd cX8_sent 87 (.aload_n 0) 1 88 := by decide +kernel
theorem dX8_sent_88 : gd cX8_sent 88 (.aload_n 0) 1 89 := by decide +kernel
theorem dX8_sent_89 : gd cX8_sent 89 (.getfield 19) 3 92 := by decide +kernel
theorem dX8_sent_92 : gd cX8_sent 92 (.getfield 203) 3 95 := by decide +kernel
theorem dX8_sent_95 : gd cX8_sent 95 (.iload_n 1) 1 96 := by decide +kernel
theorem dX8_sent_96 : gd cX8_sent 96 (.iaload) 1 97 := by decide +kernel
theorem dX8_sent_97 : gd cX8_sent 97 (.aload_n 0) 1 98 := by decide +kernel
theorem dX8_sent_98 : gd cX8_sent 98 (.getfield 19) 3 101 := by decide +kernel
theorem dX8_sent_101 : gd cX8_sent 101 (.getfield 206) 3 104 := by decide +kernel
theorem dX8_sent_104 : gd cX8_sent 104 (.iload_n 1) 1 105 := by decide +kernel
theorem dX8_sent_105 : gd cX8_sent 105 (.iaload) 1 106 := by decide +kernel
theorem dX8_sent_106 : decode cX8_sent 106 = .ok (.iconst 0, 1) ∧ 106 + 1 = 107 ∧ Int32.ofInt (0) = (0) := by decide +kernel
theorem dX8_sent_107 : gd cX8_sent 107 (.invokevirtual 170) 3 110 := by decide +kernel
theorem dX8_sent_110 : gd cX8_sent 110 (.invokevirtual 107) 3 113 := by decide +kernel
theorem dX8_sent_113 : gd cX8_sent 113 (.ireturn) 1 114 := by decide +kernel
theorem dX8_sent_114 : gd cX8_sent 114 (.aload_n 0) 1 115 := by decide +kernel
theorem dX8_sent_115 : decode cX8_sent 115 = .ok (.iconst 1, 1) ∧ 115 + 1 = 116 ∧ Int32.ofInt (1) = (1) := by decide +kernel
theorem dX8_sent_116 : gd cX8_sent 116 (.invokevirtual 86) 3 119 := by decide +kernel
theorem dX8_sent_119 : gd cX8_sent 119 (.ireturn) 1 120 := by decide +kernel
theorem dX8_readers_0 : gd cX8_readers 0 (.aload_n 0) 1 1 := by decide +kernel
theorem dX8_readers_1 : gd cX8_readers 1 (.iload_n 1) 1 2 := by decide +kernel
theorem dX8_readers_2 : gd cX8_readers 2 (.invokevirtual 197) 3 5 := by decide +kernel
theorem dX8_readers_5 : gb cX8_readers 5 (.ifCond .eq 15) (15) 8 20 := by decide +kernel
theorem dX8_readers_8 : gd cX8_readers 8 (.aload_n 0) 1 9 := by decide +kernel
theorem dX8_readers_9 : gd cX8_readers 9 (.aload_n 0) 1 10 := by decide +kernel
theorem dX8_readers_10 : gd cX8_readers 10 (.iload_n 1) 1 11 := by decide +kernel
theorem dX8_readers_11 : gd cX8_readers 11 (.invokevirtual 209) 3 14 := by decide +kernel
theorem dX8_readers_14 : gd cX8_readers 14 (.invokevirtual 107) 3 17 := by decide +kernel
theorem dX8_readers_17 : gb cX8_readers 17 (.goto 8) (8) 20 25 := by decide +kernel
theorem dX8_readers_20 : gd cX8_readers 20 (.aload_n 0) 1 21 := by decide +kernel
theorem dX8_readers_21 : decode cX8_readers 21 = .ok (.iconst 1, 1) ∧ 21 + 1 = 22 ∧ Int32.ofInt (1) = (1) := by decide +kernel
theorem dX8_readers_22 : gd cX8_readers 22 (.invokevirtual 86) 3 25 := by decide +kernel
theorem dX8_readers_25 : gd cX8_readers 25 (.ireturn) 1 26 := by decide +kernel
theorem dX8_overheard_0 : gd cX8_overheard 0 (.aload_n 0) 1 1 := by decide +kernel
theorem dX8_overheard_1 : gd cX8_overheard 1 (.iload_n 1) 1 2 := by decide +kernel
theorem dX8_overheard_2 : gd cX8_overheard 2 (.invokevirtual 197) 3 5 := by decide +kernel
theorem dX8_overheard_5 : gb cX8_overheard 5 (.ifCond .ne 9) (9) 8 14 := by decide +kernel
theorem dX8_overheard_8 : gd cX8_overheard 8 (.aload_n 0) 1 9 := by decide +kernel
theorem dX8_overheard_9 : decode cX8_overheard 9 = .ok (.iconst 1, 1) ∧ 9 + 1 = 10 ∧ Int32.ofInt (1) = (1) := by decide +kernel
theorem dX8_overheard_10 : gd cX8_overheard 10 (.invokevirtual 86) 3 13 := by decide +kernel
theorem dX8_overheard_13 : gd cX8_overheard 13 (.ireturn) 1 14 := by decide +kernel
theorem dX8_overheard_14 : gd cX8_overheard 14 (.aload_n 0) 1 15 := by decide +kernel
theorem dX8_overheard_15 : gd cX8_overheard 15 (.iload_n 1) 1 16 := by decide +kernel
theorem dX8_overheard_16 : gd cX8_overheard 16 (.invokevirtual 209) 3 19 := by decide +kernel
theorem dX8_overheard_19 : gd cX8_overheard 19 (.istore_n 2) 1 20 := by decide +kernel
theorem dX8_overheard_20 : decode cX8_overheard 20 = .ok (.iconst 0, 1) ∧ 20 + 1 = 21 ∧ Int32.ofInt (0) = (0) := by decide +kernel
theorem dX8_overheard_21 : gd cX8_overheard 21 (.istore_n 3) 1 22 := by decide +kernel
theorem dX8_overheard_22 : decode cX8_overheard 22 = .ok (.iconst 0, 1) ∧ 22 + 1 = 23 ∧ Int32.ofInt (0) = (0) := by decide +kernel
theorem dX8_overheard_23 : gd cX8_overheard 23 (.istore 4) 2 25 := by decide +kernel
theorem dX8_overheard_25 : gd cX8_overheard 25 (.iload 4) 2 27 := by decide +kernel
theorem dX8_overheard_27 : gd cX8_overheard 27 (.aload_n 0) 1 28 := by decide +kernel
theorem dX8_overheard_28 : gd cX8_overheard 28 (.getfield 19) 3 31 := by decide +kernel
theorem dX8_overheard_31 : gd cX8_overheard 31 (.getfield 103) 3 34 := by decide +kernel
theorem dX8_overheard_34 : decode cX8_overheard 34 = .ok (.iconst 4, 1) ∧ 34 + 1 = 35 ∧ Int32.ofInt (4) = (4) := by decide +kernel
theorem dX8_overheard_35 : gd cX8_overheard 35 (.iaload) 1 36 := by decide +kernel
theorem dX8_overheard_36 : gb cX8_overheard 36 (.if_icmp .ge 49) (49) 39 85 := by decide +kernel
theorem dX8_overheard_39 : gd cX8_overheard 39 (.iload_n 2) 1 40 := by decide +kernel
theorem dX8_overheard_40 : gd cX8_overheard 40 (.iload 4) 2 42 := by decide +kernel
theorem dX8_overheard_42 : gd cX8_overheard 42 (.ishr) 1 43 := by decide +kernel
theorem dX8_overheard_43 : decode cX8_overheard 43 = .ok (.iconst 1, 1) ∧ 43 + 1 = 44 ∧ Int32.ofInt (1) = (1) := by decide +kernel
theorem dX8_overheard_44 : gd cX8_overheard 44 (.iand) 1 45 := by decide +kernel
theorem dX8_overheard_45 : gb cX8_overheard 45 (.ifCond .eq 34) (34) 48 79 := by decide +kernel
theorem dX8_overheard_48 : gd cX8_overheard 48 (.iload_n 3) 1 49 := by decide +kernel
theorem dX8_overheard_49 : decode cX8_overheard 49 = .ok (.iconst 1, 1) ∧ 49 + 1 = 50 ∧ Int32.ofInt (1) = (1) := by decide +kernel
theorem dX8_overheard_50 : gd cX8_overheard 50 (.aload_n 0) 1 51 := by decide +kernel
theorem dX8_overheard_51 : gd cX8_overheard 51 (.getfield 40) 3 54 := by decide +kernel
theorem dX8_overheard_54 : gd cX8_overheard 54 (.aload_n 0) 1 55 := by decide +kernel
theorem dX8_overheard_55 : gd cX8_overheard 55 (.getfield 19) 3 58 := by decide +kernel
theorem dX8_overheard_58 : gd cX8_overheard 58 (.getfield 200) 3 61 := by decide +kernel
theorem dX8_overheard_61 : gd cX8_overheard 61 (.iload_n 1) 1 62 := by decide +kernel
theorem dX8_overheard_62 : gd cX8_overheard 62 (.iaload) 1 63 := by decide +kernel
theorem dX8_overheard_63 : gd cX8_overheard 63 (.aload_n 0) 1 64 := by decide +kernel
theorem dX8_overheard_64 : gd cX8_overheard 64 (.getfield 19) 3 67 := by decide +kernel
theorem dX8_overheard_67 : gd cX8_overheard 67 (.getfield 212) 3 70 := by decide +kernel
theorem dX8_overheard_70 : gd cX8_overheard 70 (.iload 4) 2 72 := by decide +kernel
theorem dX8_overheard_72 : gd cX8_overheard 72 (.iaload) 1 73 := by decide +kernel
theorem dX8_overheard_73 : gd cX8_overheard 73 (.invokevirtual 152) 3 76 := by decide +kernel
theorem dX8_overheard_76 : gd cX8_overheard 76 (.ishl) 1 77 := by decide +kernel
theorem dX8_overheard_77 : gd cX8_overheard 77 (.ior) 1 78 := by decide +kernel
theorem dX8_overheard_78 : gd cX8_overheard 78 (.istore_n 3) 1 79 := by decide +kernel
theorem dX8_overheard_79 : decode cX8_overheard 79 = .ok (.iinc 4 1, 3) ∧ 79 + 3 = 82 ∧ Int32.ofInt (1) = (1) := by decide +kernel
theorem dX8_overheard_82 : gb cX8_overheard 82 (.goto (-57)) (-57) 85 25 := by decide +kernel
theorem dX8_overheard_85 : gd cX8_overheard 85 (.aload_n 0) 1 86 := by decide +kernel
theorem dX8_overheard_86 : gd cX8_overheard 86 (.iload_n 3) 1 87 := by decide +kernel
theorem dX8_overheard_87 : gd cX8_overheard 87 (.invokevirtual 107) 3 90 := by decide +kernel
theorem dX8_overheard_90 : gd cX8_overheard 90 (.ireturn) 1 91 := by decide +kernel
theorem dX8_unread_0 : gd cX8_unread 0 (.aload_n 0) 1 1 := by decide +kernel
theorem dX8_unread_1 : gd cX8_unread 1 (.invokevirtual 215) 3 4 := by decide +kernel
theorem dX8_unread_4 : gb cX8_unread 4 (.ifCond .eq 9) (9) 7 13 := by decide +kernel
theorem dX8_unread_7 : gd cX8_unread 7 (.aload_n 0) 1 8 := by decide +kernel
theorem dX8_unread_8 : decode cX8_unread 8 = .ok (.iconst 1, 1) ∧ 8 + 1 = 9 ∧ Int32.ofInt (1) = (1) := by decide +kernel
theorem dX8_unread_9 : gd cX8_unread 9 (.invokevirtual 86) 3 12 := by decide +kernel
theorem dX8_unread_12 : gd cX8_unread 12 (.ireturn) 1 13 := by decide +kernel
theorem dX8_unread_13 : decode cX8_unread 13 = .ok (.iconst 0, 1) ∧ 13 + 1 = 14 ∧ Int32.ofInt (0) = (0) := by decide +kernel
theorem dX8_unread_14 : gd cX8_unread 14 (.istore_n 1) 1 15 := by decide +kernel
theorem dX8_unread_15 : decode cX8_unread 15 = .ok (.iconst 0, 1) ∧ 15 + 1 = 16 ∧ Int32.ofInt (0) = (0) := by decide +kernel
theorem dX8_unread_16 : gd cX8_unread 16 (.istore_n 2) 1 17 := by decide +kernel
theorem dX8_unread_17 : gd cX8_unread 17 (.iload_n 2) 1 18 := by decide +kernel
theorem dX8_unread_18 : gd cX8_unread 18 (.aload_n 0) 1 19 := by decide +kernel
theorem dX8_unread_19 : gd cX8_unread 19 (.getfield 19) 3 22 := by decide +kernel
theorem dX8_unread_22 : gd cX8_unread 22 (.getfield 103) 3 25 := by decide +kernel
theorem dX8_unread_25 : decode cX8_unread 25 = .ok (.bipush 7, 2) ∧ 25 + 2 = 27 ∧ (Int8.ofInt (7)).toInt32 = (7) := by decide +kernel
theorem dX8_unread_27 : gd cX8_unread 27 (.iaload) 1 28 := by decide +kernel
theorem dX8_unread_28 : gb cX8_unread 28 (.if_icmp .ge 23) (23) 31 51 := by decide +kernel
theorem dX8_unread_31 : gd cX8_unread 31 (.aload_n 0) 1 32 := by decide +kernel
theorem dX8_unread_32 : gd cX8_unread 32 (.iload_n 2) 1 33 := by decide +kernel
theorem dX8_unread_33 : gd cX8_unread 33 (.invokevirtual 209) 3 36 := by decide +kernel
theorem dX8_unread_36 : gb cX8_unread 36 (.ifCond .ne 9) (9) 39 45 := by decide +kernel
theorem dX8_unread_39 : gd cX8_unread 39 (.iload_n 1) 1 40 := by decide +kernel
theorem dX8_unread_40 : decode cX8_unread 40 = .ok (.iconst 1, 1) ∧ 40 + 1 = 41 ∧ Int32.ofInt (1) = (1) := by decide +kernel
theorem dX8_unread_41 : gd cX8_unread 41 (.iload_n 2) 1 42 := by decide +kernel
theorem dX8_unread_42 : gd cX8_unread 42 (.ishl) 1 43 := by decide +kernel
theorem dX8_unread_43 : gd cX8_unread 43 (.ior) 1 44 := by decide +kernel
theorem dX8_unread_44 : gd cX8_unread 44 (.istore_n 1) 1 45 := by decide +kernel
theorem dX8_unread_45 : decode cX8_unread 45 = .ok (.iinc 2 1, 3) ∧ 45 + 3 = 48 ∧ Int32.ofInt (1) = (1) := by decide +kernel
theorem dX8_unread_48 : gb cX8_unread 48 (.goto (-31)) (-31) 51 17 := by decide +kernel
theorem dX8_unread_51 : gd cX8_unread 51 (.aload_n 0) 1 52 := by decide +kernel
theorem dX8_unread_52 : gd cX8_unread 52 (.iload_n 1) 1 53 := by decide +kernel
theorem dX8_unread_53 : gd cX8_unread 53 (.invokevirtual 107) 3 56 := by decide +kernel
theorem dX8_unread_56 : gd cX8_unread 56 (.ireturn) 1 57 := by decide +kernel
theorem dX8_made_0 : gd cX8_made 0 (.aload_n 0) 1 1 := by decide +kernel
theorem dX8_made_1 : gd cX8_made 1 (.iload_n 1) 1 2 := by decide +kernel
theorem dX8_made_2 : gd cX8_made 2 (.iload_n 2) 1 3 := by decide +kernel
theorem dX8_made_3 : gd cX8_made 3 (.iload_n 3) 1 4 := by decide +kernel
theorem dX8_made_4 : gd cX8_made 4 (.iload 4) 2 6 := by decide +kernel
theorem dX8_made_6 : gd cX8_made 6 (.iload 5) 2 8 := by decide +kernel
theorem dX8_made_8 : gd cX8_made 8 (.invokevirtual 218) 3 11 := by decide +kernel
theorem dX8_made_11 : gd cX8_made 11 (.istore 6) 2 13 := by decide +kernel
theorem dX8_made_13 : gd cX8_made 13 (.iload 6) 2 15 := by decide +kernel
theorem dX8_made_15 : decode cX8_made 15 = .ok (.iconst 1, 1) ∧ 15 + 1 = 16 ∧ Int32.ofInt (1) = (1) := by decide +kernel
theorem dX8_made_16 : gb cX8_made 16 (.if_icmp .ne 9) (9) 19 25 := by decide +kernel
theorem dX8_made_19 : gd cX8_made 19 (.aload_n 0) 1 20 := by decide +kernel
theorem dX8_made_20 : decode cX8_made 20 = .ok (.iconst 1, 1) ∧ 20 + 1 = 21 ∧ Int32.ofInt (1) = (1) := by decide +kernel
theorem dX8_made_21 : gd cX8_made 21 (.invokevirtual 86) 3 24 := by decide +kernel
theorem dX8_made_24 : gd cX8_made 24 (.ireturn) 1 25 := by decide +kernel
theorem dX8_made_25 : gd cX8_made 25 (.aload_n 0) 1 26 := by decide +kernel
theorem dX8_made_26 : gd cX8_made 26 (.iload 6) 2 28 := by decide +kernel
theorem dX8_made_28 : gb cX8_made 28 (.ifCond .ne 13) (13) 31 41 := by decide +kernel
theorem dX8_made_31 : gd cX8_made 31 (.aload_n 0) 1 32 := by decide +kernel
theorem dX8_made_32 : gd cX8_made 32 (.getfield 54) 3 35 := by decide +kernel
theorem dX8_made_35 : gd cX8_made 35 (.invokevirtual 222) 3 38 := by decide +kernel
theorem dX8_made_38 : gb cX8_made 38 (.goto 5) (5) 41 43 := by decide +kernel
theorem dX8_made_41 : decode cX8_made 41 = .ok (.bipush (-2), 2) ∧ 41 + 2 = 43 ∧ (Int8.ofInt (-2)).toInt32 = (-2) := by decide +kernel
theorem dX8_made_43 : gd cX8_made 43 (.invokevirtual 107) 3 46 := by decide +kernel
theorem dX8_made_46 : gd cX8_made 46 (.ireturn) 1 47 := by decide +kernel
theorem dX8_madeOf_0 : gd cX8_madeOf 0 (.aload_n 0) 1 1 := by decide +kernel
theorem dX8_madeOf_1 : gd cX8_madeOf 1 (.iload_n 1) 1 2 := by decide +kernel
theorem dX8_madeOf_2 : gd cX8_madeOf 2 (.iload_n 2) 1 3 := by decide +kernel
theorem dX8_madeOf_3 : gd cX8_madeOf 3 (.iload_n 3) 1 4 := by decide +kernel
theorem dX8_madeOf_4 : gd cX8_madeOf 4 (.iload 4) 2 6 := by decide +kernel
theorem dX8_madeOf_6 : gd cX8_madeOf 6 (.iload 5) 2 8 := by decide +kernel
theorem dX8_madeOf_8 : gd cX8_madeOf 8 (.invokevirtual 218) 3 11 := by decide +kernel
theorem dX8_madeOf_11 : gd cX8_madeOf 11 (.istore 7) 2 13 := by decide +kernel
theorem dX8_madeOf_13 : gd cX8_madeOf 13 (.iload 7) 2 15 := by decide +kernel
theorem dX8_madeOf_15 : gb cX8_madeOf 15 (.ifCond .eq 10) (10) 18 25 := by decide +kernel
theorem dX8_madeOf_18 : gd cX8_madeOf 18 (.aload_n 0) 1 19 := by decide +kernel
theorem dX8_madeOf_19 : gd cX8_madeOf 19 (.iload 7) 2 21 := by decide +kernel
theorem dX8_madeOf_21 : gd cX8_madeOf 21 (.invokevirtual 86) 3 24 := by decide +kernel
theorem dX8_madeOf_24 : gd cX8_madeOf 24 (.ireturn) 1 25 := by decide +kernel
theorem dX8_madeOf_25 : gd cX8_madeOf 25 (.aload_n 0) 1 26 := by decide +kernel
theorem dX8_madeOf_26 : gd cX8_madeOf 26 (.iload 6) 2 28 := by decide +kernel
theorem dX8_madeOf_28 : gb cX8_madeOf 28 (.ifCond .eq 13) (13) 31 41 := by decide +kernel
theorem dX8_madeOf_31 : gd cX8_madeOf 31 (.aload_n 0) 1 32 := by decide +kernel
theorem dX8_madeOf_32 : gd cX8_madeOf 32 (.getfield 54) 3 35 := by decide +kernel
theorem dX8_madeOf_35 : gd cX8_madeOf 35 (.getfield 225) 3 38 := by decide +kernel
theorem dX8_madeOf_38 : gb cX8_madeOf 38 (.goto 10) (10) 41 48 := by decide +kernel
theorem dX8_madeOf_41 : gd cX8_madeOf 41 (.aload_n 0) 1 42 := by decide +kernel
theorem dX8_madeOf_42 : gd cX8_madeOf 42 (.getfield 54) 3 45 := by decide +kernel
theorem dX8_madeOf_45 : gd cX8_madeOf 45 (.getfield 228) 3 48 := by decide +kernel
theorem dX8_madeOf_48 : gd cX8_madeOf 48 (.invokevirtual 107) 3 51 := by decide +kernel
theorem dX8_madeOf_51 : gd cX8_madeOf 51 (.ireturn) 1 52 := by decide +kernel
theorem dX8_putty_0 : gd cX8_putty 0 (.aload_n 0) 1 1 := by decide +kernel
theorem dX8_putty_1 : gd cX8_putty 1 (.iload_n 1) 1 2 := by decide +kernel
theorem dX8_putty_2 : gd cX8_putty 2 (.aload_n 0) 1 3 := by decide +kernel
theorem dX8_putty_3 : gd cX8_putty 3 (.iload_n 2) 1 4 := by decide +kernel
theorem dX8_putty_4 : gd cX8_putty 4 (.invokevirtual 141) 3 7 := by decide +kernel
theorem dX8_putty_7 : gd cX8_putty 7 (.invokevirtual 144) 3 10 := by decide +kernel
theorem dX8_putty_10 : gd cX8_putty 10 (.istore_n 3) 1 11 := by decide +kernel
theorem dX8_putty_11 : gd cX8_putty 11 (.iload_n 3) 1 12 := by decide +kernel
theorem dX8_putty_12 : gb cX8_putty 12 (.ifCond .eq 9) (9) 15 21 := by decide +kernel
theorem dX8_putty_15 : gd cX8_putty 15 (.aload_n 0) 1 16 := by decide +kernel
theorem dX8_putty_16 : gd cX8_putty 16 (.iload_n 3) 1 17 := by decide +kernel
theorem dX8_putty_17 : gd cX8_putty 17 (.invokevirtual 86) 3 20 := by decide +kernel
theorem dX8_putty_20 : gd cX8_putty 20 (.ireturn) 1 21 := by decide +kernel
theorem dX8_putty_21 : gd cX8_putty 21 (.aload_n 0) 1 22 := by decide +kernel
theorem dX8_putty_22 : gd cX8_putty 22 (.getfield 40) 3 25 := by decide +kernel
theorem dX8_putty_25 : gd cX8_putty 25 (.iload_n 1) 1 26 := by decide +kernel
theorem dX8_putty_26 : gd cX8_putty 26 (.iload_n 2) 1 27 := by decide +kernel
theorem dX8_putty_27 : gd cX8_putty 27 (.invokevirtual 231) 3 30 := by decide +kernel
theorem dX8_putty_30 : gd cX8_putty 30 (.istore 4) 2 32 := by decide +kernel
theorem dX8_putty_32 : gd cX8_putty 32 (.aload_n 0) 1 33 := by decide +kernel
theorem dX8_putty_33 : gd cX8_putty 33 (.iload 4) 2 35 := by decide +kernel
theorem dX8_putty_35 : decode cX8_putty 35 = .ok (.bipush (-2), 2) ∧ 35 + 2 = 37 ∧ (Int8.ofInt (-2)).toInt32 = (-2) := by decide +kernel
theorem dX8_putty_37 : gb cX8_putty 37 (.if_icmp .ne 8) (8) 40 45 := by decide +kernel
theorem dX8_putty_40 : decode cX8_putty 40 = .ok (.bipush (-2), 2) ∧ 40 + 2 = 42 ∧ (Int8.ofInt (-2)).toInt32 = (-2) := by decide +kernel
theorem dX8_putty_42 : gb cX8_putty 42 (.goto 8) (8) 45 50 := by decide +kernel
theorem dX8_putty_45 : gd cX8_putty 45 (.iload 4) 2 47 := by decide +kernel
theorem dX8_putty_47 : gd cX8_putty 47 (.invokestatic 234) 3 50 := by decide +kernel
theorem dX8_putty_50 : gd cX8_putty 50 (.invokevirtual 107) 3 53 := by decide +kernel
theorem dX8_putty_53 : gd cX8_putty 53 (.ireturn) 1 54 := by decide +kernel
theorem dX8_puttyOf_0 : gd cX8_puttyOf 0 (.aload_n 0) 1 1 := by decide +kernel
theorem dX8_puttyOf_1 : gd cX8_puttyOf 1 (.iload_n 1) 1 2 := by decide +kernel
theorem dX8_puttyOf_2 : gd cX8_puttyOf 2 (.aload_n 0) 1 3 := by decide +kernel
theorem dX8_puttyOf_3 : gd cX8_puttyOf 3 (.iload_n 2) 1 4 := by decide +kernel
theorem dX8_puttyOf_4 : gd cX8_puttyOf 4 (.invokevirtual 141) 3 7 := by decide +kernel
theorem dX8_puttyOf_7 : gd cX8_puttyOf 7 (.invokevirtual 144) 3 10 := by decide +kernel
theorem dX8_puttyOf_10 : gd cX8_puttyOf 10 (.istore_n 3) 1 11 := by decide +kernel
theorem dX8_puttyOf_11 : gd cX8_puttyOf 11 (.iload_n 3) 1 12 := by decide +kernel
theorem dX8_puttyOf_12 : gb cX8_puttyOf 12 (.ifCond .eq 9) (9) 15 21 := by decide +kernel
theorem dX8_puttyOf_15 : gd cX8_puttyOf 15 (.aload_n 0) 1 16 := by decide +kernel
theorem dX8_puttyOf_16 : gd cX8_puttyOf 16 (.iload_n 3) 1 17 := by decide +kernel
theorem dX8_puttyOf_17 : gd cX8_puttyOf 17 (.invokevirtual 86) 3 20 := by decide +kernel
theorem dX8_puttyOf_20 : gd cX8_puttyOf 20 (.ireturn) 1 21 := by decide +kernel
theorem dX8_puttyOf_21 : gd cX8_puttyOf 21 (.aload_n 0) 1 22 := by decide +kernel
theorem dX8_puttyOf_22 : gd cX8_puttyOf 22 (.getfield 40) 3 25 := by decide +kernel
theorem dX8_puttyOf_25 : gd cX8_puttyOf 25 (.iload_n 1) 1 26 := by decide +kernel
theorem dX8_puttyOf_26 : gd cX8_puttyOf 26 (.iload_n 2) 1 27 := by decide +kernel
theorem dX8_puttyOf_27 : gd cX8_puttyOf 27 (.invokevirtual 231) 3 30 := by decide +kernel
theorem dX8_puttyOf_30 : gd cX8_puttyOf 30 (.istore 4) 2 32 := by decide +kernel
theorem dX8_puttyOf_32 : gd cX8_puttyOf 32 (.aload_n 0) 1 33 := by decide +kernel
theorem dX8_puttyOf_33 : gd cX8_puttyOf 33 (.iload 4) 2 35 := by decide +kernel
theorem dX8_puttyOf_35 : decode cX8_puttyOf 35 = .ok (.bipush (-2), 2) ∧ 35 + 2 = 37 ∧ (Int8.ofInt (-2)).toInt32 = (-2) := by decide +kernel
theorem dX8_puttyOf_37 : gb cX8_puttyOf 37 (.if_icmp .ne 7) (7) 40 44 := by decide +kernel
theorem dX8_puttyOf_40 : decode cX8_puttyOf 40 = .ok (.iconst 0, 1) ∧ 40 + 1 = 41 ∧ Int32.ofInt (0) = (0) := by decide +kernel
theorem dX8_puttyOf_41 : gb cX8_puttyOf 41 (.goto 5) (5) 44 46 := by decide +kernel
theorem dX8_puttyOf_44 : gd cX8_puttyOf 44 (.iload 4) 2 46 := by decide +kernel
theorem dX8_puttyOf_46 : gd cX8_puttyOf 46 (.invokevirtual 107) 3 49 := by decide +kernel
theorem dX8_puttyOf_49 : gd cX8_puttyOf 49 (.ireturn) 1 50 := by decide +kernel
theorem dX8_scratches_0 : gd cX8_scratches 0 (.aload_n 0) 1 1 := by decide +kernel
theorem dX8_scratches_1 : gd cX8_scratches 1 (.iload_n 1) 1 2 := by decide +kernel
theorem dX8_scratches_2 : gd cX8_scratches 2 (.aload_n 0) 1 3 := by decide +kernel
theorem dX8_scratches_3 : gd cX8_scratches 3 (.iload_n 2) 1 4 := by decide +kernel
theorem dX8_scratches_4 : gd cX8_scratches 4 (.invokevirtual 141) 3 7 := by decide +kernel
theorem dX8_scratches_7 : gb cX8_scratches 7 (.ifCond .eq 15) (15) 10 22 := by decide +kernel
theorem dX8_scratches_10 : gd cX8_scratches 10 (.aload_n 0) 1 11 := by decide +kernel
theorem dX8_scratches_11 : gd cX8_scratches 11 (.iload_n 3) 1 12 := by decide +kernel
theorem dX8_scratches_12 : gd cX8_scratches 12 (.invokevirtual 129) 3 15 := by decide +kernel
theorem dX8_scratches_15 : gb cX8_scratches 15 (.ifCond .eq 7) (7) 18 22 := by decide +kernel
theorem dX8_scratches_18 : decode cX8_scratches 18 = .ok (.iconst 1, 1) ∧ 18 + 1 = 19 ∧ Int32.ofInt (1) = (1) := by decide +kernel
theorem dX8_scratches_19 : gb cX8_scratches 19 (.goto 4) (4) 22 23 := by decide +kernel
theorem dX8_scratches_22 : decode cX8_scratches 22 = .ok (.iconst 0, 1) ∧ 22 + 1 = 23 ∧ Int32.ofInt (0) = (0) := by decide +kernel
theorem dX8_scratches_23 : gd cX8_scratches 23 (.invokevirtual 144) 3 26 := by decide +kernel
theorem dX8_scratches_26 : gd cX8_scratches 26 (.istore 4) 2 28 := by decide +kernel
theorem dX8_scratches_28 : gd cX8_scratches 28 (.iload 4) 2 30 := by decide +kernel
theorem dX8_scratches_30 : gb cX8_scratches 30 (.ifCond .ne 20) (20) 33 50 := by decide +kernel
theorem dX8_scratches_33 : gd cX8_scratches 33 (.aload_n 0) 1 34 := by decide +kernel
theorem dX8_scratches_34 : gd cX8_scratches 34 (.aload_n 0) 1 35 := by decide +kernel
theorem dX8_scratches_35 : gd cX8_scratches 35 (.getfield 40) 3 38 := by decide +kernel
theorem dX8_scratches_38 : gd cX8_scratches 38 (.iload_n 1) 1 39 := by decide +kernel
theorem dX8_scratches_39 : gd cX8_scratches 39 (.iload_n 2) 1 40 := by decide +kernel
theorem dX8_scratches_40 : gd cX8_scratches 40 (.iload_n 3) 1 41 := by decide +kernel
theorem dX8_scratches_41 : gd cX8_scratches 41 (.invokevirtual 239) 3 44 := by decide +kernel
theorem dX8_scratches_44 : gd cX8_scratches 44 (.invokevirtual 107) 3 47 := by decide +kernel
theorem dX8_scratches_47 : gb cX8_scratches 47 (.goto 9) (9) 50 56 := by decide +kernel
theorem dX8_scratches_50 : gd cX8_scratches 50 (.aload_n 0) 1 51 := by decide +kernel
theorem dX8_scratches_51 : gd cX8_scratches 51 (.iload 4) 2 53 := by decide +kernel
theorem dX8_scratches_53 : gd cX8_scratches 53 (.invokevirtual 86) 3 56 := by decide +kernel
theorem dX8_scratches_56 : gd cX8_scratches 56 (.ireturn) 1 57 := by decide +kernel
theorem dX8_could_0 : gd cX8_could 0 (.aload_n 0) 1 1 := by decide +kernel
theorem dX8_could_1 : gd cX8_could 1 (.iload_n 1) 1 2 := by decide +kernel
theorem dX8_could_2 : gd cX8_could 2 (.aload_n 0) 1 3 := by decide +kernel
theorem dX8_could_3 : gd cX8_could 3 (.iload_n 2) 1 4 := by decide +kernel
theorem dX8_could_4 : gd cX8_could 4 (.invokevirtual 141) 3 7 := by decide +kernel
theorem dX8_could_7 : gd cX8_could 7 (.invokevirtual 144) 3 10 := by decide +kernel
theorem dX8_could_10 : gd cX8_could 10 (.istore_n 3) 1 11 := by decide +kernel
theorem dX8_could_11 : gd cX8_could 11 (.iload_n 3) 1 12 := by decide +kernel
theorem dX8_could_12 : gb cX8_could 12 (.ifCond .eq 9) (9) 15 21 := by decide +kernel
theorem dX8_could_15 : gd cX8_could 15 (.aload_n 0) 1 16 := by decide +kernel
theorem dX8_could_16 : gd cX8_could 16 (.iload_n 3) 1 17 := by decide +kernel
theorem dX8_could_17 : gd cX8_could 17 (.invokevirtual 86) 3 20 := by decide +kernel
theorem dX8_could_20 : gd cX8_could 20 (.ireturn) 1 21 := by decide +kernel
theorem dX8_could_21 : decode cX8_could 21 = .ok (.iconst 0, 1) ∧ 21 + 1 = 22 ∧ Int32.ofInt (0) = (0) := by decide +kernel
theorem dX8_could_22 : gd cX8_could 22 (.istore 4) 2 24 := by decide +kernel
theorem dX8_could_24 : decode cX8_could 24 = .ok (.iconst 0, 1) ∧ 24 + 1 = 25 ∧ Int32.ofInt (0) = (0) := by decide +kernel
theorem dX8_could_25 : gd cX8_could 25 (.istore 5) 2 27 := by decide +kernel
theorem dX8_could_27 : gd cX8_could 27 (.iload 5) 2 29 := by decide +kernel
theorem dX8_could_29 : gd cX8_could 29 (.aload_n 0) 1 30 := by decide +kernel
theorem dX8_could_30 : gd cX8_could 30 (.getfield 19) 3 33 := by decide +kernel
theorem dX8_could_33 : gd cX8_could 33 (.getfield 103) 3 36 := by decide +kernel
theorem dX8_could_36 : decode cX8_could 36 = .ok (.iconst 2, 1) ∧ 36 + 1 = 37 ∧ Int32.ofInt (2) = (2) := by decide +kernel
theorem dX8_could_37 : gd cX8_could 37 (.iaload) 1 38 := by decide +kernel
theorem dX8_could_38 : gb cX8_could 38 (.if_icmp .ge 34) (34) 41 72 := by decide +kernel
theorem dX8_could_41 : gd cX8_could 41 (.aload_n 0) 1 42 := by decide +kernel
theorem dX8_could_42 : gd cX8_could 42 (.getfield 40) 3 45 := by decide +kernel
theorem dX8_could_45 : gd cX8_could 45 (.iload_n 1) 1 46 := by decide +kernel
theorem dX8_could_46 : gd cX8_could 46 (.iload_n 2) 1 47 := by decide +kernel
theorem dX8_could_47 : gd cX8_could 47 (.iload 5) 2 49 := by decide +kernel
theorem dX8_could_49 : gd cX8_could 49 (.invokevirtual 239) 3 52 := by decide +kernel
theorem dX8_could_52 : decode cX8_could 52 = .ok (.bipush (-2), 2) ∧ 52 + 2 = 54 ∧ (Int8.ofInt (-2)).toInt32 = (-2) := by decide +kernel
theorem dX8_could_54 : gb cX8_could 54 (.if_icmp .eq 12) (12) 57 66 := by decide +kernel
theorem dX8_could_57 : gd cX8_could 57 (.iload 4) 2 59 := by decide +kernel
theorem dX8_could_59 : decode cX8_could 59 = .ok (.iconst 1, 1) ∧ 59 + 1 = 60 ∧ Int32.ofInt (1) = (1) := by decide +kernel
theorem dX8_could_60 : gd cX8_could 60 (.iload 5) 2 62 := by decide +kernel
theorem dX8_could_62 : gd cX8_could 62 (.ishl) 1 63 := by decide +kernel
theorem dX8_could_63 : gd cX8_could 63 (.ior) 1 64 := by decide +kernel
theorem dX8_could_64 : gd cX8_could 64 (.istore 4) 2 66 := by decide +kernel
theorem dX8_could_66 : decode cX8_could 66 = .ok (.iinc 5 1, 3) ∧ 66 + 3 = 69 ∧ Int32.ofInt (1) = (1) := by decide +kernel
theorem dX8_could_69 : gb cX8_could 69 (.goto (-42)) (-42) 72 27 := by decide +kernel
theorem dX8_could_72 : gd cX8_could 72 (.aload_n 0) 1 73 := by decide +kernel
theorem dX8_could_73 : gd cX8_could 73 (.iload 4) 2 75 := by decide +kernel
theorem dX8_could_75 : gd cX8_could 75 (.invokevirtual 107) 3 78 := by decide +kernel
theorem dX8_could_78 : gd cX8_could 78 (.ireturn) 1 79 := by decide +kernel
theorem dX8_wholes_0 : gd cX8_wholes 0 (.aload_n 0) 1 1 := by decide +kernel
theorem dX8_wholes_1 : gd cX8_wholes 1 (.invokevirtual 215) 3 4 := by decide +kernel
theorem dX8_wholes_4 : gb cX8_wholes 4 (.ifCond .eq 11) (11) 7 15 := by decide +kernel
theorem dX8_wholes_7 : gd cX8_wholes 7 (.aload_n 0) 1 8 := by decide +kernel
theorem dX8_wholes_8 : decode cX8_wholes 8 = .ok (.iconst 1, 1) ∧ 8 + 1 = 9 ∧ Int32.ofInt (1) = (1) := by decide +kernel
theorem dX8_wholes_9 : gd cX8_wholes 9 (.invokevirtual 86) 3 12 := by decide +kernel
theorem dX8_wholes_12 : gb cX8_wholes 12 (.goto 14) (14) 15 26 := by decide +kernel
theorem dX8_wholes_15 : gd cX8_wholes 15 (.aload_n 0) 1 16 := by decide +kernel
theorem dX8_wholes_16 : gd cX8_wholes 16 (.aload_n 0) 1 17 := by decide +kernel
theorem dX8_wholes_17 : gd cX8_wholes 17 (.getfield 19) 3 20 := by decide +kernel
theorem dX8_wholes_20 : gd cX8_wholes 20 (.invokevirtual 242) 3 23 := by decide +kernel
theorem dX8_wholes_23 : gd cX8_wholes 23 (.invokevirtual 107) 3 26 := by decide +kernel
theorem dX8_wholes_26 : gd cX8_wholes 26 (.ireturn) 1 27 := by decide +kernel
theorem dX8_whole_0 : gd cX8_whole 0 (.aload_n 0) 1 1 := by decide +kernel
theorem dX8_whole_1 : gd cX8_whole 1 (.getfield 19) 3 4 := by decide +kernel
theorem dX8_whole_4 : gd cX8_whole 4 (.iload_n 1) 1 5 := by decide +kernel
theorem dX8_whole_5 : gd cX8_whole 5 (.invokevirtual 245) 3 8 := by decide +kernel
theorem dX8_whole_8 : gd cX8_whole 8 (.istore_n 2) 1 9 := by decide +kernel
theorem dX8_whole_9 : gd cX8_whole 9 (.iload_n 2) 1 10 := by decide +kernel
theorem dX8_whole_10 : gb cX8_whole 10 (.ifCond .ne 11) (11) 13 21 := by decide +kernel
theorem dX8_whole_13 : gd cX8_whole 13 (.aload_n 0) 1 14 := by decide +kernel
theorem dX8_whole_14 : decode cX8_whole 14 = .ok (.iconst 1, 1) ∧ 14 + 1 = 15 ∧ Int32.ofInt (1) = (1) := by decide +kernel
theorem dX8_whole_15 : gd cX8_whole 15 (.invokevirtual 86) 3 18 := by decide +kernel
theorem dX8_whole_18 : gb cX8_whole 18 (.goto 8) (8) 21 26 := by decide +kernel
theorem dX8_whole_21 : gd cX8_whole 21 (.aload_n 0) 1 22 := by decide +kernel
theorem dX8_whole_22 : gd cX8_whole 22 (.iload_n 2) 1 23 := by decide +kernel
theorem dX8_whole_23 : gd cX8_whole 23 (.invokevirtual 107) 3 26 := by decide +kernel
theorem dX8_whole_26 : gd cX8_whole 26 (.ireturn) 1 27 := by decide +kernel
theorem dX8_written_0 : gd cX8_written 0 (.aload_n 0) 1 1 := by decide +kernel
theorem dX8_written_1 : gd cX8_written 1 (.getfield 19) 3 4 := by decide +kernel
theorem dX8_written_4 : gd cX8_written 4 (.iload_n 1) 1 5 := by decide +kernel
theorem dX8_written_5 : gd cX8_written 5 (.invokevirtual 245) 3 8 := by decide +kernel
theorem dX8_written_8 : gd cX8_written 8 (.istore_n 2) 1 9 := by decide +kernel
theorem dX8_written_9 : gd cX8_written 9 (.iload_n 2) 1 10 := by decide +kernel
theorem dX8_written_10 : gb cX8_written 10 (.ifCond .ne 11) (11) 13 21 := by decide +kernel
theorem dX8_written_13 : gd cX8_written 13 (.aload_n 0) 1 14 := by decide +kernel
theorem dX8_written_14 : decode cX8_written 14 = .ok (.iconst 1, 1) ∧ 14 + 1 = 15 ∧ Int32.ofInt (1) = (1) := by decide +kernel
theorem dX8_written_15 : gd cX8_written 15 (.invokevirtual 86) 3 18 := by decide +kernel
theorem dX8_written_18 : gb cX8_written 18 (.goto 15) (15) 21 33 := by decide +kernel
theorem dX8_written_21 : gd cX8_written 21 (.aload_n 0) 1 22 := by decide +kernel
theorem dX8_written_22 : gd cX8_written 22 (.aload_n 0) 1 23 := by decide +kernel
theorem dX8_written_23 : gd cX8_written 23 (.getfield 19) 3 26 := by decide +kernel
theorem dX8_written_26 : gd cX8_written 26 (.iload_n 2) 1 27 := by decide +kernel
theorem dX8_written_27 : gd cX8_written 27 (.invokevirtual 248) 3 30 := by decide +kernel
theorem dX8_written_30 : gd cX8_written 30 (.invokevirtual 107) 3 33 := by decide +kernel
theorem dX8_written_33 : gd cX8_written 33 (.ireturn) 1 34 := by decide +kernel
theorem dX8_wordOf_0 : gd cX8_wordOf 0 (.aload_n 0) 1 1 := by decide +kernel
theorem dX8_wordOf_1 : gd cX8_wordOf 1 (.getfield 19) 3 4 := by decide +kernel
theorem dX8_wordOf_4 : gd cX8_wordOf 4 (.iload_n 1) 1 5 := by decide +kernel
theorem dX8_wordOf_5 : gd cX8_wordOf 5 (.invokevirtual 245) 3 8 := by decide +kernel
theorem dX8_wordOf_8 : gd cX8_wordOf 8 (.istore_n 2) 1 9 := by decide +kernel
theorem dX8_wordOf_9 : gd cX8_wordOf 9 (.iload_n 2) 1 10 := by decide +kernel
theorem dX8_wordOf_10 : gb cX8_wordOf 10 (.ifCond .ne 11) (11) 13 21 := by decide +kernel
theorem dX8_wordOf_13 : gd cX8_wordOf 13 (.aload_n 0) 1 14 := by decide +kernel
theorem dX8_wordOf_14 : decode cX8_wordOf 14 = .ok (.iconst 1, 1) ∧ 14 + 1 = 15 ∧ Int32.ofInt (1) = (1) := by decide +kernel
theorem dX8_wordOf_15 : gd cX8_wordOf 15 (.invokevirtual 86) 3 18 := by decide +kernel
theorem dX8_wordOf_18 : gb cX8_wordOf 18 (.goto 22) (22) 21 40 := by decide +kernel
theorem dX8_wordOf_21 : gd cX8_wordOf 21 (.aload_n 0) 1 22 := by decide +kernel
theorem dX8_wordOf_22 : gd cX8_wordOf 22 (.aload_n 0) 1 23 := by decide +kernel
theorem dX8_wordOf_23 : gd cX8_wordOf 23 (.getfield 19) 3 26 := by decide +kernel
theorem dX8_wordOf_26 : gd cX8_wordOf 26 (.aload_n 0) 1 27 := by decide +kernel
theorem dX8_wordOf_27 : gd cX8_wordOf 27 (.getfield 19) 3 30 := by decide +kernel
theorem dX8_wordOf_30 : gd cX8_wordOf 30 (.iload_n 2) 1 31 := by decide +kernel
theorem dX8_wordOf_31 : gd cX8_wordOf 31 (.invokevirtual 248) 3 34 := by decide +kernel
theorem dX8_wordOf_34 : gd cX8_wordOf 34 (.invokevirtual 161) 3 37 := by decide +kernel
theorem dX8_wordOf_37 : gd cX8_wordOf 37 (.invokevirtual 107) 3 40 := by decide +kernel
theorem dX8_wordOf_40 : gd cX8_wordOf 40 (.ireturn) 1 41 := by decide +kernel
theorem dX8_owner_0 : gd cX8_owner 0 (.aload_n 0) 1 1 := by decide +kernel
theorem dX8_owner_1 : gd cX8_owner 1 (.getfield 19) 3 4 := by decide +kernel
theorem dX8_owner_4 : gd cX8_owner 4 (.iload_n 1) 1 5 := by decide +kernel
theorem dX8_owner_5 : gd cX8_owner 5 (.invokevirtual 245) 3 8 := by decide +kernel
theorem dX8_owner_8 : gd cX8_owner 8 (.istore_n 2) 1 9 := by decide +kernel
theorem dX8_owner_9 : gd cX8_owner 9 (.iload_n 2) 1 10 := by decide +kernel
theorem dX8_owner_10 : gb cX8_owner 10 (.ifCond .ne 11) (11) 13 21 := by decide +kernel
theorem dX8_owner_13 : gd cX8_owner 13 (.aload_n 0) 1 14 := by decide +kernel
theorem dX8_owner_14 : decode cX8_owner 14 = .ok (.iconst 1, 1) ∧ 14 + 1 = 15 ∧ Int32.ofInt (1) = (1) := by decide +kernel
theorem dX8_owner_15 : gd cX8_owner 15 (.invokevirtual 86) 3 18 := by decide +kernel
theorem dX8_owner_18 : gb cX8_owner 18 (.goto 15) (15) 21 33 := by decide +kernel
theorem dX8_owner_21 : gd cX8_owner 21 (.aload_n 0) 1 22 := by decide +kernel
theorem dX8_owner_22 : gd cX8_owner 22 (.aload_n 0) 1 23 := by decide +kernel
theorem dX8_owner_23 : gd cX8_owner 23 (.getfield 19) 3 26 := by decide +kernel
theorem dX8_owner_26 : gd cX8_owner 26 (.iload_n 2) 1 27 := by decide +kernel
theorem dX8_owner_27 : gd cX8_owner 27 (.invokevirtual 251) 3 30 := by decide +kernel
theorem dX8_owner_30 : gd cX8_owner 30 (.invokevirtual 107) 3 33 := by decide +kernel
theorem dX8_owner_33 : gd cX8_owner 33 (.ireturn) 1 34 := by decide +kernel
theorem dX8_missing_0 : gd cX8_missing 0 (.aload_n 0) 1 1 := by decide +kernel
theorem dX8_missing_1 : gd cX8_missing 1 (.invokevirtual 215) 3 4 := by decide +kernel
theorem dX8_missing_4 : gb cX8_missing 4 (.ifCond .eq 11) (11) 7 15 := by decide +kernel
theorem dX8_missing_7 : gd cX8_missing 7 (.aload_n 0) 1 8 := by decide +kernel
theorem dX8_missing_8 : decode cX8_missing 8 = .ok (.iconst 1, 1) ∧ 8 + 1 = 9 ∧ Int32.ofInt (1) = (1) := by decide +kernel
theorem dX8_missing_9 : gd cX8_missing 9 (.invokevirtual 86) 3 12 := by decide +kernel
theorem dX8_missing_12 : gb cX8_missing 12 (.goto 14) (14) 15 26 := by decide +kernel
theorem dX8_missing_15 : gd cX8_missing 15 (.aload_n 0) 1 16 := by decide +kernel
theorem dX8_missing_16 : gd cX8_missing 16 (.aload_n 0) 1 17 := by decide +kernel
theorem dX8_missing_17 : gd cX8_missing 17 (.getfield 19) 3 20 := by decide +kernel
theorem dX8_missing_20 : gd cX8_missing 20 (.invokevirtual 254) 3 23 := by decide +kernel
theorem dX8_missing_23 : gd cX8_missing 23 (.invokevirtual 107) 3 26 := by decide +kernel
theorem dX8_missing_26 : gd cX8_missing 26 (.ireturn) 1 27 := by decide +kernel
theorem dX8_shelf_0 : gd cX8_shelf 0 (.aload_n 0) 1 1 := by decide +kernel
theorem dX8_shelf_1 : gd cX8_shelf 1 (.invokevirtual 215) 3 4 := by decide +kernel
theorem dX8_shelf_4 : gb cX8_shelf 4 (.ifCond .eq 9) (9) 7 13 := by decide +kernel
theorem dX8_shelf_7 : gd cX8_shelf 7 (.aload_n 0) 1 8 := by decide +kernel
theorem dX8_shelf_8 : decode cX8_shelf 8 = .ok (.iconst 1, 1) ∧ 8 + 1 = 9 ∧ Int32.ofInt (1) = (1) := by decide +kernel
theorem dX8_shelf_9 : gd cX8_shelf 9 (.invokevirtual 86) 3 12 := by decide +kernel
theorem dX8_shelf_12 : gd cX8_shelf 12 (.ireturn) 1 13 := by decide +kernel
theorem dX8_shelf_13 : gd cX8_shelf 13 (.aload_n 0) 1 14 := by decide +kernel
theorem dX8_shelf_14 : gd cX8_shelf 14 (.getfield 19) 3 17 := by decide +kernel
theorem dX8_shelf_17 : gd cX8_shelf 17 (.getfield 103) 3 20 := by decide +kernel
theorem dX8_shelf_20 : decode cX8_shelf 20 = .ok (.bipush 10, 2) ∧ 20 + 2 = 22 ∧ (Int8.ofInt (10)).toInt32 = (10) := by decide +kernel
theorem dX8_shelf_22 : gd cX8_shelf 22 (.iaload) 1 23 := by decide +kernel
theorem dX8_shelf_23 : gb cX8_shelf 23 (.ifCond .ne 10) (10) 26 33 := by decide +kernel
theorem dX8_shelf_26 : gd cX8_shelf 26 (.aload_n 0) 1 27 := by decide +kernel
theorem dX8_shelf_27 : decode cX8_shelf 27 = .ok (.bipush 6, 2) ∧ 27 + 2 = 29 ∧ (Int8.ofInt (6)).toInt32 = (6) := by decide +kernel
theorem dX8_shelf_29 : gd cX8_shelf 29 (.invokevirtual 86) 3 32 := by decide +kernel
theorem dX8_shelf_32 : gd cX8_shelf 32 (.ireturn) 1 33 := by decide +kernel
theorem dX8_shelf_33 : gd cX8_shelf 33 (.aload_n 0) 1 34 := by decide +kernel
theorem dX8_shelf_34 : gd cX8_shelf 34 (.aload_n 0) 1 35 := by decide +kernel
theorem dX8_shelf_35 : gd cX8_shelf 35 (.getfield 40) 3 38 := by decide +kernel
theorem dX8_shelf_38 : gd cX8_shelf 38 (.invokevirtual 257) 3 41 := by decide +kernel
theorem dX8_shelf_41 : gd cX8_shelf 41 (.invokevirtual 107) 3 44 := by decide +kernel
theorem dX8_shelf_44 : gd cX8_shelf 44 (.ireturn) 1 45 := by decide +kernel
theorem dX8_gain_0 : gd cX8_gain 0 (.aload_n 0) 1 1 := by decide +kernel
theorem dX8_gain_1 : gd cX8_gain 1 (.iload_n 1) 1 2 := by decide +kernel
theorem dX8_gain_2 : gd cX8_gain 2 (.aload_n 0) 1 3 := by decide +kernel
theorem dX8_gain_3 : gd cX8_gain 3 (.iload_n 2) 1 4 := by decide +kernel
theorem dX8_gain_4 : gd cX8_gain 4 (.invokevirtual 141) 3 7 := by decide +kernel
theorem dX8_gain_7 : gd cX8_gain 7 (.invokevirtual 144) 3 10 := by decide +kernel
theorem dX8_gain_10 : gd cX8_gain 10 (.istore_n 3) 1 11 := by decide +kernel
theorem dX8_gain_11 : gd cX8_gain 11 (.iload_n 3) 1 12 := by decide +kernel
theorem dX8_gain_12 : gb cX8_gain 12 (.ifCond .eq 12) (12) 15 24 := by decide +kernel
theorem dX8_gain_15 : gd cX8_gain 15 (.aload_n 0) 1 16 := by decide +kernel
theorem dX8_gain_16 : gd cX8_gain 16 (.iload_n 3) 1 17 := by decide +kernel
theorem dX8_gain_17 : gd cX8_gain 17 (.invokevirtual 86) 3 20 := by decide +kernel
theorem dX8_gain_20 : gd cX8_gain 20 (.pop) 1 21 := by decide +kernel
theorem dX8_gain_21 : decode cX8_gain 21 = .ok (.bipush (-100), 2) ∧ 21 + 2 = 23 ∧ (Int8.ofInt (-100)).toInt32 = (-100) := by decide +kernel
theorem dX8_gain_23 : gd cX8_gain 23 (.ireturn) 1 24 := by decide +kernel
theorem dX8_gain_24 : gd cX8_gain 24 (.aload_n 0) 1 25 := by decide +kernel
theorem dX8_gain_25 : gd cX8_gain 25 (.aload_n 0) 1 26 := by decide +kernel
theorem dX8_gain_26 : gd cX8_gain 26 (.getfield 40) 3 29 := by decide +kernel
theorem dX8_gain_29 : gd cX8_gain 29 (.iload_n 1) 1 30 := by decide +kernel
theorem dX8_gain_30 : gd cX8_gain 30 (.iload_n 2) 1 31 := by decide +kernel
theorem dX8_gain_31 : gd cX8_gain 31 (.invokevirtual 260) 3 34 := by decide +kernel
theorem dX8_gain_34 : gd cX8_gain 34 (.invokevirtual 107) 3 37 := by decide +kernel
theorem dX8_gain_37 : gd cX8_gain 37 (.ireturn) 1 38 := by decide +kernel
theorem dX8_rests_0 : gd cX8_rests 0 (.aload_n 0) 1 1 := by decide +kernel
theorem dX8_rests_1 : gd cX8_rests 1 (.invokevirtual 215) 3 4 := by decide +kernel
theorem dX8_rests_4 : gb cX8_rests 4 (.ifCond .eq 9) (9) 7 13 := by decide +kernel
theorem dX8_rests_7 : gd cX8_rests 7 (.aload_n 0) 1 8 := by decide +kernel
theorem dX8_rests_8 : decode cX8_rests 8 = .ok (.iconst 1, 1) ∧ 8 + 1 = 9 ∧ Int32.ofInt (1) = (1) := by decide +kernel
theorem dX8_rests_9 : gd cX8_rests 9 (.invokevirtual 86) 3 12 := by decide +kernel
theorem dX8_rests_12 : gd cX8_rests 12 (.ireturn) 1 13 := by decide +kernel
theorem dX8_rests_13 : decode cX8_rests 13 = .ok (.iconst 0, 1) ∧ 13 + 1 = 14 ∧ Int32.ofInt (0) = (0) := by decide +kernel
theorem dX8_rests_14 : gd cX8_rests 14 (.istore_n 1) 1 15 := by decide +kernel
theorem dX8_rests_15 : decode cX8_rests 15 = .ok (.iconst 0, 1) ∧ 15 + 1 = 16 ∧ Int32.ofInt (0) = (0) := by decide +kernel
theorem dX8_rests_16 : gd cX8_rests 16 (.istore_n 2) 1 17 := by decide +kernel
theorem dX8_rests_17 : gd cX8_rests 17 (.iload_n 2) 1 18 := by decide +kernel
theorem dX8_rests_18 : gd cX8_rests 18 (.aload_n 0) 1 19 := by decide +kernel
theorem dX8_rests_19 : gd cX8_rests 19 (.getfield 19) 3 22 := by decide +kernel
theorem dX8_rests_22 : gd cX8_rests 22 (.getfield 103) 3 25 := by decide +kernel
theorem dX8_rests_25 : decode cX8_rests 25 = .ok (.iconst 1, 1) ∧ 25 + 1 = 26 ∧ Int32.ofInt (1) = (1) := by decide +kernel
theorem dX8_rests_26 : gd cX8_rests 26 (.iaload) 1 27 := by decide +kernel
theorem dX8_rests_27 : gb cX8_rests 27 (.if_icmp .ge 45) (45) 30 72 := by decide +kernel
theorem dX8_rests_30 : decode cX8_rests 30 = .ok (.iconst 0, 1) ∧ 30 + 1 = 31 ∧ Int32.ofInt (0) = (0) := by decide +kernel
theorem dX8_rests_31 : gd cX8_rests 31 (.istore_n 3) 1 32 := by decide +kernel
theorem dX8_rests_32 : gd cX8_rests 32 (.iload_n 3) 1 33 := by decide +kernel
theorem dX8_rests_33 : gd cX8_rests 33 (.aload_n 0) 1 34 := by decide +kernel
theorem dX8_rests_34 : gd cX8_rests 34 (.getfield 19) 3 37 := by decide +kernel
theorem dX8_rests_37 : gd cX8_rests 37 (.getfield 103) 3 40 := by decide +kernel
theorem dX8_rests_40 : decode cX8_rests 40 = .ok (.iconst 3, 1) ∧ 40 + 1 = 41 ∧ Int32.ofInt (3) = (3) := by decide +kernel
theorem dX8_rests_41 : gd cX8_rests 41 (.iaload) 1 42 := by decide +kernel
theorem dX8_rests_42 : gb cX8_rests 42 (.if_icmp .gt 24) (24) 45 66 := by decide +kernel
theorem dX8_rests_45 : gd cX8_rests 45 (.aload_n 0) 1 46 := by decide +kernel
theorem dX8_rests_46 : gd cX8_rests 46 (.getfield 40) 3 49 := by decide +kernel
theorem dX8_rests_49 : gd cX8_rests 49 (.iload_n 2) 1 50 := by decide +kernel
theorem dX8_rests_50 : gd cX8_rests 50 (.iload_n 3) 1 51 := by decide +kernel
theorem dX8_rests_51 : gd cX8_rests 51 (.invokevirtual 263) 3 54 := by decide +kernel
theorem dX8_rests_54 : gb cX8_rests 54 (.ifCond .eq 6) (6) 57 60 := by decide +kernel
theorem dX8_rests_57 : decode cX8_rests 57 = .ok (.iinc 1 1, 3) ∧ 57 + 3 = 60 ∧ Int32.ofInt (1) = (1) := by decide +kernel
theorem dX8_rests_60 : decode cX8_rests 60 = .ok (.iinc 3 1, 3) ∧ 60 + 3 = 63 ∧ Int32.ofInt (1) = (1) := by decide +kernel
theorem dX8_rests_63 : gb cX8_rests 63 (.goto (-31)) (-31) 66 32 := by decide +kernel
theorem dX8_rests_66 : decode cX8_rests 66 = .ok (.iinc 2 1, 3) ∧ 66 + 3 = 69 ∧ Int32.ofInt (1) = (1) := by decide +kernel
theorem dX8_rests_69 : gb cX8_rests 69 (.goto (-52)) (-52) 72 17 := by decide +kernel
theorem dX8_rests_72 : gd cX8_rests 72 (.aload_n 0) 1 73 := by decide +kernel
theorem dX8_rests_73 : gd cX8_rests 73 (.iload_n 1) 1 74 := by decide +kernel
theorem dX8_rests_74 : gd cX8_rests 74 (.invokevirtual 107) 3 77 := by decide +kernel
theorem dX8_rests_77 : gd cX8_rests 77 (.ireturn) 1 78 := by decide +kernel
theorem dX8_rest_0 : gd cX8_rest 0 (.aload_n 0) 1 1 := by decide +kernel
theorem dX8_rest_1 : gd cX8_rest 1 (.invokevirtual 215) 3 4 := by decide +kernel
theorem dX8_rest_4 : gb cX8_rest 4 (.ifCond .eq 9) (9) 7 13 := by decide +kernel
theorem dX8_rest_7 : gd cX8_rest 7 (.aload_n 0) 1 8 := by decide +kernel
theorem dX8_rest_8 : decode cX8_rest 8 = .ok (.iconst 1, 1) ∧ 8 + 1 = 9 ∧ Int32.ofInt (1) = (1) := by decide +kernel
theorem dX8_rest_9 : gd cX8_rest 9 (.invokevirtual 86) 3 12 := by decide +kernel
theorem dX8_rest_12 : gd cX8_rest 12 (.ireturn) 1 13 := by decide +kernel
theorem dX8_rest_13 : decode cX8_rest 13 = .ok (.iconst 0, 1) ∧ 13 + 1 = 14 ∧ Int32.ofInt (0) = (0) := by decide +kernel
theorem dX8_rest_14 : gd cX8_rest 14 (.istore_n 1) 1 15 := by decide +kernel
theorem dX8_rest_15 : gd cX8_rest 15 (.iload_n 1) 1 16 := by decide +kernel
theorem dX8_rest_16 : gd cX8_rest 16 (.aload_n 0) 1 17 := by decide +kernel
theorem dX8_rest_17 : gd cX8_rest 17 (.getfield 19) 3 20 := by decide +kernel
theorem dX8_rest_20 : gd cX8_rest 20 (.getfield 103) 3 23 := by decide +kernel
theorem dX8_rest_23 : decode cX8_rest 23 = .ok (.iconst 1, 1) ∧ 23 + 1 = 24 ∧ Int32.ofInt (1) = (1) := by decide +kernel
theorem dX8_rest_24 : gd cX8_rest 24 (.iaload) 1 25 := by decide +kernel
theorem dX8_rest_25 : gb cX8_rest 25 (.if_icmp .ge 53) (53) 28 78 := by decide +kernel
theorem dX8_rest_28 : decode cX8_rest 28 = .ok (.iconst 0, 1) ∧ 28 + 1 = 29 ∧ Int32.ofInt (0) = (0) := by decide +kernel
theorem dX8_rest_29 : gd cX8_rest 29 (.istore_n 2) 1 30 := by decide +kernel
theorem dX8_rest_30 : gd cX8_rest 30 (.iload_n 2) 1 31 := by decide +kernel
theorem dX8_rest_31 : gd cX8_rest 31 (.aload_n 0) 1 32 := by decide +kernel
theorem dX8_rest_32 : gd cX8_rest 32 (.getfield 19) 3 35 := by decide +kernel
theorem dX8_rest_35 : gd cX8_rest 35 (.getfield 103) 3 38 := by decide +kernel
theorem dX8_rest_38 : decode cX8_rest 38 = .ok (.iconst 3, 1) ∧ 38 + 1 = 39 ∧ Int32.ofInt (3) = (3) := by decide +kernel
theorem dX8_rest_39 : gd cX8_rest 39 (.iaload) 1 40 := by decide +kernel
theorem dX8_rest_40 : gb cX8_rest 40 (.if_icmp .gt 32) (32) 43 72 := by decide +kernel
theorem dX8_rest_43 : gd cX8_rest 43 (.aload_n 0) 1 44 := by decide +kernel
theorem dX8_rest_44 : gd cX8_rest 44 (.getfield 40) 3 47 := by decide +kernel
theorem dX8_rest_47 : gd cX8_rest 47 (.iload_n 1) 1 48 := by decide +kernel
theorem dX8_rest_48 : gd cX8_rest 48 (.iload_n 2) 1 49 := by decide +kernel
theorem dX8_rest_49 : gd cX8_rest 49 (.invokevirtual 263) 3 52 := by decide +kernel
theorem dX8_rest_52 : gb cX8_rest 52 (.ifCond .eq 14) (14) 55 66 := by decide +kernel
theorem dX8_rest_55 : gd cX8_rest 55 (.aload_n 0) 1 56 := by decide +kernel
theorem dX8_rest_56 : decode cX8_rest 56 = .ok (.bipush 10, 2) ∧ 56 + 2 = 58 ∧ (Int8.ofInt (10)).toInt32 = (10) := by decide +kernel
theorem dX8_rest_58 : gd cX8_rest 58 (.iload_n 1) 1 59 := by decide +kernel
theorem dX8_rest_59 : gd cX8_rest 59 (.imul) 1 60 := by decide +kernel
theorem dX8_rest_60 : gd cX8_rest 60 (.iload_n 2) 1 61 := by decide +kernel
theorem dX8_rest_61 : gd cX8_rest 61 (.iadd) 1 62 := by decide +kernel
theorem dX8_rest_62 : gd cX8_rest 62 (.invokevirtual 107) 3 65 := by decide +kernel
theorem dX8_rest_65 : gd cX8_rest 65 (.ireturn) 1 66 := by decide +kernel
theorem dX8_rest_66 : decode cX8_rest 66 = .ok (.iinc 2 1, 3) ∧ 66 + 3 = 69 ∧ Int32.ofInt (1) = (1) := by decide +kernel
theorem dX8_rest_69 : gb cX8_rest 69 (.goto (-39)) (-39) 72 30 := by decide +kernel
theorem dX8_rest_72 : decode cX8_rest 72 = .ok (.iinc 1 1, 3) ∧ 72 + 3 = 75 ∧ Int32.ofInt (1) = (1) := by decide +kernel
theorem dX8_rest_75 : gb cX8_rest 75 (.goto (-60)) (-60) 78 15 := by decide +kernel
theorem dX8_rest_78 : gd cX8_rest 78 (.aload_n 0) 1 79 := by decide +kernel
theorem dX8_rest_79 : decode cX8_rest 79 = .ok (.bipush (-2), 2) ∧ 79 + 2 = 81 ∧ (Int8.ofInt (-2)).toInt32 = (-2) := by decide +kernel
theorem dX8_rest_81 : gd cX8_rest 81 (.invokevirtual 107) 3 84 := by decide +kernel
theorem dX8_rest_84 : gd cX8_rest 84 (.ireturn) 1 85 := by decide +kernel
theorem dX8_left_0 : gd cX8_left 0 (.aload_n 0) 1 1 := by decide +kernel
theorem dX8_left_1 : gd cX8_left 1 (.iload_n 1) 1 2 := by decide +kernel
theorem dX8_left_2 : gd cX8_left 2 (.iload_n 2) 1 3 := by decide +kernel
theorem dX8_left_3 : gd cX8_left 3 (.invokevirtual 267) 3 6 := by decide +kernel
theorem dX8_left_6 : gd cX8_left 6 (.istore_n 3) 1 7 := by decide +kernel
theorem dX8_left_7 : gd cX8_left 7 (.iload_n 3) 1 8 := by decide +kernel
theorem dX8_left_8 : gb cX8_left 8 (.ifCond .eq 9) (9) 11 17 := by decide +kernel
theorem dX8_left_11 : gd cX8_left 11 (.aload_n 0) 1 12 := by decide +kernel
theorem dX8_left_12 : gd cX8_left 12 (.iload_n 3) 1 13 := by decide +kernel
theorem dX8_left_13 : gd cX8_left 13 (.invokevirtual 86) 3 16 := by decide +kernel
theorem dX8_left_16 : gd cX8_left 16 (.ireturn) 1 17 := by decide +kernel
theorem dX8_left_17 : gd cX8_left 17 (.aload_n 0) 1 18 := by decide +kernel
theorem dX8_left_18 : gd cX8_left 18 (.getfield 61) 3 21 := by decide +kernel
theorem dX8_left_21 : gd cX8_left 21 (.aload_n 0) 1 22 := by decide +kernel
theorem dX8_left_22 : gd cX8_left 22 (.getfield 19) 3 25 := by decide +kernel
theorem dX8_left_25 : gd cX8_left 25 (.aload_n 0) 1 26 := by decide +kernel
theorem dX8_left_26 : gd cX8_left 26 (.getfield 40) 3 29 := by decide +kernel
theorem dX8_left_29 : gd cX8_left 29 (.invokevirtual 270) 3 32 := by decide +kernel
theorem dX8_left_32 : gd cX8_left 32 (.iload_n 1) 1 33 := by decide +kernel
theorem dX8_left_33 : gd cX8_left 33 (.iload_n 2) 1 34 := by decide +kernel
theorem dX8_left_34 : gd cX8_left 34 (.invokevirtual 273) 3 37 := by decide +kernel
theorem dX8_left_37 : gd cX8_left 37 (.aload_n 0) 1 38 := by decide +kernel
theorem dX8_left_38 : gd cX8_left 38 (.aload_n 0) 1 39 := by decide +kernel
theorem dX8_left_39 : gd cX8_left 39 (.getfield 61) 3 42 := by decide +kernel
theorem dX8_left_42 : gd cX8_left 42 (.getfield 276) 3 45 := by decide +kernel
theorem dX8_left_45 : gd cX8_left 45 (.invokevirtual 107) 3 48 := by decide +kernel
theorem dX8_left_48 : gd cX8_left 48 (.ireturn) 1 49 := by decide +kernel
theorem dX8_hails_0 : gd cX8_hails 0 (.aload_n 0) 1 1 := by decide +kernel
theorem dX8_hails_1 : gd cX8_hails 1 (.iload_n 1) 1 2 := by decide +kernel
theorem dX8_hails_2 : gd cX8_hails 2 (.iload_n 2) 1 3 := by decide +kernel
theorem dX8_hails_3 : gd cX8_hails 3 (.invokevirtual 267) 3 6 := by decide +kernel
theorem dX8_hails_6 : gd cX8_hails 6 (.istore_n 3) 1 7 := by decide +kernel
theorem dX8_hails_7 : gd cX8_hails 7 (.iload_n 3) 1 8 := by decide +kernel
theorem dX8_hails_8 : gb cX8_hails 8 (.ifCond .eq 9) (9) 11 17 := by decide +kernel
theorem dX8_hails_11 : gd cX8_hails 11 (.aload_n 0) 1 12 := by decide +kernel
theorem dX8_hails_12 : gd cX8_hails 12 (.iload_n 3) 1 13 := by decide +kernel
theorem dX8_hails_13 : gd cX8_hails 13 (.invokevirtual 86) 3 16 := by decide +kernel
theorem dX8_hails_16 : gd cX8_hails 16 (.ireturn) 1 17 := by decide +kernel
theorem dX8_hails_17 : gd cX8_hails 17 (.aload_n 0) 1 18 := by decide +kernel
theorem dX8_hails_18 : gd cX8_hails 18 (.getfield 61) 3 21 := by decide +kernel
theorem dX8_hails_21 : gd cX8_hails 21 (.aload_n 0) 1 22 := by decide +kernel
theorem dX8_hails_22 : gd cX8_hails 22 (.getfield 19) 3 25 := by decide +kernel
theorem dX8_hails_25 : gd cX8_hails 25 (.aload_n 0) 1 26 := by decide +kernel
theorem dX8_hails_26 : gd cX8_hails 26 (.getfield 40) 3 29 := by decide +kernel
theorem dX8_hails_29 : gd cX8_hails 29 (.invokevirtual 270) 3 32 := by decide +kernel
theorem dX8_hails_32 : gd cX8_hails 32 (.iload_n 1) 1 33 := by decide +kernel
theorem dX8_hails_33 : gd cX8_hails 33 (.iload_n 2) 1 34 := by decide +kernel
theorem dX8_hails_34 : gd cX8_hails 34 (.invokevirtual 273) 3 37 := by decide +kernel
theorem dX8_hails_37 : gd cX8_hails 37 (.aload_n 0) 1 38 := by decide +kernel
theorem dX8_hails_38 : gd cX8_hails 38 (.aload_n 0) 1 39 := by decide +kernel
theorem dX8_hails_39 : gd cX8_hails 39 (.getfield 61) 3 42 := by decide +kernel
theorem dX8_hails_42 : gd cX8_hails 42 (.getfield 279) 3 45 := by decide +kernel
theorem dX8_hails_45 : gd cX8_hails 45 (.invokevirtual 107) 3 48 := by decide +kernel
theorem dX8_hails_48 : gd cX8_hails 48 (.ireturn) 1 49 := by decide +kernel
theorem dX8_scratch_0 : gd cX8_scratch 0 (.aload_n 0) 1 1 := by decide +kernel
theorem dX8_scratch_1 : gd cX8_scratch 1 (.iload_n 1) 1 2 := by decide +kernel
theorem dX8_scratch_2 : gd cX8_scratch 2 (.aload_n 0) 1 3 := by decide +kernel
theorem dX8_scratch_3 : gd cX8_scratch 3 (.iload_n 2) 1 4 := by decide +kernel
theorem dX8_scratch_4 : gd cX8_scratch 4 (.invokevirtual 282) 3 7 := by decide +kernel
theorem dX8_scratch_7 : gd cX8_scratch 7 (.invokevirtual 144) 3 10 := by decide +kernel
theorem dX8_scratch_10 : gd cX8_scratch 10 (.istore_n 3) 1 11 := by decide +kernel
theorem dX8_scratch_11 : gd cX8_scratch 11 (.iload_n 3) 1 12 := by decide +kernel
theorem dX8_scratch_12 : gb cX8_scratch 12 (.ifCond .ne 21) (21) 15 33 := by decide +kernel
theorem dX8_scratch_15 : gd cX8_scratch 15 (.aload_n 0) 1 16 := by decide +kernel
theorem dX8_scratch_16 : gd cX8_scratch 16 (.getfield 40) 3 19 := by decide +kernel
theorem dX8_scratch_19 : gd cX8_scratch 19 (.getfield 117) 3 22 := by decide +kernel
theorem dX8_scratch_22 : gd cX8_scratch 22 (.iload_n 1) 1 23 := by decide +kernel
theorem dX8_scratch_23 : gd cX8_scratch 23 (.iaload) 1 24 := by decide +kernel
theorem dX8_scratch_24 : gd cX8_scratch 24 (.iload_n 2) 1 25 := by decide +kernel
theorem dX8_scratch_25 : gd cX8_scratch 25 (.ishr) 1 26 := by decide +kernel
theorem dX8_scratch_26 : decode cX8_scratch 26 = .ok (.iconst 1, 1) ∧ 26 + 1 = 27 ∧ Int32.ofInt (1) = (1) := by decide +kernel
theorem dX8_scratch_27 : gd cX8_scratch 27 (.iand) 1 28 := by decide +kernel
theorem dX8_scratch_28 : gb cX8_scratch 28 (.ifCond .eq 5) (5) 31 33 := by decide +kernel
theorem dX8_scratch_31 : decode cX8_scratch 31 = .ok (.iconst 5, 1) ∧ 31 + 1 = 32 ∧ Int32.ofInt (5) = (5) := by decide +kernel
theorem dX8_scratch_32 : gd cX8_scratch 32 (.istore_n 3) 1 33 := by decide +kernel
theorem dX8_scratch_33 : gd cX8_scratch 33 (.aload_n 0) 1 34 := by decide +kernel
theorem dX8_scratch_34 : gd cX8_scratch 34 (.iload_n 3) 1 35 := by decide +kernel
theorem dX8_scratch_35 : decode cX8_scratch 35 = .ok (.iconst 0, 1) ∧ 35 + 1 = 36 ∧ Int32.ofInt (0) = (0) := by decide +kernel
theorem dX8_scratch_36 : gd cX8_scratch 36 (.iload_n 1) 1 37 := by decide +kernel
theorem dX8_scratch_37 : gd cX8_scratch 37 (.iload_n 2) 1 38 := by decide +kernel
theorem dX8_scratch_38 : gd cX8_scratch 38 (.invokevirtual 285) 3 41 := by decide +kernel
theorem dX8_scratch_41 : gd cX8_scratch 41 (.ireturn) 1 42 := by decide +kernel
theorem dX8_cover_0 : gd cX8_cover 0 (.aload_n 0) 1 1 := by decide +kernel
theorem dX8_cover_1 : gd cX8_cover 1 (.iload_n 1) 1 2 := by decide +kernel
theorem dX8_cover_2 : gd cX8_cover 2 (.aload_n 0) 1 3 := by decide +kernel
theorem dX8_cover_3 : gd cX8_cover 3 (.iload_n 2) 1 4 := by decide +kernel
theorem dX8_cover_4 : gd cX8_cover 4 (.invokevirtual 282) 3 7 := by decide +kernel
theorem dX8_cover_7 : gd cX8_cover 7 (.invokevirtual 144) 3 10 := by decide +kernel
theorem dX8_cover_10 : gd cX8_cover 10 (.istore_n 3) 1 11 := by decide +kernel
theorem dX8_cover_11 : gd cX8_cover 11 (.iload_n 3) 1 12 := by decide +kernel
theorem dX8_cover_12 : gb cX8_cover 12 (.ifCond .ne 21) (21) 15 33 := by decide +kernel
theorem dX8_cover_15 : gd cX8_cover 15 (.aload_n 0) 1 16 := by decide +kernel
theorem dX8_cover_16 : gd cX8_cover 16 (.getfield 40) 3 19 := by decide +kernel
theorem dX8_cover_19 : gd cX8_cover 19 (.getfield 120) 3 22 := by decide +kernel
theorem dX8_cover_22 : gd cX8_cover 22 (.iload_n 1) 1 23 := by decide +kernel
theorem dX8_cover_23 : gd cX8_cover 23 (.iaload) 1 24 := by decide +kernel
theorem dX8_cover_24 : gd cX8_cover 24 (.iload_n 2) 1 25 := by decide +kernel
theorem dX8_cover_25 : gd cX8_cover 25 (.ishr) 1 26 := by decide +kernel
theorem dX8_cover_26 : decode cX8_cover 26 = .ok (.iconst 1, 1) ∧ 26 + 1 = 27 ∧ Int32.ofInt (1) = (1) := by decide +kernel
theorem dX8_cover_27 : gd cX8_cover 27 (.iand) 1 28 := by decide +kernel
theorem dX8_cover_28 : gb cX8_cover 28 (.ifCond .eq 5) (5) 31 33 := by decide +kernel
theorem dX8_cover_31 : decode cX8_cover 31 = .ok (.iconst 5, 1) ∧ 31 + 1 = 32 ∧ Int32.ofInt (5) = (5) := by decide +kernel
theorem dX8_cover_32 : gd cX8_cover 32 (.istore_n 3) 1 33 := by decide +kernel
theorem dX8_cover_33 : gd cX8_cover 33 (.aload_n 0) 1 34 := by decide +kernel
theorem dX8_cover_34 : gd cX8_cover 34 (.iload_n 3) 1 35 := by decide +kernel
theorem dX8_cover_35 : decode cX8_cover 35 = .ok (.iconst 1, 1) ∧ 35 + 1 = 36 ∧ Int32.ofInt (1) = (1) := by decide +kernel
theorem dX8_cover_36 : gd cX8_cover 36 (.iload_n 1) 1 37 := by decide +kernel
theorem dX8_cover_37 : gd cX8_cover 37 (.iload_n 2) 1 38 := by decide +kernel
theorem dX8_cover_38 : gd cX8_cover 38 (.invokevirtual 285) 3 41 := by decide +kernel
theorem dX8_cover_41 : gd cX8_cover 41 (.ireturn) 1 42 := by decide +kernel
theorem dX8_breaks_0 : gd cX8_breaks 0 (.aload_n 0) 1 1 := by decide +kernel
theorem dX8_breaks_1 : gd cX8_breaks 1 (.iload_n 1) 1 2 := by decide +kernel
theorem dX8_breaks_2 : decode cX8_breaks 2 = .ok (.iconst 1, 1) ∧ 2 + 1 = 3 ∧ Int32.ofInt (1) = (1) := by decide +kernel
theorem dX8_breaks_3 : gd cX8_breaks 3 (.invokevirtual 144) 3 6 := by decide +kernel
theorem dX8_breaks_6 : gd cX8_breaks 6 (.istore_n 2) 1 7 := by decide +kernel
theorem dX8_breaks_7 : gd cX8_breaks 7 (.iload_n 2) 1 8 := by decide +kernel
theorem dX8_breaks_8 : gb cX8_breaks 8 (.ifCond .ne 18) (18) 11 26 := by decide +kernel
theorem dX8_breaks_11 : gd cX8_breaks 11 (.aload_n 0) 1 12 := by decide +kernel
theorem dX8_breaks_12 : gd cX8_breaks 12 (.getfield 19) 3 15 := by decide +kernel
theorem dX8_breaks_15 : gd cX8_breaks 15 (.getfield 114) 3 18 := by decide +kernel
theorem dX8_breaks_18 : gd cX8_breaks 18 (.iload_n 1) 1 19 := by decide +kernel
theorem dX8_breaks_19 : gd cX8_breaks 19 (.iaload) 1 20 := by decide +kernel
theorem dX8_breaks_20 : decode cX8_breaks 20 = .ok (.iconst 1, 1) ∧ 20 + 1 = 21 ∧ Int32.ofInt (1) = (1) := by decide +kernel
theorem dX8_breaks_21 : gb cX8_breaks 21 (.if_icmp .ne 5) (5) 24 26 := by decide +kernel
theorem dX8_breaks_24 : decode cX8_breaks 24 = .ok (.iconst 5, 1) ∧ 24 + 1 = 25 ∧ Int32.ofInt (5) = (5) := by decide +kernel
theorem dX8_breaks_25 : gd cX8_breaks 25 (.istore_n 2) 1 26 := by decide +kernel
theorem dX8_breaks_26 : gd cX8_breaks 26 (.aload_n 0) 1 27 := by decide +kernel
theorem dX8_breaks_27 : gd cX8_breaks 27 (.iload_n 2) 1 28 := by decide +kernel
theorem dX8_breaks_28 : decode cX8_breaks 28 = .ok (.iconst 2, 1) ∧ 28 + 1 = 29 ∧ Int32.ofInt (2) = (2) := by decide +kernel
theorem dX8_breaks_29 : gd cX8_breaks 29 (.iload_n 1) 1 30 := by decide +kernel
theorem dX8_breaks_30 : decode cX8_breaks 30 = .ok (.iconst 0, 1) ∧ 30 + 1 = 31 ∧ Int32.ofInt (0) = (0) := by decide +kernel
theorem dX8_breaks_31 : gd cX8_breaks 31 (.invokevirtual 285) 3 34 := by decide +kernel
theorem dX8_breaks_34 : gd cX8_breaks 34 (.ireturn) 1 35 := by decide +kernel
theorem dX8_undo_0 : gd cX8_undo 0 (.aload_n 0) 1 1 := by decide +kernel
theorem dX8_undo_1 : gd cX8_undo 1 (.aload_n 0) 1 2 := by decide +kernel
theorem dX8_undo_2 : gd cX8_undo 2 (.getfield 40) 3 5 := by decide +kernel
theorem dX8_undo_5 : gd cX8_undo 5 (.invokevirtual 289) 3 8 := by decide +kernel
theorem dX8_undo_8 : gb cX8_undo 8 (.ifCond .eq 7) (7) 11 15 := by decide +kernel
theorem dX8_undo_11 : decode cX8_undo 11 = .ok (.iconst 0, 1) ∧ 11 + 1 = 12 ∧ Int32.ofInt (0) = (0) := by decide +kernel
theorem dX8_undo_12 : gb cX8_undo 12 (.goto 5) (5) 15 17 := by decide +kernel
theorem dX8_undo_15 : decode cX8_undo 15 = .ok (.bipush 6, 2) ∧ 15 + 2 = 17 ∧ (Int8.ofInt (6)).toInt32 = (6) := by decide +kernel
theorem dX8_undo_17 : gd cX8_undo 17 (.putfield 65) 3 20 := by decide +kernel
theorem dX8_undo_20 : gd cX8_undo 20 (.aload_n 0) 1 21 := by decide +kernel
theorem dX8_undo_21 : gd cX8_undo 21 (.getfield 65) 3 24 := by decide +kernel
theorem dX8_undo_24 : gb cX8_undo 24 (.ifCond .ne 7) (7) 27 31 := by decide +kernel
theorem dX8_undo_27 : decode cX8_undo 27 = .ok (.iconst 1, 1) ∧ 27 + 1 = 28 ∧ Int32.ofInt (1) = (1) := by decide +kernel
theorem dX8_undo_28 : gb cX8_undo 28 (.goto 4) (4) 31 32 := by decide +kernel
theorem dX8_undo_31 : decode cX8_undo 31 = .ok (.iconst 0, 1) ∧ 31 + 1 = 32 ∧ Int32.ofInt (0) = (0) := by decide +kernel
theorem dX8_undo_32 : gd cX8_undo 32 (.ireturn) 1 33 := by decide +kernel
theorem dX8_mark_0 : gd cX8_mark 0 (.aload_n 0) 1 1 := by decide +kernel
theorem dX8_mark_1 : gd cX8_mark 1 (.invokevirtual 215) 3 4 := by decide +kernel
theorem dX8_mark_4 : gb cX8_mark 4 (.ifCond .eq 9) (9) 7 13 := by decide +kernel
theorem dX8_mark_7 : gd cX8_mark 7 (.aload_n 0) 1 8 := by decide +kernel
theorem dX8_mark_8 : decode cX8_mark 8 = .ok (.iconst 1, 1) ∧ 8 + 1 = 9 ∧ Int32.ofInt (1) = (1) := by decide +kernel
theorem dX8_mark_9 : gd cX8_mark 9 (.invokevirtual 86) 3 12 := by decide +kernel
theorem dX8_mark_12 : gd cX8_mark 12 (.ireturn) 1 13 := by decide +kernel
theorem dX8_mark_13 : gd cX8_mark 13 (.aload_n 0) 1 14 := by decide +kernel
theorem dX8_mark_14 : gd cX8_mark 14 (.getfield 40) 3 17 := by decide +kernel
theorem dX8_mark_17 : gd cX8_mark 17 (.invokevirtual 292) 3 20 := by decide +kernel
theorem dX8_mark_20 : gb cX8_mark 20 (.ifCond .ne 9) (9) 23 29 := by decide +kernel
theorem dX8_mark_23 : gd cX8_mark 23 (.aload_n 0) 1 24 := by decide +kernel
theorem dX8_mark_24 : decode cX8_mark 24 = .ok (.iconst 3, 1) ∧ 24 + 1 = 25 ∧ Int32.ofInt (3) = (3) := by decide +kernel
theorem dX8_mark_25 : gd cX8_mark 25 (.invokevirtual 86) 3 28 := by decide +kernel
theorem dX8_mark_28 : gd cX8_mark 28 (.ireturn) 1 29 := by decide +kernel
theorem dX8_mark_29 : gd cX8_mark 29 (.aload_n 0) 1 30 := by decide +kernel
theorem dX8_mark_30 : gd cX8_mark 30 (.aload_n 0) 1 31 := by decide +kernel
theorem dX8_mark_31 : gd cX8_mark 31 (.getfield 40) 3 34 := by decide +kernel
theorem dX8_mark_34 : gd cX8_mark 34 (.getfield 295) 3 37 := by decide +kernel
theorem dX8_mark_37 : decode cX8_mark 37 = .ok (.iconst 1, 1) ∧ 37 + 1 = 38 ∧ Int32.ofInt (1) = (1) := by decide +kernel
theorem dX8_mark_38 : gd cX8_mark 38 (.isub) 1 39 := by decide +kernel
theorem dX8_mark_39 : gd cX8_mark 39 (.invokevirtual 107) 3 42 := by decide +kernel
theorem dX8_mark_42 : gd cX8_mark 42 (.ireturn) 1 43 := by decide +kernel
theorem dX8_back_0 : gd cX8_back 0 (.aload_n 0) 1 1 := by decide +kernel
theorem dX8_back_1 : gd cX8_back 1 (.aload_n 0) 1 2 := by decide +kernel
theorem dX8_back_2 : gd cX8_back 2 (.getfield 40) 3 5 := by decide +kernel
theorem dX8_back_5 : gd cX8_back 5 (.iload_n 1) 1 6 := by decide +kernel
theorem dX8_back_6 : gd cX8_back 6 (.invokevirtual 298) 3 9 := by decide +kernel
theorem dX8_back_9 : gb cX8_back 9 (.ifCond .eq 7) (7) 12 16 := by decide +kernel
theorem dX8_back_12 : decode cX8_back 12 = .ok (.iconst 0, 1) ∧ 12 + 1 = 13 ∧ Int32.ofInt (0) = (0) := by decide +kernel
theorem dX8_back_13 : gb cX8_back 13 (.goto 4) (4) 16 17 := by decide +kernel
theorem dX8_back_16 : decode cX8_back 16 = .ok (.iconst 1, 1) ∧ 16 + 1 = 17 ∧ Int32.ofInt (1) = (1) := by decide +kernel
theorem dX8_back_17 : gd cX8_back 17 (.putfield 65) 3 20 := by decide +kernel
theorem dX8_back_20 : gd cX8_back 20 (.aload_n 0) 1 21 := by decide +kernel
theorem dX8_back_21 : gd cX8_back 21 (.getfield 65) 3 24 := by decide +kernel
theorem dX8_back_24 : gb cX8_back 24 (.ifCond .ne 7) (7) 27 31 := by decide +kernel
theorem dX8_back_27 : decode cX8_back 27 = .ok (.iconst 1, 1) ∧ 27 + 1 = 28 ∧ Int32.ofInt (1) = (1) := by decide +kernel
theorem dX8_back_28 : gb cX8_back 28 (.goto 4) (4) 31 32 := by decide +kernel
theorem dX8_back_31 : decode cX8_back 31 = .ok (.iconst 0, 1) ∧ 31 + 1 = 32 ∧ Int32.ofInt (0) = (0) := by decide +kernel
theorem dX8_back_32 : gd cX8_back 32 (.ireturn) 1 33 := by decide +kernel
theorem dX8_led_0 : decode cX8_led 0 = .ok (.iconst 0, 1) ∧ 0 + 1 = 1 ∧ Int32.ofInt (0) = (0) := by decide +kernel
theorem dX8_led_1 : gd cX8_led 1 (.istore_n 2) 1 2 := by decide +kernel
theorem dX8_led_2 : decode cX8_led 2 = .ok (.iconst 0, 1) ∧ 2 + 1 = 3 ∧ Int32.ofInt (0) = (0) := by decide +kernel
theorem dX8_led_3 : gd cX8_led 3 (.istore_n 3) 1 4 := by decide +kernel
theorem dX8_led_4 : gd cX8_led 4 (.iload_n 3) 1 5 := by decide +kernel
theorem dX8_led_5 : gd cX8_led 5 (.aload_n 0) 1 6 := by decide +kernel
theorem dX8_led_6 : gd cX8_led 6 (.getfield 19) 3 9 := by decide +kernel
theorem dX8_led_9 : gd cX8_led 9 (.getfield 103) 3 12 := by decide +kernel
theorem dX8_led_12 : decode cX8_led 12 = .ok (.iconst 1, 1) ∧ 12 + 1 = 13 ∧ Int32.ofInt (1) = (1) := by decide +kernel
theorem dX8_led_13 : gd cX8_led 13 (.iaload) 1 14 := by decide +kernel
theorem dX8_led_14 : gb cX8_led 14 (.if_icmp .ge 45) (45) 17 59 := by decide +kernel
theorem dX8_led_17 : gd cX8_led 17 (.aload_n 0) 1 18 := by decide +kernel
theorem dX8_led_18 : gd cX8_led 18 (.getfield 40) 3 21 := by decide +kernel
theorem dX8_led_21 : gd cX8_led 21 (.iload_n 3) 1 22 := by decide +kernel
theorem dX8_led_22 : gd cX8_led 22 (.invokevirtual 123) 3 25 := by decide +kernel
theorem dX8_led_25 : gb cX8_led 25 (.ifCond .ne 28) (28) 28 53 := by decide +kernel
theorem dX8_led_28 : gd cX8_led 28 (.aload_n 0) 1 29 := by decide +kernel
theorem dX8_led_29 : gd cX8_led 29 (.getfield 40) 3 32 := by decide +kernel
theorem dX8_led_32 : gd cX8_led 32 (.iload_n 3) 1 33 := by decide +kernel
theorem dX8_led_33 : decode cX8_led 33 = .ok (.bipush (-2), 2) ∧ 33 + 2 = 35 ∧ (Int8.ofInt (-2)).toInt32 = (-2) := by decide +kernel
theorem dX8_led_35 : gd cX8_led 35 (.invokevirtual 152) 3 38 := by decide +kernel
theorem dX8_led_38 : decode cX8_led 38 = .ok (.bipush (-2), 2) ∧ 38 + 2 = 40 ∧ (Int8.ofInt (-2)).toInt32 = (-2) := by decide +kernel
theorem dX8_led_40 : gb cX8_led 40 (.if_icmp .eq 13) (13) 43 53 := by decide +kernel
theorem dX8_led_43 : gd cX8_led 43 (.iload_n 2) 1 44 := by decide +kernel
theorem dX8_led_44 : gd cX8_led 44 (.iload_n 1) 1 45 := by decide +kernel
theorem dX8_led_45 : gb cX8_led 45 (.if_icmp .ne 5) (5) 48 50 := by decide +kernel
theorem dX8_led_48 : gd cX8_led 48 (.iload_n 3) 1 49 := by decide +kernel
theorem dX8_led_49 : gd cX8_led 49 (.ireturn) 1 50 := by decide +kernel
theorem dX8_led_50 : decode cX8_led 50 = .ok (.iinc 2 1, 3) ∧ 50 + 3 = 53 ∧ Int32.ofInt (1) = (1) := by decide +kernel
theorem dX8_led_53 : decode cX8_led 53 = .ok (.iinc 3 1, 3) ∧ 53 + 3 = 56 ∧ Int32.ofInt (1) = (1) := by decide +kernel
theorem dX8_led_56 : gb cX8_led 56 (.goto (-52)) (-52) 59 4 := by decide +kernel
theorem dX8_led_59 : gd cX8_led 59 (.new 301) 3 62 := by decide +kernel
theorem dX8_led_62 : gd cX8_led 62 (.dup) 1 63 := by decide +kernel
theorem dX8_led_63 : gd cX8_led 63 (.invokespecial 303) 3 66 := by decide +kernel
theorem dX8_led_66 : gd cX8_led 66 .athrow 1 67 := by decide +kernel
theorem dX8_size_0 : gd cX8_size 0 (.iload_n 1) 1 1 := by decide +kernel
theorem dX8_size_1 : gsw cX8_size 1 (229) (0) (15) #[79, 87, 95, 103, 111, 121, 131, 141, 151, 161, 172, 183, 194, 205, 213, 221] 79 [80, 88, 96, 104, 112, 122, 132, 142, 152, 162, 173, 184, 195, 206, 214, 222] 230 := by unfold gsw; decide +kernel
theorem dX8_size_80 : gd cX8_size 80 (.aload_n 0) 1 81 := by decide +kernel
theorem dX8_size_81 : gd cX8_size 81 (.getfield 19) 3 84 := by decide +kernel
theorem dX8_size_84 : gd cX8_size 84 (.getfield 304) 3 87 := by decide +kernel
theorem dX8_size_87 : gd cX8_size 87 (.ireturn) 1 88 := by decide +kernel
theorem dX8_size_88 : gd cX8_size 88 (.aload_n 0) 1 89 := by decide +kernel
theorem dX8_size_89 : gd cX8_size 89 (.getfield 19) 3 92 := by decide +kernel
theorem dX8_size_92 : gd cX8_size 92 (.getfield 307) 3 95 := by decide +kernel
theorem dX8_size_95 : gd cX8_size 95 (.ireturn) 1 96 := by decide +kernel
theorem dX8_size_96 : gd cX8_size 96 (.aload_n 0) 1 97 := by decide +kernel
theorem dX8_size_97 : gd cX8_size 97 (.getfield 19) 3 100 := by decide +kernel
theorem dX8_size_100 : gd cX8_size 100 (.getfield 310) 3 103 := by decide +kernel
theorem dX8_size_103 : gd cX8_size 103 (.ireturn) 1 104 := by decide +kernel
theorem dX8_size_104 : gd cX8_size 104 (.aload_n 0) 1 105 := by decide +kernel
theorem dX8_size_105 : gd cX8_size 105 (.getfield 19) 3 108 := by decide +kernel
theorem dX8_size_108 : gd cX8_size 108 (.getfield 313) 3 111 := by decide +kernel
theorem dX8_size_111 : gd cX8_size 111 (.ireturn) 1 112 := by decide +kernel
theorem dX8_size_112 : gd cX8_size 112 (.aload_n 0) 1 113 := by decide +kernel
theorem dX8_size_113 : gd cX8_size 113 (.getfield 19) 3 116 := by decide +kernel
theorem dX8_size_116 : gd cX8_size 116 (.getfield 103) 3 119 := by decide +kernel
theorem dX8_size_119 : decode cX8_size 119 = .ok (.iconst 1, 1) ∧ 119 + 1 = 120 ∧ Int32.ofInt (1) = (1) := by decide +kernel
theorem dX8_size_120 : gd cX8_size 120 (.iaload) 1 121 := by decide +kernel
theorem dX8_size_121 : gd cX8_size 121 (.ireturn) 1 122 := by decide +kernel
theorem dX8_size_122 : gd cX8_size 122 (.aload_n 0) 1 123 := by decide +kernel
theorem dX8_size_123 : gd cX8_size 123 (.getfield 19) 3 126 := by decide +kernel
theorem dX8_size_126 : gd cX8_size 126 (.getfield 103) 3 129 := by decide +kernel
theorem dX8_size_129 : decode cX8_size 129 = .ok (.iconst 2, 1) ∧ 129 + 1 = 130 ∧ Int32.ofInt (2) = (2) := by decide +kernel
theorem dX8_size_130 : gd cX8_size 130 (.iaload) 1 131 := by decide +kernel
theorem dX8_size_131 : gd cX8_size 131 (.ireturn) 1 132 := by decide +kernel
theorem dX8_size_132 : gd cX8_size 132 (.aload_n 0) 1 133 := by decide +kernel
theorem dX8_size_133 : gd cX8_size 133 (.getfield 19) 3 136 := by decide +kernel
theorem dX8_size_136 : gd cX8_size 136 (.getfield 103) 3 139 := by decide +kernel
theorem dX8_size_139 : decode cX8_size 139 = .ok (.iconst 3, 1) ∧ 139 + 1 = 140 ∧ Int32.ofInt (3) = (3) := by decide +kernel
theorem dX8_size_140 : gd cX8_size 140 (.iaload) 1 141 := by decide +kernel
theorem dX8_size_141 : gd cX8_size 141 (.ireturn) 1 142 := by decide +kernel
theorem dX8_size_142 : gd cX8_size 142 (.aload_n 0) 1 143 := by decide +kernel
theorem dX8_size_143 : gd cX8_size 143 (.getfield 19) 3 146 := by decide +kernel
theorem dX8_size_146 : gd cX8_size 146 (.getfield 103) 3 149 := by decide +kernel
theorem dX8_size_149 : decode cX8_size 149 = .ok (.iconst 4, 1) ∧ 149 + 1 = 150 ∧ Int32.ofInt (4) = (4) := by decide +kernel
theorem dX8_size_150 : gd cX8_size 150 (.iaload) 1 151 := by decide +kernel
theorem dX8_size_151 : gd cX8_size 151 (.ireturn) 1 152 := by decide +kernel
theorem dX8_size_152 : gd cX8_size 152 (.aload_n 0) 1 153 := by decide +kernel
theorem dX8_size_153 : gd cX8_size 153 (.getfield 19) 3 156 := by decide +kernel
theorem dX8_size_156 : gd cX8_size 156 (.getfield 103) 3 159 := by decide +kernel
theorem dX8_size_159 : decode cX8_size 159 = .ok (.iconst 5, 1) ∧ 159 + 1 = 160 ∧ Int32.ofInt (5) = (5) := by decide +kernel
theorem dX8_size_160 : gd cX8_size 160 (.iaload) 1 161 := by decide +kernel
theorem dX8_size_161 : gd cX8_size 161 (.ireturn) 1 162 := by decide +kernel
theorem dX8_size_162 : gd cX8_size 162 (.aload_n 0) 1 163 := by decide +kernel
theorem dX8_size_163 : gd cX8_size 163 (.getfield 19) 3 166 := by decide +kernel
theorem dX8_size_166 : gd cX8_size 166 (.getfield 103) 3 169 := by decide +kernel
theorem dX8_size_169 : decode cX8_size 169 = .ok (.bipush 6, 2) ∧ 169 + 2 = 171 ∧ (Int8.ofInt (6)).toInt32 = (6) := by decide +kernel
theorem dX8_size_171 : gd cX8_size 171 (.iaload) 1 172 := by decide +kernel
theorem dX8_size_172 : gd cX8_size 172 (.ireturn) 1 173 := by decide +kernel
theorem dX8_size_173 : gd cX8_size 173 (.aload_n 0) 1 174 := by decide +kernel
theorem dX8_size_174 : gd cX8_size 174 (.getfield 19) 3 177 := by decide +kernel
theorem dX8_size_177 : gd cX8_size 177 (.getfield 103) 3 180 := by decide +kernel
theorem dX8_size_180 : decode cX8_size 180 = .ok (.bipush 7, 2) ∧ 180 + 2 = 182 ∧ (Int8.ofInt (7)).toInt32 = (7) := by decide +kernel
theorem dX8_size_182 : gd cX8_size 182 (.iaload) 1 183 := by decide +kernel
theorem dX8_size_183 : gd cX8_size 183 (.ireturn) 1 184 := by decide +kernel
theorem dX8_size_184 : gd cX8_size 184 (.aload_n 0) 1 185 := by decide +kernel
theorem dX8_size_185 : gd cX8_size 185 (.getfield 19) 3 188 := by decide +kernel
theorem dX8_size_188 : gd cX8_size 188 (.getfield 103) 3 191 := by decide +kernel
theorem dX8_size_191 : decode cX8_size 191 = .ok (.bipush 8, 2) ∧ 191 + 2 = 193 ∧ (Int8.ofInt (8)).toInt32 = (8) := by decide +kernel
theorem dX8_size_193 : gd cX8_size 193 (.iaload) 1 194 := by decide +kernel
theorem dX8_size_194 : gd cX8_size 194 (.ireturn) 1 195 := by decide +kernel
theorem dX8_size_195 : gd cX8_size 195 (.aload_n 0) 1 196 := by decide +kernel
theorem dX8_size_196 : gd cX8_size 196 (.getfield 19) 3 199 := by decide +kernel
theorem dX8_size_199 : gd cX8_size 199 (.getfield 103) 3 202 := by decide +kernel
theorem dX8_size_202 : decode cX8_size 202 = .ok (.bipush 9, 2) ∧ 202 + 2 = 204 ∧ (Int8.ofInt (9)).toInt32 = (9) := by decide +kernel
theorem dX8_size_204 : gd cX8_size 204 (.iaload) 1 205 := by decide +kernel
theorem dX8_size_205 : gd cX8_size 205 (.ireturn) 1 206 := by decide +kernel
theorem dX8_size_206 : gd cX8_size 206 (.aload_n 0) 1 207 := by decide +kernel
theorem dX8_size_207 : gd cX8_size 207 (.getfield 40) 3 210 := by decide +kernel
theorem dX8_size_210 : gd cX8_size 210 (.getfield 316) 3 213 := by decide +kernel
theorem dX8_size_213 : gd cX8_size 213 (.ireturn) 1 214 := by decide +kernel
theorem dX8_size_214 : gd cX8_size 214 (.aload_n 0) 1 215 := by decide +kernel
theorem dX8_size_215 : gd cX8_size 215 (.getfield 40) 3 218 := by decide +kernel
theorem dX8_size_218 : gd cX8_size 218 (.getfield 295) 3 221 := by decide +kernel
theorem dX8_size_221 : gd cX8_size 221 (.ireturn) 1 222 := by decide +kernel
theorem dX8_size_222 : gd cX8_size 222 (.aload_n 0) 1 223 := by decide +kernel
theorem dX8_size_223 : gd cX8_size 223 (.getfield 10) 3 226 := by decide +kernel
theorem dX8_size_226 : gd cX8_size 226 (.getfield 83) 3 229 := by decide +kernel
theorem dX8_size_229 : gd cX8_size 229 (.ireturn) 1 230 := by decide +kernel
theorem dX8_size_230 : decode cX8_size 230 = .ok (.iconst (-1), 1) ∧ 230 + 1 = 231 ∧ Int32.ofInt (-1) = (-1) := by decide +kernel
theorem dX8_size_231 : gd cX8_size 231 (.ireturn) 1 232 := by decide +kernel
theorem dX8_trouble_0 : gd cX8_trouble 0 (.aload_n 0) 1 1 := by decide +kernel
theorem dX8_trouble_1 : gd cX8_trouble 1 (.getfield 65) 3 4 := by decide +kernel
theorem dX8_trouble_4 : gd cX8_trouble 4 (.ireturn) 1 5 := by decide +kernel
theorem dX8_refuse_0 : gd cX8_refuse 0 (.aload_n 0) 1 1 := by decide +kernel
theorem dX8_refuse_1 : gd cX8_refuse 1 (.iload_n 1) 1 2 := by decide +kernel
theorem dX8_refuse_2 : gd cX8_refuse 2 (.putfield 65) 3 5 := by decide +kernel
theorem dX8_refuse_5 : decode cX8_refuse 5 = .ok (.iconst (-1), 1) ∧ 5 + 1 = 6 ∧ Int32.ofInt (-1) = (-1) := by decide +kernel
theorem dX8_refuse_6 : gd cX8_refuse 6 (.ireturn) 1 7 := by decide +kernel
theorem dX8_answer_0 : gd cX8_answer 0 (.aload_n 0) 1 1 := by decide +kernel
theorem dX8_answer_1 : decode cX8_answer 1 = .ok (.iconst 0, 1) ∧ 1 + 1 = 2 ∧ Int32.ofInt (0) = (0) := by decide +kernel
theorem dX8_answer_2 : gd cX8_answer 2 (.putfield 65) 3 5 := by decide +kernel
theorem dX8_answer_5 : gd cX8_answer 5 (.iload_n 1) 1 6 := by decide +kernel
theorem dX8_answer_6 : gd cX8_answer 6 (.ireturn) 1 7 := by decide +kernel
theorem dX8_noCity_0 : gd cX8_noCity 0 (.aload_n 0) 1 1 := by decide +kernel
theorem dX8_noCity_1 : gd cX8_noCity 1 (.getfield 19) 3 4 := by decide +kernel
theorem dX8_noCity_4 : gd cX8_noCity 4 (.getfield 103) 3 7 := by decide +kernel
theorem dX8_noCity_7 : decode cX8_noCity 7 = .ok (.iconst 1, 1) ∧ 7 + 1 = 8 ∧ Int32.ofInt (1) = (1) := by decide +kernel
theorem dX8_noCity_8 : gd cX8_noCity 8 (.iaload) 1 9 := by decide +kernel
theorem dX8_noCity_9 : gb cX8_noCity 9 (.ifCond .ne 7) (7) 12 16 := by decide +kernel
theorem dX8_noCity_12 : decode cX8_noCity 12 = .ok (.iconst 1, 1) ∧ 12 + 1 = 13 ∧ Int32.ofInt (1) = (1) := by decide +kernel
theorem dX8_noCity_13 : gb cX8_noCity 13 (.goto 4) (4) 16 17 := by decide +kernel
theorem dX8_noCity_16 : decode cX8_noCity 16 = .ok (.iconst 0, 1) ∧ 16 + 1 = 17 ∧ Int32.ofInt (0) = (0) := by decide +kernel
theorem dX8_noCity_17 : gd cX8_noCity 17 (.ireturn) 1 18 := by decide +kernel
theorem dX8_isPane_0 : gd cX8_isPane 0 (.iload_n 1) 1 1 := by decide +kernel
theorem dX8_isPane_1 : gb cX8_isPane 1 (.ifCond .lt 20) (20) 4 21 := by decide +kernel
theorem dX8_isPane_4 : gd cX8_isPane 4 (.iload_n 1) 1 5 := by decide +kernel
theorem dX8_isPane_5 : gd cX8_isPane 5 (.aload_n 0) 1 6 := by decide +kernel
theorem dX8_isPane_6 : gd cX8_isPane 6 (.getfield 19) 3 9 := by decide +kernel
theorem dX8_isPane_9 : gd cX8_isPane 9 (.getfield 103) 3 12 := by decide +kernel
theorem dX8_isPane_12 : decode cX8_isPane 12 = .ok (.iconst 1, 1) ∧ 12 + 1 = 13 ∧ Int32.ofInt (1) = (1) := by decide +kernel
theorem dX8_isPane_13 : gd cX8_isPane 13 (.iaload) 1 14 := by decide +kernel
theorem dX8_isPane_14 : gb cX8_isPane 14 (.if_icmp .ge 7) (7) 17 21 := by decide +kernel
theorem dX8_isPane_17 : decode cX8_isPane 17 = .ok (.iconst 1, 1) ∧ 17 + 1 = 18 ∧ Int32.ofInt (1) = (1) := by decide +kernel
theorem dX8_isPane_18 : gb cX8_isPane 18 (.goto 4) (4) 21 22 := by decide +kernel
theorem dX8_isPane_21 : decode cX8_isPane 21 = .ok (.iconst 0, 1) ∧ 21 + 1 = 22 ∧ Int32.ofInt (0) = (0) := by decide +kernel
theorem dX8_isPane_22 : gd cX8_isPane 22 (.ireturn) 1 23 := by decide +kernel
theorem dX8_isWord_0 : gd cX8_isWord 0 (.iload_n 1) 1 1 := by decide +kernel
theorem dX8_isWord_1 : gb cX8_isWord 1 (.ifCond .lt 20) (20) 4 21 := by decide +kernel
theorem dX8_isWord_4 : gd cX8_isWord 4 (.iload_n 1) 1 5 := by decide +kernel
theorem dX8_isWord_5 : gd cX8_isWord 5 (.aload_n 0) 1 6 := by decide +kernel
theorem dX8_isWord_6 : gd cX8_isWord 6 (.getfield 19) 3 9 := by decide +kernel
theorem dX8_isWord_9 : gd cX8_isWord 9 (.getfield 103) 3 12 := by decide +kernel
theorem dX8_isWord_12 : decode cX8_isWord 12 = .ok (.iconst 2, 1) ∧ 12 + 1 = 13 ∧ Int32.ofInt (2) = (2) := by decide +kernel
theorem dX8_isWord_13 : gd cX8_isWord 13 (.iaload) 1 14 := by decide +kernel
theorem dX8_isWord_14 : gb cX8_isWord 14 (.if_icmp .ge 7) (7) 17 21 := by decide +kernel
theorem dX8_isWord_17 : decode cX8_isWord 17 = .ok (.iconst 1, 1) ∧ 17 + 1 = 18 ∧ Int32.ofInt (1) = (1) := by decide +kernel
theorem dX8_isWord_18 : gb cX8_isWord 18 (.goto 4) (4) 21 22 := by decide +kernel
theorem dX8_isWord_21 : decode cX8_isWord 21 = .ok (.iconst 0, 1) ∧ 21 + 1 = 22 ∧ Int32.ofInt (0) = (0) := by decide +kernel
theorem dX8_isWord_22 : gd cX8_isWord 22 (.ireturn) 1 23 := by decide +kernel
theorem dX8_isView_0 : gd cX8_isView 0 (.iload_n 1) 1 1 := by decide +kernel
theorem dX8_isView_1 : gb cX8_isView 1 (.ifCond .lt 20) (20) 4 21 := by decide +kernel
theorem dX8_isView_4 : gd cX8_isView 4 (.iload_n 1) 1 5 := by decide +kernel
theorem dX8_isView_5 : gd cX8_isView 5 (.aload_n 0) 1 6 := by decide +kernel
theorem dX8_isView_6 : gd cX8_isView 6 (.getfield 19) 3 9 := by decide +kernel
theorem dX8_isView_9 : gd cX8_isView 9 (.getfield 103) 3 12 := by decide +kernel
theorem dX8_isView_12 : decode cX8_isView 12 = .ok (.iconst 3, 1) ∧ 12 + 1 = 13 ∧ Int32.ofInt (3) = (3) := by decide +kernel
theorem dX8_isView_13 : gd cX8_isView 13 (.iaload) 1 14 := by decide +kernel
theorem dX8_isView_14 : gb cX8_isView 14 (.if_icmp .ge 7) (7) 17 21 := by decide +kernel
theorem dX8_isView_17 : decode cX8_isView 17 = .ok (.iconst 1, 1) ∧ 17 + 1 = 18 ∧ Int32.ofInt (1) = (1) := by decide +kernel
theorem dX8_isView_18 : gb cX8_isView 18 (.goto 4) (4) 21 22 := by decide +kernel
theorem dX8_isView_21 : decode cX8_isView 21 = .ok (.iconst 0, 1) ∧ 21 + 1 = 22 ∧ Int32.ofInt (0) = (0) := by decide +kernel
theorem dX8_isView_22 : gd cX8_isView 22 (.ireturn) 1 23 := by decide +kernel
theorem dX8_isSight_0 : gd cX8_isSight 0 (.iload_n 1) 1 1 := by decide +kernel
theorem dX8_isSight_1 : decode cX8_isSight 1 = .ok (.bipush (-2), 2) ∧ 1 + 2 = 3 ∧ (Int8.ofInt (-2)).toInt32 = (-2) := by decide +kernel
theorem dX8_isSight_3 : gb cX8_isSight 3 (.if_icmp .eq 11) (11) 6 14 := by decide +kernel
theorem dX8_isSight_6 : gd cX8_isSight 6 (.aload_n 0) 1 7 := by decide +kernel
theorem dX8_isSight_7 : gd cX8_isSight 7 (.iload_n 1) 1 8 := by decide +kernel
theorem dX8_isSight_8 : gd cX8_isSight 8 (.invokevirtual 135) 3 11 := by decide +kernel
theorem dX8_isSight_11 : gb cX8_isSight 11 (.ifCond .eq 7) (7) 14 18 := by decide +kernel
theorem dX8_isSight_14 : decode cX8_isSight 14 = .ok (.iconst 1, 1) ∧ 14 + 1 = 15 ∧ Int32.ofInt (1) = (1) := by decide +kernel
theorem dX8_isSight_15 : gb cX8_isSight 15 (.goto 4) (4) 18 19 := by decide +kernel
theorem dX8_isSight_18 : decode cX8_isSight 18 = .ok (.iconst 0, 1) ∧ 18 + 1 = 19 ∧ Int32.ofInt (0) = (0) := by decide +kernel
theorem dX8_isSight_19 : gd cX8_isSight 19 (.ireturn) 1 20 := by decide +kernel
theorem dX8_isCorner_0 : gd cX8_isCorner 0 (.iload_n 1) 1 1 := by decide +kernel
theorem dX8_isCorner_1 : gb cX8_isCorner 1 (.ifCond .lt 20) (20) 4 21 := by decide +kernel
theorem dX8_isCorner_4 : gd cX8_isCorner 4 (.iload_n 1) 1 5 := by decide +kernel
theorem dX8_isCorner_5 : gd cX8_isCorner 5 (.aload_n 0) 1 6 := by decide +kernel
theorem dX8_isCorner_6 : gd cX8_isCorner 6 (.getfield 19) 3 9 := by decide +kernel
theorem dX8_isCorner_9 : gd cX8_isCorner 9 (.getfield 103) 3 12 := by decide +kernel
theorem dX8_isCorner_12 : decode cX8_isCorner 12 = .ok (.iconst 4, 1) ∧ 12 + 1 = 13 ∧ Int32.ofInt (4) = (4) := by decide +kernel
theorem dX8_isCorner_13 : gd cX8_isCorner 13 (.iaload) 1 14 := by decide +kernel
theorem dX8_isCorner_14 : gb cX8_isCorner 14 (.if_icmp .ge 7) (7) 17 21 := by decide +kernel
theorem dX8_isCorner_17 : decode cX8_isCorner 17 = .ok (.iconst 1, 1) ∧ 17 + 1 = 18 ∧ Int32.ofInt (1) = (1) := by decide +kernel
theorem dX8_isCorner_18 : gb cX8_isCorner 18 (.goto 4) (4) 21 22 := by decide +kernel
theorem dX8_isCorner_21 : decode cX8_isCorner 21 = .ok (.iconst 0, 1) ∧ 21 + 1 = 22 ∧ Int32.ofInt (0) = (0) := by decide +kernel
theorem dX8_isCorner_22 : gd cX8_isCorner 22 (.ireturn) 1 23 := by decide +kernel
theorem dX8_isLetter_0 : gd cX8_isLetter 0 (.iload_n 1) 1 1 := by decide +kernel
theorem dX8_isLetter_1 : gb cX8_isLetter 1 (.ifCond .lt 21) (21) 4 22 := by decide +kernel
theorem dX8_isLetter_4 : gd cX8_isLetter 4 (.iload_n 1) 1 5 := by decide +kernel
theorem dX8_isLetter_5 : gd cX8_isLetter 5 (.aload_n 0) 1 6 := by decide +kernel
theorem dX8_isLetter_6 : gd cX8_isLetter 6 (.getfield 19) 3 9 := by decide +kernel
theorem dX8_isLetter_9 : gd cX8_isLetter 9 (.getfield 103) 3 12 := by decide +kernel
theorem dX8_isLetter_12 : decode cX8_isLetter 12 = .ok (.bipush 7, 2) ∧ 12 + 2 = 14 ∧ (Int8.ofInt (7)).toInt32 = (7) := by decide +kernel
theorem dX8_isLetter_14 : gd cX8_isLetter 14 (.iaload) 1 15 := by decide +kernel
theorem dX8_isLetter_15 : gb cX8_isLetter 15 (.if_icmp .ge 7) (7) 18 22 := by decide +kernel
theorem dX8_isLetter_18 : decode cX8_isLetter 18 = .ok (.iconst 1, 1) ∧ 18 + 1 = 19 ∧ Int32.ofInt (1) = (1) := by decide +kernel
theorem dX8_isLetter_19 : gb cX8_isLetter 19 (.goto 4) (4) 22 23 := by decide +kernel
theorem dX8_isLetter_22 : decode cX8_isLetter 22 = .ok (.iconst 0, 1) ∧ 22 + 1 = 23 ∧ Int32.ofInt (0) = (0) := by decide +kernel
theorem dX8_isLetter_23 : gd cX8_isLetter 23 (.ireturn) 1 24 := by decide +kernel
theorem dX8_isCell_0 : gd cX8_isCell 0 (.iload_n 1) 1 1 := by decide +kernel
theorem dX8_isCell_1 : gb cX8_isCell 1 (.ifCond .lt 18) (18) 4 19 := by decide +kernel
theorem dX8_isCell_4 : gd cX8_isCell 4 (.iload_n 1) 1 5 := by decide +kernel
theorem dX8_isCell_5 : gd cX8_isCell 5 (.aload_n 0) 1 6 := by decide +kernel
theorem dX8_isCell_6 : gd cX8_isCell 6 (.getfield 19) 3 9 := by decide +kernel
theorem dX8_isCell_9 : gd cX8_isCell 9 (.invokevirtual 319) 3 12 := by decide +kernel
theorem dX8_isCell_12 : gb cX8_isCell 12 (.if_icmp .ge 7) (7) 15 19 := by decide +kernel
theorem dX8_isCell_15 : decode cX8_isCell 15 = .ok (.iconst 1, 1) ∧ 15 + 1 = 16 ∧ Int32.ofInt (1) = (1) := by decide +kernel
theorem dX8_isCell_16 : gb cX8_isCell 16 (.goto 4) (4) 19 20 := by decide +kernel
theorem dX8_isCell_19 : decode cX8_isCell 19 = .ok (.iconst 0, 1) ∧ 19 + 1 = 20 ∧ Int32.ofInt (0) = (0) := by decide +kernel
theorem dX8_isCell_20 : gd cX8_isCell 20 (.ireturn) 1 21 := by decide +kernel
theorem dX8_whyNot_0 : gd cX8_whyNot 0 (.aload_n 0) 1 1 := by decide +kernel
theorem dX8_whyNot_1 : gd cX8_whyNot 1 (.iload_n 1) 1 2 := by decide +kernel
theorem dX8_whyNot_2 : gd cX8_whyNot 2 (.invokevirtual 110) 3 5 := by decide +kernel
theorem dX8_whyNot_5 : gb cX8_whyNot 5 (.ifCond .eq 7) (7) 8 12 := by decide +kernel
theorem dX8_whyNot_8 : gd cX8_whyNot 8 (.iload_n 2) 1 9 := by decide +kernel
theorem dX8_whyNot_9 : gb cX8_whyNot 9 (.ifCond .ne 5) (5) 12 14 := by decide +kernel
theorem dX8_whyNot_12 : decode cX8_whyNot 12 = .ok (.iconst 1, 1) ∧ 12 + 1 = 13 ∧ Int32.ofInt (1) = (1) := by decide +kernel
theorem dX8_whyNot_13 : gd cX8_whyNot 13 (.ireturn) 1 14 := by decide +kernel
theorem dX8_whyNot_14 : gd cX8_whyNot 14 (.aload_n 0) 1 15 := by decide +kernel
theorem dX8_whyNot_15 : gd cX8_whyNot 15 (.getfield 40) 3 18 := by decide +kernel
theorem dX8_whyNot_18 : gd cX8_whyNot 18 (.iload_n 1) 1 19 := by decide +kernel
theorem dX8_whyNot_19 : gd cX8_whyNot 19 (.invokevirtual 123) 3 22 := by decide +kernel
theorem dX8_whyNot_22 : gb cX8_whyNot 22 (.ifCond .eq 7) (7) 25 29 := by decide +kernel
theorem dX8_whyNot_25 : decode cX8_whyNot 25 = .ok (.iconst 5, 1) ∧ 25 + 1 = 26 ∧ Int32.ofInt (5) = (5) := by decide +kernel
theorem dX8_whyNot_26 : gb cX8_whyNot 26 (.goto 4) (4) 29 30 := by decide +kernel
theorem dX8_whyNot_29 : decode cX8_whyNot 29 = .ok (.iconst 0, 1) ∧ 29 + 1 = 30 ∧ Int32.ofInt (0) = (0) := by decide +kernel
theorem dX8_whyNot_30 : gd cX8_whyNot 30 (.ireturn) 1 31 := by decide +kernel
theorem dX8_whyNotBoth_0 : gd cX8_whyNotBoth 0 (.aload_n 0) 1 1 := by decide +kernel
theorem dX8_whyNotBoth_1 : gd cX8_whyNotBoth 1 (.iload_n 1) 1 2 := by decide +kernel
theorem dX8_whyNotBoth_2 : gd cX8_whyNotBoth 2 (.aload_n 0) 1 3 := by decide +kernel
theorem dX8_whyNotBoth_3 : gd cX8_whyNotBoth 3 (.iload_n 2) 1 4 := by decide +kernel
theorem dX8_whyNotBoth_4 : gd cX8_whyNotBoth 4 (.invokevirtual 110) 3 7 := by decide +kernel
theorem dX8_whyNotBoth_7 : gb cX8_whyNotBoth 7 (.ifCond .eq 12) (12) 10 19 := by decide +kernel
theorem dX8_whyNotBoth_10 : gd cX8_whyNotBoth 10 (.iload_n 1) 1 11 := by decide +kernel
theorem dX8_whyNotBoth_11 : gd cX8_whyNotBoth 11 (.iload_n 2) 1 12 := by decide +kernel
theorem dX8_whyNotBoth_12 : gb cX8_whyNotBoth 12 (.if_icmp .eq 7) (7) 15 19 := by decide +kernel
theorem dX8_whyNotBoth_15 : decode cX8_whyNotBoth 15 = .ok (.iconst 1, 1) ∧ 15 + 1 = 16 ∧ Int32.ofInt (1) = (1) := by decide +kernel
theorem dX8_whyNotBoth_16 : gb cX8_whyNotBoth 16 (.goto 4) (4) 19 20 := by decide +kernel
theorem dX8_whyNotBoth_19 : decode cX8_whyNotBoth 19 = .ok (.iconst 0, 1) ∧ 19 + 1 = 20 ∧ Int32.ofInt (0) = (0) := by decide +kernel
theorem dX8_whyNotBoth_20 : gd cX8_whyNotBoth 20 (.invokevirtual 144) 3 23 := by decide +kernel
theorem dX8_whyNotBoth_23 : gd cX8_whyNotBoth 23 (.istore_n 3) 1 24 := by decide +kernel
theorem dX8_whyNotBoth_24 : gd cX8_whyNotBoth 24 (.iload_n 3) 1 25 := by decide +kernel
theorem dX8_whyNotBoth_25 : gb cX8_whyNotBoth 25 (.ifCond .ne 12) (12) 28 37 := by decide +kernel
theorem dX8_whyNotBoth_28 : gd cX8_whyNotBoth 28 (.aload_n 0) 1 29 := by decide +kernel
theorem dX8_whyNotBoth_29 : gd cX8_whyNotBoth 29 (.iload_n 2) 1 30 := by decide +kernel
theorem dX8_whyNotBoth_30 : decode cX8_whyNotBoth 30 = .ok (.iconst 1, 1) ∧ 30 + 1 = 31 ∧ Int32.ofInt (1) = (1) := by decide +kernel
theorem dX8_whyNotBoth_31 : gd cX8_whyNotBoth 31 (.invokevirtual 144) 3 34 := by decide +kernel
theorem dX8_whyNotBoth_34 : gb cX8_whyNotBoth 34 (.goto 4) (4) 37 38 := by decide +kernel
theorem dX8_whyNotBoth_37 : gd cX8_whyNotBoth 37 (.iload_n 3) 1 38 := by decide +kernel
theorem dX8_whyNotBoth_38 : gd cX8_whyNotBoth 38 (.ireturn) 1 39 := by decide +kernel
theorem dX8_whyNotSafest_0 : gd cX8_whyNotSafest 0 (.aload_n 0) 1 1 := by decide +kernel
theorem dX8_whyNotSafest_1 : gd cX8_whyNotSafest 1 (.iload_n 1) 1 2 := by decide +kernel
theorem dX8_whyNotSafest_2 : gd cX8_whyNotSafest 2 (.aload_n 0) 1 3 := by decide +kernel
theorem dX8_whyNotSafest_3 : gd cX8_whyNotSafest 3 (.iload_n 2) 1 4 := by decide +kernel
theorem dX8_whyNotSafest_4 : gd cX8_whyNotSafest 4 (.invokevirtual 167) 3 7 := by decide +kernel
theorem dX8_whyNotSafest_7 : gb cX8_whyNotSafest 7 (.ifCond .eq 15) (15) 10 22 := by decide +kernel
theorem dX8_whyNotSafest_10 : gd cX8_whyNotSafest 10 (.aload_n 0) 1 11 := by decide +kernel
theorem dX8_whyNotSafest_11 : gd cX8_whyNotSafest 11 (.iload_n 3) 1 12 := by decide +kernel
theorem dX8_whyNotSafest_12 : gd cX8_whyNotSafest 12 (.invokevirtual 167) 3 15 := by decide +kernel
theorem dX8_whyNotSafest_15 : gb cX8_whyNotSafest 15 (.ifCond .eq 7) (7) 18 22 := by decide +kernel
theorem dX8_whyNotSafest_18 : decode cX8_whyNotSafest 18 = .ok (.iconst 1, 1) ∧ 18 + 1 = 19 ∧ Int32.ofInt (1) = (1) := by decide +kernel
theorem dX8_whyNotSafest_19 : gb cX8_whyNotSafest 19 (.goto 4) (4) 22 23 := by decide +kernel
theorem dX8_whyNotSafest_22 : decode cX8_whyNotSafest 22 = .ok (.iconst 0, 1) ∧ 22 + 1 = 23 ∧ Int32.ofInt (0) = (0) := by decide +kernel
theorem dX8_whyNotSafest_23 : gd cX8_whyNotSafest 23 (.invokevirtual 144) 3 26 := by decide +kernel
theorem dX8_whyNotSafest_26 : gd cX8_whyNotSafest 26 (.istore 4) 2 28 := by decide +kernel
theorem dX8_whyNotSafest_28 : gd cX8_whyNotSafest 28 (.iload 4) 2 30 := by decide +kernel
theorem dX8_whyNotSafest_30 : gb cX8_whyNotSafest 30 (.ifCond .eq 6) (6) 33 36 := by decide +kernel
theorem dX8_whyNotSafest_33 : gd cX8_whyNotSafest 33 (.iload 4) 2 35 := by decide +kernel
theorem dX8_whyNotSafest_35 : gd cX8_whyNotSafest 35 (.ireturn) 1 36 := by decide +kernel
theorem dX8_whyNotSafest_36 : gd cX8_whyNotSafest 36 (.aload_n 0) 1 37 := by decide +kernel
theorem dX8_whyNotSafest_37 : gd cX8_whyNotSafest 37 (.getfield 47) 3 40 := by decide +kernel
theorem dX8_whyNotSafest_40 : gd cX8_whyNotSafest 40 (.aload_n 0) 1 41 := by decide +kernel
theorem dX8_whyNotSafest_41 : gd cX8_whyNotSafest 41 (.getfield 19) 3 44 := by decide +kernel
theorem dX8_whyNotSafest_44 : gd cX8_whyNotSafest 44 (.iload_n 2) 1 45 := by decide +kernel
theorem dX8_whyNotSafest_45 : gd cX8_whyNotSafest 45 (.iload_n 3) 1 46 := by decide +kernel
theorem dX8_whyNotSafest_46 : gd cX8_whyNotSafest 46 (.aload_n 0) 1 47 := by decide +kernel
theorem dX8_whyNotSafest_47 : gd cX8_whyNotSafest 47 (.getfield 19) 3 50 := by decide +kernel
theorem dX8_whyNotSafest_50 : gd cX8_whyNotSafest 50 (.getfield 114) 3 53 := by decide +kernel
theorem dX8_whyNotSafest_53 : gd cX8_whyNotSafest 53 (.iload_n 1) 1 54 := by decide +kernel
theorem dX8_whyNotSafest_54 : gd cX8_whyNotSafest 54 (.iaload) 1 55 := by decide +kernel
theorem dX8_whyNotSafest_55 : decode cX8_whyNotSafest 55 = .ok (.iconst 1, 1) ∧ 55 + 1 = 56 ∧ Int32.ofInt (1) = (1) := by decide +kernel
theorem dX8_whyNotSafest_56 : gb cX8_whyNotSafest 56 (.if_icmp .ne 7) (7) 59 63 := by decide +kernel
theorem dX8_whyNotSafest_59 : decode cX8_whyNotSafest 59 = .ok (.iconst 1, 1) ∧ 59 + 1 = 60 ∧ Int32.ofInt (1) = (1) := by decide +kernel
theorem dX8_whyNotSafest_60 : gb cX8_whyNotSafest 60 (.goto 4) (4) 63 64 := by decide +kernel
theorem dX8_whyNotSafest_63 : decode cX8_whyNotSafest 63 = .ok (.iconst 0, 1) ∧ 63 + 1 = 64 ∧ Int32.ofInt (0) = (0) := by decide +kernel
theorem dX8_whyNotSafest_64 : gd cX8_whyNotSafest 64 (.invokevirtual 322) 3 67 := by decide +kernel
theorem dX8_whyNotSafest_67 : gd cX8_whyNotSafest 67 (.aload_n 0) 1 68 := by decide +kernel
theorem dX8_whyNotSafest_68 : gd cX8_whyNotSafest 68 (.getfield 47) 3 71 := by decide +kernel
theorem dX8_whyNotSafest_71 : gd cX8_whyNotSafest 71 (.getfield 326) 3 74 := by decide +kernel
theorem dX8_whyNotSafest_74 : gb cX8_whyNotSafest 74 (.ifCond .ne 8) (8) 77 82 := by decide +kernel
theorem dX8_whyNotSafest_77 : decode cX8_whyNotSafest 77 = .ok (.bipush 6, 2) ∧ 77 + 2 = 79 ∧ (Int8.ofInt (6)).toInt32 = (6) := by decide +kernel
theorem dX8_whyNotSafest_79 : gb cX8_whyNotSafest 79 (.goto 4) (4) 82 83 := by decide +kernel
theorem dX8_whyNotSafest_82 : decode cX8_whyNotSafest 82 = .ok (.iconst 0, 1) ∧ 82 + 1 = 83 ∧ Int32.ofInt (0) = (0) := by decide +kernel
theorem dX8_whyNotSafest_83 : gd cX8_whyNotSafest 83 (.ireturn) 1 84 := by decide +kernel
theorem dX8_whyNotMade_0 : gd cX8_whyNotMade 0 (.aload_n 0) 1 1 := by decide +kernel
theorem dX8_whyNotMade_1 : gd cX8_whyNotMade 1 (.iload_n 1) 1 2 := by decide +kernel
theorem dX8_whyNotMade_2 : gd cX8_whyNotMade 2 (.invokevirtual 129) 3 5 := by decide +kernel
theorem dX8_whyNotMade_5 : gb cX8_whyNotMade 5 (.ifCond .eq 37) (37) 8 42 := by decide +kernel
theorem dX8_whyNotMade_8 : gd cX8_whyNotMade 8 (.aload_n 0) 1 9 := by decide +kernel
theorem dX8_whyNotMade_9 : gd cX8_whyNotMade 9 (.iload_n 3) 1 10 := by decide +kernel
theorem dX8_whyNotMade_10 : gd cX8_whyNotMade 10 (.invokevirtual 129) 3 13 := by decide +kernel
theorem dX8_whyNotMade_13 : gb cX8_whyNotMade 13 (.ifCond .eq 29) (29) 16 42 := by decide +kernel
theorem dX8_whyNotMade_16 : gd cX8_whyNotMade 16 (.aload_n 0) 1 17 := by decide +kernel
theorem dX8_whyNotMade_17 : gd cX8_whyNotMade 17 (.iload 5) 2 19 := by decide +kernel
theorem dX8_whyNotMade_19 : gd cX8_whyNotMade 19 (.invokevirtual 129) 3 22 := by decide +kernel
theorem dX8_whyNotMade_22 : gb cX8_whyNotMade 22 (.ifCond .eq 20) (20) 25 42 := by decide +kernel
theorem dX8_whyNotMade_25 : gd cX8_whyNotMade 25 (.aload_n 0) 1 26 := by decide +kernel
theorem dX8_whyNotMade_26 : gd cX8_whyNotMade 26 (.iload_n 2) 1 27 := by decide +kernel
theorem dX8_whyNotMade_27 : gd cX8_whyNotMade 27 (.invokevirtual 141) 3 30 := by decide +kernel
theorem dX8_whyNotMade_30 : gb cX8_whyNotMade 30 (.ifCond .eq 12) (12) 33 42 := by decide +kernel
theorem dX8_whyNotMade_33 : gd cX8_whyNotMade 33 (.aload_n 0) 1 34 := by decide +kernel
theorem dX8_whyNotMade_34 : gd cX8_whyNotMade 34 (.iload 4) 2 36 := by decide +kernel
theorem dX8_whyNotMade_36 : gd cX8_whyNotMade 36 (.invokevirtual 141) 3 39 := by decide +kernel
theorem dX8_whyNotMade_39 : gb cX8_whyNotMade 39 (.ifCond .ne 5) (5) 42 44 := by decide +kernel
theorem dX8_whyNotMade_42 : decode cX8_whyNotMade 42 = .ok (.iconst 1, 1) ∧ 42 + 1 = 43 ∧ Int32.ofInt (1) = (1) := by decide +kernel
theorem dX8_whyNotMade_43 : gd cX8_whyNotMade 43 (.ireturn) 1 44 := by decide +kernel
theorem dX8_whyNotMade_44 : gd cX8_whyNotMade 44 (.aload_n 0) 1 45 := by decide +kernel
theorem dX8_whyNotMade_45 : gd cX8_whyNotMade 45 (.getfield 54) 3 48 := by decide +kernel
theorem dX8_whyNotMade_48 : gd cX8_whyNotMade 48 (.aload_n 0) 1 49 := by decide +kernel
theorem dX8_whyNotMade_49 : gd cX8_whyNotMade 49 (.getfield 19) 3 52 := by decide +kernel
theorem dX8_whyNotMade_52 : gd cX8_whyNotMade 52 (.getfield 132) 3 55 := by decide +kernel
theorem dX8_whyNotMade_55 : gd cX8_whyNotMade 55 (.iload_n 1) 1 56 := by decide +kernel
theorem dX8_whyNotMade_56 : gd cX8_whyNotMade 56 (.iaload) 1 57 := by decide +kernel
theorem dX8_whyNotMade_57 : gd cX8_whyNotMade 57 (.aload_n 0) 1 58 := by decide +kernel
theorem dX8_whyNotMade_58 : gd cX8_whyNotMade 58 (.getfield 19) 3 61 := by decide +kernel
theorem dX8_whyNotMade_61 : gd cX8_whyNotMade 61 (.iload_n 2) 1 62 := by decide +kernel
theorem dX8_whyNotMade_62 : gd cX8_whyNotMade 62 (.invokevirtual 327) 3 65 := by decide +kernel
theorem dX8_whyNotMade_65 : gd cX8_whyNotMade 65 (.aload_n 0) 1 66 := by decide +kernel
theorem dX8_whyNotMade_66 : gd cX8_whyNotMade 66 (.getfield 19) 3 69 := by decide +kernel
theorem dX8_whyNotMade_69 : gd cX8_whyNotMade 69 (.getfield 132) 3 72 := by decide +kernel
theorem dX8_whyNotMade_72 : gd cX8_whyNotMade 72 (.iload_n 3) 1 73 := by decide +kernel
theorem dX8_whyNotMade_73 : gd cX8_whyNotMade 73 (.iaload) 1 74 := by decide +kernel
theorem dX8_whyNotMade_74 : gd cX8_whyNotMade 74 (.aload_n 0) 1 75 := by decide +kernel
theorem dX8_whyNotMade_75 : gd cX8_whyNotMade 75 (.getfield 19) 3 78 := by decide +kernel
theorem dX8_whyNotMade_78 : gd cX8_whyNotMade 78 (.iload 4) 2 80 := by decide +kernel
theorem dX8_whyNotMade_80 : gd cX8_whyNotMade 80 (.invokevirtual 327) 3 83 := by decide +kernel
theorem dX8_whyNotMade_83 : gd cX8_whyNotMade 83 (.aload_n 0) 1 84 := by decide +kernel
theorem dX8_whyNotMade_84 : gd cX8_whyNotMade 84 (.getfield 19) 3 87 := by decide +kernel
theorem dX8_whyNotMade_87 : gd cX8_whyNotMade 87 (.getfield 132) 3 90 := by decide +kernel
theorem dX8_whyNotMade_90 : gd cX8_whyNotMade 90 (.iload 5) 2 92 := by decide +kernel
theorem dX8_whyNotMade_92 : gd cX8_whyNotMade 92 (.iaload) 1 93 := by decide +kernel
theorem dX8_whyNotMade_93 : gd cX8_whyNotMade 93 (.invokevirtual 330) 3 96 := by decide +kernel
theorem dX8_whyNotMade_96 : gd cX8_whyNotMade 96 (.istore 6) 2 98 := by decide +kernel
theorem dX8_whyNotMade_98 : gd cX8_whyNotMade 98 (.iload 6) 2 100 := by decide +kernel
theorem dX8_whyNotMade_100 : gb cX8_whyNotMade 100 (.ifCond .eq 7) (7) 103 107 := by decide +kernel
theorem dX8_whyNotMade_103 : decode cX8_whyNotMade 103 = .ok (.iconst 0, 1) ∧ 103 + 1 = 104 ∧ Int32.ofInt (0) = (0) := by decide +kernel
theorem dX8_whyNotMade_104 : gb cX8_whyNotMade 104 (.goto 5) (5) 107 109 := by decide +kernel
theorem dX8_whyNotMade_107 : decode cX8_whyNotMade 107 = .ok (.bipush 6, 2) ∧ 107 + 2 = 109 ∧ (Int8.ofInt (6)).toInt32 = (6) := by decide +kernel
theorem dX8_whyNotMade_109 : gd cX8_whyNotMade 109 (.ireturn) 1 110 := by decide +kernel
theorem dX8_whyNoDays_0 : gd cX8_whyNoDays 0 (.aload_n 0) 1 1 := by decide +kernel
theorem dX8_whyNoDays_1 : gd cX8_whyNoDays 1 (.invokevirtual 215) 3 4 := by decide +kernel
theorem dX8_whyNoDays_4 : gb cX8_whyNoDays 4 (.ifCond .eq 5) (5) 7 9 := by decide +kernel
theorem dX8_whyNoDays_7 : decode cX8_whyNoDays 7 = .ok (.iconst 1, 1) ∧ 7 + 1 = 8 ∧ Int32.ofInt (1) = (1) := by decide +kernel
theorem dX8_whyNoDays_8 : gd cX8_whyNoDays 8 (.ireturn) 1 9 := by decide +kernel
theorem dX8_whyNoDays_9 : gd cX8_whyNoDays 9 (.iload_n 1) 1 10 := by decide +kernel
theorem dX8_whyNoDays_10 : gb cX8_whyNoDays 10 (.ifCond .lt 20) (20) 13 30 := by decide +kernel
theorem dX8_whyNoDays_13 : gd cX8_whyNoDays 13 (.iload_n 1) 1 14 := by decide +kernel
theorem dX8_whyNoDays_14 : gd cX8_whyNoDays 14 (.ldc_w 334) 3 17 := by decide +kernel
theorem dX8_whyNoDays_17 : gb cX8_whyNoDays 17 (.if_icmp .gt 13) (13) 20 30 := by decide +kernel
theorem dX8_whyNoDays_20 : gd cX8_whyNoDays 20 (.iload_n 2) 1 21 := by decide +kernel
theorem dX8_whyNoDays_21 : gb cX8_whyNoDays 21 (.ifCond .lt 9) (9) 24 30 := by decide +kernel
theorem dX8_whyNoDays_24 : gd cX8_whyNoDays 24 (.iload_n 2) 1 25 := by decide +kernel
theorem dX8_whyNoDays_25 : decode cX8_whyNoDays 25 = .ok (.bipush 99, 2) ∧ 25 + 2 = 27 ∧ (Int8.ofInt (99)).toInt32 = (99) := by decide +kernel
theorem dX8_whyNoDays_27 : gb cX8_whyNoDays 27 (.if_icmp .le 7) (7) 30 34 := by decide +kernel
theorem dX8_whyNoDays_30 : decode cX8_whyNoDays 30 = .ok (.iconst 2, 1) ∧ 30 + 1 = 31 ∧ Int32.ofInt (2) = (2) := by decide +kernel
theorem dX8_whyNoDays_31 : gb cX8_whyNoDays 31 (.goto 4) (4) 34 35 := by decide +kernel
theorem dX8_whyNoDays_34 : decode cX8_whyNoDays 34 = .ok (.iconst 0, 1) ∧ 34 + 1 = 35 ∧ Int32.ofInt (0) = (0) := by decide +kernel
theorem dX8_whyNoDays_35 : gd cX8_whyNoDays 35 (.ireturn) 1 36 := by decide +kernel
theorem dX8_act_0 : gd cX8_act 0 (.aload_n 0) 1 1 := by decide +kernel
theorem dX8_act_1 : gd cX8_act 1 (.iload_n 1) 1 2 := by decide +kernel
theorem dX8_act_2 : gd cX8_act 2 (.putfield 65) 3 5 := by decide +kernel
theorem dX8_act_5 : gd cX8_act 5 (.iload_n 1) 1 6 := by decide +kernel
theorem dX8_act_6 : gb cX8_act 6 (.ifCond .eq 5) (5) 9 11 := by decide +kernel
theorem dX8_act_9 : decode cX8_act 9 = .ok (.iconst 0, 1) ∧ 9 + 1 = 10 ∧ Int32.ofInt (0) = (0) := by decide +kernel
theorem dX8_act_10 : gd cX8_act 10 (.ireturn) 1 11 := by decide +kernel
theorem dX8_act_11 : gd cX8_act 11 (.aload_n 0) 1 12 := by decide +kernel
theorem dX8_act_12 : gd cX8_act 12 (.getfield 40) 3 15 := by decide +kernel
theorem dX8_act_15 : gd cX8_act 15 (.iload_n 2) 1 16 := by decide +kernel
theorem dX8_act_16 : gd cX8_act 16 (.iload_n 3) 1 17 := by decide +kernel
theorem dX8_act_17 : gd cX8_act 17 (.iload 4) 2 19 := by decide +kernel
theorem dX8_act_19 : gd cX8_act 19 (.invokevirtual 335) 3 22 := by decide +kernel
theorem dX8_act_22 : decode cX8_act 22 = .ok (.iconst 1, 1) ∧ 22 + 1 = 23 ∧ Int32.ofInt (1) = (1) := by decide +kernel
theorem dX8_act_23 : gd cX8_act 23 (.ireturn) 1 24 := by decide +kernel
theorem dX8_soonestMinutes_0 : gd cX8_soonestMinutes 0 (.aload_n 0) 1 1 := by decide +kernel
theorem dX8_soonestMinutes_1 : gd cX8_soonestMinutes 1 (.getfield 47) 3 4 := by decide +kernel
theorem dX8_soonestMinutes_4 : gd cX8_soonestMinutes 4 (.aload_n 0) 1 5 := by decide +kernel
theorem dX8_soonestMinutes_5 : gd cX8_soonestMinutes 5 (.getfield 19) 3 8 := by decide +kernel
theorem dX8_soonestMinutes_8 : gd cX8_soonestMinutes 8 (.iload_n 1) 1 9 := by decide +kernel
theorem dX8_soonestMinutes_9 : gd cX8_soonestMinutes 9 (.iload_n 2) 1 10 := by decide +kernel
theorem dX8_soonestMinutes_10 : gd cX8_soonestMinutes 10 (.iload_n 3) 1 11 := by decide +kernel
theorem dX8_soonestMinutes_11 : gd cX8_soonestMinutes 11 (.invokevirtual 174) 3 14 := by decide +kernel
theorem dX8_soonestMinutes_14 : gd cX8_soonestMinutes 14 (.aload_n 0) 1 15 := by decide +kernel
theorem dX8_soonestMinutes_15 : gd cX8_soonestMinutes 15 (.getfield 47) 3 18 := by decide +kernel
theorem dX8_soonestMinutes_18 : gd cX8_soonestMinutes 18 (.getfield 326) 3 21 := by decide +kernel
theorem dX8_soonestMinutes_21 : gb cX8_soonestMinutes 21 (.ifCond .ne 8) (8) 24 29 := by decide +kernel
theorem dX8_soonestMinutes_24 : decode cX8_soonestMinutes 24 = .ok (.bipush (-2), 2) ∧ 24 + 2 = 26 ∧ (Int8.ofInt (-2)).toInt32 = (-2) := by decide +kernel
theorem dX8_soonestMinutes_26 : gb cX8_soonestMinutes 26 (.goto 10) (10) 29 36 := by decide +kernel
theorem dX8_soonestMinutes_29 : gd cX8_soonestMinutes 29 (.aload_n 0) 1 30 := by decide +kernel
theorem dX8_soonestMinutes_30 : gd cX8_soonestMinutes 30 (.getfield 47) 3 33 := by decide +kernel
theorem dX8_soonestMinutes_33 : gd cX8_soonestMinutes 33 (.invokevirtual 339) 3 36 := by decide +kernel
theorem dX8_soonestMinutes_36 : gd cX8_soonestMinutes 36 (.ireturn) 1 37 := by decide +kernel
theorem dX8_cornerOfWay_0 : gd cX8_cornerOfWay 0 (.iload_n 1) 1 1 := by decide +kernel
theorem dX8_cornerOfWay_1 : gb cX8_cornerOfWay 1 (.ifCond .lt 30) (30) 4 31 := by decide +kernel
theorem dX8_cornerOfWay_4 : gd cX8_cornerOfWay 4 (.iload_n 1) 1 5 := by decide +kernel
theorem dX8_cornerOfWay_5 : gd cX8_cornerOfWay 5 (.aload_n 0) 1 6 := by decide +kernel
theorem dX8_cornerOfWay_6 : gd cX8_cornerOfWay 6 (.getfield 47) 3 9 := by decide +kernel
theorem dX8_cornerOfWay_9 : gd cX8_cornerOfWay 9 (.getfield 326) 3 12 := by decide +kernel
theorem dX8_cornerOfWay_12 : gb cX8_cornerOfWay 12 (.if_icmp .ge 19) (19) 15 31 := by decide +kernel
theorem dX8_cornerOfWay_15 : gd cX8_cornerOfWay 15 (.aload_n 0) 1 16 := by decide +kernel
theorem dX8_cornerOfWay_16 : gd cX8_cornerOfWay 16 (.aload_n 0) 1 17 := by decide +kernel
theorem dX8_cornerOfWay_17 : gd cX8_cornerOfWay 17 (.getfield 47) 3 20 := by decide +kernel
theorem dX8_cornerOfWay_20 : gd cX8_cornerOfWay 20 (.getfield 342) 3 23 := by decide +kernel
theorem dX8_cornerOfWay_23 : gd cX8_cornerOfWay 23 (.iload_n 1) 1 24 := by decide +kernel
theorem dX8_cornerOfWay_24 : gd cX8_cornerOfWay 24 (.iaload) 1 25 := by decide +kernel
theorem dX8_cornerOfWay_25 : gd cX8_cornerOfWay 25 (.invokevirtual 107) 3 28 := by decide +kernel
theorem dX8_cornerOfWay_28 : gb cX8_cornerOfWay 28 (.goto 8) (8) 31 36 := by decide +kernel
theorem dX8_cornerOfWay_31 : gd cX8_cornerOfWay 31 (.aload_n 0) 1 32 := by decide +kernel
theorem dX8_cornerOfWay_32 : decode cX8_cornerOfWay 32 = .ok (.iconst 1, 1) ∧ 32 + 1 = 33 ∧ Int32.ofInt (1) = (1) := by decide +kernel
theorem dX8_cornerOfWay_33 : gd cX8_cornerOfWay 33 (.invokevirtual 86) 3 36 := by decide +kernel
theorem dX8_cornerOfWay_36 : gd cX8_cornerOfWay 36 (.ireturn) 1 37 := by decide +kernel
theorem dX8_readersOf_0 : gd cX8_readersOf 0 (.aload_n 0) 1 1 := by decide +kernel
theorem dX8_readersOf_1 : gd cX8_readersOf 1 (.getfield 19) 3 4 := by decide +kernel
theorem dX8_readersOf_4 : gd cX8_readersOf 4 (.getfield 200) 3 7 := by decide +kernel
theorem dX8_readersOf_7 : gd cX8_readersOf 7 (.iload_n 1) 1 8 := by decide +kernel
theorem dX8_readersOf_8 : gd cX8_readersOf 8 (.iaload) 1 9 := by decide +kernel
theorem dX8_readersOf_9 : gd cX8_readersOf 9 (.istore_n 2) 1 10 := by decide +kernel
theorem dX8_readersOf_10 : gd cX8_readersOf 10 (.aload_n 0) 1 11 := by decide +kernel
theorem dX8_readersOf_11 : gd cX8_readersOf 11 (.getfield 40) 3 14 := by decide +kernel
theorem dX8_readersOf_14 : gd cX8_readersOf 14 (.iload_n 2) 1 15 := by decide +kernel
theorem dX8_readersOf_15 : gd cX8_readersOf 15 (.invokevirtual 123) 3 18 := by decide +kernel
theorem dX8_readersOf_18 : gb cX8_readersOf 18 (.ifCond .eq 5) (5) 21 23 := by decide +kernel
theorem dX8_readersOf_21 : decode cX8_readersOf 21 = .ok (.iconst 0, 1) ∧ 21 + 1 = 22 ∧ Int32.ofInt (0) = (0) := by decide +kernel
theorem dX8_readersOf_22 : gd cX8_readersOf 22 (.ireturn) 1 23 := by decide +kernel
theorem dX8_readersOf_23 : gd cX8_readersOf 23 (.aload_n 0) 1 24 := by decide +kernel
theorem dX8_readersOf_24 : gd cX8_readersOf 24 (.getfield 47) 3 27 := by decide +kernel
theorem dX8_readersOf_27 : gd cX8_readersOf 27 (.aload_n 0) 1 28 := by decide +kernel
theorem dX8_readersOf_28 : gd cX8_readersOf 28 (.getfield 19) 3 31 := by decide +kernel
theorem dX8_readersOf_31 : gd cX8_readersOf 31 (.aload_n 0) 1 32 := by decide +kernel
theorem dX8_readersOf_32 : gd cX8_readersOf 32 (.getfield 19) 3 35 := by decide +kernel
theorem dX8_readersOf_35 : gd cX8_readersOf 35 (.getfield 203) 3 38 := by decide +kernel
theorem dX8_readersOf_38 : gd cX8_readersOf 38 (.iload_n 1) 1 39 := by decide +kernel
theorem dX8_readersOf_39 : gd cX8_readersOf 39 (.iaload) 1 40 := by decide +kernel
theorem dX8_readersOf_40 : gd cX8_readersOf 40 (.aload_n 0) 1 41 := by decide +kernel
theorem dX8_readersOf_41 : gd cX8_readersOf 41 (.getfield 19) 3 44 := by decide +kernel
theorem dX8_readersOf_44 : gd cX8_readersOf 44 (.getfield 206) 3 47 := by decide +kernel
theorem dX8_readersOf_47 : gd cX8_readersOf 47 (.iload_n 1) 1 48 := by decide +kernel
theorem dX8_readersOf_48 : gd cX8_readersOf 48 (.iaload) 1 49 := by decide +kernel
theorem dX8_readersOf_49 : decode cX8_readersOf 49 = .ok (.iconst 0, 1) ∧ 49 + 1 = 50 ∧ Int32.ofInt (0) = (0) := by decide +kernel
theorem dX8_readersOf_50 : gd cX8_readersOf 50 (.invokevirtual 174) 3 53 := by decide +kernel
theorem dX8_readersOf_53 : gd cX8_readersOf 53 (.aload_n 0) 1 54 := by decide +kernel
theorem dX8_readersOf_54 : gd cX8_readersOf 54 (.getfield 47) 3 57 := by decide +kernel
theorem dX8_readersOf_57 : gd cX8_readersOf 57 (.invokevirtual 345) 3 60 := by decide +kernel
theorem dX8_readersOf_60 : gd cX8_readersOf 60 (.aload_n 0) 1 61 := by decide +kernel
theorem dX8_readersOf_61 : gd cX8_readersOf 61 (.getfield 40) 3 64 := by decide +kernel
theorem dX8_readersOf_64 : gd cX8_readersOf 64 (.iload_n 2) 1 65 := by decide +kernel
theorem dX8_readersOf_65 : gd cX8_readersOf 65 (.invokevirtual 181) 3 68 := by decide +kernel
theorem dX8_readersOf_68 : gd cX8_readersOf 68 (.iand) 1 69 := by decide +kernel
theorem dX8_readersOf_69 : gd cX8_readersOf 69 (.ireturn) 1 70 := by decide +kernel
