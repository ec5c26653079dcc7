/-! DECODE ROWS, by program -/
theorem dX2_init_0 : gd cX2_init 0 (.aload_n 0) 1 1 := by decide +kernel
theorem dX2_init_1 : gd cX2_init 1 (.invokespecial 5) 3 4 := by decide +kernel
theorem dX2_init_4 : gd cX2_init 4 (.aload_n 0) 1 5 := by decide +kernel
theorem dX2_init_5 : gd cX2_init 5 (.aload_n 1) 1 6 := by decide +kernel
theorem dX2_init_6 : gd cX2_init 6 (.putfield 11) 3 9 := by decide +kernel
theorem dX2_init_9 : gd cX2_init 9 (.aload_n 0) 1 10 := by decide +kernel
theorem dX2_init_10 : decode cX2_init 10 = .ok (.bipush 8, 2) ∧ 10 + 2 = 12 ∧ (Int8.ofInt (8)).toInt32 = (8) := by decide +kernel
theorem dX2_init_12 : gd cX2_init 12 (.newarray .int) 2 14 := by decide +kernel
theorem dX2_init_14 : gd cX2_init 14 (.putfield 17) 3 17 := by decide +kernel
theorem dX2_init_17 : gd cX2_init 17 (.aload_n 0) 1 18 := by decide +kernel
theorem dX2_init_18 : decode cX2_init 18 = .ok (.bipush 8, 2) ∧ 18 + 2 = 20 ∧ (Int8.ofInt (8)).toInt32 = (8) := by decide +kernel
theorem dX2_init_20 : gd cX2_init 20 (.newarray .int) 2 22 := by decide +kernel
theorem dX2_init_22 : gd cX2_init 22 (.putfield 21) 3 25 := by decide +kernel
theorem dX2_init_25 : gd cX2_init 25 (.aload_n 0) 1 26 := by decide +kernel
theorem dX2_init_26 : decode cX2_init 26 = .ok (.bipush 16, 2) ∧ 26 + 2 = 28 ∧ (Int8.ofInt (16)).toInt32 = (16) := by decide +kernel
theorem dX2_init_28 : gd cX2_init 28 (.newarray .int) 2 30 := by decide +kernel
theorem dX2_init_30 : gd cX2_init 30 (.putfield 24) 3 33 := by decide +kernel
theorem dX2_init_33 : gd cX2_init 33 (.aload_n 0) 1 34 := by decide +kernel
theorem dX2_init_34 : decode cX2_init 34 = .ok (.bipush 16, 2) ∧ 34 + 2 = 36 ∧ (Int8.ofInt (16)).toInt32 = (16) := by decide +kernel
theorem dX2_init_36 : gd cX2_init 36 (.newarray .int) 2 38 := by decide +kernel
theorem dX2_init_38 : gd cX2_init 38 (.putfield 27) 3 41 := by decide +kernel
theorem dX2_init_41 : gd cX2_init 41 (.aload_n 0) 1 42 := by decide +kernel
theorem dX2_init_42 : decode cX2_init 42 = .ok (.bipush 16, 2) ∧ 42 + 2 = 44 ∧ (Int8.ofInt (16)).toInt32 = (16) := by decide +kernel
theorem dX2_init_44 : gd cX2_init 44 (.newarray .int) 2 46 := by decide +kernel
theorem dX2_init_46 : gd cX2_init 46 (.putfield 30) 3 49 := by decide +kernel
theorem dX2_init_49 : gd cX2_init 49 (.aload_n 0) 1 50 := by decide +kernel
theorem dX2_init_50 : decode cX2_init 50 = .ok (.bipush 51, 2) ∧ 50 + 2 = 52 ∧ (Int8.ofInt (51)).toInt32 = (51) := by decide +kernel
theorem dX2_init_52 : gd cX2_init 52 (.newarray .int) 2 54 := by decide +kernel
theorem dX2_init_54 : gd cX2_init 54 (.putfield 33) 3 57 := by decide +kernel
theorem dX2_init_57 : gd cX2_init 57 (.return_) 1 58 := by decide +kernel
theorem dX2_begin_0 : gd cX2_begin 0 (.aload_n 0) 1 1 := by decide +kernel
theorem dX2_begin_1 : gd cX2_begin 1 (.aload_n 1) 1 2 := by decide +kernel
theorem dX2_begin_2 : gd cX2_begin 2 (.putfield 11) 3 5 := by decide +kernel
theorem dX2_begin_5 : decode cX2_begin 5 = .ok (.iconst 0, 1) ∧ 5 + 1 = 6 ∧ Int32.ofInt (0) = (0) := by decide +kernel
theorem dX2_begin_6 : gd cX2_begin 6 (.istore_n 2) 1 7 := by decide +kernel
theorem dX2_begin_7 : gd cX2_begin 7 (.iload_n 2) 1 8 := by decide +kernel
theorem dX2_begin_8 : decode cX2_begin 8 = .ok (.bipush 8, 2) ∧ 8 + 2 = 10 ∧ (Int8.ofInt (8)).toInt32 = (8) := by decide +kernel
theorem dX2_begin_10 : gb cX2_begin 10 (.if_icmp .ge 28) (28) 13 38 := by decide +kernel
theorem dX2_begin_13 : gd cX2_begin 13 (.aload_n 0) 1 14 := by decide +kernel
theorem dX2_begin_14 : gd cX2_begin 14 (.getfield 17) 3 17 := by decide +kernel
theorem dX2_begin_17 : gd cX2_begin 17 (.iload_n 2) 1 18 := by decide +kernel
theorem dX2_begin_18 : gd cX2_begin 18 (.aload_n 1) 1 19 := by decide +kernel
theorem dX2_begin_19 : gd cX2_begin 19 (.getfield 36) 3 22 := by decide +kernel
theorem dX2_begin_22 : gd cX2_begin 22 (.iload_n 2) 1 23 := by decide +kernel
theorem dX2_begin_23 : gd cX2_begin 23 (.iaload) 1 24 := by decide +kernel
theorem dX2_begin_24 : gd cX2_begin 24 (.iastore) 1 25 := by decide +kernel
theorem dX2_begin_25 : gd cX2_begin 25 (.aload_n 0) 1 26 := by decide +kernel
theorem dX2_begin_26 : gd cX2_begin 26 (.getfield 21) 3 29 := by decide +kernel
theorem dX2_begin_29 : gd cX2_begin 29 (.iload_n 2) 1 30 := by decide +kernel
theorem dX2_begin_30 : decode cX2_begin 30 = .ok (.iconst 0, 1) ∧ 30 + 1 = 31 ∧ Int32.ofInt (0) = (0) := by decide +kernel
theorem dX2_begin_31 : gd cX2_begin 31 (.iastore) 1 32 := by decide +kernel
theorem dX2_begin_32 : decode cX2_begin 32 = .ok (.iinc 2 1, 3) ∧ 32 + 3 = 35 ∧ Int32.ofInt (1) = (1) := by decide +kernel
theorem dX2_begin_35 : gb cX2_begin 35 (.goto (-28)) (-28) 38 7 := by decide +kernel
theorem dX2_begin_38 : gd cX2_begin 38 (.aload_n 0) 1 39 := by decide +kernel
theorem dX2_begin_39 : decode cX2_begin 39 = .ok (.iconst 0, 1) ∧ 39 + 1 = 40 ∧ Int32.ofInt (0) = (0) := by decide +kernel
theorem dX2_begin_40 : gd cX2_begin 40 (.putfield 37) 3 43 := by decide +kernel
theorem dX2_begin_43 : gd cX2_begin 43 (.aload_n 0) 1 44 := by decide +kernel
theorem dX2_begin_44 : decode cX2_begin 44 = .ok (.iconst 0, 1) ∧ 44 + 1 = 45 ∧ Int32.ofInt (0) = (0) := by decide +kernel
theorem dX2_begin_45 : gd cX2_begin 45 (.putfield 41) 3 48 := by decide +kernel
theorem dX2_begin_48 : gd cX2_begin 48 (.aload_n 0) 1 49 := by decide +kernel
theorem dX2_begin_49 : decode cX2_begin 49 = .ok (.iconst 0, 1) ∧ 49 + 1 = 50 ∧ Int32.ofInt (0) = (0) := by decide +kernel
theorem dX2_begin_50 : gd cX2_begin 50 (.putfield 44) 3 53 := by decide +kernel
theorem dX2_begin_53 : gd cX2_begin 53 (.return_) 1 54 := by decide +kernel
theorem dX2_isBroken_0 : gd cX2_isBroken 0 (.aload_n 0) 1 1 := by decide +kernel
theorem dX2_isBroken_1 : gd cX2_isBroken 1 (.getfield 37) 3 4 := by decide +kernel
theorem dX2_isBroken_4 : gd cX2_isBroken 4 (.iload_n 1) 1 5 := by decide +kernel
theorem dX2_isBroken_5 : gd cX2_isBroken 5 (.ishr) 1 6 := by decide +kernel
theorem dX2_isBroken_6 : decode cX2_isBroken 6 = .ok (.iconst 1, 1) ∧ 6 + 1 = 7 ∧ Int32.ofInt (1) = (1) := by decide +kernel
theorem dX2_isBroken_7 : gd cX2_isBroken 7 (.iand) 1 8 := by decide +kernel
theorem dX2_isBroken_8 : gb cX2_isBroken 8 (.ifCond .eq 7) (7) 11 15 := by decide +kernel
theorem dX2_isBroken_11 : decode cX2_isBroken 11 = .ok (.iconst 1, 1) ∧ 11 + 1 = 12 ∧ Int32.ofInt (1) = (1) := by decide +kernel
theorem dX2_isBroken_12 : gb cX2_isBroken 12 (.goto 4) (4) 15 16 := by decide +kernel
theorem dX2_isBroken_15 : decode cX2_isBroken 15 = .ok (.iconst 0, 1) ∧ 15 + 1 = 16 ∧ Int32.ofInt (0) = (0) := by decide +kernel
theorem dX2_isBroken_16 : gd cX2_isBroken 16 (.ireturn) 1 17 := by decide +kernel
theorem dX2_unbroken_0 : decode cX2_unbroken 0 = .ok (.iconst 1, 1) ∧ 0 + 1 = 1 ∧ Int32.ofInt (1) = (1) := by decide +kernel
theorem dX2_unbroken_1 : gd cX2_unbroken 1 (.aload_n 0) 1 2 := by decide +kernel
theorem dX2_unbroken_2 : gd cX2_unbroken 2 (.getfield 11) 3 5 := by decide +kernel
theorem dX2_unbroken_5 : gd cX2_unbroken 5 (.getfield 47) 3 8 := by decide +kernel
theorem dX2_unbroken_8 : decode cX2_unbroken 8 = .ok (.iconst 1, 1) ∧ 8 + 1 = 9 ∧ Int32.ofInt (1) = (1) := by decide +kernel
theorem dX2_unbroken_9 : gd cX2_unbroken 9 (.iaload) 1 10 := by decide +kernel
theorem dX2_unbroken_10 : gd cX2_unbroken 10 (.ishl) 1 11 := by decide +kernel
theorem dX2_unbroken_11 : decode cX2_unbroken 11 = .ok (.iconst 1, 1) ∧ 11 + 1 = 12 ∧ Int32.ofInt (1) = (1) := by decide +kernel
theorem dX2_unbroken_12 : gd cX2_unbroken 12 (.isub) 1 13 := by decide +kernel
theorem dX2_unbroken_13 : gd cX2_unbroken 13 (.aload_n 0) 1 14 := by decide +kernel
theorem dX2_unbroken_14 : gd cX2_unbroken 14 (.getfield 37) 3 17 := by decide +kernel
theorem dX2_unbroken_17 : decode cX2_unbroken 17 = .ok (.iconst (-1), 1) ∧ 17 + 1 = 18 ∧ Int32.ofInt (-1) = (-1) := by decide +kernel
theorem dX2_unbroken_18 : gd cX2_unbroken 18 (.ixor) 1 19 := by decide +kernel
theorem dX2_unbroken_19 : gd cX2_unbroken 19 (.iand) 1 20 := by decide +kernel
theorem dX2_unbroken_20 : gd cX2_unbroken 20 (.ireturn) 1 21 := by decide +kernel
theorem dX2_light_0 : gd cX2_light 0 (.aload_n 0) 1 1 := by decide +kernel
theorem dX2_light_1 : gd cX2_light 1 (.getfield 11) 3 4 := by decide +kernel
theorem dX2_light_4 : gd cX2_light 4 (.invokevirtual 50) 3 7 := by decide +kernel
theorem dX2_light_7 : gd cX2_light 7 (.aload_n 0) 1 8 := by decide +kernel
theorem dX2_light_8 : gd cX2_light 8 (.getfield 17) 3 11 := by decide +kernel
theorem dX2_light_11 : gd cX2_light 11 (.iload_n 1) 1 12 := by decide +kernel
theorem dX2_light_12 : gd cX2_light 12 (.iaload) 1 13 := by decide +kernel
theorem dX2_light_13 : gd cX2_light 13 (.invokestatic 54) 3 16 := by decide +kernel
theorem dX2_light_16 : gd cX2_light 16 (.isub) 1 17 := by decide +kernel
theorem dX2_light_17 : gd cX2_light 17 (.ireturn) 1 18 := by decide +kernel
theorem dX2_seenBits_0 : gd cX2_seenBits 0 (.aload_n 0) 1 1 := by decide +kernel
theorem dX2_seenBits_1 : gd cX2_seenBits 1 (.getfield 17) 3 4 := by decide +kernel
theorem dX2_seenBits_4 : gd cX2_seenBits 4 (.iload_n 1) 1 5 := by decide +kernel
theorem dX2_seenBits_5 : gd cX2_seenBits 5 (.iaload) 1 6 := by decide +kernel
theorem dX2_seenBits_6 : gd cX2_seenBits 6 (.aload_n 0) 1 7 := by decide +kernel
theorem dX2_seenBits_7 : gd cX2_seenBits 7 (.getfield 21) 3 10 := by decide +kernel
theorem dX2_seenBits_10 : gd cX2_seenBits 10 (.iload_n 1) 1 11 := by decide +kernel
theorem dX2_seenBits_11 : gd cX2_seenBits 11 (.iaload) 1 12 := by decide +kernel
theorem dX2_seenBits_12 : decode cX2_seenBits 12 = .ok (.iconst (-1), 1) ∧ 12 + 1 = 13 ∧ Int32.ofInt (-1) = (-1) := by decide +kernel
theorem dX2_seenBits_13 : gd cX2_seenBits 13 (.ixor) 1 14 := by decide +kernel
theorem dX2_seenBits_14 : gd cX2_seenBits 14 (.iand) 1 15 := by decide +kernel
theorem dX2_seenBits_15 : gd cX2_seenBits 15 (.aload_n 0) 1 16 := by decide +kernel
theorem dX2_seenBits_16 : gd cX2_seenBits 16 (.getfield 11) 3 19 := by decide +kernel
theorem dX2_seenBits_19 : gd cX2_seenBits 19 (.iload_n 2) 1 20 := by decide +kernel
theorem dX2_seenBits_20 : gd cX2_seenBits 20 (.invokevirtual 60) 3 23 := by decide +kernel
theorem dX2_seenBits_23 : decode cX2_seenBits 23 = .ok (.iconst (-1), 1) ∧ 23 + 1 = 24 ∧ Int32.ofInt (-1) = (-1) := by decide +kernel
theorem dX2_seenBits_24 : gd cX2_seenBits 24 (.ixor) 1 25 := by decide +kernel
theorem dX2_seenBits_25 : gd cX2_seenBits 25 (.iand) 1 26 := by decide +kernel
theorem dX2_seenBits_26 : gd cX2_seenBits 26 (.ireturn) 1 27 := by decide +kernel
theorem dX2_wordRead_0 : gd cX2_wordRead 0 (.aload_n 0) 1 1 := by decide +kernel
theorem dX2_wordRead_1 : gd cX2_wordRead 1 (.getfield 11) 3 4 := by decide +kernel
theorem dX2_wordRead_4 : gd cX2_wordRead 4 (.aload_n 0) 1 5 := by decide +kernel
theorem dX2_wordRead_5 : gd cX2_wordRead 5 (.iload_n 1) 1 6 := by decide +kernel
theorem dX2_wordRead_6 : gd cX2_wordRead 6 (.iload_n 2) 1 7 := by decide +kernel
theorem dX2_wordRead_7 : gd cX2_wordRead 7 (.invokevirtual 63) 3 10 := by decide +kernel
theorem dX2_wordRead_10 : gd cX2_wordRead 10 (.invokevirtual 67) 3 13 := by decide +kernel
theorem dX2_wordRead_13 : gd cX2_wordRead 13 (.ireturn) 1 14 := by decide +kernel
theorem dX2_laidTogether_0 : gd cX2_laidTogether 0 (.aload_n 0) 1 1 := by decide +kernel
theorem dX2_laidTogether_1 : gd cX2_laidTogether 1 (.iload_n 1) 1 2 := by decide +kernel
theorem dX2_laidTogether_2 : decode cX2_laidTogether 2 = .ok (.bipush (-2), 2) ∧ 2 + 2 = 4 ∧ (Int8.ofInt (-2)).toInt32 = (-2) := by decide +kernel
theorem dX2_laidTogether_4 : gd cX2_laidTogether 4 (.invokevirtual 63) 3 7 := by decide +kernel
theorem dX2_laidTogether_7 : gd cX2_laidTogether 7 (.aload_n 0) 1 8 := by decide +kernel
theorem dX2_laidTogether_8 : gd cX2_laidTogether 8 (.iload_n 2) 1 9 := by decide +kernel
theorem dX2_laidTogether_9 : decode cX2_laidTogether 9 = .ok (.bipush (-2), 2) ∧ 9 + 2 = 11 ∧ (Int8.ofInt (-2)).toInt32 = (-2) := by decide +kernel
theorem dX2_laidTogether_11 : gd cX2_laidTogether 11 (.invokevirtual 63) 3 14 := by decide +kernel
theorem dX2_laidTogether_14 : gd cX2_laidTogether 14 (.ior) 1 15 := by decide +kernel
theorem dX2_laidTogether_15 : gd cX2_laidTogether 15 (.ireturn) 1 16 := by decide +kernel
theorem dX2_firstPair_0 : decode cX2_firstPair 0 = .ok (.iconst 0, 1) ∧ 0 + 1 = 1 ∧ Int32.ofInt (0) = (0) := by decide +kernel
theorem dX2_firstPair_1 : gd cX2_firstPair 1 (.istore_n 2) 1 2 := by decide +kernel
theorem dX2_firstPair_2 : gd cX2_firstPair 2 (.iload_n 2) 1 3 := by decide +kernel
theorem dX2_firstPair_3 : gd cX2_firstPair 3 (.aload_n 0) 1 4 := by decide +kernel
theorem dX2_firstPair_4 : gd cX2_firstPair 4 (.getfield 11) 3 7 := by decide +kernel
theorem dX2_firstPair_7 : gd cX2_firstPair 7 (.getfield 47) 3 10 := by decide +kernel
theorem dX2_firstPair_10 : decode cX2_firstPair 10 = .ok (.iconst 1, 1) ∧ 10 + 1 = 11 ∧ Int32.ofInt (1) = (1) := by decide +kernel
theorem dX2_firstPair_11 : gd cX2_firstPair 11 (.iaload) 1 12 := by decide +kernel
theorem dX2_firstPair_12 : gb cX2_firstPair 12 (.if_icmp .ge 65) (65) 15 77 := by decide +kernel
theorem dX2_firstPair_15 : gd cX2_firstPair 15 (.iload_n 2) 1 16 := by decide +kernel
theorem dX2_firstPair_16 : decode cX2_firstPair 16 = .ok (.iconst 1, 1) ∧ 16 + 1 = 17 ∧ Int32.ofInt (1) = (1) := by decide +kernel
theorem dX2_firstPair_17 : gd cX2_firstPair 17 (.iadd) 1 18 := by decide +kernel
theorem dX2_firstPair_18 : gd cX2_firstPair 18 (.istore_n 3) 1 19 := by decide +kernel
theorem dX2_firstPair_19 : gd cX2_firstPair 19 (.iload_n 3) 1 20 := by decide +kernel
theorem dX2_firstPair_20 : gd cX2_firstPair 20 (.aload_n 0) 1 21 := by decide +kernel
theorem dX2_firstPair_21 : gd cX2_firstPair 21 (.getfield 11) 3 24 := by decide +kernel
theorem dX2_firstPair_24 : gd cX2_firstPair 24 (.getfield 47) 3 27 := by decide +kernel
theorem dX2_firstPair_27 : decode cX2_firstPair 27 = .ok (.iconst 1, 1) ∧ 27 + 1 = 28 ∧ Int32.ofInt (1) = (1) := by decide +kernel
theorem dX2_firstPair_28 : gd cX2_firstPair 28 (.iaload) 1 29 := by decide +kernel
theorem dX2_firstPair_29 : gb cX2_firstPair 29 (.if_icmp .ge 42) (42) 32 71 := by decide +kernel
theorem dX2_firstPair_32 : gd cX2_firstPair 32 (.aload_n 0) 1 33 := by decide +kernel
theorem dX2_firstPair_33 : gd cX2_firstPair 33 (.iload_n 2) 1 34 := by decide +kernel
theorem dX2_firstPair_34 : gd cX2_firstPair 34 (.invokevirtual 70) 3 37 := by decide +kernel
theorem dX2_firstPair_37 : gb cX2_firstPair 37 (.ifCond .ne 28) (28) 40 65 := by decide +kernel
theorem dX2_firstPair_40 : gd cX2_firstPair 40 (.aload_n 0) 1 41 := by decide +kernel
theorem dX2_firstPair_41 : gd cX2_firstPair 41 (.iload_n 3) 1 42 := by decide +kernel
theorem dX2_firstPair_42 : gd cX2_firstPair 42 (.invokevirtual 70) 3 45 := by decide +kernel
theorem dX2_firstPair_45 : gb cX2_firstPair 45 (.ifCond .ne 20) (20) 48 65 := by decide +kernel
theorem dX2_firstPair_48 : gd cX2_firstPair 48 (.aload_n 0) 1 49 := by decide +kernel
theorem dX2_firstPair_49 : gd cX2_firstPair 49 (.iload_n 2) 1 50 := by decide +kernel
theorem dX2_firstPair_50 : gd cX2_firstPair 50 (.iload_n 3) 1 51 := by decide +kernel
theorem dX2_firstPair_51 : gd cX2_firstPair 51 (.invokevirtual 74) 3 54 := by decide +kernel
theorem dX2_firstPair_54 : gd cX2_firstPair 54 (.iload_n 1) 1 55 := by decide +kernel
theorem dX2_firstPair_55 : gb cX2_firstPair 55 (.if_icmp .ne 10) (10) 58 65 := by decide +kernel
theorem dX2_firstPair_58 : decode cX2_firstPair 58 = .ok (.bipush 10, 2) ∧ 58 + 2 = 60 ∧ (Int8.ofInt (10)).toInt32 = (10) := by decide +kernel
theorem dX2_firstPair_60 : gd cX2_firstPair 60 (.iload_n 2) 1 61 := by decide +kernel
theorem dX2_firstPair_61 : gd cX2_firstPair 61 (.imul) 1 62 := by decide +kernel
theorem dX2_firstPair_62 : gd cX2_firstPair 62 (.iload_n 3) 1 63 := by decide +kernel
theorem dX2_firstPair_63 : gd cX2_firstPair 63 (.iadd) 1 64 := by decide +kernel
theorem dX2_firstPair_64 : gd cX2_firstPair 64 (.ireturn) 1 65 := by decide +kernel
theorem dX2_firstPair_65 : decode cX2_firstPair 65 = .ok (.iinc 3 1, 3) ∧ 65 + 3 = 68 ∧ Int32.ofInt (1) = (1) := by decide +kernel
theorem dX2_firstPair_68 : gb cX2_firstPair 68 (.goto (-49)) (-49) 71 19 := by decide +kernel
theorem dX2_firstPair_71 : decode cX2_firstPair 71 = .ok (.iinc 2 1, 3) ∧ 71 + 3 = 74 ∧ Int32.ofInt (1) = (1) := by decide +kernel
theorem dX2_firstPair_74 : gb cX2_firstPair 74 (.goto (-72)) (-72) 77 2 := by decide +kernel
theorem dX2_firstPair_77 : decode cX2_firstPair 77 = .ok (.bipush (-2), 2) ∧ 77 + 2 = 79 ∧ (Int8.ofInt (-2)).toInt32 = (-2) := by decide +kernel
theorem dX2_firstPair_79 : gd cX2_firstPair 79 (.ireturn) 1 80 := by decide +kernel
theorem dX2_readingCorners_0 : decode cX2_readingCorners 0 = .ok (.iconst 0, 1) ∧ 0 + 1 = 1 ∧ Int32.ofInt (0) = (0) := by decide +kernel
theorem dX2_readingCorners_1 : gd cX2_readingCorners 1 (.istore_n 2) 1 2 := by decide +kernel
theorem dX2_readingCorners_2 : decode cX2_readingCorners 2 = .ok (.iconst 0, 1) ∧ 2 + 1 = 3 ∧ Int32.ofInt (0) = (0) := by decide +kernel
theorem dX2_readingCorners_3 : gd cX2_readingCorners 3 (.istore_n 3) 1 4 := by decide +kernel
theorem dX2_readingCorners_4 : gd cX2_readingCorners 4 (.iload_n 3) 1 5 := by decide +kernel
theorem dX2_readingCorners_5 : gd cX2_readingCorners 5 (.aload_n 0) 1 6 := by decide +kernel
theorem dX2_readingCorners_6 : gd cX2_readingCorners 6 (.getfield 11) 3 9 := by decide +kernel
theorem dX2_readingCorners_9 : gd cX2_readingCorners 9 (.getfield 47) 3 12 := by decide +kernel
theorem dX2_readingCorners_12 : decode cX2_readingCorners 12 = .ok (.iconst 4, 1) ∧ 12 + 1 = 13 ∧ Int32.ofInt (4) = (4) := by decide +kernel
theorem dX2_readingCorners_13 : gd cX2_readingCorners 13 (.iaload) 1 14 := by decide +kernel
theorem dX2_readingCorners_14 : gb cX2_readingCorners 14 (.if_icmp .ge 45) (45) 17 59 := by decide +kernel
theorem dX2_readingCorners_17 : gd cX2_readingCorners 17 (.aload_n 0) 1 18 := by decide +kernel
theorem dX2_readingCorners_18 : gd cX2_readingCorners 18 (.getfield 11) 3 21 := by decide +kernel
theorem dX2_readingCorners_21 : gd cX2_readingCorners 21 (.iload_n 3) 1 22 := by decide +kernel
theorem dX2_readingCorners_22 : gd cX2_readingCorners 22 (.invokevirtual 77) 3 25 := by decide +kernel
theorem dX2_readingCorners_25 : gb cX2_readingCorners 25 (.ifCond .eq 28) (28) 28 53 := by decide +kernel
theorem dX2_readingCorners_28 : gd cX2_readingCorners 28 (.aload_n 0) 1 29 := by decide +kernel
theorem dX2_readingCorners_29 : gd cX2_readingCorners 29 (.iload_n 1) 1 30 := by decide +kernel
theorem dX2_readingCorners_30 : gd cX2_readingCorners 30 (.aload_n 0) 1 31 := by decide +kernel
theorem dX2_readingCorners_31 : gd cX2_readingCorners 31 (.getfield 11) 3 34 := by decide +kernel
theorem dX2_readingCorners_34 : gd cX2_readingCorners 34 (.getfield 80) 3 37 := by decide +kernel
theorem dX2_readingCorners_37 : gd cX2_readingCorners 37 (.iload_n 3) 1 38 := by decide +kernel
theorem dX2_readingCorners_38 : gd cX2_readingCorners 38 (.iaload) 1 39 := by decide +kernel
theorem dX2_readingCorners_39 : gd cX2_readingCorners 39 (.invokevirtual 83) 3 42 := by decide +kernel
theorem dX2_readingCorners_42 : decode cX2_readingCorners 42 = .ok (.bipush (-2), 2) ∧ 42 + 2 = 44 ∧ (Int8.ofInt (-2)).toInt32 = (-2) := by decide +kernel
theorem dX2_readingCorners_44 : gb cX2_readingCorners 44 (.if_icmp .eq 9) (9) 47 53 := by decide +kernel
theorem dX2_readingCorners_47 : gd cX2_readingCorners 47 (.iload_n 2) 1 48 := by decide +kernel
theorem dX2_readingCorners_48 : decode cX2_readingCorners 48 = .ok (.iconst 1, 1) ∧ 48 + 1 = 49 ∧ Int32.ofInt (1) = (1) := by decide +kernel
theorem dX2_readingCorners_49 : gd cX2_readingCorners 49 (.iload_n 3) 1 50 := by decide +kernel
theorem dX2_readingCorners_50 : gd cX2_readingCorners 50 (.ishl) 1 51 := by decide +kernel
theorem dX2_readingCorners_51 : gd cX2_readingCorners 51 (.ior) 1 52 := by decide +kernel
theorem dX2_readingCorners_52 : gd cX2_readingCorners 52 (.istore_n 2) 1 53 := by decide +kernel
theorem dX2_readingCorners_53 : decode cX2_readingCorners 53 = .ok (.iinc 3 1, 3) ∧ 53 + 3 = 56 ∧ Int32.ofInt (1) = (1) := by decide +kernel
theorem dX2_readingCorners_56 : gb cX2_readingCorners 56 (.goto (-52)) (-52) 59 4 := by decide +kernel
theorem dX2_readingCorners_59 : gd cX2_readingCorners 59 (.iload_n 2) 1 60 := by decide +kernel
theorem dX2_readingCorners_60 : gd cX2_readingCorners 60 (.ireturn) 1 61 := by decide +kernel
theorem dX2_leastPutty_0 : gd cX2_leastPutty 0 (.aload_n 0) 1 1 := by decide +kernel
theorem dX2_leastPutty_1 : gd cX2_leastPutty 1 (.iload_n 1) 1 2 := by decide +kernel
theorem dX2_leastPutty_2 : gd cX2_leastPutty 2 (.iload_n 2) 1 3 := by decide +kernel
theorem dX2_leastPutty_3 : gd cX2_leastPutty 3 (.invokevirtual 63) 3 6 := by decide +kernel
theorem dX2_leastPutty_6 : gd cX2_leastPutty 6 (.istore_n 3) 1 7 := by decide +kernel
theorem dX2_leastPutty_7 : decode cX2_leastPutty 7 = .ok (.iconst 0, 1) ∧ 7 + 1 = 8 ∧ Int32.ofInt (0) = (0) := by decide +kernel
theorem dX2_leastPutty_8 : gd cX2_leastPutty 8 (.istore 4) 2 10 := by decide +kernel
theorem dX2_leastPutty_10 : gd cX2_leastPutty 10 (.iload 4) 2 12 := by decide +kernel
theorem dX2_leastPutty_12 : decode cX2_leastPutty 12 = .ok (.iconst 4, 1) ∧ 12 + 1 = 13 ∧ Int32.ofInt (4) = (4) := by decide +kernel
theorem dX2_leastPutty_13 : gb cX2_leastPutty 13 (.if_icmp .gt 29) (29) 16 42 := by decide +kernel
theorem dX2_leastPutty_16 : gd cX2_leastPutty 16 (.aload_n 0) 1 17 := by decide +kernel
theorem dX2_leastPutty_17 : gd cX2_leastPutty 17 (.iload_n 3) 1 18 := by decide +kernel
theorem dX2_leastPutty_18 : decode cX2_leastPutty 18 = .ok (.iconst 0, 1) ∧ 18 + 1 = 19 ∧ Int32.ofInt (0) = (0) := by decide +kernel
theorem dX2_leastPutty_19 : gd cX2_leastPutty 19 (.iload 4) 2 21 := by decide +kernel
theorem dX2_leastPutty_21 : gd cX2_leastPutty 21 (.invokevirtual 86) 3 24 := by decide +kernel
theorem dX2_leastPutty_24 : gd cX2_leastPutty 24 (.istore 5) 2 26 := by decide +kernel
theorem dX2_leastPutty_26 : gd cX2_leastPutty 26 (.iload 5) 2 28 := by decide +kernel
theorem dX2_leastPutty_28 : decode cX2_leastPutty 28 = .ok (.bipush (-2), 2) ∧ 28 + 2 = 30 ∧ (Int8.ofInt (-2)).toInt32 = (-2) := by decide +kernel
theorem dX2_leastPutty_30 : gb cX2_leastPutty 30 (.if_icmp .eq 6) (6) 33 36 := by decide +kernel
theorem dX2_leastPutty_33 : gd cX2_leastPutty 33 (.iload 5) 2 35 := by decide +kernel
theorem dX2_leastPutty_35 : gd cX2_leastPutty 35 (.ireturn) 1 36 := by decide +kernel
theorem dX2_leastPutty_36 : decode cX2_leastPutty 36 = .ok (.iinc 4 1, 3) ∧ 36 + 3 = 39 ∧ Int32.ofInt (1) = (1) := by decide +kernel
theorem dX2_leastPutty_39 : gb cX2_leastPutty 39 (.goto (-29)) (-29) 42 10 := by decide +kernel
theorem dX2_leastPutty_42 : decode cX2_leastPutty 42 = .ok (.bipush (-2), 2) ∧ 42 + 2 = 44 ∧ (Int8.ofInt (-2)).toInt32 = (-2) := by decide +kernel
theorem dX2_leastPutty_44 : gd cX2_leastPutty 44 (.ireturn) 1 45 := by decide +kernel
theorem dX2_hide_0 : gd cX2_hide 0 (.iload_n 3) 1 1 := by decide +kernel
theorem dX2_hide_1 : gb cX2_hide 1 (.ifCond .gt 23) (23) 4 24 := by decide +kernel
theorem dX2_hide_4 : gd cX2_hide 4 (.aload_n 0) 1 5 := by decide +kernel
theorem dX2_hide_5 : gd cX2_hide 5 (.getfield 11) 3 8 := by decide +kernel
theorem dX2_hide_8 : gd cX2_hide 8 (.iload_n 1) 1 9 := by decide +kernel
theorem dX2_hide_9 : gd cX2_hide 9 (.invokevirtual 67) 3 12 := by decide +kernel
theorem dX2_hide_12 : decode cX2_hide 12 = .ok (.bipush (-2), 2) ∧ 12 + 2 = 14 ∧ (Int8.ofInt (-2)).toInt32 = (-2) := by decide +kernel
theorem dX2_hide_14 : gb cX2_hide 14 (.if_icmp .ne 7) (7) 17 21 := by decide +kernel
theorem dX2_hide_17 : decode cX2_hide 17 = .ok (.iconst 0, 1) ∧ 17 + 1 = 18 ∧ Int32.ofInt (0) = (0) := by decide +kernel
theorem dX2_hide_18 : gb cX2_hide 18 (.goto 5) (5) 21 23 := by decide +kernel
theorem dX2_hide_21 : decode cX2_hide 21 = .ok (.bipush (-2), 2) ∧ 21 + 2 = 23 ∧ (Int8.ofInt (-2)).toInt32 = (-2) := by decide +kernel
theorem dX2_hide_23 : gd cX2_hide 23 (.ireturn) 1 24 := by decide +kernel
theorem dX2_hide_24 : gd cX2_hide 24 (.iload_n 2) 1 25 := by decide +kernel
theorem dX2_hide_25 : gd cX2_hide 25 (.istore 4) 2 27 := by decide +kernel
theorem dX2_hide_27 : gd cX2_hide 27 (.iload 4) 2 29 := by decide +kernel
theorem dX2_hide_29 : gd cX2_hide 29 (.aload_n 0) 1 30 := by decide +kernel
theorem dX2_hide_30 : gd cX2_hide 30 (.getfield 11) 3 33 := by decide +kernel
theorem dX2_hide_33 : gd cX2_hide 33 (.invokevirtual 50) 3 36 := by decide +kernel
theorem dX2_hide_36 : gb cX2_hide 36 (.if_icmp .ge 54) (54) 39 90 := by decide +kernel
theorem dX2_hide_39 : gd cX2_hide 39 (.iload_n 1) 1 40 := by decide +kernel
theorem dX2_hide_40 : gd cX2_hide 40 (.iload 4) 2 42 := by decide +kernel
theorem dX2_hide_42 : gd cX2_hide 42 (.ishr) 1 43 := by decide +kernel
theorem dX2_hide_43 : decode cX2_hide 43 = .ok (.iconst 1, 1) ∧ 43 + 1 = 44 ∧ Int32.ofInt (1) = (1) := by decide +kernel
theorem dX2_hide_44 : gd cX2_hide 44 (.iand) 1 45 := by decide +kernel
theorem dX2_hide_45 : gb cX2_hide 45 (.ifCond .eq 39) (39) 48 84 := by decide +kernel
theorem dX2_hide_48 : gd cX2_hide 48 (.aload_n 0) 1 49 := by decide +kernel
theorem dX2_hide_49 : gd cX2_hide 49 (.iload_n 1) 1 50 := by decide +kernel
theorem dX2_hide_50 : decode cX2_hide 50 = .ok (.iconst 1, 1) ∧ 50 + 1 = 51 ∧ Int32.ofInt (1) = (1) := by decide +kernel
theorem dX2_hide_51 : gd cX2_hide 51 (.iload 4) 2 53 := by decide +kernel
theorem dX2_hide_53 : gd cX2_hide 53 (.ishl) 1 54 := by decide +kernel
theorem dX2_hide_54 : decode cX2_hide 54 = .ok (.iconst (-1), 1) ∧ 54 + 1 = 55 ∧ Int32.ofInt (-1) = (-1) := by decide +kernel
theorem dX2_hide_55 : gd cX2_hide 55 (.ixor) 1 56 := by decide +kernel
theorem dX2_hide_56 : gd cX2_hide 56 (.iand) 1 57 := by decide +kernel
theorem dX2_hide_57 : gd cX2_hide 57 (.iload 4) 2 59 := by decide +kernel
theorem dX2_hide_59 : decode cX2_hide 59 = .ok (.iconst 1, 1) ∧ 59 + 1 = 60 ∧ Int32.ofInt (1) = (1) := by decide +kernel
theorem dX2_hide_60 : gd cX2_hide 60 (.iadd) 1 61 := by decide +kernel
theorem dX2_hide_61 : gd cX2_hide 61 (.iload_n 3) 1 62 := by decide +kernel
theorem dX2_hide_62 : decode cX2_hide 62 = .ok (.iconst 1, 1) ∧ 62 + 1 = 63 ∧ Int32.ofInt (1) = (1) := by decide +kernel
theorem dX2_hide_63 : gd cX2_hide 63 (.isub) 1 64 := by decide +kernel
theorem dX2_hide_64 : gd cX2_hide 64 (.invokevirtual 86) 3 67 := by decide +kernel
theorem dX2_hide_67 : gd cX2_hide 67 (.istore 5) 2 69 := by decide +kernel
theorem dX2_hide_69 : gd cX2_hide 69 (.iload 5) 2 71 := by decide +kernel
theorem dX2_hide_71 : decode cX2_hide 71 = .ok (.bipush (-2), 2) ∧ 71 + 2 = 73 ∧ (Int8.ofInt (-2)).toInt32 = (-2) := by decide +kernel
theorem dX2_hide_73 : gb cX2_hide 73 (.if_icmp .eq 11) (11) 76 84 := by decide +kernel
theorem dX2_hide_76 : gd cX2_hide 76 (.iload 5) 2 78 := by decide +kernel
theorem dX2_hide_78 : decode cX2_hide 78 = .ok (.iconst 1, 1) ∧ 78 + 1 = 79 ∧ Int32.ofInt (1) = (1) := by decide +kernel
theorem dX2_hide_79 : gd cX2_hide 79 (.iload 4) 2 81 := by decide +kernel
theorem dX2_hide_81 : gd cX2_hide 81 (.ishl) 1 82 := by decide +kernel
theorem dX2_hide_82 : gd cX2_hide 82 (.ior) 1 83 := by decide +kernel
theorem dX2_hide_83 : gd cX2_hide 83 (.ireturn) 1 84 := by decide +kernel
theorem dX2_hide_84 : decode cX2_hide 84 = .ok (.iinc 4 1, 3) ∧ 84 + 3 = 87 ∧ Int32.ofInt (1) = (1) := by decide +kernel
theorem dX2_hide_87 : gb cX2_hide 87 (.goto (-60)) (-60) 90 27 := by decide +kernel
theorem dX2_hide_90 : decode cX2_hide 90 = .ok (.bipush (-2), 2) ∧ 90 + 2 = 92 ∧ (Int8.ofInt (-2)).toInt32 = (-2) := by decide +kernel
theorem dX2_hide_92 : gd cX2_hide 92 (.ireturn) 1 93 := by decide +kernel
theorem dX2_fewestScratches_0 : gd cX2_fewestScratches 0 (.aload_n 0) 1 1 := by decide +kernel
theorem dX2_fewestScratches_1 : gd cX2_fewestScratches 1 (.iload_n 1) 1 2 := by decide +kernel
theorem dX2_fewestScratches_2 : gd cX2_fewestScratches 2 (.iload_n 2) 1 3 := by decide +kernel
theorem dX2_fewestScratches_3 : gd cX2_fewestScratches 3 (.invokevirtual 63) 3 6 := by decide +kernel
theorem dX2_fewestScratches_6 : gd cX2_fewestScratches 6 (.istore 4) 2 8 := by decide +kernel
theorem dX2_fewestScratches_8 : gd cX2_fewestScratches 8 (.aload_n 0) 1 9 := by decide +kernel
theorem dX2_fewestScratches_9 : gd cX2_fewestScratches 9 (.getfield 11) 3 12 := by decide +kernel
theorem dX2_fewestScratches_12 : gd cX2_fewestScratches 12 (.getfield 90) 3 15 := by decide +kernel
theorem dX2_fewestScratches_15 : gd cX2_fewestScratches 15 (.iload_n 3) 1 16 := by decide +kernel
theorem dX2_fewestScratches_16 : gd cX2_fewestScratches 16 (.iaload) 1 17 := by decide +kernel
theorem dX2_fewestScratches_17 : gd cX2_fewestScratches 17 (.iload 4) 2 19 := by decide +kernel
theorem dX2_fewestScratches_19 : decode cX2_fewestScratches 19 = .ok (.iconst (-1), 1) ∧ 19 + 1 = 20 ∧ Int32.ofInt (-1) = (-1) := by decide +kernel
theorem dX2_fewestScratches_20 : gd cX2_fewestScratches 20 (.ixor) 1 21 := by decide +kernel
theorem dX2_fewestScratches_21 : gd cX2_fewestScratches 21 (.iand) 1 22 := by decide +kernel
theorem dX2_fewestScratches_22 : gd cX2_fewestScratches 22 (.istore 5) 2 24 := by decide +kernel
theorem dX2_fewestScratches_24 : gd cX2_fewestScratches 24 (.iload 4) 2 26 := by decide +kernel
theorem dX2_fewestScratches_26 : gd cX2_fewestScratches 26 (.aload_n 0) 1 27 := by decide +kernel
theorem dX2_fewestScratches_27 : gd cX2_fewestScratches 27 (.getfield 11) 3 30 := by decide +kernel
theorem dX2_fewestScratches_30 : gd cX2_fewestScratches 30 (.getfield 90) 3 33 := by decide +kernel
theorem dX2_fewestScratches_33 : gd cX2_fewestScratches 33 (.iload_n 3) 1 34 := by decide +kernel
theorem dX2_fewestScratches_34 : gd cX2_fewestScratches 34 (.iaload) 1 35 := by decide +kernel
theorem dX2_fewestScratches_35 : decode cX2_fewestScratches 35 = .ok (.iconst (-1), 1) ∧ 35 + 1 = 36 ∧ Int32.ofInt (-1) = (-1) := by decide +kernel
theorem dX2_fewestScratches_36 : gd cX2_fewestScratches 36 (.ixor) 1 37 := by decide +kernel
theorem dX2_fewestScratches_37 : gd cX2_fewestScratches 37 (.iand) 1 38 := by decide +kernel
theorem dX2_fewestScratches_38 : gb cX2_fewestScratches 38 (.ifCond .eq 7) (7) 41 45 := by decide +kernel
theorem dX2_fewestScratches_41 : decode cX2_fewestScratches 41 = .ok (.iconst 1, 1) ∧ 41 + 1 = 42 ∧ Int32.ofInt (1) = (1) := by decide +kernel
theorem dX2_fewestScratches_42 : gb cX2_fewestScratches 42 (.goto 4) (4) 45 46 := by decide +kernel
theorem dX2_fewestScratches_45 : decode cX2_fewestScratches 45 = .ok (.iconst 0, 1) ∧ 45 + 1 = 46 ∧ Int32.ofInt (0) = (0) := by decide +kernel
theorem dX2_fewestScratches_46 : gd cX2_fewestScratches 46 (.istore 6) 2 48 := by decide +kernel
theorem dX2_fewestScratches_48 : gd cX2_fewestScratches 48 (.iload 5) 2 50 := by decide +kernel
theorem dX2_fewestScratches_50 : gd cX2_fewestScratches 50 (.aload_n 0) 1 51 := by decide +kernel
theorem dX2_fewestScratches_51 : gd cX2_fewestScratches 51 (.getfield 11) 3 54 := by decide +kernel
theorem dX2_fewestScratches_54 : gd cX2_fewestScratches 54 (.iload_n 2) 1 55 := by decide +kernel
theorem dX2_fewestScratches_55 : gd cX2_fewestScratches 55 (.invokevirtual 60) 3 58 := by decide +kernel
theorem dX2_fewestScratches_58 : gd cX2_fewestScratches 58 (.aload_n 0) 1 59 := by decide +kernel
theorem dX2_fewestScratches_59 : gd cX2_fewestScratches 59 (.getfield 21) 3 62 := by decide +kernel
theorem dX2_fewestScratches_62 : gd cX2_fewestScratches 62 (.iload_n 1) 1 63 := by decide +kernel
theorem dX2_fewestScratches_63 : gd cX2_fewestScratches 63 (.iaload) 1 64 := by decide +kernel
theorem dX2_fewestScratches_64 : gd cX2_fewestScratches 64 (.ior) 1 65 := by decide +kernel
theorem dX2_fewestScratches_65 : gd cX2_fewestScratches 65 (.iand) 1 66 := by decide +kernel
theorem dX2_fewestScratches_66 : gb cX2_fewestScratches 66 (.ifCond .eq 7) (7) 69 73 := by decide +kernel
theorem dX2_fewestScratches_69 : decode cX2_fewestScratches 69 = .ok (.iconst 1, 1) ∧ 69 + 1 = 70 ∧ Int32.ofInt (1) = (1) := by decide +kernel
theorem dX2_fewestScratches_70 : gb cX2_fewestScratches 70 (.goto 4) (4) 73 74 := by decide +kernel
theorem dX2_fewestScratches_73 : decode cX2_fewestScratches 73 = .ok (.iconst 0, 1) ∧ 73 + 1 = 74 ∧ Int32.ofInt (0) = (0) := by decide +kernel
theorem dX2_fewestScratches_74 : gd cX2_fewestScratches 74 (.istore 7) 2 76 := by decide +kernel
theorem dX2_fewestScratches_76 : gd cX2_fewestScratches 76 (.iload 6) 2 78 := by decide +kernel
theorem dX2_fewestScratches_78 : gb cX2_fewestScratches 78 (.ifCond .ne 8) (8) 81 86 := by decide +kernel
theorem dX2_fewestScratches_81 : gd cX2_fewestScratches 81 (.iload 7) 2 83 := by decide +kernel
theorem dX2_fewestScratches_83 : gb cX2_fewestScratches 83 (.ifCond .eq 8) (8) 86 91 := by decide +kernel
theorem dX2_fewestScratches_86 : decode cX2_fewestScratches 86 = .ok (.bipush (-2), 2) ∧ 86 + 2 = 88 ∧ (Int8.ofInt (-2)).toInt32 = (-2) := by decide +kernel
theorem dX2_fewestScratches_88 : gb cX2_fewestScratches 88 (.goto 8) (8) 91 96 := by decide +kernel
theorem dX2_fewestScratches_91 : gd cX2_fewestScratches 91 (.iload 5) 2 93 := by decide +kernel
theorem dX2_fewestScratches_93 : gd cX2_fewestScratches 93 (.invokestatic 54) 3 96 := by decide +kernel
theorem dX2_fewestScratches_96 : gd cX2_fewestScratches 96 (.ireturn) 1 97 := by decide +kernel
theorem dX2_bestForShelf_0 : decode cX2_bestForShelf 0 = .ok (.iconst 0, 1) ∧ 0 + 1 = 1 ∧ Int32.ofInt (0) = (0) := by decide +kernel
theorem dX2_bestForShelf_1 : gd cX2_bestForShelf 1 (.istore_n 1) 1 2 := by decide +kernel
theorem dX2_bestForShelf_2 : decode cX2_bestForShelf 2 = .ok (.iconst 0, 1) ∧ 2 + 1 = 3 ∧ Int32.ofInt (0) = (0) := by decide +kernel
theorem dX2_bestForShelf_3 : gd cX2_bestForShelf 3 (.istore_n 2) 1 4 := by decide +kernel
theorem dX2_bestForShelf_4 : gd cX2_bestForShelf 4 (.aload_n 0) 1 5 := by decide +kernel
theorem dX2_bestForShelf_5 : gd cX2_bestForShelf 5 (.invokevirtual 93) 3 8 := by decide +kernel
theorem dX2_bestForShelf_8 : gd cX2_bestForShelf 8 (.istore_n 3) 1 9 := by decide +kernel
theorem dX2_bestForShelf_9 : decode cX2_bestForShelf 9 = .ok (.iconst 1, 1) ∧ 9 + 1 = 10 ∧ Int32.ofInt (1) = (1) := by decide +kernel
theorem dX2_bestForShelf_10 : gd cX2_bestForShelf 10 (.istore 4) 2 12 := by decide +kernel
theorem dX2_bestForShelf_12 : gd cX2_bestForShelf 12 (.iload 4) 2 14 := by decide +kernel
theorem dX2_bestForShelf_14 : gd cX2_bestForShelf 14 (.iload_n 3) 1 15 := by decide +kernel
theorem dX2_bestForShelf_15 : gb cX2_bestForShelf 15 (.if_icmp .gt 72) (72) 18 87 := by decide +kernel
theorem dX2_bestForShelf_18 : gd cX2_bestForShelf 18 (.aload_n 0) 1 19 := by decide +kernel
theorem dX2_bestForShelf_19 : gd cX2_bestForShelf 19 (.iload 4) 2 21 := by decide +kernel
theorem dX2_bestForShelf_21 : gd cX2_bestForShelf 21 (.invokevirtual 96) 3 24 := by decide +kernel
theorem dX2_bestForShelf_24 : gd cX2_bestForShelf 24 (.istore 5) 2 26 := by decide +kernel
theorem dX2_bestForShelf_26 : gd cX2_bestForShelf 26 (.iload 4) 2 28 := by decide +kernel
theorem dX2_bestForShelf_28 : gd cX2_bestForShelf 28 (.iload_n 3) 1 29 := by decide +kernel
theorem dX2_bestForShelf_29 : decode cX2_bestForShelf 29 = .ok (.iconst (-1), 1) ∧ 29 + 1 = 30 ∧ Int32.ofInt (-1) = (-1) := by decide +kernel
theorem dX2_bestForShelf_30 : gd cX2_bestForShelf 30 (.ixor) 1 31 := by decide +kernel
theorem dX2_bestForShelf_31 : gd cX2_bestForShelf 31 (.iand) 1 32 := by decide +kernel
theorem dX2_bestForShelf_32 : gb cX2_bestForShelf 32 (.ifCond .ne 49) (49) 35 81 := by decide +kernel
theorem dX2_bestForShelf_35 : gd cX2_bestForShelf 35 (.iload 5) 2 37 := by decide +kernel
theorem dX2_bestForShelf_37 : gd cX2_bestForShelf 37 (.aload_n 0) 1 38 := by decide +kernel
theorem dX2_bestForShelf_38 : gd cX2_bestForShelf 38 (.getfield 11) 3 41 := by decide +kernel
theorem dX2_bestForShelf_41 : gd cX2_bestForShelf 41 (.getfield 99) 3 44 := by decide +kernel
theorem dX2_bestForShelf_44 : gb cX2_bestForShelf 44 (.if_icmp .gt 37) (37) 47 81 := by decide +kernel
theorem dX2_bestForShelf_47 : gd cX2_bestForShelf 47 (.iload 4) 2 49 := by decide +kernel
theorem dX2_bestForShelf_49 : gd cX2_bestForShelf 49 (.invokestatic 54) 3 52 := by decide +kernel
theorem dX2_bestForShelf_52 : gd cX2_bestForShelf 52 (.iload_n 1) 1 53 := by decide +kernel
theorem dX2_bestForShelf_53 : gd cX2_bestForShelf 53 (.invokestatic 54) 3 56 := by decide +kernel
theorem dX2_bestForShelf_56 : gd cX2_bestForShelf 56 (.isub) 1 57 := by decide +kernel
theorem dX2_bestForShelf_57 : gd cX2_bestForShelf 57 (.istore 6) 2 59 := by decide +kernel
theorem dX2_bestForShelf_59 : gd cX2_bestForShelf 59 (.iload 6) 2 61 := by decide +kernel
theorem dX2_bestForShelf_61 : gb cX2_bestForShelf 61 (.ifCond .gt 14) (14) 64 75 := by decide +kernel
theorem dX2_bestForShelf_64 : gd cX2_bestForShelf 64 (.iload 6) 2 66 := by decide +kernel
theorem dX2_bestForShelf_66 : gb cX2_bestForShelf 66 (.ifCond .ne 15) (15) 69 81 := by decide +kernel
theorem dX2_bestForShelf_69 : gd cX2_bestForShelf 69 (.iload 5) 2 71 := by decide +kernel
theorem dX2_bestForShelf_71 : gd cX2_bestForShelf 71 (.iload_n 2) 1 72 := by decide +kernel
theorem dX2_bestForShelf_72 : gb cX2_bestForShelf 72 (.if_icmp .le 9) (9) 75 81 := by decide +kernel
theorem dX2_bestForShelf_75 : gd cX2_bestForShelf 75 (.iload 4) 2 77 := by decide +kernel
theorem dX2_bestForShelf_77 : gd cX2_bestForShelf 77 (.istore_n 1) 1 78 := by decide +kernel
theorem dX2_bestForShelf_78 : gd cX2_bestForShelf 78 (.iload 5) 2 80 := by decide +kernel
theorem dX2_bestForShelf_80 : gd cX2_bestForShelf 80 (.istore_n 2) 1 81 := by decide +kernel
theorem dX2_bestForShelf_81 : decode cX2_bestForShelf 81 = .ok (.iinc 4 1, 3) ∧ 81 + 3 = 84 ∧ Int32.ofInt (1) = (1) := by decide +kernel
theorem dX2_bestForShelf_84 : gb cX2_bestForShelf 84 (.goto (-72)) (-72) 87 12 := by decide +kernel
theorem dX2_bestForShelf_87 : gd cX2_bestForShelf 87 (.iload_n 1) 1 88 := by decide +kernel
theorem dX2_bestForShelf_88 : gd cX2_bestForShelf 88 (.ireturn) 1 89 := by decide +kernel
theorem dX2_lightOf_0 : decode cX2_lightOf 0 = .ok (.iconst 0, 1) ∧ 0 + 1 = 1 ∧ Int32.ofInt (0) = (0) := by decide +kernel
theorem dX2_lightOf_1 : gd cX2_lightOf 1 (.istore_n 2) 1 2 := by decide +kernel
theorem dX2_lightOf_2 : decode cX2_lightOf 2 = .ok (.iconst 0, 1) ∧ 2 + 1 = 3 ∧ Int32.ofInt (0) = (0) := by decide +kernel
theorem dX2_lightOf_3 : gd cX2_lightOf 3 (.istore_n 3) 1 4 := by decide +kernel
theorem dX2_lightOf_4 : gd cX2_lightOf 4 (.iload_n 3) 1 5 := by decide +kernel
theorem dX2_lightOf_5 : gd cX2_lightOf 5 (.aload_n 0) 1 6 := by decide +kernel
theorem dX2_lightOf_6 : gd cX2_lightOf 6 (.getfield 11) 3 9 := by decide +kernel
theorem dX2_lightOf_9 : gd cX2_lightOf 9 (.getfield 47) 3 12 := by decide +kernel
theorem dX2_lightOf_12 : decode cX2_lightOf 12 = .ok (.iconst 1, 1) ∧ 12 + 1 = 13 ∧ Int32.ofInt (1) = (1) := by decide +kernel
theorem dX2_lightOf_13 : gd cX2_lightOf 13 (.iaload) 1 14 := by decide +kernel
theorem dX2_lightOf_14 : gb cX2_lightOf 14 (.if_icmp .ge 25) (25) 17 39 := by decide +kernel
theorem dX2_lightOf_17 : gd cX2_lightOf 17 (.iload_n 1) 1 18 := by decide +kernel
theorem dX2_lightOf_18 : gd cX2_lightOf 18 (.iload_n 3) 1 19 := by decide +kernel
theorem dX2_lightOf_19 : gd cX2_lightOf 19 (.ishr) 1 20 := by decide +kernel
theorem dX2_lightOf_20 : decode cX2_lightOf 20 = .ok (.iconst 1, 1) ∧ 20 + 1 = 21 ∧ Int32.ofInt (1) = (1) := by decide +kernel
theorem dX2_lightOf_21 : gd cX2_lightOf 21 (.iand) 1 22 := by decide +kernel
theorem dX2_lightOf_22 : gb cX2_lightOf 22 (.ifCond .eq 11) (11) 25 33 := by decide +kernel
theorem dX2_lightOf_25 : gd cX2_lightOf 25 (.iload_n 2) 1 26 := by decide +kernel
theorem dX2_lightOf_26 : gd cX2_lightOf 26 (.aload_n 0) 1 27 := by decide +kernel
theorem dX2_lightOf_27 : gd cX2_lightOf 27 (.iload_n 3) 1 28 := by decide +kernel
theorem dX2_lightOf_28 : gd cX2_lightOf 28 (.invokevirtual 102) 3 31 := by decide +kernel
theorem dX2_lightOf_31 : gd cX2_lightOf 31 (.iadd) 1 32 := by decide +kernel
theorem dX2_lightOf_32 : gd cX2_lightOf 32 (.istore_n 2) 1 33 := by decide +kernel
theorem dX2_lightOf_33 : decode cX2_lightOf 33 = .ok (.iinc 3 1, 3) ∧ 33 + 3 = 36 ∧ Int32.ofInt (1) = (1) := by decide +kernel
theorem dX2_lightOf_36 : gb cX2_lightOf 36 (.goto (-32)) (-32) 39 4 := by decide +kernel
theorem dX2_lightOf_39 : gd cX2_lightOf 39 (.iload_n 2) 1 40 := by decide +kernel
theorem dX2_lightOf_40 : gd cX2_lightOf 40 (.ireturn) 1 41 := by decide +kernel
theorem dX2_writerHas_0 : gd cX2_writerHas 0 (.aload_n 0) 1 1 := by decide +kernel
theorem dX2_writerHas_1 : gd cX2_writerHas 1 (.iload_n 1) 1 2 := by decide +kernel
theorem dX2_writerHas_2 : gd cX2_writerHas 2 (.iload_n 2) 1 3 := by decide +kernel
theorem dX2_writerHas_3 : gd cX2_writerHas 3 (.invokevirtual 63) 3 6 := by decide +kernel
theorem dX2_writerHas_6 : gd cX2_writerHas 6 (.invokestatic 54) 3 9 := by decide +kernel
theorem dX2_writerHas_9 : gd cX2_writerHas 9 (.istore_n 3) 1 10 := by decide +kernel
theorem dX2_writerHas_10 : gd cX2_writerHas 10 (.aload_n 0) 1 11 := by decide +kernel
theorem dX2_writerHas_11 : gd cX2_writerHas 11 (.iload_n 1) 1 12 := by decide +kernel
theorem dX2_writerHas_12 : gd cX2_writerHas 12 (.iload_n 2) 1 13 := by decide +kernel
theorem dX2_writerHas_13 : gd cX2_writerHas 13 (.invokevirtual 83) 3 16 := by decide +kernel
theorem dX2_writerHas_16 : decode cX2_writerHas 16 = .ok (.bipush (-2), 2) ∧ 16 + 2 = 18 ∧ (Int8.ofInt (-2)).toInt32 = (-2) := by decide +kernel
theorem dX2_writerHas_18 : gb cX2_writerHas 18 (.if_icmp .ne 7) (7) 21 25 := by decide +kernel
theorem dX2_writerHas_21 : gd cX2_writerHas 21 (.iload_n 3) 1 22 := by decide +kernel
theorem dX2_writerHas_22 : gb cX2_writerHas 22 (.goto 5) (5) 25 27 := by decide +kernel
theorem dX2_writerHas_25 : gd cX2_writerHas 25 (.iload_n 3) 1 26 := by decide +kernel
theorem dX2_writerHas_26 : gd cX2_writerHas 26 (.ineg) 1 27 := by decide +kernel
theorem dX2_writerHas_27 : gd cX2_writerHas 27 (.ireturn) 1 28 := by decide +kernel
theorem dX2_viewOf_0 : gd cX2_viewOf 0 (.iload_n 0) 1 1 := by decide +kernel
theorem dX2_viewOf_1 : gb cX2_viewOf 1 (.ifCond .ne 8) (8) 4 9 := by decide +kernel
theorem dX2_viewOf_4 : decode cX2_viewOf 4 = .ok (.bipush (-2), 2) ∧ 4 + 2 = 6 ∧ (Int8.ofInt (-2)).toInt32 = (-2) := by decide +kernel
theorem dX2_viewOf_6 : gb cX2_viewOf 6 (.goto 6) (6) 9 12 := by decide +kernel
theorem dX2_viewOf_9 : gd cX2_viewOf 9 (.iload_n 0) 1 10 := by decide +kernel
theorem dX2_viewOf_10 : decode cX2_viewOf 10 = .ok (.iconst 1, 1) ∧ 10 + 1 = 11 ∧ Int32.ofInt (1) = (1) := by decide +kernel
theorem dX2_viewOf_11 : gd cX2_viewOf 11 (.isub) 1 12 := by decide +kernel
theorem dX2_viewOf_12 : gd cX2_viewOf 12 (.ireturn) 1 13 := by decide +kernel
theorem dX2_isRest_0 : gd cX2_isRest 0 (.aload_n 0) 1 1 := by decide +kernel
theorem dX2_isRest_1 : gd cX2_isRest 1 (.iload_n 1) 1 2 := by decide +kernel
theorem dX2_isRest_2 : gd cX2_isRest 2 (.invokevirtual 70) 3 5 := by decide +kernel
theorem dX2_isRest_5 : gb cX2_isRest 5 (.ifCond .eq 5) (5) 8 10 := by decide +kernel
theorem dX2_isRest_8 : decode cX2_isRest 8 = .ok (.iconst 0, 1) ∧ 8 + 1 = 9 ∧ Int32.ofInt (0) = (0) := by decide +kernel
theorem dX2_isRest_9 : gd cX2_isRest 9 (.ireturn) 1 10 := by decide +kernel
theorem dX2_isRest_10 : gd cX2_isRest 10 (.aload_n 0) 1 11 := by decide +kernel
theorem dX2_isRest_11 : gd cX2_isRest 11 (.iload_n 1) 1 12 := by decide +kernel
theorem dX2_isRest_12 : gd cX2_isRest 12 (.iload_n 2) 1 13 := by decide +kernel
theorem dX2_isRest_13 : gd cX2_isRest 13 (.invokestatic 105) 3 16 := by decide +kernel
theorem dX2_isRest_16 : gd cX2_isRest 16 (.invokevirtual 108) 3 19 := by decide +kernel
theorem dX2_isRest_19 : gd cX2_isRest 19 (.istore_n 3) 1 20 := by decide +kernel
theorem dX2_isRest_20 : decode cX2_isRest 20 = .ok (.iconst 0, 1) ∧ 20 + 1 = 21 ∧ Int32.ofInt (0) = (0) := by decide +kernel
theorem dX2_isRest_21 : gd cX2_isRest 21 (.istore 4) 2 23 := by decide +kernel
theorem dX2_isRest_23 : gd cX2_isRest 23 (.iload 4) 2 25 := by decide +kernel
theorem dX2_isRest_25 : gd cX2_isRest 25 (.aload_n 0) 1 26 := by decide +kernel
theorem dX2_isRest_26 : gd cX2_isRest 26 (.getfield 11) 3 29 := by decide +kernel
theorem dX2_isRest_29 : gd cX2_isRest 29 (.getfield 47) 3 32 := by decide +kernel
theorem dX2_isRest_32 : decode cX2_isRest 32 = .ok (.iconst 1, 1) ∧ 32 + 1 = 33 ∧ Int32.ofInt (1) = (1) := by decide +kernel
theorem dX2_isRest_33 : gd cX2_isRest 33 (.iaload) 1 34 := by decide +kernel
theorem dX2_isRest_34 : gb cX2_isRest 34 (.if_icmp .ge 34) (34) 37 68 := by decide +kernel
theorem dX2_isRest_37 : gd cX2_isRest 37 (.aload_n 0) 1 38 := by decide +kernel
theorem dX2_isRest_38 : gd cX2_isRest 38 (.iload 4) 2 40 := by decide +kernel
theorem dX2_isRest_40 : gd cX2_isRest 40 (.invokevirtual 70) 3 43 := by decide +kernel
theorem dX2_isRest_43 : gb cX2_isRest 43 (.ifCond .ne 19) (19) 46 62 := by decide +kernel
theorem dX2_isRest_46 : gd cX2_isRest 46 (.aload_n 0) 1 47 := by decide +kernel
theorem dX2_isRest_47 : gd cX2_isRest 47 (.iload 4) 2 49 := by decide +kernel
theorem dX2_isRest_49 : gd cX2_isRest 49 (.iload_n 2) 1 50 := by decide +kernel
theorem dX2_isRest_50 : gd cX2_isRest 50 (.invokestatic 105) 3 53 := by decide +kernel
theorem dX2_isRest_53 : gd cX2_isRest 53 (.invokevirtual 108) 3 56 := by decide +kernel
theorem dX2_isRest_56 : gd cX2_isRest 56 (.iload_n 3) 1 57 := by decide +kernel
theorem dX2_isRest_57 : gb cX2_isRest 57 (.if_icmp .le 5) (5) 60 62 := by decide +kernel
theorem dX2_isRest_60 : decode cX2_isRest 60 = .ok (.iconst 0, 1) ∧ 60 + 1 = 61 ∧ Int32.ofInt (0) = (0) := by decide +kernel
theorem dX2_isRest_61 : gd cX2_isRest 61 (.ireturn) 1 62 := by decide +kernel
theorem dX2_isRest_62 : decode cX2_isRest 62 = .ok (.iinc 4 1, 3) ∧ 62 + 3 = 65 ∧ Int32.ofInt (1) = (1) := by decide +kernel
theorem dX2_isRest_65 : gb cX2_isRest 65 (.goto (-42)) (-42) 68 23 := by decide +kernel
theorem dX2_isRest_68 : decode cX2_isRest 68 = .ok (.iconst 0, 1) ∧ 68 + 1 = 69 ∧ Int32.ofInt (0) = (0) := by decide +kernel
theorem dX2_isRest_69 : gd cX2_isRest 69 (.istore 4) 2 71 := by decide +kernel
theorem dX2_isRest_71 : gd cX2_isRest 71 (.iload 4) 2 73 := by decide +kernel
theorem dX2_isRest_73 : gd cX2_isRest 73 (.aload_n 0) 1 74 := by decide +kernel
theorem dX2_isRest_74 : gd cX2_isRest 74 (.getfield 11) 3 77 := by decide +kernel
theorem dX2_isRest_77 : gd cX2_isRest 77 (.getfield 47) 3 80 := by decide +kernel
theorem dX2_isRest_80 : decode cX2_isRest 80 = .ok (.iconst 3, 1) ∧ 80 + 1 = 81 ∧ Int32.ofInt (3) = (3) := by decide +kernel
theorem dX2_isRest_81 : gd cX2_isRest 81 (.iaload) 1 82 := by decide +kernel
theorem dX2_isRest_82 : gb cX2_isRest 82 (.if_icmp .gt 25) (25) 85 107 := by decide +kernel
theorem dX2_isRest_85 : gd cX2_isRest 85 (.aload_n 0) 1 86 := by decide +kernel
theorem dX2_isRest_86 : gd cX2_isRest 86 (.iload_n 1) 1 87 := by decide +kernel
theorem dX2_isRest_87 : gd cX2_isRest 87 (.iload 4) 2 89 := by decide +kernel
theorem dX2_isRest_89 : gd cX2_isRest 89 (.invokestatic 105) 3 92 := by decide +kernel
theorem dX2_isRest_92 : gd cX2_isRest 92 (.invokevirtual 108) 3 95 := by decide +kernel
theorem dX2_isRest_95 : gd cX2_isRest 95 (.iload_n 3) 1 96 := by decide +kernel
theorem dX2_isRest_96 : gb cX2_isRest 96 (.if_icmp .ge 5) (5) 99 101 := by decide +kernel
theorem dX2_isRest_99 : decode cX2_isRest 99 = .ok (.iconst 0, 1) ∧ 99 + 1 = 100 ∧ Int32.ofInt (0) = (0) := by decide +kernel
theorem dX2_isRest_100 : gd cX2_isRest 100 (.ireturn) 1 101 := by decide +kernel
theorem dX2_isRest_101 : decode cX2_isRest 101 = .ok (.iinc 4 1, 3) ∧ 101 + 3 = 104 ∧ Int32.ofInt (1) = (1) := by decide +kernel
theorem dX2_isRest_104 : gb cX2_isRest 104 (.goto (-33)) (-33) 107 71 := by decide +kernel
theorem dX2_isRest_107 : decode cX2_isRest 107 = .ok (.iconst 1, 1) ∧ 107 + 1 = 108 ∧ Int32.ofInt (1) = (1) := by decide +kernel
theorem dX2_isRest_108 : gd cX2_isRest 108 (.ireturn) 1 109 := by decide +kernel
theorem dX2_perform_0 : gd cX2_perform 0 (.aload_n 0) 1 1 := by decide +kernel
theorem dX2_perform_1 : gd cX2_perform 1 (.iload_n 1) 1 2 := by decide +kernel
theorem dX2_perform_2 : gd cX2_perform 2 (.iload_n 2) 1 3 := by decide +kernel
theorem dX2_perform_3 : gd cX2_perform 3 (.iload_n 3) 1 4 := by decide +kernel
theorem dX2_perform_4 : gd cX2_perform 4 (.invokevirtual 111) 3 7 := by decide +kernel
theorem dX2_perform_7 : gd cX2_perform 7 (.aload_n 0) 1 8 := by decide +kernel
theorem dX2_perform_8 : gd cX2_perform 8 (.getfield 41) 3 11 := by decide +kernel
theorem dX2_perform_11 : decode cX2_perform 11 = .ok (.bipush 16, 2) ∧ 11 + 2 = 13 ∧ (Int8.ofInt (16)).toInt32 = (16) := by decide +kernel
theorem dX2_perform_13 : gb cX2_perform 13 (.if_icmp .lt 7) (7) 16 20 := by decide +kernel
theorem dX2_perform_16 : gd cX2_perform 16 (.aload_n 0) 1 17 := by decide +kernel
theorem dX2_perform_17 : gd cX2_perform 17 (.invokevirtual 115) 3 20 := by decide +kernel
theorem dX2_perform_20 : gd cX2_perform 20 (.aload_n 0) 1 21 := by decide +kernel
theorem dX2_perform_21 : gd cX2_perform 21 (.getfield 24) 3 24 := by decide +kernel
theorem dX2_perform_24 : gd cX2_perform 24 (.aload_n 0) 1 25 := by decide +kernel
theorem dX2_perform_25 : gd cX2_perform 25 (.getfield 41) 3 28 := by decide +kernel
theorem dX2_perform_28 : gd cX2_perform 28 (.iload_n 1) 1 29 := by decide +kernel
theorem dX2_perform_29 : gd cX2_perform 29 (.iastore) 1 30 := by decide +kernel
theorem dX2_perform_30 : gd cX2_perform 30 (.aload_n 0) 1 31 := by decide +kernel
theorem dX2_perform_31 : gd cX2_perform 31 (.getfield 27) 3 34 := by decide +kernel
theorem dX2_perform_34 : gd cX2_perform 34 (.aload_n 0) 1 35 := by decide +kernel
theorem dX2_perform_35 : gd cX2_perform 35 (.getfield 41) 3 38 := by decide +kernel
theorem dX2_perform_38 : gd cX2_perform 38 (.iload_n 2) 1 39 := by decide +kernel
theorem dX2_perform_39 : gd cX2_perform 39 (.iastore) 1 40 := by decide +kernel
theorem dX2_perform_40 : gd cX2_perform 40 (.aload_n 0) 1 41 := by decide +kernel
theorem dX2_perform_41 : gd cX2_perform 41 (.getfield 30) 3 44 := by decide +kernel
theorem dX2_perform_44 : gd cX2_perform 44 (.aload_n 0) 1 45 := by decide +kernel
theorem dX2_perform_45 : gd cX2_perform 45 (.getfield 41) 3 48 := by decide +kernel
theorem dX2_perform_48 : gd cX2_perform 48 (.iload_n 3) 1 49 := by decide +kernel
theorem dX2_perform_49 : gd cX2_perform 49 (.iastore) 1 50 := by decide +kernel
theorem dX2_perform_50 : gd cX2_perform 50 (.aload_n 0) 1 51 := by decide +kernel
theorem dX2_perform_51 : gd cX2_perform 51 (.dup) 1 52 := by decide +kernel
theorem dX2_perform_52 : gd cX2_perform 52 (.getfield 41) 3 55 := by decide +kernel
theorem dX2_perform_55 : decode cX2_perform 55 = .ok (.iconst 1, 1) ∧ 55 + 1 = 56 ∧ Int32.ofInt (1) = (1) := by decide +kernel
theorem dX2_perform_56 : gd cX2_perform 56 (.iadd) 1 57 := by decide +kernel
theorem dX2_perform_57 : gd cX2_perform 57 (.putfield 41) 3 60 := by decide +kernel
theorem dX2_perform_60 : gd cX2_perform 60 (.return_) 1 61 := by decide +kernel
theorem dX2_change_0 : gd cX2_change 0 (.iload_n 1) 1 1 := by decide +kernel
theorem dX2_change_1 : gb cX2_change 1 (.ifCond .ne 18) (18) 4 19 := by decide +kernel
theorem dX2_change_4 : gd cX2_change 4 (.aload_n 0) 1 5 := by decide +kernel
theorem dX2_change_5 : gd cX2_change 5 (.getfield 17) 3 8 := by decide +kernel
theorem dX2_change_8 : gd cX2_change 8 (.iload_n 2) 1 9 := by decide +kernel
theorem dX2_change_9 : gd cX2_change 9 (.dup2) 1 10 := by decide +kernel
theorem dX2_change_10 : gd cX2_change 10 (.iaload) 1 11 := by decide +kernel
theorem dX2_change_11 : decode cX2_change 11 = .ok (.iconst 1, 1) ∧ 11 + 1 = 12 ∧ Int32.ofInt (1) = (1) := by decide +kernel
theorem dX2_change_12 : gd cX2_change 12 (.iload_n 3) 1 13 := by decide +kernel
theorem dX2_change_13 : gd cX2_change 13 (.ishl) 1 14 := by decide +kernel
theorem dX2_change_14 : gd cX2_change 14 (.ixor) 1 15 := by decide +kernel
theorem dX2_change_15 : gd cX2_change 15 (.iastore) 1 16 := by decide +kernel
theorem dX2_change_16 : gb cX2_change 16 (.goto 35) (35) 19 51 := by decide +kernel
theorem dX2_change_19 : gd cX2_change 19 (.iload_n 1) 1 20 := by decide +kernel
theorem dX2_change_20 : decode cX2_change 20 = .ok (.iconst 1, 1) ∧ 20 + 1 = 21 ∧ Int32.ofInt (1) = (1) := by decide +kernel
theorem dX2_change_21 : gb cX2_change 21 (.if_icmp .ne 18) (18) 24 39 := by decide +kernel
theorem dX2_change_24 : gd cX2_change 24 (.aload_n 0) 1 25 := by decide +kernel
theorem dX2_change_25 : gd cX2_change 25 (.getfield 21) 3 28 := by decide +kernel
theorem dX2_change_28 : gd cX2_change 28 (.iload_n 2) 1 29 := by decide +kernel
theorem dX2_change_29 : gd cX2_change 29 (.dup2) 1 30 := by decide +kernel
theorem dX2_change_30 : gd cX2_change 30 (.iaload) 1 31 := by decide +kernel
theorem dX2_change_31 : decode cX2_change 31 = .ok (.iconst 1, 1) ∧ 31 + 1 = 32 ∧ Int32.ofInt (1) = (1) := by decide +kernel
theorem dX2_change_32 : gd cX2_change 32 (.iload_n 3) 1 33 := by decide +kernel
theorem dX2_change_33 : gd cX2_change 33 (.ishl) 1 34 := by decide +kernel
theorem dX2_change_34 : gd cX2_change 34 (.ixor) 1 35 := by decide +kernel
theorem dX2_change_35 : gd cX2_change 35 (.iastore) 1 36 := by decide +kernel
theorem dX2_change_36 : gb cX2_change 36 (.goto 15) (15) 39 51 := by decide +kernel
theorem dX2_change_39 : gd cX2_change 39 (.aload_n 0) 1 40 := by decide +kernel
theorem dX2_change_40 : gd cX2_change 40 (.dup) 1 41 := by decide +kernel
theorem dX2_change_41 : gd cX2_change 41 (.getfield 37) 3 44 := by decide +kernel
theorem dX2_change_44 : decode cX2_change 44 = .ok (.iconst 1, 1) ∧ 44 + 1 = 45 ∧ Int32.ofInt (1) = (1) := by decide +kernel
theorem dX2_change_45 : gd cX2_change 45 (.iload_n 2) 1 46 := by decide +kernel
theorem dX2_change_46 : gd cX2_change 46 (.ishl) 1 47 := by decide +kernel
theorem dX2_change_47 : gd cX2_change 47 (.ixor) 1 48 := by decide +kernel
theorem dX2_change_48 : gd cX2_change 48 (.putfield 37) 3 51 := by decide +kernel
theorem dX2_change_51 : gd cX2_change 51 (.return_) 1 52 := by decide +kernel
theorem dX2_forgetOldest_0 : gd cX2_forgetOldest 0 (.aload_n 0) 1 1 := by decide +kernel
theorem dX2_forgetOldest_1 : decode cX2_forgetOldest 1 = .ok (.bipush 15, 2) ∧ 1 + 2 = 3 ∧ (Int8.ofInt (15)).toInt32 = (15) := by decide +kernel
theorem dX2_forgetOldest_3 : gd cX2_forgetOldest 3 (.putfield 41) 3 6 := by decide +kernel
theorem dX2_forgetOldest_6 : decode cX2_forgetOldest 6 = .ok (.iconst 0, 1) ∧ 6 + 1 = 7 ∧ Int32.ofInt (0) = (0) := by decide +kernel
theorem dX2_forgetOldest_7 : gd cX2_forgetOldest 7 (.istore_n 1) 1 8 := by decide +kernel
theorem dX2_forgetOldest_8 : gd cX2_forgetOldest 8 (.iload_n 1) 1 9 := by decide +kernel
theorem dX2_forgetOldest_9 : gd cX2_forgetOldest 9 (.aload_n 0) 1 10 := by decide +kernel
theorem dX2_forgetOldest_10 : gd cX2_forgetOldest 10 (.getfield 41) 3 13 := by decide +kernel
theorem dX2_forgetOldest_13 : gb cX2_forgetOldest 13 (.if_icmp .ge 51) (51) 16 64 := by decide +kernel
theorem dX2_forgetOldest_16 : gd cX2_forgetOldest 16 (.aload_n 0) 1 17 := by decide +kernel
theorem dX2_forgetOldest_17 : gd cX2_forgetOldest 17 (.getfield 24) 3 20 := by decide +kernel
theorem dX2_forgetOldest_20 : gd cX2_forgetOldest 20 (.iload_n 1) 1 21 := by decide +kernel
theorem dX2_forgetOldest_21 : gd cX2_forgetOldest 21 (.aload_n 0) 1 22 := by decide +kernel
theorem dX2_forgetOldest_22 : gd cX2_forgetOldest 22 (.getfield 24) 3 25 := by decide +kernel
theorem dX2_forgetOldest_25 : gd cX2_forgetOldest 25 (.iload_n 1) 1 26 := by decide +kernel
theorem dX2_forgetOldest_26 : decode cX2_forgetOldest 26 = .ok (.iconst 1, 1) ∧ 26 + 1 = 27 ∧ Int32.ofInt (1) = (1) := by decide +kernel
theorem dX2_forgetOldest_27 : gd cX2_forgetOldest 27 (.iadd) 1 28 := by decide +kernel
theorem dX2_forgetOldest_28 : gd cX2_forgetOldest 28 (.iaload) 1 29 := by decide +kernel
theorem dX2_forgetOldest_29 : gd cX2_forgetOldest 29 (.iastore) 1 30 := by decide +kernel
theorem dX2_forgetOldest_30 : gd cX2_forgetOldest 30 (.aload_n 0) 1 31 := by decide +kernel
theorem dX2_forgetOldest_31 : gd cX2_forgetOldest 31 (.getfield 27) 3 34 := by decide +kernel
theorem dX2_forgetOldest_34 : gd cX2_forgetOldest 34 (.iload_n 1) 1 35 := by decide +kernel
theorem dX2_forgetOldest_35 : gd cX2_forgetOldest 35 (.aload_n 0) 1 36 := by decide +kernel
theorem dX2_forgetOldest_36 : gd cX2_forgetOldest 36 (.getfield 27) 3 39 := by decide +kernel
theorem dX2_forgetOldest_39 : gd cX2_forgetOldest 39 (.iload_n 1) 1 40 := by decide +kernel
theorem dX2_forgetOldest_40 : decode cX2_forgetOldest 40 = .ok (.iconst 1, 1) ∧ 40 + 1 = 41 ∧ Int32.ofInt (1) = (1) := by decide +kernel
theorem dX2_forgetOldest_41 : gd cX2_forgetOldest 41 (.iadd) 1 42 := by decide +kernel
theorem dX2_forgetOldest_42 : gd cX2_forgetOldest 42 (.iaload) 1 43 := by decide +kernel
theorem dX2_forgetOldest_43 : gd cX2_forgetOldest 43 (.iastore) 1 44 := by decide +kernel
theorem dX2_forgetOldest_44 : gd cX2_forgetOldest 44 (.aload_n 0) 1 45 := by decide +kernel
theorem dX2_forgetOldest_45 : gd cX2_forgetOldest 45 (.getfield 30) 3 48 := by decide +kernel
theorem dX2_forgetOldest_48 : gd cX2_forgetOldest 48 (.iload_n 1) 1 49 := by decide +kernel
theorem dX2_forgetOldest_49 : gd cX2_forgetOldest 49 (.aload_n 0) 1 50 := by decide +kernel
theorem dX2_forgetOldest_50 : gd cX2_forgetOldest 50 (.getfield 30) 3 53 := by decide +kernel
theorem dX2_forgetOldest_53 : gd cX2_forgetOldest 53 (.iload_n 1) 1 54 := by decide +kernel
theorem dX2_forgetOldest_54 : decode cX2_forgetOldest 54 = .ok (.iconst 1, 1) ∧ 54 + 1 = 55 ∧ Int32.ofInt (1) = (1) := by decide +kernel
theorem dX2_forgetOldest_55 : gd cX2_forgetOldest 55 (.iadd) 1 56 := by decide +kernel
theorem dX2_forgetOldest_56 : gd cX2_forgetOldest 56 (.iaload) 1 57 := by decide +kernel
theorem dX2_forgetOldest_57 : gd cX2_forgetOldest 57 (.iastore) 1 58 := by decide +kernel
theorem dX2_forgetOldest_58 : decode cX2_forgetOldest 58 = .ok (.iinc 1 1, 3) ∧ 58 + 3 = 61 ∧ Int32.ofInt (1) = (1) := by decide +kernel
theorem dX2_forgetOldest_61 : gb cX2_forgetOldest 61 (.goto (-53)) (-53) 64 8 := by decide +kernel
theorem dX2_forgetOldest_64 : gd cX2_forgetOldest 64 (.return_) 1 65 := by decide +kernel
theorem dX2_takeBack_0 : gd cX2_takeBack 0 (.aload_n 0) 1 1 := by decide +kernel
theorem dX2_takeBack_1 : gd cX2_takeBack 1 (.getfield 41) 3 4 := by decide +kernel
theorem dX2_takeBack_4 : gb cX2_takeBack 4 (.ifCond .ne 5) (5) 7 9 := by decide +kernel
theorem dX2_takeBack_7 : decode cX2_takeBack 7 = .ok (.iconst 0, 1) ∧ 7 + 1 = 8 ∧ Int32.ofInt (0) = (0) := by decide +kernel
theorem dX2_takeBack_8 : gd cX2_takeBack 8 (.ireturn) 1 9 := by decide +kernel
theorem dX2_takeBack_9 : gd cX2_takeBack 9 (.aload_n 0) 1 10 := by decide +kernel
theorem dX2_takeBack_10 : gd cX2_takeBack 10 (.dup) 1 11 := by decide +kernel
theorem dX2_takeBack_11 : gd cX2_takeBack 11 (.getfield 41) 3 14 := by decide +kernel
theorem dX2_takeBack_14 : decode cX2_takeBack 14 = .ok (.iconst 1, 1) ∧ 14 + 1 = 15 ∧ Int32.ofInt (1) = (1) := by decide +kernel
theorem dX2_takeBack_15 : gd cX2_takeBack 15 (.isub) 1 16 := by decide +kernel
theorem dX2_takeBack_16 : gd cX2_takeBack 16 (.putfield 41) 3 19 := by decide +kernel
theorem dX2_takeBack_19 : gd cX2_takeBack 19 (.aload_n 0) 1 20 := by decide +kernel
theorem dX2_takeBack_20 : gd cX2_takeBack 20 (.aload_n 0) 1 21 := by decide +kernel
theorem dX2_takeBack_21 : gd cX2_takeBack 21 (.getfield 24) 3 24 := by decide +kernel
theorem dX2_takeBack_24 : gd cX2_takeBack 24 (.aload_n 0) 1 25 := by decide +kernel
theorem dX2_takeBack_25 : gd cX2_takeBack 25 (.getfield 41) 3 28 := by decide +kernel
theorem dX2_takeBack_28 : gd cX2_takeBack 28 (.iaload) 1 29 := by decide +kernel
theorem dX2_takeBack_29 : gd cX2_takeBack 29 (.aload_n 0) 1 30 := by decide +kernel
theorem dX2_takeBack_30 : gd cX2_takeBack 30 (.getfield 27) 3 33 := by decide +kernel
theorem dX2_takeBack_33 : gd cX2_takeBack 33 (.aload_n 0) 1 34 := by decide +kernel
theorem dX2_takeBack_34 : gd cX2_takeBack 34 (.getfield 41) 3 37 := by decide +kernel
theorem dX2_takeBack_37 : gd cX2_takeBack 37 (.iaload) 1 38 := by decide +kernel
theorem dX2_takeBack_38 : gd cX2_takeBack 38 (.aload_n 0) 1 39 := by decide +kernel
theorem dX2_takeBack_39 : gd cX2_takeBack 39 (.getfield 30) 3 42 := by decide +kernel
theorem dX2_takeBack_42 : gd cX2_takeBack 42 (.aload_n 0) 1 43 := by decide +kernel
theorem dX2_takeBack_43 : gd cX2_takeBack 43 (.getfield 41) 3 46 := by decide +kernel
theorem dX2_takeBack_46 : gd cX2_takeBack 46 (.iaload) 1 47 := by decide +kernel
theorem dX2_takeBack_47 : gd cX2_takeBack 47 (.invokevirtual 111) 3 50 := by decide +kernel
theorem dX2_takeBack_50 : decode cX2_takeBack 50 = .ok (.iconst 1, 1) ∧ 50 + 1 = 51 ∧ Int32.ofInt (1) = (1) := by decide +kernel
theorem dX2_takeBack_51 : gd cX2_takeBack 51 (.ireturn) 1 52 := by decide +kernel
theorem dX2_keep_0 : gd cX2_keep 0 (.aload_n 0) 1 1 := by decide +kernel
theorem dX2_keep_1 : gd cX2_keep 1 (.getfield 44) 3 4 := by decide +kernel
theorem dX2_keep_4 : decode cX2_keep 4 = .ok (.iconst 3, 1) ∧ 4 + 1 = 5 ∧ Int32.ofInt (3) = (3) := by decide +kernel
theorem dX2_keep_5 : gb cX2_keep 5 (.if_icmp .lt 5) (5) 8 10 := by decide +kernel
theorem dX2_keep_8 : decode cX2_keep 8 = .ok (.iconst 0, 1) ∧ 8 + 1 = 9 ∧ Int32.ofInt (0) = (0) := by decide +kernel
theorem dX2_keep_9 : gd cX2_keep 9 (.ireturn) 1 10 := by decide +kernel
theorem dX2_keep_10 : gd cX2_keep 10 (.aload_n 0) 1 11 := by decide +kernel
theorem dX2_keep_11 : gd cX2_keep 11 (.getfield 44) 3 14 := by decide +kernel
theorem dX2_keep_14 : decode cX2_keep 14 = .ok (.bipush 17, 2) ∧ 14 + 2 = 16 ∧ (Int8.ofInt (17)).toInt32 = (17) := by decide +kernel
theorem dX2_keep_16 : gd cX2_keep 16 (.imul) 1 17 := by decide +kernel
theorem dX2_keep_17 : gd cX2_keep 17 (.istore_n 1) 1 18 := by decide +kernel
theorem dX2_keep_18 : decode cX2_keep 18 = .ok (.iconst 0, 1) ∧ 18 + 1 = 19 ∧ Int32.ofInt (0) = (0) := by decide +kernel
theorem dX2_keep_19 : gd cX2_keep 19 (.istore_n 2) 1 20 := by decide +kernel
theorem dX2_keep_20 : gd cX2_keep 20 (.iload_n 2) 1 21 := by decide +kernel
theorem dX2_keep_21 : decode cX2_keep 21 = .ok (.bipush 8, 2) ∧ 21 + 2 = 23 ∧ (Int8.ofInt (8)).toInt32 = (8) := by decide +kernel
theorem dX2_keep_23 : gb cX2_keep 23 (.if_icmp .ge 40) (40) 26 63 := by decide +kernel
theorem dX2_keep_26 : gd cX2_keep 26 (.aload_n 0) 1 27 := by decide +kernel
theorem dX2_keep_27 : gd cX2_keep 27 (.getfield 33) 3 30 := by decide +kernel
theorem dX2_keep_30 : gd cX2_keep 30 (.iload_n 1) 1 31 := by decide +kernel
theorem dX2_keep_31 : gd cX2_keep 31 (.iload_n 2) 1 32 := by decide +kernel
theorem dX2_keep_32 : gd cX2_keep 32 (.iadd) 1 33 := by decide +kernel
theorem dX2_keep_33 : gd cX2_keep 33 (.aload_n 0) 1 34 := by decide +kernel
theorem dX2_keep_34 : gd cX2_keep 34 (.getfield 17) 3 37 := by decide +kernel
theorem dX2_keep_37 : gd cX2_keep 37 (.iload_n 2) 1 38 := by decide +kernel
theorem dX2_keep_38 : gd cX2_keep 38 (.iaload) 1 39 := by decide +kernel
theorem dX2_keep_39 : gd cX2_keep 39 (.iastore) 1 40 := by decide +kernel
theorem dX2_keep_40 : gd cX2_keep 40 (.aload_n 0) 1 41 := by decide +kernel
theorem dX2_keep_41 : gd cX2_keep 41 (.getfield 33) 3 44 := by decide +kernel
theorem dX2_keep_44 : gd cX2_keep 44 (.iload_n 1) 1 45 := by decide +kernel
theorem dX2_keep_45 : decode cX2_keep 45 = .ok (.bipush 8, 2) ∧ 45 + 2 = 47 ∧ (Int8.ofInt (8)).toInt32 = (8) := by decide +kernel
theorem dX2_keep_47 : gd cX2_keep 47 (.iadd) 1 48 := by decide +kernel
theorem dX2_keep_48 : gd cX2_keep 48 (.iload_n 2) 1 49 := by decide +kernel
theorem dX2_keep_49 : gd cX2_keep 49 (.iadd) 1 50 := by decide +kernel
theorem dX2_keep_50 : gd cX2_keep 50 (.aload_n 0) 1 51 := by decide +kernel
theorem dX2_keep_51 : gd cX2_keep 51 (.getfield 21) 3 54 := by decide +kernel
theorem dX2_keep_54 : gd cX2_keep 54 (.iload_n 2) 1 55 := by decide +kernel
theorem dX2_keep_55 : gd cX2_keep 55 (.iaload) 1 56 := by decide +kernel
theorem dX2_keep_56 : gd cX2_keep 56 (.iastore) 1 57 := by decide +kernel
theorem dX2_keep_57 : decode cX2_keep 57 = .ok (.iinc 2 1, 3) ∧ 57 + 3 = 60 ∧ Int32.ofInt (1) = (1) := by decide +kernel
theorem dX2_keep_60 : gb cX2_keep 60 (.goto (-40)) (-40) 63 20 := by decide +kernel
theorem dX2_keep_63 : gd cX2_keep 63 (.aload_n 0) 1 64 := by decide +kernel
theorem dX2_keep_64 : gd cX2_keep 64 (.getfield 33) 3 67 := by decide +kernel
theorem dX2_keep_67 : gd cX2_keep 67 (.iload_n 1) 1 68 := by decide +kernel
theorem dX2_keep_68 : decode cX2_keep 68 = .ok (.bipush 16, 2) ∧ 68 + 2 = 70 ∧ (Int8.ofInt (16)).toInt32 = (16) := by decide +kernel
theorem dX2_keep_70 : gd cX2_keep 70 (.iadd) 1 71 := by decide +kernel
theorem dX2_keep_71 : gd cX2_keep 71 (.aload_n 0) 1 72 := by decide +kernel
theorem dX2_keep_72 : gd cX2_keep 72 (.getfield 37) 3 75 := by decide +kernel
theorem dX2_keep_75 : gd cX2_keep 75 (.iastore) 1 76 := by decide +kernel
theorem dX2_keep_76 : gd cX2_keep 76 (.aload_n 0) 1 77 := by decide +kernel
theorem dX2_keep_77 : gd cX2_keep 77 (.dup) 1 78 := by decide +kernel
theorem dX2_keep_78 : gd cX2_keep 78 (.getfield 44) 3 81 := by decide +kernel
theorem dX2_keep_81 : decode cX2_keep 81 = .ok (.iconst 1, 1) ∧ 81 + 1 = 82 ∧ Int32.ofInt (1) = (1) := by decide +kernel
theorem dX2_keep_82 : gd cX2_keep 82 (.iadd) 1 83 := by decide +kernel
theorem dX2_keep_83 : gd cX2_keep 83 (.putfield 44) 3 86 := by decide +kernel
theorem dX2_keep_86 : decode cX2_keep 86 = .ok (.iconst 1, 1) ∧ 86 + 1 = 87 ∧ Int32.ofInt (1) = (1) := by decide +kernel
theorem dX2_keep_87 : gd cX2_keep 87 (.ireturn) 1 88 := by decide +kernel
theorem dX2_restore_0 : gd cX2_restore 0 (.iload_n 1) 1 1 := by decide +kernel
theorem dX2_restore_1 : gb cX2_restore 1 (.ifCond .lt 11) (11) 4 12 := by decide +kernel
theorem dX2_restore_4 : gd cX2_restore 4 (.iload_n 1) 1 5 := by decide +kernel
theorem dX2_restore_5 : gd cX2_restore 5 (.aload_n 0) 1 6 := by decide +kernel
theorem dX2_restore_6 : gd cX2_restore 6 (.getfield 44) 3 9 := by decide +kernel
theorem dX2_restore_9 : gb cX2_restore 9 (.if_icmp .lt 5) (5) 12 14 := by decide +kernel
theorem dX2_restore_12 : decode cX2_restore 12 = .ok (.iconst 0, 1) ∧ 12 + 1 = 13 ∧ Int32.ofInt (0) = (0) := by decide +kernel
theorem dX2_restore_13 : gd cX2_restore 13 (.ireturn) 1 14 := by decide +kernel
theorem dX2_restore_14 : gd cX2_restore 14 (.iload_n 1) 1 15 := by decide +kernel
theorem dX2_restore_15 : decode cX2_restore 15 = .ok (.bipush 17, 2) ∧ 15 + 2 = 17 ∧ (Int8.ofInt (17)).toInt32 = (17) := by decide +kernel
theorem dX2_restore_17 : gd cX2_restore 17 (.imul) 1 18 := by decide +kernel
theorem dX2_restore_18 : gd cX2_restore 18 (.istore_n 2) 1 19 := by decide +kernel
theorem dX2_restore_19 : decode cX2_restore 19 = .ok (.iconst 0, 1) ∧ 19 + 1 = 20 ∧ Int32.ofInt (0) = (0) := by decide +kernel
theorem dX2_restore_20 : gd cX2_restore 20 (.istore_n 3) 1 21 := by decide +kernel
theorem dX2_restore_21 : gd cX2_restore 21 (.iload_n 3) 1 22 := by decide +kernel
theorem dX2_restore_22 : decode cX2_restore 22 = .ok (.bipush 8, 2) ∧ 22 + 2 = 24 ∧ (Int8.ofInt (8)).toInt32 = (8) := by decide +kernel
theorem dX2_restore_24 : gb cX2_restore 24 (.if_icmp .ge 40) (40) 27 64 := by decide +kernel
theorem dX2_restore_27 : gd cX2_restore 27 (.aload_n 0) 1 28 := by decide +kernel
theorem dX2_restore_28 : gd cX2_restore 28 (.getfield 17) 3 31 := by decide +kernel
theorem dX2_restore_31 : gd cX2_restore 31 (.iload_n 3) 1 32 := by decide +kernel
theorem dX2_restore_32 : gd cX2_restore 32 (.aload_n 0) 1 33 := by decide +kernel
theorem dX2_restore_33 : gd cX2_restore 33 (.getfield 33) 3 36 := by decide +kernel
theorem dX2_restore_36 : gd cX2_restore 36 (.iload_n 2) 1 37 := by decide +kernel
theorem dX2_restore_37 : gd cX2_restore 37 (.iload_n 3) 1 38 := by decide +kernel
theorem dX2_restore_38 : gd cX2_restore 38 (.iadd) 1 39 := by decide +kernel
theorem dX2_restore_39 : gd cX2_restore 39 (.iaload) 1 40 := by decide +kernel
theorem dX2_restore_40 : gd cX2_restore 40 (.iastore) 1 41 := by decide +kernel
theorem dX2_restore_41 : gd cX2_restore 41 (.aload_n 0) 1 42 := by decide +kernel
theorem dX2_restore_42 : gd cX2_restore 42 (.getfield 21) 3 45 := by decide +kernel
theorem dX2_restore_45 : gd cX2_restore 45 (.iload_n 3) 1 46 := by decide +kernel
theorem dX2_restore_46 : gd cX2_restore 46 (.aload_n 0) 1 47 := by decide +kernel
theorem dX2_restore_47 : gd cX2_restore 47 (.getfield 33) 3 50 := by decide +kernel
theorem dX2_restore_50 : gd cX2_restore 50 (.iload_n 2) 1 51 := by decide +kernel
theorem dX2_restore_51 : decode cX2_restore 51 = .ok (.bipush 8, 2) ∧ 51 + 2 = 53 ∧ (Int8.ofInt (8)).toInt32 = (8) := by decide +kernel
theorem dX2_restore_53 : gd cX2_restore 53 (.iadd) 1 54 := by decide +kernel
theorem dX2_restore_54 : gd cX2_restore 54 (.iload_n 3) 1 55 := by decide +kernel
theorem dX2_restore_55 : gd cX2_restore 55 (.iadd) 1 56 := by decide +kernel
theorem dX2_restore_56 : gd cX2_restore 56 (.iaload) 1 57 := by decide +kernel
theorem dX2_restore_57 : gd cX2_restore 57 (.iastore) 1 58 := by decide +kernel
theorem dX2_restore_58 : decode cX2_restore 58 = .ok (.iinc 3 1, 3) ∧ 58 + 3 = 61 ∧ Int32.ofInt (1) = (1) := by decide +kernel
theorem dX2_restore_61 : gb cX2_restore 61 (.goto (-40)) (-40) 64 21 := by decide +kernel
theorem dX2_restore_64 : gd cX2_restore 64 (.aload_n 0) 1 65 := by decide +kernel
theorem dX2_restore_65 : gd cX2_restore 65 (.aload_n 0) 1 66 := by decide +kernel
theorem dX2_restore_66 : gd cX2_restore 66 (.getfield 33) 3 69 := by decide +kernel
theorem dX2_restore_69 : gd cX2_restore 69 (.iload_n 2) 1 70 := by decide +kernel
theorem dX2_restore_70 : decode cX2_restore 70 = .ok (.bipush 16, 2) ∧ 70 + 2 = 72 ∧ (Int8.ofInt (16)).toInt32 = (16) := by decide +kernel
theorem dX2_restore_72 : gd cX2_restore 72 (.iadd) 1 73 := by decide +kernel
theorem dX2_restore_73 : gd cX2_restore 73 (.iaload) 1 74 := by decide +kernel
theorem dX2_restore_74 : gd cX2_restore 74 (.putfield 37) 3 77 := by decide +kernel
theorem dX2_restore_77 : gd cX2_restore 77 (.aload_n 0) 1 78 := by decide +kernel
theorem dX2_restore_78 : decode cX2_restore 78 = .ok (.iconst 0, 1) ∧ 78 + 1 = 79 ∧ Int32.ofInt (0) = (0) := by decide +kernel
theorem dX2_restore_79 : gd cX2_restore 79 (.putfield 41) 3 82 := by decide +kernel
theorem dX2_restore_82 : decode cX2_restore 82 = .ok (.iconst 1, 1) ∧ 82 + 1 = 83 ∧ Int32.ofInt (1) = (1) := by decide +kernel
theorem dX2_restore_83 : gd cX2_restore 83 (.ireturn) 1 84 := by decide +kernel
theorem dX7_init_0 : gd cX7_init 0 (.aload_n 0) 1 1 := by decide +kernel
theorem dX7_init_1 : gd cX7_init 1 (.invokespecial 1) 3 4 := by decide +kernel
theorem dX7_init_4 : gd cX7_init 4 (.aload_n 0) 1 5 := by decide +kernel
theorem dX7_init_5 : gd cX7_init 5 (.aload_n 1) 1 6 := by decide +kernel
theorem dX7_init_6 : gd cX7_init 6 (.putfield 7) 3 9 := by decide +kernel
theorem dX7_init_9 : gd cX7_init 9 (.aload_n 0) 1 10 := by decide +kernel
theorem dX7_init_10 : decode cX7_init 10 = .ok (.bipush 7, 2) ∧ 10 + 2 = 12 ∧ (Int8.ofInt (7)).toInt32 = (7) := by decide +kernel
theorem dX7_init_12 : gd cX7_init 12 (.newarray .int) 2 14 := by decide +kernel
theorem dX7_init_14 : gd cX7_init 14 (.putfield 15) 3 17 := by decide +kernel
theorem dX7_init_17 : gd cX7_init 17 (.aload_n 0) 1 18 := by decide +kernel
theorem dX7_init_18 : decode cX7_init 18 = .ok (.bipush 7, 2) ∧ 18 + 2 = 20 ∧ (Int8.ofInt (7)).toInt32 = (7) := by decide +kernel
theorem dX7_init_20 : gd cX7_init 20 (.newarray .int) 2 22 := by decide +kernel
theorem dX7_init_22 : gd cX7_init 22 (.putfield 19) 3 25 := by decide +kernel
theorem dX7_init_25 : gd cX7_init 25 (.return_) 1 26 := by decide +kernel
theorem dX7_goSoonest_0 : gd cX7_goSoonest 0 (.aload_n 0) 1 1 := by decide +kernel
theorem dX7_goSoonest_1 : decode cX7_goSoonest 1 = .ok (.iconst 0, 1) ∧ 1 + 1 = 2 ∧ Int32.ofInt (0) = (0) := by decide +kernel
theorem dX7_goSoonest_2 : gd cX7_goSoonest 2 (.putfield 22) 3 5 := by decide +kernel
theorem dX7_goSoonest_5 : gd cX7_goSoonest 5 (.aload_n 0) 1 6 := by decide +kernel
theorem dX7_goSoonest_6 : decode cX7_goSoonest 6 = .ok (.iconst 0, 1) ∧ 6 + 1 = 7 ∧ Int32.ofInt (0) = (0) := by decide +kernel
theorem dX7_goSoonest_7 : gd cX7_goSoonest 7 (.putfield 26) 3 10 := by decide +kernel
theorem dX7_goSoonest_10 : gd cX7_goSoonest 10 (.aload_n 0) 1 11 := by decide +kernel
theorem dX7_goSoonest_11 : gd cX7_goSoonest 11 (.aload_n 1) 1 12 := by decide +kernel
theorem dX7_goSoonest_12 : gd cX7_goSoonest 12 (.iload_n 2) 1 13 := by decide +kernel
theorem dX7_goSoonest_13 : gd cX7_goSoonest 13 (.iload_n 3) 1 14 := by decide +kernel
theorem dX7_goSoonest_14 : gd cX7_goSoonest 14 (.iload 4) 2 16 := by decide +kernel
theorem dX7_goSoonest_16 : gd cX7_goSoonest 16 (.invokevirtual 29) 3 19 := by decide +kernel
theorem dX7_goSoonest_19 : gd cX7_goSoonest 19 (.return_) 1 20 := by decide +kernel
theorem dX7_goSafest_0 : gd cX7_goSafest 0 (.aload_n 0) 1 1 := by decide +kernel
theorem dX7_goSafest_1 : decode cX7_goSafest 1 = .ok (.iconst 1, 1) ∧ 1 + 1 = 2 ∧ Int32.ofInt (1) = (1) := by decide +kernel
theorem dX7_goSafest_2 : gd cX7_goSafest 2 (.putfield 22) 3 5 := by decide +kernel
theorem dX7_goSafest_5 : gd cX7_goSafest 5 (.aload_n 0) 1 6 := by decide +kernel
theorem dX7_goSafest_6 : gd cX7_goSafest 6 (.iload 4) 2 8 := by decide +kernel
theorem dX7_goSafest_8 : gd cX7_goSafest 8 (.putfield 26) 3 11 := by decide +kernel
theorem dX7_goSafest_11 : gd cX7_goSafest 11 (.aload_n 0) 1 12 := by decide +kernel
theorem dX7_goSafest_12 : gd cX7_goSafest 12 (.aload_n 1) 1 13 := by decide +kernel
theorem dX7_goSafest_13 : gd cX7_goSafest 13 (.iload_n 2) 1 14 := by decide +kernel
theorem dX7_goSafest_14 : gd cX7_goSafest 14 (.iload_n 3) 1 15 := by decide +kernel
theorem dX7_goSafest_15 : decode cX7_goSafest 15 = .ok (.iconst 0, 1) ∧ 15 + 1 = 16 ∧ Int32.ofInt (0) = (0) := by decide +kernel
theorem dX7_goSafest_16 : gd cX7_goSafest 16 (.invokevirtual 29) 3 19 := by decide +kernel
theorem dX7_goSafest_19 : gd cX7_goSafest 19 (.return_) 1 20 := by decide +kernel
theorem dX7_minutes_0 : gd cX7_minutes 0 (.aload_n 0) 1 1 := by decide +kernel
theorem dX7_minutes_1 : gd cX7_minutes 1 (.getfield 33) 3 4 := by decide +kernel
theorem dX7_minutes_4 : gd cX7_minutes 4 (.lneg) 1 5 := by decide +kernel
theorem dX7_minutes_5 : gd cX7_minutes 5 (.l2i) 1 6 := by decide +kernel
theorem dX7_minutes_6 : gd cX7_minutes 6 (.ireturn) 1 7 := by decide +kernel
theorem dX7_corners_0 : decode cX7_corners 0 = .ok (.iconst 0, 1) ∧ 0 + 1 = 1 ∧ Int32.ofInt (0) = (0) := by decide +kernel
theorem dX7_corners_1 : gd cX7_corners 1 (.istore_n 1) 1 2 := by decide +kernel
theorem dX7_corners_2 : decode cX7_corners 2 = .ok (.iconst 0, 1) ∧ 2 + 1 = 3 ∧ Int32.ofInt (0) = (0) := by decide +kernel
theorem dX7_corners_3 : gd cX7_corners 3 (.istore_n 2) 1 4 := by decide +kernel
theorem dX7_corners_4 : gd cX7_corners 4 (.iload_n 2) 1 5 := by decide +kernel
theorem dX7_corners_5 : gd cX7_corners 5 (.aload_n 0) 1 6 := by decide +kernel
theorem dX7_corners_6 : gd cX7_corners 6 (.getfield 37) 3 9 := by decide +kernel
theorem dX7_corners_9 : gb cX7_corners 9 (.if_icmp .ge 20) (20) 12 29 := by decide +kernel
theorem dX7_corners_12 : gd cX7_corners 12 (.iload_n 1) 1 13 := by decide +kernel
theorem dX7_corners_13 : decode cX7_corners 13 = .ok (.iconst 1, 1) ∧ 13 + 1 = 14 ∧ Int32.ofInt (1) = (1) := by decide +kernel
theorem dX7_corners_14 : gd cX7_corners 14 (.aload_n 0) 1 15 := by decide +kernel
theorem dX7_corners_15 : gd cX7_corners 15 (.getfield 19) 3 18 := by decide +kernel
theorem dX7_corners_18 : gd cX7_corners 18 (.iload_n 2) 1 19 := by decide +kernel
theorem dX7_corners_19 : gd cX7_corners 19 (.iaload) 1 20 := by decide +kernel
theorem dX7_corners_20 : gd cX7_corners 20 (.ishl) 1 21 := by decide +kernel
theorem dX7_corners_21 : gd cX7_corners 21 (.ior) 1 22 := by decide +kernel
theorem dX7_corners_22 : gd cX7_corners 22 (.istore_n 1) 1 23 := by decide +kernel
theorem dX7_corners_23 : decode cX7_corners 23 = .ok (.iinc 2 1, 3) ∧ 23 + 3 = 26 ∧ Int32.ofInt (1) = (1) := by decide +kernel
theorem dX7_corners_26 : gb cX7_corners 26 (.goto (-22)) (-22) 29 4 := by decide +kernel
theorem dX7_corners_29 : gd cX7_corners 29 (.iload_n 1) 1 30 := by decide +kernel
theorem dX7_corners_30 : gd cX7_corners 30 (.ireturn) 1 31 := by decide +kernel
theorem dX7_go_0 : gd cX7_go 0 (.aload_n 0) 1 1 := by decide +kernel
theorem dX7_go_1 : gd cX7_go 1 (.aload_n 1) 1 2 := by decide +kernel
theorem dX7_go_2 : gd cX7_go 2 (.putfield 7) 3 5 := by decide +kernel
theorem dX7_go_5 : gd cX7_go 5 (.aload_n 0) 1 6 := by decide +kernel
theorem dX7_go_6 : gd cX7_go 6 (.iload_n 3) 1 7 := by decide +kernel
theorem dX7_go_7 : gd cX7_go 7 (.putfield 41) 3 10 := by decide +kernel
theorem dX7_go_10 : gd cX7_go 10 (.aload_n 0) 1 11 := by decide +kernel
theorem dX7_go_11 : decode cX7_go 11 = .ok (.iconst 0, 1) ∧ 11 + 1 = 12 ∧ Int32.ofInt (0) = (0) := by decide +kernel
theorem dX7_go_12 : gd cX7_go 12 (.putfield 37) 3 15 := by decide +kernel
theorem dX7_go_15 : gd cX7_go 15 (.aload_n 0) 1 16 := by decide +kernel
theorem dX7_go_16 : decode cX7_go 16 = .ok (.lconst 0, 1) ∧ 16 + 1 = 17 ∧ Int64.ofNat (((0 : Fin 2)) : Nat) = (0) := by decide +kernel
theorem dX7_go_17 : gd cX7_go 17 (.putfield 33) 3 20 := by decide +kernel
theorem dX7_go_20 : gd cX7_go 20 (.iload 4) 2 22 := by decide +kernel
theorem dX7_go_22 : gd cX7_go 22 (.iload_n 2) 1 23 := by decide +kernel
theorem dX7_go_23 : gd cX7_go 23 (.ishr) 1 24 := by decide +kernel
theorem dX7_go_24 : decode cX7_go 24 = .ok (.iconst 1, 1) ∧ 24 + 1 = 25 ∧ Int32.ofInt (1) = (1) := by decide +kernel
theorem dX7_go_25 : gd cX7_go 25 (.iand) 1 26 := by decide +kernel
theorem dX7_go_26 : gb cX7_go 26 (.ifCond .ne 29) (29) 29 55 := by decide +kernel
theorem dX7_go_29 : gd cX7_go 29 (.aload_n 0) 1 30 := by decide +kernel
theorem dX7_go_30 : gd cX7_go 30 (.iload_n 2) 1 31 := by decide +kernel
theorem dX7_go_31 : decode cX7_go 31 = .ok (.iconst 0, 1) ∧ 31 + 1 = 32 ∧ Int32.ofInt (0) = (0) := by decide +kernel
theorem dX7_go_32 : gd cX7_go 32 (.iload 4) 2 34 := by decide +kernel
theorem dX7_go_34 : decode cX7_go 34 = .ok (.iconst 1, 1) ∧ 34 + 1 = 35 ∧ Int32.ofInt (1) = (1) := by decide +kernel
theorem dX7_go_35 : gd cX7_go 35 (.iload_n 2) 1 36 := by decide +kernel
theorem dX7_go_36 : gd cX7_go 36 (.ishl) 1 37 := by decide +kernel
theorem dX7_go_37 : gd cX7_go 37 (.ior) 1 38 := by decide +kernel
theorem dX7_go_38 : gd cX7_go 38 (.aload_n 0) 1 39 := by decide +kernel
theorem dX7_go_39 : gd cX7_go 39 (.getfield 22) 3 42 := by decide +kernel
theorem dX7_go_42 : gb cX7_go 42 (.ifCond .eq 9) (9) 45 51 := by decide +kernel
theorem dX7_go_45 : gd cX7_go 45 (.ldc2_w 44) 3 48 := by decide +kernel
theorem dX7_go_48 : gb cX7_go 48 (.goto 4) (4) 51 52 := by decide +kernel
theorem dX7_go_51 : decode cX7_go 51 = .ok (.lconst 0, 1) ∧ 51 + 1 = 52 ∧ Int64.ofNat (((0 : Fin 2)) : Nat) = (0) := by decide +kernel
theorem dX7_go_52 : gd cX7_go 52 (.invokevirtual 46) 3 55 := by decide +kernel
theorem dX7_go_55 : gd cX7_go 55 (.return_) 1 56 := by decide +kernel
theorem dX7_walk_0 : gd cX7_walk 0 (.iload_n 2) 1 1 := by decide +kernel
theorem dX7_walk_1 : decode cX7_walk 1 = .ok (.bipush 7, 2) ∧ 1 + 2 = 3 ∧ (Int8.ofInt (7)).toInt32 = (7) := by decide +kernel
theorem dX7_walk_3 : gb cX7_walk 3 (.if_icmp .lt 4) (4) 6 7 := by decide +kernel
theorem dX7_walk_6 : gd cX7_walk 6 (.return_) 1 7 := by decide +kernel
theorem dX7_walk_7 : gd cX7_walk 7 (.aload_n 0) 1 8 := by decide +kernel
theorem dX7_walk_8 : gd cX7_walk 8 (.getfield 15) 3 11 := by decide +kernel
theorem dX7_walk_11 : gd cX7_walk 11 (.iload_n 2) 1 12 := by decide +kernel
theorem dX7_walk_12 : gd cX7_walk 12 (.iload_n 1) 1 13 := by decide +kernel
theorem dX7_walk_13 : gd cX7_walk 13 (.iastore) 1 14 := by decide +kernel
theorem dX7_walk_14 : gd cX7_walk 14 (.iload_n 1) 1 15 := by decide +kernel
theorem dX7_walk_15 : gd cX7_walk 15 (.aload_n 0) 1 16 := by decide +kernel
theorem dX7_walk_16 : gd cX7_walk 16 (.getfield 41) 3 19 := by decide +kernel
theorem dX7_walk_19 : gb cX7_walk 19 (.if_icmp .ne 13) (13) 22 32 := by decide +kernel
theorem dX7_walk_22 : gd cX7_walk 22 (.aload_n 0) 1 23 := by decide +kernel
theorem dX7_walk_23 : gd cX7_walk 23 (.iload_n 2) 1 24 := by decide +kernel
theorem dX7_walk_24 : decode cX7_walk 24 = .ok (.iconst 1, 1) ∧ 24 + 1 = 25 ∧ Int32.ofInt (1) = (1) := by decide +kernel
theorem dX7_walk_25 : gd cX7_walk 25 (.iadd) 1 26 := by decide +kernel
theorem dX7_walk_26 : gd cX7_walk 26 (.lload 4) 2 28 := by decide +kernel
theorem dX7_walk_28 : gd cX7_walk 28 (.invokevirtual 50) 3 31 := by decide +kernel
theorem dX7_walk_31 : gd cX7_walk 31 (.return_) 1 32 := by decide +kernel
theorem dX7_walk_32 : decode cX7_walk 32 = .ok (.iconst 0, 1) ∧ 32 + 1 = 33 ∧ Int32.ofInt (0) = (0) := by decide +kernel
theorem dX7_walk_33 : gd cX7_walk 33 (.istore 6) 2 35 := by decide +kernel
theorem dX7_walk_35 : gd cX7_walk 35 (.iload 6) 2 37 := by decide +kernel
theorem dX7_walk_37 : gd cX7_walk 37 (.aload_n 0) 1 38 := by decide +kernel
theorem dX7_walk_38 : gd cX7_walk 38 (.getfield 7) 3 41 := by decide +kernel
theorem dX7_walk_41 : gd cX7_walk 41 (.getfield 54) 3 44 := by decide +kernel
theorem dX7_walk_44 : decode cX7_walk 44 = .ok (.iconst 4, 1) ∧ 44 + 1 = 45 ∧ Int32.ofInt (4) = (4) := by decide +kernel
theorem dX7_walk_45 : gd cX7_walk 45 (.iaload) 1 46 := by decide +kernel
theorem dX7_walk_46 : gb cX7_walk 46 (.if_icmp .ge 62) (62) 49 108 := by decide +kernel
theorem dX7_walk_49 : gd cX7_walk 49 (.iload_n 1) 1 50 := by decide +kernel
theorem dX7_walk_50 : gd cX7_walk 50 (.iload 6) 2 52 := by decide +kernel
theorem dX7_walk_52 : gd cX7_walk 52 (.invokestatic 57) 3 55 := by decide +kernel
theorem dX7_walk_55 : gd cX7_walk 55 (.istore 7) 2 57 := by decide +kernel
theorem dX7_walk_57 : gd cX7_walk 57 (.iload_n 3) 1 58 := by decide +kernel
theorem dX7_walk_58 : gd cX7_walk 58 (.iload 6) 2 60 := by decide +kernel
theorem dX7_walk_60 : gd cX7_walk 60 (.ishr) 1 61 := by decide +kernel
theorem dX7_walk_61 : decode cX7_walk 61 = .ok (.iconst 1, 1) ∧ 61 + 1 = 62 ∧ Int32.ofInt (1) = (1) := by decide +kernel
theorem dX7_walk_62 : gd cX7_walk 62 (.iand) 1 63 := by decide +kernel
theorem dX7_walk_63 : gb cX7_walk 63 (.ifCond .ne 39) (39) 66 102 := by decide +kernel
theorem dX7_walk_66 : gd cX7_walk 66 (.aload_n 0) 1 67 := by decide +kernel
theorem dX7_walk_67 : gd cX7_walk 67 (.getfield 7) 3 70 := by decide +kernel
theorem dX7_walk_70 : gd cX7_walk 70 (.getfield 61) 3 73 := by decide +kernel
theorem dX7_walk_73 : gd cX7_walk 73 (.iload 7) 2 75 := by decide +kernel
theorem dX7_walk_75 : gd cX7_walk 75 (.iaload) 1 76 := by decide +kernel
theorem dX7_walk_76 : gb cX7_walk 76 (.ifCond .le 26) (26) 79 102 := by decide +kernel
theorem dX7_walk_79 : gd cX7_walk 79 (.aload_n 0) 1 80 := by decide +kernel
theorem dX7_walk_80 : gd cX7_walk 80 (.iload 6) 2 82 := by decide +kernel
theorem dX7_walk_82 : gd cX7_walk 82 (.iload_n 2) 1 83 := by decide +kernel
theorem dX7_walk_83 : decode cX7_walk 83 = .ok (.iconst 1, 1) ∧ 83 + 1 = 84 ∧ Int32.ofInt (1) = (1) := by decide +kernel
theorem dX7_walk_84 : gd cX7_walk 84 (.iadd) 1 85 := by decide +kernel
theorem dX7_walk_85 : gd cX7_walk 85 (.iload_n 3) 1 86 := by decide +kernel
theorem dX7_walk_86 : decode cX7_walk 86 = .ok (.iconst 1, 1) ∧ 86 + 1 = 87 ∧ Int32.ofInt (1) = (1) := by decide +kernel
theorem dX7_walk_87 : gd cX7_walk 87 (.iload 6) 2 89 := by decide +kernel
theorem dX7_walk_89 : gd cX7_walk 89 (.ishl) 1 90 := by decide +kernel
theorem dX7_walk_90 : gd cX7_walk 90 (.ior) 1 91 := by decide +kernel
theorem dX7_walk_91 : gd cX7_walk 91 (.aload_n 0) 1 92 := by decide +kernel
theorem dX7_walk_92 : gd cX7_walk 92 (.iload 7) 2 94 := by decide +kernel
theorem dX7_walk_94 : gd cX7_walk 94 (.lload 4) 2 96 := by decide +kernel
theorem dX7_walk_96 : gd cX7_walk 96 (.invokevirtual 64) 3 99 := by decide +kernel
theorem dX7_walk_99 : gd cX7_walk 99 (.invokevirtual 46) 3 102 := by decide +kernel
theorem dX7_walk_102 : decode cX7_walk 102 = .ok (.iinc 6 1, 3) ∧ 102 + 3 = 105 ∧ Int32.ofInt (1) = (1) := by decide +kernel
theorem dX7_walk_105 : gb cX7_walk 105 (.goto (-70)) (-70) 108 35 := by decide +kernel
theorem dX7_walk_108 : gd cX7_walk 108 (.return_) 1 109 := by decide +kernel
theorem dX7_worthBehind_0 : gd cX7_worthBehind 0 (.aload_n 0) 1 1 := by decide +kernel
theorem dX7_worthBehind_1 : gd cX7_worthBehind 1 (.getfield 22) 3 4 := by decide +kernel
theorem dX7_worthBehind_4 : gb cX7_worthBehind 4 (.ifCond .ne 16) (16) 7 20 := by decide +kernel
theorem dX7_worthBehind_7 : gd cX7_worthBehind 7 (.lload_n 2) 1 8 := by decide +kernel
theorem dX7_worthBehind_8 : gd cX7_worthBehind 8 (.aload_n 0) 1 9 := by decide +kernel
theorem dX7_worthBehind_9 : gd cX7_worthBehind 9 (.getfield 7) 3 12 := by decide +kernel
theorem dX7_worthBehind_12 : gd cX7_worthBehind 12 (.getfield 61) 3 15 := by decide +kernel
theorem dX7_worthBehind_15 : gd cX7_worthBehind 15 (.iload_n 1) 1 16 := by decide +kernel
theorem dX7_worthBehind_16 : gd cX7_worthBehind 16 (.iaload) 1 17 := by decide +kernel
theorem dX7_worthBehind_17 : gd cX7_worthBehind 17 (.i2l) 1 18 := by decide +kernel
theorem dX7_worthBehind_18 : gd cX7_worthBehind 18 (.lsub) 1 19 := by decide +kernel
theorem dX7_worthBehind_19 : gd cX7_worthBehind 19 (.lreturn) 1 20 := by decide +kernel
theorem dX7_worthBehind_20 : gd cX7_worthBehind 20 (.aload_n 0) 1 21 := by decide +kernel
theorem dX7_worthBehind_21 : gd cX7_worthBehind 21 (.getfield 26) 3 24 := by decide +kernel
theorem dX7_worthBehind_24 : gb cX7_worthBehind 24 (.ifCond .eq 7) (7) 27 31 := by decide +kernel
theorem dX7_worthBehind_27 : gd cX7_worthBehind 27 (.lload_n 2) 1 28 := by decide +kernel
theorem dX7_worthBehind_28 : gb cX7_worthBehind 28 (.goto 22) (22) 31 50 := by decide +kernel
theorem dX7_worthBehind_31 : gd cX7_worthBehind 31 (.lload_n 2) 1 32 := by decide +kernel
theorem dX7_worthBehind_32 : gd cX7_worthBehind 32 (.ldc2_w 68) 3 35 := by decide +kernel
theorem dX7_worthBehind_35 : gd cX7_worthBehind 35 (.ldiv) 1 36 := by decide +kernel
theorem dX7_worthBehind_36 : decode cX7_worthBehind 36 = .ok (.bipush 100, 2) ∧ 36 + 2 = 38 ∧ (Int8.ofInt (100)).toInt32 = (100) := by decide +kernel
theorem dX7_worthBehind_38 : gd cX7_worthBehind 38 (.aload_n 0) 1 39 := by decide +kernel
theorem dX7_worthBehind_39 : gd cX7_worthBehind 39 (.getfield 7) 3 42 := by decide +kernel
theorem dX7_worthBehind_42 : gd cX7_worthBehind 42 (.getfield 70) 3 45 := by decide +kernel
theorem dX7_worthBehind_45 : gd cX7_worthBehind 45 (.iload_n 1) 1 46 := by decide +kernel
theorem dX7_worthBehind_46 : gd cX7_worthBehind 46 (.iaload) 1 47 := by decide +kernel
theorem dX7_worthBehind_47 : gd cX7_worthBehind 47 (.isub) 1 48 := by decide +kernel
theorem dX7_worthBehind_48 : gd cX7_worthBehind 48 (.i2l) 1 49 := by decide +kernel
theorem dX7_worthBehind_49 : gd cX7_worthBehind 49 (.lmul) 1 50 := by decide +kernel
theorem dX7_worthBehind_50 : gd cX7_worthBehind 50 (.lreturn) 1 51 := by decide +kernel
theorem dX7_keepIfBetter_0 : gd cX7_keepIfBetter 0 (.aload_n 0) 1 1 := by decide +kernel
theorem dX7_keepIfBetter_1 : gd cX7_keepIfBetter 1 (.getfield 37) 3 4 := by decide +kernel
theorem dX7_keepIfBetter_4 : gb cX7_keepIfBetter 4 (.ifCond .le 13) (13) 7 17 := by decide +kernel
theorem dX7_keepIfBetter_7 : gd cX7_keepIfBetter 7 (.lload_n 2) 1 8 := by decide +kernel
theorem dX7_keepIfBetter_8 : gd cX7_keepIfBetter 8 (.aload_n 0) 1 9 := by decide +kernel
theorem dX7_keepIfBetter_9 : gd cX7_keepIfBetter 9 (.getfield 33) 3 12 := by decide +kernel
theorem dX7_keepIfBetter_12 : gd cX7_keepIfBetter 12 (.lcmp) 1 13 := by decide +kernel
theorem dX7_keepIfBetter_13 : gb cX7_keepIfBetter 13 (.ifCond .gt 4) (4) 16 17 := by decide +kernel
theorem dX7_keepIfBetter_16 : gd cX7_keepIfBetter 16 (.return_) 1 17 := by decide +kernel
theorem dX7_keepIfBetter_17 : gd cX7_keepIfBetter 17 (.aload_n 0) 1 18 := by decide +kernel
theorem dX7_keepIfBetter_18 : gd cX7_keepIfBetter 18 (.iload_n 1) 1 19 := by decide +kernel
theorem dX7_keepIfBetter_19 : gd cX7_keepIfBetter 19 (.putfield 37) 3 22 := by decide +kernel
theorem dX7_keepIfBetter_22 : gd cX7_keepIfBetter 22 (.aload_n 0) 1 23 := by decide +kernel
theorem dX7_keepIfBetter_23 : gd cX7_keepIfBetter 23 (.lload_n 2) 1 24 := by decide +kernel
theorem dX7_keepIfBetter_24 : gd cX7_keepIfBetter 24 (.putfield 33) 3 27 := by decide +kernel
theorem dX7_keepIfBetter_27 : decode cX7_keepIfBetter 27 = .ok (.iconst 0, 1) ∧ 27 + 1 = 28 ∧ Int32.ofInt (0) = (0) := by decide +kernel
theorem dX7_keepIfBetter_28 : gd cX7_keepIfBetter 28 (.istore 4) 2 30 := by decide +kernel
theorem dX7_keepIfBetter_30 : gd cX7_keepIfBetter 30 (.iload 4) 2 32 := by decide +kernel
theorem dX7_keepIfBetter_32 : gd cX7_keepIfBetter 32 (.iload_n 1) 1 33 := by decide +kernel
theorem dX7_keepIfBetter_33 : gb cX7_keepIfBetter 33 (.if_icmp .ge 23) (23) 36 56 := by decide +kernel
theorem dX7_keepIfBetter_36 : gd cX7_keepIfBetter 36 (.aload_n 0) 1 37 := by decide +kernel
theorem dX7_keepIfBetter_37 : gd cX7_keepIfBetter 37 (.getfield 19) 3 40 := by decide +kernel
theorem dX7_keepIfBetter_40 : gd cX7_keepIfBetter 40 (.iload 4) 2 42 := by decide +kernel
theorem dX7_keepIfBetter_42 : gd cX7_keepIfBetter 42 (.aload_n 0) 1 43 := by decide +kernel
theorem dX7_keepIfBetter_43 : gd cX7_keepIfBetter 43 (.getfield 15) 3 46 := by decide +kernel
theorem dX7_keepIfBetter_46 : gd cX7_keepIfBetter 46 (.iload 4) 2 48 := by decide +kernel
theorem dX7_keepIfBetter_48 : gd cX7_keepIfBetter 48 (.iaload) 1 49 := by decide +kernel
theorem dX7_keepIfBetter_49 : gd cX7_keepIfBetter 49 (.iastore) 1 50 := by decide +kernel
theorem dX7_keepIfBetter_50 : decode cX7_keepIfBetter 50 = .ok (.iinc 4 1, 3) ∧ 50 + 3 = 53 ∧ Int32.ofInt (1) = (1) := by decide +kernel
theorem dX7_keepIfBetter_53 : gb cX7_keepIfBetter 53 (.goto (-23)) (-23) 56 30 := by decide +kernel
theorem dX7_keepIfBetter_56 : gd cX7_keepIfBetter 56 (.return_) 1 57 := by decide +kernel
theorem dX7_greatestDivisor_0 : gd cX7_greatestDivisor 0 (.lload_n 0) 1 1 := by decide +kernel
theorem dX7_greatestDivisor_1 : gd cX7_greatestDivisor 1 (.lstore 4) 2 3 := by decide +kernel
theorem dX7_greatestDivisor_3 : gd cX7_greatestDivisor 3 (.lload_n 2) 1 4 := by decide +kernel
theorem dX7_greatestDivisor_4 : gd cX7_greatestDivisor 4 (.lstore 6) 2 6 := by decide +kernel
theorem dX7_greatestDivisor_6 : decode cX7_greatestDivisor 6 = .ok (.iconst 0, 1) ∧ 6 + 1 = 7 ∧ Int32.ofInt (0) = (0) := by decide +kernel
theorem dX7_greatestDivisor_7 : gd cX7_greatestDivisor 7 (.istore 8) 2 9 := by decide +kernel
theorem dX7_greatestDivisor_9 : gd cX7_greatestDivisor 9 (.iload 8) 2 11 := by decide +kernel
theorem dX7_greatestDivisor_11 : decode cX7_greatestDivisor 11 = .ok (.bipush 100, 2) ∧ 11 + 2 = 13 ∧ (Int8.ofInt (100)).toInt32 = (100) := by decide +kernel
theorem dX7_greatestDivisor_13 : gb cX7_greatestDivisor 13 (.if_icmp .ge 31) (31) 16 44 := by decide +kernel
theorem dX7_greatestDivisor_16 : gd cX7_greatestDivisor 16 (.lload 6) 2 18 := by decide +kernel
theorem dX7_greatestDivisor_18 : decode cX7_greatestDivisor 18 = .ok (.lconst 0, 1) ∧ 18 + 1 = 19 ∧ Int64.ofNat (((0 : Fin 2)) : Nat) = (0) := by decide +kernel
theorem dX7_greatestDivisor_19 : gd cX7_greatestDivisor 19 (.lcmp) 1 20 := by decide +kernel
theorem dX7_greatestDivisor_20 : gb cX7_greatestDivisor 20 (.ifCond .eq 24) (24) 23 44 := by decide +kernel
theorem dX7_greatestDivisor_23 : gd cX7_greatestDivisor 23 (.lload 4) 2 25 := by decide +kernel
theorem dX7_greatestDivisor_25 : gd cX7_greatestDivisor 25 (.lload 6) 2 27 := by decide +kernel
theorem dX7_greatestDivisor_27 : gd cX7_greatestDivisor 27 (.lrem) 1 28 := by decide +kernel
theorem dX7_greatestDivisor_28 : gd cX7_greatestDivisor 28 (.lstore 9) 2 30 := by decide +kernel
theorem dX7_greatestDivisor_30 : gd cX7_greatestDivisor 30 (.lload 6) 2 32 := by decide +kernel
theorem dX7_greatestDivisor_32 : gd cX7_greatestDivisor 32 (.lstore 4) 2 34 := by decide +kernel
theorem dX7_greatestDivisor_34 : gd cX7_greatestDivisor 34 (.lload 9) 2 36 := by decide +kernel
theorem dX7_greatestDivisor_36 : gd cX7_greatestDivisor 36 (.lstore 6) 2 38 := by decide +kernel
theorem dX7_greatestDivisor_38 : decode cX7_greatestDivisor 38 = .ok (.iinc 8 1, 3) ∧ 38 + 3 = 41 ∧ Int32.ofInt (1) = (1) := by decide +kernel
theorem dX7_greatestDivisor_41 : gb cX7_greatestDivisor 41 (.goto (-32)) (-32) 44 9 := by decide +kernel
theorem dX7_greatestDivisor_44 : gd cX7_greatestDivisor 44 (.lload 4) 2 46 := by decide +kernel
theorem dX7_greatestDivisor_46 : decode cX7_greatestDivisor 46 = .ok (.lconst 0, 1) ∧ 46 + 1 = 47 ∧ Int64.ofNat (((0 : Fin 2)) : Nat) = (0) := by decide +kernel
theorem dX7_greatestDivisor_47 : gd cX7_greatestDivisor 47 (.lcmp) 1 48 := by decide +kernel
theorem dX7_greatestDivisor_48 : gb cX7_greatestDivisor 48 (.ifCond .le 8) (8) 51 56 := by decide +kernel
theorem dX7_greatestDivisor_51 : gd cX7_greatestDivisor 51 (.lload 4) 2 53 := by decide +kernel
theorem dX7_greatestDivisor_53 : gb cX7_greatestDivisor 53 (.goto 4) (4) 56 57 := by decide +kernel
theorem dX7_greatestDivisor_56 : decode cX7_greatestDivisor 56 = .ok (.lconst 1, 1) ∧ 56 + 1 = 57 ∧ Int64.ofNat (((1 : Fin 2)) : Nat) = (1) := by decide +kernel
theorem dX7_greatestDivisor_57 : gd cX7_greatestDivisor 57 (.lreturn) 1 58 := by decide +kernel
