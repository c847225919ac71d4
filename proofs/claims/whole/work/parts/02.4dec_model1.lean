theorem dX10_init_0 : decode cX10_init 0 = .ok (.aload_n 0, 1) := by decide +kernel
theorem dX10_init_1 : decode cX10_init 1 = .ok (.invokespecial 1, 3) := by decide +kernel
theorem dX10_init_4 : decode cX10_init 4 = .ok (.aload_n 0, 1) := by decide +kernel
theorem dX10_init_5 : decode cX10_init 5 = .ok (.bipush 65, 2) := by decide +kernel
theorem dX10_init_7 : decode cX10_init 7 = .ok (.newarray .int, 2) := by decide +kernel
theorem dX10_init_9 : decode cX10_init 9 = .ok (.putfield 7, 3) := by decide +kernel
theorem dX10_init_12 : decode cX10_init 12 = .ok (.aload_n 0, 1) := by decide +kernel
theorem dX10_init_13 : decode cX10_init 13 = .ok (.sipush 390, 3) := by decide +kernel
theorem dX10_init_16 : decode cX10_init 16 = .ok (.newarray .int, 2) := by decide +kernel
theorem dX10_init_18 : decode cX10_init 18 = .ok (.putfield 13, 3) := by decide +kernel
theorem dX10_init_21 : decode cX10_init 21 = .ok (.aload_n 0, 1) := by decide +kernel
theorem dX10_init_22 : decode cX10_init 22 = .ok (.sipush 130, 3) := by decide +kernel
theorem dX10_init_25 : decode cX10_init 25 = .ok (.newarray .int, 2) := by decide +kernel
theorem dX10_init_27 : decode cX10_init 27 = .ok (.putfield 16, 3) := by decide +kernel
theorem dX10_init_30 : decode cX10_init 30 = .ok (.aload_n 0, 1) := by decide +kernel
theorem dX10_init_31 : decode cX10_init 31 = .ok (.iconst 2, 1) := by decide +kernel
theorem dX10_init_32 : decode cX10_init 32 = .ok (.newarray .boolean, 2) := by decide +kernel
theorem dX10_init_34 : decode cX10_init 34 = .ok (.putfield 19, 3) := by decide +kernel
theorem dX10_init_37 : decode cX10_init 37 = .ok (.aload_n 0, 1) := by decide +kernel
theorem dX10_init_38 : decode cX10_init 38 = .ok (.sipush 200, 3) := by decide +kernel
theorem dX10_init_41 : decode cX10_init 41 = .ok (.newarray .int, 2) := by decide +kernel
theorem dX10_init_43 : decode cX10_init 43 = .ok (.putfield 23, 3) := by decide +kernel
theorem dX10_init_46 : decode cX10_init 46 = .ok (.aload_n 0, 1) := by decide +kernel
theorem dX10_init_47 : decode cX10_init 47 = .ok (.bipush 60, 2) := by decide +kernel
theorem dX10_init_49 : decode cX10_init 49 = .ok (.newarray .int, 2) := by decide +kernel
theorem dX10_init_51 : decode cX10_init 51 = .ok (.putfield 26, 3) := by decide +kernel
theorem dX10_init_54 : decode cX10_init 54 = .ok (.aload_n 0, 1) := by decide +kernel
theorem dX10_init_55 : decode cX10_init 55 = .ok (.sipush 340, 3) := by decide +kernel
theorem dX10_init_58 : decode cX10_init 58 = .ok (.newarray .int, 2) := by decide +kernel
theorem dX10_init_60 : decode cX10_init 60 = .ok (.putfield 29, 3) := by decide +kernel
theorem dX10_init_63 : decode cX10_init 63 = .ok (.aload_n 0, 1) := by decide +kernel
theorem dX10_init_64 : decode cX10_init 64 = .ok (.sipush 2800, 3) := by decide +kernel
theorem dX10_init_67 : decode cX10_init 67 = .ok (.newarray .int, 2) := by decide +kernel
theorem dX10_init_69 : decode cX10_init 69 = .ok (.putfield 32, 3) := by decide +kernel
theorem dX10_init_72 : decode cX10_init 72 = .ok (.aload_n 0, 1) := by decide +kernel
theorem dX10_init_73 : decode cX10_init 73 = .ok (.sipush 2800, 3) := by decide +kernel
theorem dX10_init_76 : decode cX10_init 76 = .ok (.newarray .int, 2) := by decide +kernel
theorem dX10_init_78 : decode cX10_init 78 = .ok (.putfield 35, 3) := by decide +kernel
theorem dX10_init_81 : decode cX10_init 81 = .ok (.aload_n 0, 1) := by decide +kernel
theorem dX10_init_82 : decode cX10_init 82 = .ok (.iconst 2, 1) := by decide +kernel
theorem dX10_init_83 : decode cX10_init 83 = .ok (.bipush 7, 2) := by decide +kernel
theorem dX10_init_85 : decode cX10_init 85 = .ok (.bipush 24, 2) := by decide +kernel
theorem dX10_init_87 : decode cX10_init 87 = .ok (.iconst 4, 1) := by decide +kernel
theorem dX10_init_88 : decode cX10_init 88 = .ok (.invokevirtual 38, 3) := by decide +kernel
theorem dX10_init_91 : decode cX10_init 91 = .ok (.return_, 1) := by decide +kernel
theorem dX10_within_0 : decode cX10_within 0 = .ok (.iload_n 0, 1) := by decide +kernel
theorem dX10_within_1 : decode cX10_within 1 = .ok (.iload_n 1, 1) := by decide +kernel
theorem dX10_within_2 : decode cX10_within 2 = .ok (.if_icmp .lt 12, 3) := by decide +kernel
theorem dX10_within_5 : decode cX10_within 5 = .ok (.iload_n 0, 1) := by decide +kernel
theorem dX10_within_6 : decode cX10_within 6 = .ok (.iload_n 2, 1) := by decide +kernel
theorem dX10_within_7 : decode cX10_within 7 = .ok (.if_icmp .gt 7, 3) := by decide +kernel
theorem dX10_within_10 : decode cX10_within 10 = .ok (.iconst 1, 1) := by decide +kernel
theorem dX10_within_11 : decode cX10_within 11 = .ok (.goto 4, 3) := by decide +kernel
theorem dX10_within_14 : decode cX10_within 14 = .ok (.iconst 0, 1) := by decide +kernel
theorem dX10_within_15 : decode cX10_within 15 = .ok (.ireturn, 1) := by decide +kernel
theorem dX10_has_0 : decode cX10_has 0 = .ok (.iload_n 0, 1) := by decide +kernel
theorem dX10_has_1 : decode cX10_has 1 = .ok (.iload_n 1, 1) := by decide +kernel
theorem dX10_has_2 : decode cX10_has 2 = .ok (.ishr, 1) := by decide +kernel
theorem dX10_has_3 : decode cX10_has 3 = .ok (.iconst 1, 1) := by decide +kernel
theorem dX10_has_4 : decode cX10_has 4 = .ok (.iand, 1) := by decide +kernel
theorem dX10_has_5 : decode cX10_has 5 = .ok (.iconst 1, 1) := by decide +kernel
theorem dX10_has_6 : decode cX10_has 6 = .ok (.if_icmp .ne 7, 3) := by decide +kernel
theorem dX10_has_9 : decode cX10_has 9 = .ok (.iconst 1, 1) := by decide +kernel
theorem dX10_has_10 : decode cX10_has 10 = .ok (.goto 4, 3) := by decide +kernel
theorem dX10_has_13 : decode cX10_has 13 = .ok (.iconst 0, 1) := by decide +kernel
theorem dX10_has_14 : decode cX10_has 14 = .ok (.ireturn, 1) := by decide +kernel
theorem dX10_ones_0 : decode cX10_ones 0 = .ok (.iload_n 0, 1) := by decide +kernel
theorem dX10_ones_1 : decode cX10_ones 1 = .ok (.iconst 1, 1) := by decide +kernel
theorem dX10_ones_2 : decode cX10_ones 2 = .ok (.iand, 1) := by decide +kernel
theorem dX10_ones_3 : decode cX10_ones 3 = .ok (.iload_n 0, 1) := by decide +kernel
theorem dX10_ones_4 : decode cX10_ones 4 = .ok (.iconst 1, 1) := by decide +kernel
theorem dX10_ones_5 : decode cX10_ones 5 = .ok (.ishr, 1) := by decide +kernel
theorem dX10_ones_6 : decode cX10_ones 6 = .ok (.iconst 1, 1) := by decide +kernel
theorem dX10_ones_7 : decode cX10_ones 7 = .ok (.iand, 1) := by decide +kernel
theorem dX10_ones_8 : decode cX10_ones 8 = .ok (.iadd, 1) := by decide +kernel
theorem dX10_ones_9 : decode cX10_ones 9 = .ok (.iload_n 0, 1) := by decide +kernel
theorem dX10_ones_10 : decode cX10_ones 10 = .ok (.iconst 2, 1) := by decide +kernel
theorem dX10_ones_11 : decode cX10_ones 11 = .ok (.ishr, 1) := by decide +kernel
theorem dX10_ones_12 : decode cX10_ones 12 = .ok (.iconst 1, 1) := by decide +kernel
theorem dX10_ones_13 : decode cX10_ones 13 = .ok (.iand, 1) := by decide +kernel
theorem dX10_ones_14 : decode cX10_ones 14 = .ok (.iadd, 1) := by decide +kernel
theorem dX10_ones_15 : decode cX10_ones 15 = .ok (.iload_n 0, 1) := by decide +kernel
theorem dX10_ones_16 : decode cX10_ones 16 = .ok (.iconst 3, 1) := by decide +kernel
theorem dX10_ones_17 : decode cX10_ones 17 = .ok (.ishr, 1) := by decide +kernel
theorem dX10_ones_18 : decode cX10_ones 18 = .ok (.iconst 1, 1) := by decide +kernel
theorem dX10_ones_19 : decode cX10_ones 19 = .ok (.iand, 1) := by decide +kernel
theorem dX10_ones_20 : decode cX10_ones 20 = .ok (.iadd, 1) := by decide +kernel
theorem dX10_ones_21 : decode cX10_ones 21 = .ok (.ireturn, 1) := by decide +kernel
theorem dX10_lesser_0 : decode cX10_lesser 0 = .ok (.iload_n 0, 1) := by decide +kernel
theorem dX10_lesser_1 : decode cX10_lesser 1 = .ok (.iload_n 1, 1) := by decide +kernel
theorem dX10_lesser_2 : decode cX10_lesser 2 = .ok (.if_icmp .ge 7, 3) := by decide +kernel
theorem dX10_lesser_5 : decode cX10_lesser 5 = .ok (.iload_n 0, 1) := by decide +kernel
theorem dX10_lesser_6 : decode cX10_lesser 6 = .ok (.goto 4, 3) := by decide +kernel
theorem dX10_lesser_9 : decode cX10_lesser 9 = .ok (.iload_n 1, 1) := by decide +kernel
theorem dX10_lesser_10 : decode cX10_lesser 10 = .ok (.ireturn, 1) := by decide +kernel
theorem dX10_lays_0 : decode cX10_lays 0 = .ok (.aload_n 0, 1) := by decide +kernel
theorem dX10_lays_1 : decode cX10_lays 1 = .ok (.getfield 7, 3) := by decide +kernel
theorem dX10_lays_4 : decode cX10_lays 4 = .ok (.iconst 0, 1) := by decide +kernel
theorem dX10_lays_5 : decode cX10_lays 5 = .ok (.iload_n 1, 1) := by decide +kernel
theorem dX10_lays_6 : decode cX10_lays 6 = .ok (.iastore, 1) := by decide +kernel
theorem dX10_lays_7 : decode cX10_lays 7 = .ok (.aload_n 0, 1) := by decide +kernel
theorem dX10_lays_8 : decode cX10_lays 8 = .ok (.getfield 7, 3) := by decide +kernel
theorem dX10_lays_11 : decode cX10_lays 11 = .ok (.iconst 1, 1) := by decide +kernel
theorem dX10_lays_12 : decode cX10_lays 12 = .ok (.iload_n 2, 1) := by decide +kernel
theorem dX10_lays_13 : decode cX10_lays 13 = .ok (.iastore, 1) := by decide +kernel
theorem dX10_lays_14 : decode cX10_lays 14 = .ok (.aload_n 0, 1) := by decide +kernel
theorem dX10_lays_15 : decode cX10_lays 15 = .ok (.getfield 7, 3) := by decide +kernel
theorem dX10_lays_18 : decode cX10_lays 18 = .ok (.iconst 2, 1) := by decide +kernel
theorem dX10_lays_19 : decode cX10_lays 19 = .ok (.iload_n 3, 1) := by decide +kernel
theorem dX10_lays_20 : decode cX10_lays 20 = .ok (.iastore, 1) := by decide +kernel
theorem dX10_lays_21 : decode cX10_lays 21 = .ok (.aload_n 0, 1) := by decide +kernel
theorem dX10_lays_22 : decode cX10_lays 22 = .ok (.getfield 7, 3) := by decide +kernel
theorem dX10_lays_25 : decode cX10_lays 25 = .ok (.iconst 3, 1) := by decide +kernel
theorem dX10_lays_26 : decode cX10_lays 26 = .ok (.iload 4, 2) := by decide +kernel
theorem dX10_lays_28 : decode cX10_lays 28 = .ok (.iastore, 1) := by decide +kernel
theorem dX10_lays_29 : decode cX10_lays 29 = .ok (.aload_n 0, 1) := by decide +kernel
theorem dX10_lays_30 : decode cX10_lays 30 = .ok (.getfield 7, 3) := by decide +kernel
theorem dX10_lays_33 : decode cX10_lays 33 = .ok (.iconst 4, 1) := by decide +kernel
theorem dX10_lays_34 : decode cX10_lays 34 = .ok (.iconst 0, 1) := by decide +kernel
theorem dX10_lays_35 : decode cX10_lays 35 = .ok (.iastore, 1) := by decide +kernel
theorem dX10_lays_36 : decode cX10_lays 36 = .ok (.return_, 1) := by decide +kernel
theorem dX10_clears_0 : decode cX10_clears 0 = .ok (.iconst 0, 1) := by decide +kernel
theorem dX10_clears_1 : decode cX10_clears 1 = .ok (.istore_n 1, 1) := by decide +kernel
theorem dX10_clears_2 : decode cX10_clears 2 = .ok (.iload_n 1, 1) := by decide +kernel
theorem dX10_clears_3 : decode cX10_clears 3 = .ok (.sipush 340, 3) := by decide +kernel
theorem dX10_clears_6 : decode cX10_clears 6 = .ok (.if_icmp .ge 16, 3) := by decide +kernel
theorem dX10_clears_9 : decode cX10_clears 9 = .ok (.aload_n 0, 1) := by decide +kernel
theorem dX10_clears_10 : decode cX10_clears 10 = .ok (.getfield 29, 3) := by decide +kernel
theorem dX10_clears_13 : decode cX10_clears 13 = .ok (.iload_n 1, 1) := by decide +kernel
theorem dX10_clears_14 : decode cX10_clears 14 = .ok (.iconst 0, 1) := by decide +kernel
theorem dX10_clears_15 : decode cX10_clears 15 = .ok (.iastore, 1) := by decide +kernel
theorem dX10_clears_16 : decode cX10_clears 16 = .ok (.iinc 1 1, 3) := by decide +kernel
theorem dX10_clears_19 : decode cX10_clears 19 = .ok (.goto (-17), 3) := by decide +kernel
theorem dX10_clears_22 : decode cX10_clears 22 = .ok (.return_, 1) := by decide +kernel
theorem dX10_starts_0 : decode cX10_starts 0 = .ok (.aload_n 0, 1) := by decide +kernel
theorem dX10_starts_1 : decode cX10_starts 1 = .ok (.iload_n 1, 1) := by decide +kernel
theorem dX10_starts_2 : decode cX10_starts 2 = .ok (.putfield 42, 3) := by decide +kernel
theorem dX10_starts_5 : decode cX10_starts 5 = .ok (.aload_n 0, 1) := by decide +kernel
theorem dX10_starts_6 : decode cX10_starts 6 = .ok (.iload_n 2, 1) := by decide +kernel
theorem dX10_starts_7 : decode cX10_starts 7 = .ok (.putfield 46, 3) := by decide +kernel
theorem dX10_starts_10 : decode cX10_starts 10 = .ok (.aload_n 0, 1) := by decide +kernel
theorem dX10_starts_11 : decode cX10_starts 11 = .ok (.iconst 0, 1) := by decide +kernel
theorem dX10_starts_12 : decode cX10_starts 12 = .ok (.putfield 49, 3) := by decide +kernel
theorem dX10_starts_15 : decode cX10_starts 15 = .ok (.aload_n 0, 1) := by decide +kernel
theorem dX10_starts_16 : decode cX10_starts 16 = .ok (.iconst 0, 1) := by decide +kernel
theorem dX10_starts_17 : decode cX10_starts 17 = .ok (.putfield 52, 3) := by decide +kernel
theorem dX10_starts_20 : decode cX10_starts 20 = .ok (.aload_n 0, 1) := by decide +kernel
theorem dX10_starts_21 : decode cX10_starts 21 = .ok (.iconst 0, 1) := by decide +kernel
theorem dX10_starts_22 : decode cX10_starts 22 = .ok (.putfield 55, 3) := by decide +kernel
theorem dX10_starts_25 : decode cX10_starts 25 = .ok (.aload_n 0, 1) := by decide +kernel
theorem dX10_starts_26 : decode cX10_starts 26 = .ok (.ldc 58, 2) := by decide +kernel
theorem dX10_starts_28 : decode cX10_starts 28 = .ok (.putfield 59, 3) := by decide +kernel
theorem dX10_starts_31 : decode cX10_starts 31 = .ok (.aload_n 0, 1) := by decide +kernel
theorem dX10_starts_32 : decode cX10_starts 32 = .ok (.iconst 0, 1) := by decide +kernel
theorem dX10_starts_33 : decode cX10_starts 33 = .ok (.putfield 62, 3) := by decide +kernel
theorem dX10_starts_36 : decode cX10_starts 36 = .ok (.aload_n 0, 1) := by decide +kernel
theorem dX10_starts_37 : decode cX10_starts 37 = .ok (.iconst 0, 1) := by decide +kernel
theorem dX10_starts_38 : decode cX10_starts 38 = .ok (.putfield 65, 3) := by decide +kernel
theorem dX10_starts_41 : decode cX10_starts 41 = .ok (.aload_n 0, 1) := by decide +kernel
theorem dX10_starts_42 : decode cX10_starts 42 = .ok (.iconst 0, 1) := by decide +kernel
theorem dX10_starts_43 : decode cX10_starts 43 = .ok (.putfield 68, 3) := by decide +kernel
theorem dX10_starts_46 : decode cX10_starts 46 = .ok (.aload_n 0, 1) := by decide +kernel
theorem dX10_starts_47 : decode cX10_starts 47 = .ok (.iconst 0, 1) := by decide +kernel
theorem dX10_starts_48 : decode cX10_starts 48 = .ok (.putfield 71, 3) := by decide +kernel
theorem dX10_starts_51 : decode cX10_starts 51 = .ok (.aload_n 0, 1) := by decide +kernel
theorem dX10_starts_52 : decode cX10_starts 52 = .ok (.invokevirtual 74, 3) := by decide +kernel
theorem dX10_starts_55 : decode cX10_starts 55 = .ok (.iconst 0, 1) := by decide +kernel
theorem dX10_starts_56 : decode cX10_starts 56 = .ok (.istore_n 3, 1) := by decide +kernel
theorem dX10_starts_57 : decode cX10_starts 57 = .ok (.iload_n 3, 1) := by decide +kernel
theorem dX10_starts_58 : decode cX10_starts 58 = .ok (.bipush 16, 2) := by decide +kernel
theorem dX10_starts_60 : decode cX10_starts 60 = .ok (.if_icmp .ge 29, 3) := by decide +kernel
theorem dX10_starts_63 : decode cX10_starts 63 = .ok (.iload_n 2, 1) := by decide +kernel
theorem dX10_starts_64 : decode cX10_starts 64 = .ok (.iconst 1, 1) := by decide +kernel
theorem dX10_starts_65 : decode cX10_starts 65 = .ok (.if_icmp .ne 24, 3) := by decide +kernel
theorem dX10_starts_68 : decode cX10_starts 68 = .ok (.aload_n 0, 1) := by decide +kernel
theorem dX10_starts_69 : decode cX10_starts 69 = .ok (.iconst 2, 1) := by decide +kernel
theorem dX10_starts_70 : decode cX10_starts 70 = .ok (.aload_n 0, 1) := by decide +kernel
theorem dX10_starts_71 : decode cX10_starts 71 = .ok (.getfield 71, 3) := by decide +kernel
theorem dX10_starts_74 : decode cX10_starts 74 = .ok (.imul, 1) := by decide +kernel
theorem dX10_starts_75 : decode cX10_starts 75 = .ok (.aload_n 0, 1) := by decide +kernel
theorem dX10_starts_76 : decode cX10_starts 76 = .ok (.invokevirtual 77, 3) := by decide +kernel
theorem dX10_starts_79 : decode cX10_starts 79 = .ok (.iadd, 1) := by decide +kernel
theorem dX10_starts_80 : decode cX10_starts 80 = .ok (.putfield 71, 3) := by decide +kernel
theorem dX10_starts_83 : decode cX10_starts 83 = .ok (.iinc 3 1, 3) := by decide +kernel
theorem dX10_starts_86 : decode cX10_starts 86 = .ok (.goto (-29), 3) := by decide +kernel
theorem dX10_starts_89 : decode cX10_starts 89 = .ok (.return_, 1) := by decide +kernel
theorem dX10_nextBit_0 : decode cX10_nextBit 0 = .ok (.aload_n 0, 1) := by decide +kernel
theorem dX10_nextBit_1 : decode cX10_nextBit 1 = .ok (.getfield 68, 3) := by decide +kernel
theorem dX10_nextBit_4 : decode cX10_nextBit 4 = .ok (.aload_n 0, 1) := by decide +kernel
theorem dX10_nextBit_5 : decode cX10_nextBit 5 = .ok (.getfield 81, 3) := by decide +kernel
theorem dX10_nextBit_8 : decode cX10_nextBit 8 = .ok (.if_icmp .ge 15, 3) := by decide +kernel
theorem dX10_nextBit_11 : decode cX10_nextBit 11 = .ok (.aload_n 0, 1) := by decide +kernel
theorem dX10_nextBit_12 : decode cX10_nextBit 12 = .ok (.getfield 35, 3) := by decide +kernel
theorem dX10_nextBit_15 : decode cX10_nextBit 15 = .ok (.aload_n 0, 1) := by decide +kernel
theorem dX10_nextBit_16 : decode cX10_nextBit 16 = .ok (.getfield 68, 3) := by decide +kernel
theorem dX10_nextBit_19 : decode cX10_nextBit 19 = .ok (.iaload, 1) := by decide +kernel
theorem dX10_nextBit_20 : decode cX10_nextBit 20 = .ok (.goto 4, 3) := by decide +kernel
theorem dX10_nextBit_23 : decode cX10_nextBit 23 = .ok (.iconst 0, 1) := by decide +kernel
theorem dX10_nextBit_24 : decode cX10_nextBit 24 = .ok (.istore_n 1, 1) := by decide +kernel
theorem dX10_nextBit_25 : decode cX10_nextBit 25 = .ok (.aload_n 0, 1) := by decide +kernel
theorem dX10_nextBit_26 : decode cX10_nextBit 26 = .ok (.dup, 1) := by decide +kernel
theorem dX10_nextBit_27 : decode cX10_nextBit 27 = .ok (.getfield 68, 3) := by decide +kernel
theorem dX10_nextBit_30 : decode cX10_nextBit 30 = .ok (.iconst 1, 1) := by decide +kernel
theorem dX10_nextBit_31 : decode cX10_nextBit 31 = .ok (.iadd, 1) := by decide +kernel
theorem dX10_nextBit_32 : decode cX10_nextBit 32 = .ok (.putfield 68, 3) := by decide +kernel
theorem dX10_nextBit_35 : decode cX10_nextBit 35 = .ok (.iload_n 1, 1) := by decide +kernel
theorem dX10_nextBit_36 : decode cX10_nextBit 36 = .ok (.ireturn, 1) := by decide +kernel
theorem dX10_puts_0 : decode cX10_puts 0 = .ok (.aload_n 0, 1) := by decide +kernel
theorem dX10_puts_1 : decode cX10_puts 1 = .ok (.getfield 32, 3) := by decide +kernel
theorem dX10_puts_4 : decode cX10_puts 4 = .ok (.aload_n 0, 1) := by decide +kernel
theorem dX10_puts_5 : decode cX10_puts 5 = .ok (.getfield 65, 3) := by decide +kernel
theorem dX10_puts_8 : decode cX10_puts 8 = .ok (.iload_n 1, 1) := by decide +kernel
theorem dX10_puts_9 : decode cX10_puts 9 = .ok (.iastore, 1) := by decide +kernel
theorem dX10_puts_10 : decode cX10_puts 10 = .ok (.aload_n 0, 1) := by decide +kernel
theorem dX10_puts_11 : decode cX10_puts 11 = .ok (.dup, 1) := by decide +kernel
theorem dX10_puts_12 : decode cX10_puts 12 = .ok (.getfield 65, 3) := by decide +kernel
theorem dX10_puts_15 : decode cX10_puts 15 = .ok (.iconst 1, 1) := by decide +kernel
theorem dX10_puts_16 : decode cX10_puts 16 = .ok (.iadd, 1) := by decide +kernel
theorem dX10_puts_17 : decode cX10_puts 17 = .ok (.putfield 65, 3) := by decide +kernel
theorem dX10_puts_20 : decode cX10_puts 20 = .ok (.aload_n 0, 1) := by decide +kernel
theorem dX10_puts_21 : decode cX10_puts 21 = .ok (.getfield 62, 3) := by decide +kernel
theorem dX10_puts_24 : decode cX10_puts 24 = .ok (.ifCond .le 38, 3) := by decide +kernel
theorem dX10_puts_27 : decode cX10_puts 27 = .ok (.aload_n 0, 1) := by decide +kernel
theorem dX10_puts_28 : decode cX10_puts 28 = .ok (.getfield 32, 3) := by decide +kernel
theorem dX10_puts_31 : decode cX10_puts 31 = .ok (.aload_n 0, 1) := by decide +kernel
theorem dX10_puts_32 : decode cX10_puts 32 = .ok (.getfield 65, 3) := by decide +kernel
theorem dX10_puts_35 : decode cX10_puts 35 = .ok (.iconst 1, 1) := by decide +kernel
theorem dX10_puts_36 : decode cX10_puts 36 = .ok (.iload_n 1, 1) := by decide +kernel
theorem dX10_puts_37 : decode cX10_puts 37 = .ok (.isub, 1) := by decide +kernel
theorem dX10_puts_38 : decode cX10_puts 38 = .ok (.iastore, 1) := by decide +kernel
theorem dX10_puts_39 : decode cX10_puts 39 = .ok (.aload_n 0, 1) := by decide +kernel
theorem dX10_puts_40 : decode cX10_puts 40 = .ok (.dup, 1) := by decide +kernel
theorem dX10_puts_41 : decode cX10_puts 41 = .ok (.getfield 65, 3) := by decide +kernel
theorem dX10_puts_44 : decode cX10_puts 44 = .ok (.iconst 1, 1) := by decide +kernel
theorem dX10_puts_45 : decode cX10_puts 45 = .ok (.iadd, 1) := by decide +kernel
theorem dX10_puts_46 : decode cX10_puts 46 = .ok (.putfield 65, 3) := by decide +kernel
theorem dX10_puts_49 : decode cX10_puts 49 = .ok (.aload_n 0, 1) := by decide +kernel
theorem dX10_puts_50 : decode cX10_puts 50 = .ok (.dup, 1) := by decide +kernel
theorem dX10_puts_51 : decode cX10_puts 51 = .ok (.getfield 62, 3) := by decide +kernel
theorem dX10_puts_54 : decode cX10_puts 54 = .ok (.iconst 1, 1) := by decide +kernel
theorem dX10_puts_55 : decode cX10_puts 55 = .ok (.isub, 1) := by decide +kernel
theorem dX10_puts_56 : decode cX10_puts 56 = .ok (.putfield 62, 3) := by decide +kernel
theorem dX10_puts_59 : decode cX10_puts 59 = .ok (.goto (-39), 3) := by decide +kernel
theorem dX10_puts_62 : decode cX10_puts 62 = .ok (.return_, 1) := by decide +kernel
theorem dX10_widens_0 : decode cX10_widens 0 = .ok (.aload_n 0, 1) := by decide +kernel
theorem dX10_widens_1 : decode cX10_widens 1 = .ok (.getfield 59, 3) := by decide +kernel
theorem dX10_widens_4 : decode cX10_widens 4 = .ok (.ldc 84, 2) := by decide +kernel
theorem dX10_widens_6 : decode cX10_widens 6 = .ok (.if_icmp .ge 7, 3) := by decide +kernel
theorem dX10_widens_9 : decode cX10_widens 9 = .ok (.iconst 0, 1) := by decide +kernel
theorem dX10_widens_10 : decode cX10_widens 10 = .ok (.goto 44, 3) := by decide +kernel
theorem dX10_widens_13 : decode cX10_widens 13 = .ok (.aload_n 0, 1) := by decide +kernel
theorem dX10_widens_14 : decode cX10_widens 14 = .ok (.getfield 55, 3) := by decide +kernel
theorem dX10_widens_17 : decode cX10_widens 17 = .ok (.ldc 84, 2) := by decide +kernel
theorem dX10_widens_19 : decode cX10_widens 19 = .ok (.if_icmp .lt 8, 3) := by decide +kernel
theorem dX10_widens_22 : decode cX10_widens 22 = .ok (.ldc 84, 2) := by decide +kernel
theorem dX10_widens_24 : decode cX10_widens 24 = .ok (.goto 30, 3) := by decide +kernel
theorem dX10_widens_27 : decode cX10_widens 27 = .ok (.aload_n 0, 1) := by decide +kernel
theorem dX10_widens_28 : decode cX10_widens 28 = .ok (.getfield 55, 3) := by decide +kernel
theorem dX10_widens_31 : decode cX10_widens 31 = .ok (.sipush 16384, 3) := by decide +kernel
theorem dX10_widens_34 : decode cX10_widens 34 = .ok (.if_icmp .lt 18, 3) := by decide +kernel
theorem dX10_widens_37 : decode cX10_widens 37 = .ok (.aload_n 0, 1) := by decide +kernel
theorem dX10_widens_38 : decode cX10_widens 38 = .ok (.getfield 59, 3) := by decide +kernel
theorem dX10_widens_41 : decode cX10_widens 41 = .ok (.ldc 85, 2) := by decide +kernel
theorem dX10_widens_43 : decode cX10_widens 43 = .ok (.if_icmp .ge 9, 3) := by decide +kernel
theorem dX10_widens_46 : decode cX10_widens 46 = .ok (.sipush 16384, 3) := by decide +kernel
theorem dX10_widens_49 : decode cX10_widens 49 = .ok (.goto 5, 3) := by decide +kernel
theorem dX10_widens_52 : decode cX10_widens 52 = .ok (.bipush (-9), 2) := by decide +kernel
theorem dX10_widens_54 : decode cX10_widens 54 = .ok (.istore_n 1, 1) := by decide +kernel
theorem dX10_widens_55 : decode cX10_widens 55 = .ok (.iload_n 1, 1) := by decide +kernel
theorem dX10_widens_56 : decode cX10_widens 56 = .ok (.bipush (-9), 2) := by decide +kernel
theorem dX10_widens_58 : decode cX10_widens 58 = .ok (.if_icmp .ne 5, 3) := by decide +kernel
theorem dX10_widens_61 : decode cX10_widens 61 = .ok (.iconst 0, 1) := by decide +kernel
theorem dX10_widens_62 : decode cX10_widens 62 = .ok (.ireturn, 1) := by decide +kernel
theorem dX10_widens_63 : decode cX10_widens 63 = .ok (.iload_n 1, 1) := by decide +kernel
theorem dX10_widens_64 : decode cX10_widens 64 = .ok (.sipush 16384, 3) := by decide +kernel
theorem dX10_widens_67 : decode cX10_widens 67 = .ok (.if_icmp .ne 16, 3) := by decide +kernel
theorem dX10_widens_70 : decode cX10_widens 70 = .ok (.aload_n 0, 1) := by decide +kernel
theorem dX10_widens_71 : decode cX10_widens 71 = .ok (.dup, 1) := by decide +kernel
theorem dX10_widens_72 : decode cX10_widens 72 = .ok (.getfield 62, 3) := by decide +kernel
theorem dX10_widens_75 : decode cX10_widens 75 = .ok (.iconst 1, 1) := by decide +kernel
theorem dX10_widens_76 : decode cX10_widens 76 = .ok (.iadd, 1) := by decide +kernel
theorem dX10_widens_77 : decode cX10_widens 77 = .ok (.putfield 62, 3) := by decide +kernel
theorem dX10_widens_80 : decode cX10_widens 80 = .ok (.goto 23, 3) := by decide +kernel
theorem dX10_widens_83 : decode cX10_widens 83 = .ok (.aload_n 0, 1) := by decide +kernel
theorem dX10_widens_84 : decode cX10_widens 84 = .ok (.getfield 46, 3) := by decide +kernel
theorem dX10_widens_87 : decode cX10_widens 87 = .ok (.ifCond .ne 16, 3) := by decide +kernel
theorem dX10_widens_90 : decode cX10_widens 90 = .ok (.aload_n 0, 1) := by decide +kernel
theorem dX10_widens_91 : decode cX10_widens 91 = .ok (.iload_n 1, 1) := by decide +kernel
theorem dX10_widens_92 : decode cX10_widens 92 = .ok (.ifCond .ne 7, 3) := by decide +kernel
theorem dX10_widens_95 : decode cX10_widens 95 = .ok (.iconst 0, 1) := by decide +kernel
theorem dX10_widens_96 : decode cX10_widens 96 = .ok (.goto 4, 3) := by decide +kernel
theorem dX10_widens_99 : decode cX10_widens 99 = .ok (.iconst 1, 1) := by decide +kernel
theorem dX10_widens_100 : decode cX10_widens 100 = .ok (.invokevirtual 86, 3) := by decide +kernel
theorem dX10_widens_103 : decode cX10_widens 103 = .ok (.aload_n 0, 1) := by decide +kernel
theorem dX10_widens_104 : decode cX10_widens 104 = .ok (.iconst 2, 1) := by decide +kernel
theorem dX10_widens_105 : decode cX10_widens 105 = .ok (.aload_n 0, 1) := by decide +kernel
theorem dX10_widens_106 : decode cX10_widens 106 = .ok (.getfield 55, 3) := by decide +kernel
theorem dX10_widens_109 : decode cX10_widens 109 = .ok (.iload_n 1, 1) := by decide +kernel
theorem dX10_widens_110 : decode cX10_widens 110 = .ok (.isub, 1) := by decide +kernel
theorem dX10_widens_111 : decode cX10_widens 111 = .ok (.imul, 1) := by decide +kernel
theorem dX10_widens_112 : decode cX10_widens 112 = .ok (.putfield 55, 3) := by decide +kernel
theorem dX10_widens_115 : decode cX10_widens 115 = .ok (.aload_n 0, 1) := by decide +kernel
theorem dX10_widens_116 : decode cX10_widens 116 = .ok (.iconst 2, 1) := by decide +kernel
theorem dX10_widens_117 : decode cX10_widens 117 = .ok (.aload_n 0, 1) := by decide +kernel
theorem dX10_widens_118 : decode cX10_widens 118 = .ok (.getfield 59, 3) := by decide +kernel
theorem dX10_widens_121 : decode cX10_widens 121 = .ok (.iload_n 1, 1) := by decide +kernel
theorem dX10_widens_122 : decode cX10_widens 122 = .ok (.isub, 1) := by decide +kernel
theorem dX10_widens_123 : decode cX10_widens 123 = .ok (.imul, 1) := by decide +kernel
theorem dX10_widens_124 : decode cX10_widens 124 = .ok (.iconst 1, 1) := by decide +kernel
theorem dX10_widens_125 : decode cX10_widens 125 = .ok (.iadd, 1) := by decide +kernel
theorem dX10_widens_126 : decode cX10_widens 126 = .ok (.putfield 59, 3) := by decide +kernel
theorem dX10_widens_129 : decode cX10_widens 129 = .ok (.aload_n 0, 1) := by decide +kernel
theorem dX10_widens_130 : decode cX10_widens 130 = .ok (.aload_n 0, 1) := by decide +kernel
theorem dX10_widens_131 : decode cX10_widens 131 = .ok (.getfield 46, 3) := by decide +kernel
theorem dX10_widens_134 : decode cX10_widens 134 = .ok (.iconst 1, 1) := by decide +kernel
theorem dX10_widens_135 : decode cX10_widens 135 = .ok (.if_icmp .ne 19, 3) := by decide +kernel
theorem dX10_widens_138 : decode cX10_widens 138 = .ok (.iconst 2, 1) := by decide +kernel
theorem dX10_widens_139 : decode cX10_widens 139 = .ok (.aload_n 0, 1) := by decide +kernel
theorem dX10_widens_140 : decode cX10_widens 140 = .ok (.getfield 71, 3) := by decide +kernel
theorem dX10_widens_143 : decode cX10_widens 143 = .ok (.iload_n 1, 1) := by decide +kernel
theorem dX10_widens_144 : decode cX10_widens 144 = .ok (.isub, 1) := by decide +kernel
theorem dX10_widens_145 : decode cX10_widens 145 = .ok (.imul, 1) := by decide +kernel
theorem dX10_widens_146 : decode cX10_widens 146 = .ok (.aload_n 0, 1) := by decide +kernel
theorem dX10_widens_147 : decode cX10_widens 147 = .ok (.invokevirtual 77, 3) := by decide +kernel
theorem dX10_widens_150 : decode cX10_widens 150 = .ok (.iadd, 1) := by decide +kernel
theorem dX10_widens_151 : decode cX10_widens 151 = .ok (.goto 4, 3) := by decide +kernel
theorem dX10_widens_154 : decode cX10_widens 154 = .ok (.iconst 0, 1) := by decide +kernel
theorem dX10_widens_155 : decode cX10_widens 155 = .ok (.putfield 71, 3) := by decide +kernel
theorem dX10_widens_158 : decode cX10_widens 158 = .ok (.iconst 1, 1) := by decide +kernel
theorem dX10_widens_159 : decode cX10_widens 159 = .ok (.ireturn, 1) := by decide +kernel
theorem dX10_part_0 : decode cX10_part 0 = .ok (.aload_n 0, 1) := by decide +kernel
theorem dX10_part_1 : decode cX10_part 1 = .ok (.getfield 46, 3) := by decide +kernel
theorem dX10_part_4 : decode cX10_part 4 = .ok (.iconst 2, 1) := by decide +kernel
theorem dX10_part_5 : decode cX10_part 5 = .ok (.if_icmp .ne 26, 3) := by decide +kernel
theorem dX10_part_8 : decode cX10_part 8 = .ok (.aload_n 0, 1) := by decide +kernel
theorem dX10_part_9 : decode cX10_part 9 = .ok (.dup, 1) := by decide +kernel
theorem dX10_part_10 : decode cX10_part 10 = .ok (.getfield 90, 3) := by decide +kernel
theorem dX10_part_13 : decode cX10_part 13 = .ok (.iload_n 2, 1) := by decide +kernel
theorem dX10_part_14 : decode cX10_part 14 = .ok (.i2l, 1) := by decide +kernel
theorem dX10_part_15 : decode cX10_part 15 = .ok (.lmul, 1) := by decide +kernel
theorem dX10_part_16 : decode cX10_part 16 = .ok (.putfield 90, 3) := by decide +kernel
theorem dX10_part_19 : decode cX10_part 19 = .ok (.aload_n 0, 1) := by decide +kernel
theorem dX10_part_20 : decode cX10_part 20 = .ok (.dup, 1) := by decide +kernel
theorem dX10_part_21 : decode cX10_part 21 = .ok (.getfield 94, 3) := by decide +kernel
theorem dX10_part_24 : decode cX10_part 24 = .ok (.iload_n 3, 1) := by decide +kernel
theorem dX10_part_25 : decode cX10_part 25 = .ok (.i2l, 1) := by decide +kernel
theorem dX10_part_26 : decode cX10_part 26 = .ok (.lmul, 1) := by decide +kernel
theorem dX10_part_27 : decode cX10_part 27 = .ok (.putfield 94, 3) := by decide +kernel
theorem dX10_part_30 : decode cX10_part 30 = .ok (.return_, 1) := by decide +kernel
theorem dX10_part_31 : decode cX10_part 31 = .ok (.aload_n 0, 1) := by decide +kernel
theorem dX10_part_32 : decode cX10_part 32 = .ok (.getfield 59, 3) := by decide +kernel
theorem dX10_part_35 : decode cX10_part 35 = .ok (.aload_n 0, 1) := by decide +kernel
theorem dX10_part_36 : decode cX10_part 36 = .ok (.getfield 55, 3) := by decide +kernel
theorem dX10_part_39 : decode cX10_part 39 = .ok (.isub, 1) := by decide +kernel
theorem dX10_part_40 : decode cX10_part 40 = .ok (.iconst 1, 1) := by decide +kernel
theorem dX10_part_41 : decode cX10_part 41 = .ok (.iadd, 1) := by decide +kernel
theorem dX10_part_42 : decode cX10_part 42 = .ok (.istore 4, 2) := by decide +kernel
theorem dX10_part_44 : decode cX10_part 44 = .ok (.aload_n 0, 1) := by decide +kernel
theorem dX10_part_45 : decode cX10_part 45 = .ok (.aload_n 0, 1) := by decide +kernel
theorem dX10_part_46 : decode cX10_part 46 = .ok (.getfield 55, 3) := by decide +kernel
theorem dX10_part_49 : decode cX10_part 49 = .ok (.iload 4, 2) := by decide +kernel
theorem dX10_part_51 : decode cX10_part 51 = .ok (.iload_n 1, 1) := by decide +kernel
theorem dX10_part_52 : decode cX10_part 52 = .ok (.iload_n 2, 1) := by decide +kernel
theorem dX10_part_53 : decode cX10_part 53 = .ok (.iadd, 1) := by decide +kernel
theorem dX10_part_54 : decode cX10_part 54 = .ok (.imul, 1) := by decide +kernel
theorem dX10_part_55 : decode cX10_part 55 = .ok (.iload_n 3, 1) := by decide +kernel
theorem dX10_part_56 : decode cX10_part 56 = .ok (.idiv, 1) := by decide +kernel
theorem dX10_part_57 : decode cX10_part 57 = .ok (.iadd, 1) := by decide +kernel
theorem dX10_part_58 : decode cX10_part 58 = .ok (.iconst 1, 1) := by decide +kernel
theorem dX10_part_59 : decode cX10_part 59 = .ok (.isub, 1) := by decide +kernel
theorem dX10_part_60 : decode cX10_part 60 = .ok (.putfield 59, 3) := by decide +kernel
theorem dX10_part_63 : decode cX10_part 63 = .ok (.aload_n 0, 1) := by decide +kernel
theorem dX10_part_64 : decode cX10_part 64 = .ok (.aload_n 0, 1) := by decide +kernel
theorem dX10_part_65 : decode cX10_part 65 = .ok (.getfield 55, 3) := by decide +kernel
theorem dX10_part_68 : decode cX10_part 68 = .ok (.iload 4, 2) := by decide +kernel
theorem dX10_part_70 : decode cX10_part 70 = .ok (.iload_n 1, 1) := by decide +kernel
theorem dX10_part_71 : decode cX10_part 71 = .ok (.imul, 1) := by decide +kernel
theorem dX10_part_72 : decode cX10_part 72 = .ok (.iload_n 3, 1) := by decide +kernel
theorem dX10_part_73 : decode cX10_part 73 = .ok (.idiv, 1) := by decide +kernel
theorem dX10_part_74 : decode cX10_part 74 = .ok (.iadd, 1) := by decide +kernel
theorem dX10_part_75 : decode cX10_part 75 = .ok (.putfield 55, 3) := by decide +kernel
theorem dX10_part_78 : decode cX10_part 78 = .ok (.iconst 1, 1) := by decide +kernel
theorem dX10_part_79 : decode cX10_part 79 = .ok (.istore 5, 2) := by decide +kernel
theorem dX10_part_81 : decode cX10_part 81 = .ok (.iload 5, 2) := by decide +kernel
theorem dX10_part_83 : decode cX10_part 83 = .ok (.ifCond .eq 12, 3) := by decide +kernel
theorem dX10_part_86 : decode cX10_part 86 = .ok (.aload_n 0, 1) := by decide +kernel
theorem dX10_part_87 : decode cX10_part 87 = .ok (.invokevirtual 97, 3) := by decide +kernel
theorem dX10_part_90 : decode cX10_part 90 = .ok (.istore 5, 2) := by decide +kernel
theorem dX10_part_92 : decode cX10_part 92 = .ok (.goto (-11), 3) := by decide +kernel
theorem dX10_part_95 : decode cX10_part 95 = .ok (.return_, 1) := by decide +kernel
theorem dX10_lies_0 : decode cX10_lies 0 = .ok (.aload_n 0, 1) := by decide +kernel
theorem dX10_lies_1 : decode cX10_lies 1 = .ok (.getfield 71, 3) := by decide +kernel
theorem dX10_lies_4 : decode cX10_lies 4 = .ok (.aload_n 0, 1) := by decide +kernel
theorem dX10_lies_5 : decode cX10_lies 5 = .ok (.getfield 55, 3) := by decide +kernel
theorem dX10_lies_8 : decode cX10_lies 8 = .ok (.isub, 1) := by decide +kernel
theorem dX10_lies_9 : decode cX10_lies 9 = .ok (.iconst 1, 1) := by decide +kernel
theorem dX10_lies_10 : decode cX10_lies 10 = .ok (.iadd, 1) := by decide +kernel
theorem dX10_lies_11 : decode cX10_lies 11 = .ok (.iload_n 1, 1) := by decide +kernel
theorem dX10_lies_12 : decode cX10_lies 12 = .ok (.imul, 1) := by decide +kernel
theorem dX10_lies_13 : decode cX10_lies 13 = .ok (.iconst 1, 1) := by decide +kernel
theorem dX10_lies_14 : decode cX10_lies 14 = .ok (.isub, 1) := by decide +kernel
theorem dX10_lies_15 : decode cX10_lies 15 = .ok (.aload_n 0, 1) := by decide +kernel
theorem dX10_lies_16 : decode cX10_lies 16 = .ok (.getfield 59, 3) := by decide +kernel
theorem dX10_lies_19 : decode cX10_lies 19 = .ok (.aload_n 0, 1) := by decide +kernel
theorem dX10_lies_20 : decode cX10_lies 20 = .ok (.getfield 55, 3) := by decide +kernel
theorem dX10_lies_23 : decode cX10_lies 23 = .ok (.isub, 1) := by decide +kernel
theorem dX10_lies_24 : decode cX10_lies 24 = .ok (.iconst 1, 1) := by decide +kernel
theorem dX10_lies_25 : decode cX10_lies 25 = .ok (.iadd, 1) := by decide +kernel
theorem dX10_lies_26 : decode cX10_lies 26 = .ok (.idiv, 1) := by decide +kernel
theorem dX10_lies_27 : decode cX10_lies 27 = .ok (.ireturn, 1) := by decide +kernel
theorem dX10_context_0 : decode cX10_context 0 = .ok (.iconst 0, 1) := by decide +kernel
theorem dX10_context_1 : decode cX10_context 1 = .ok (.istore_n 3, 1) := by decide +kernel
theorem dX10_context_2 : decode cX10_context 2 = .ok (.iconst 0, 1) := by decide +kernel
theorem dX10_context_3 : decode cX10_context 3 = .ok (.istore 4, 2) := by decide +kernel
theorem dX10_context_5 : decode cX10_context 5 = .ok (.iload_n 2, 1) := by decide +kernel
theorem dX10_context_6 : decode cX10_context 6 = .ok (.iload_n 1, 1) := by decide +kernel
theorem dX10_context_7 : decode cX10_context 7 = .ok (.isub, 1) := by decide +kernel
theorem dX10_context_8 : decode cX10_context 8 = .ok (.istore 5, 2) := by decide +kernel
theorem dX10_context_10 : decode cX10_context 10 = .ok (.iload 5, 2) := by decide +kernel
theorem dX10_context_12 : decode cX10_context 12 = .ok (.iload_n 2, 1) := by decide +kernel
theorem dX10_context_13 : decode cX10_context 13 = .ok (.if_icmp .ge 29, 3) := by decide +kernel
theorem dX10_context_16 : decode cX10_context 16 = .ok (.iconst 4, 1) := by decide +kernel
theorem dX10_context_17 : decode cX10_context 17 = .ok (.iload_n 3, 1) := by decide +kernel
theorem dX10_context_18 : decode cX10_context 18 = .ok (.imul, 1) := by decide +kernel
theorem dX10_context_19 : decode cX10_context 19 = .ok (.aload_n 0, 1) := by decide +kernel
theorem dX10_context_20 : decode cX10_context 20 = .ok (.getfield 26, 3) := by decide +kernel
theorem dX10_context_23 : decode cX10_context 23 = .ok (.iload 5, 2) := by decide +kernel
theorem dX10_context_25 : decode cX10_context 25 = .ok (.iaload, 1) := by decide +kernel
theorem dX10_context_26 : decode cX10_context 26 = .ok (.iadd, 1) := by decide +kernel
theorem dX10_context_27 : decode cX10_context 27 = .ok (.istore_n 3, 1) := by decide +kernel
theorem dX10_context_28 : decode cX10_context 28 = .ok (.iconst 4, 1) := by decide +kernel
theorem dX10_context_29 : decode cX10_context 29 = .ok (.iload 4, 2) := by decide +kernel
theorem dX10_context_31 : decode cX10_context 31 = .ok (.imul, 1) := by decide +kernel
theorem dX10_context_32 : decode cX10_context 32 = .ok (.iconst 1, 1) := by decide +kernel
theorem dX10_context_33 : decode cX10_context 33 = .ok (.iadd, 1) := by decide +kernel
theorem dX10_context_34 : decode cX10_context 34 = .ok (.istore 4, 2) := by decide +kernel
theorem dX10_context_36 : decode cX10_context 36 = .ok (.iinc 5 1, 3) := by decide +kernel
theorem dX10_context_39 : decode cX10_context 39 = .ok (.goto (-29), 3) := by decide +kernel
theorem dX10_context_42 : decode cX10_context 42 = .ok (.iconst 4, 1) := by decide +kernel
theorem dX10_context_43 : decode cX10_context 43 = .ok (.iload 4, 2) := by decide +kernel
theorem dX10_context_45 : decode cX10_context 45 = .ok (.iload_n 3, 1) := by decide +kernel
theorem dX10_context_46 : decode cX10_context 46 = .ok (.iadd, 1) := by decide +kernel
theorem dX10_context_47 : decode cX10_context 47 = .ok (.imul, 1) := by decide +kernel
theorem dX10_context_48 : decode cX10_context 48 = .ok (.ireturn, 1) := by decide +kernel
theorem dX10_openAt_0 : decode cX10_openAt 0 = .ok (.iconst 0, 1) := by decide +kernel
theorem dX10_openAt_1 : decode cX10_openAt 1 = .ok (.istore_n 3, 1) := by decide +kernel
theorem dX10_openAt_2 : decode cX10_openAt 2 = .ok (.iconst 0, 1) := by decide +kernel
theorem dX10_openAt_3 : decode cX10_openAt 3 = .ok (.istore 4, 2) := by decide +kernel
theorem dX10_openAt_5 : decode cX10_openAt 5 = .ok (.iload 4, 2) := by decide +kernel
theorem dX10_openAt_7 : decode cX10_openAt 7 = .ok (.iconst 4, 1) := by decide +kernel
theorem dX10_openAt_8 : decode cX10_openAt 8 = .ok (.if_icmp .ge 41, 3) := by decide +kernel
theorem dX10_openAt_11 : decode cX10_openAt 11 = .ok (.iload_n 3, 1) := by decide +kernel
theorem dX10_openAt_12 : decode cX10_openAt 12 = .ok (.aload_n 0, 1) := by decide +kernel
theorem dX10_openAt_13 : decode cX10_openAt 13 = .ok (.getfield 29, 3) := by decide +kernel
theorem dX10_openAt_16 : decode cX10_openAt 16 = .ok (.iload_n 1, 1) := by decide +kernel
theorem dX10_openAt_17 : decode cX10_openAt 17 = .ok (.iload 4, 2) := by decide +kernel
theorem dX10_openAt_19 : decode cX10_openAt 19 = .ok (.iadd, 1) := by decide +kernel
theorem dX10_openAt_20 : decode cX10_openAt 20 = .ok (.iaload, 1) := by decide +kernel
theorem dX10_openAt_21 : decode cX10_openAt 21 = .ok (.ifCond .le 19, 3) := by decide +kernel
theorem dX10_openAt_24 : decode cX10_openAt 24 = .ok (.iload_n 2, 1) := by decide +kernel
theorem dX10_openAt_25 : decode cX10_openAt 25 = .ok (.iload 4, 2) := by decide +kernel
theorem dX10_openAt_27 : decode cX10_openAt 27 = .ok (.invokestatic 101, 3) := by decide +kernel
theorem dX10_openAt_30 : decode cX10_openAt 30 = .ok (.ifCond .ne 10, 3) := by decide +kernel
theorem dX10_openAt_33 : decode cX10_openAt 33 = .ok (.iconst 1, 1) := by decide +kernel
theorem dX10_openAt_34 : decode cX10_openAt 34 = .ok (.iload 4, 2) := by decide +kernel
theorem dX10_openAt_36 : decode cX10_openAt 36 = .ok (.ishl, 1) := by decide +kernel
theorem dX10_openAt_37 : decode cX10_openAt 37 = .ok (.goto 4, 3) := by decide +kernel
theorem dX10_openAt_40 : decode cX10_openAt 40 = .ok (.iconst 0, 1) := by decide +kernel
theorem dX10_openAt_41 : decode cX10_openAt 41 = .ok (.ior, 1) := by decide +kernel
theorem dX10_openAt_42 : decode cX10_openAt 42 = .ok (.istore_n 3, 1) := by decide +kernel
theorem dX10_openAt_43 : decode cX10_openAt 43 = .ok (.iinc 4 1, 3) := by decide +kernel
theorem dX10_openAt_46 : decode cX10_openAt 46 = .ok (.goto (-41), 3) := by decide +kernel
theorem dX10_openAt_49 : decode cX10_openAt 49 = .ok (.iload_n 3, 1) := by decide +kernel
theorem dX10_openAt_50 : decode cX10_openAt 50 = .ok (.ireturn, 1) := by decide +kernel
theorem dX10_sum_0 : decode cX10_sum 0 = .ok (.iconst 0, 1) := by decide +kernel
theorem dX10_sum_1 : decode cX10_sum 1 = .ok (.istore 4, 2) := by decide +kernel
theorem dX10_sum_3 : decode cX10_sum 3 = .ok (.iconst 0, 1) := by decide +kernel
theorem dX10_sum_4 : decode cX10_sum 4 = .ok (.istore 5, 2) := by decide +kernel
theorem dX10_sum_6 : decode cX10_sum 6 = .ok (.iload 5, 2) := by decide +kernel
theorem dX10_sum_8 : decode cX10_sum 8 = .ok (.iload_n 3, 1) := by decide +kernel
theorem dX10_sum_9 : decode cX10_sum 9 = .ok (.if_icmp .ge 36, 3) := by decide +kernel
theorem dX10_sum_12 : decode cX10_sum 12 = .ok (.iload 4, 2) := by decide +kernel
theorem dX10_sum_14 : decode cX10_sum 14 = .ok (.iload_n 2, 1) := by decide +kernel
theorem dX10_sum_15 : decode cX10_sum 15 = .ok (.iload 5, 2) := by decide +kernel
theorem dX10_sum_17 : decode cX10_sum 17 = .ok (.invokestatic 101, 3) := by decide +kernel
theorem dX10_sum_20 : decode cX10_sum 20 = .ok (.ifCond .eq 15, 3) := by decide +kernel
theorem dX10_sum_23 : decode cX10_sum 23 = .ok (.aload_n 0, 1) := by decide +kernel
theorem dX10_sum_24 : decode cX10_sum 24 = .ok (.getfield 29, 3) := by decide +kernel
theorem dX10_sum_27 : decode cX10_sum 27 = .ok (.iload_n 1, 1) := by decide +kernel
theorem dX10_sum_28 : decode cX10_sum 28 = .ok (.iload 5, 2) := by decide +kernel
theorem dX10_sum_30 : decode cX10_sum 30 = .ok (.iadd, 1) := by decide +kernel
theorem dX10_sum_31 : decode cX10_sum 31 = .ok (.iaload, 1) := by decide +kernel
theorem dX10_sum_32 : decode cX10_sum 32 = .ok (.goto 4, 3) := by decide +kernel
theorem dX10_sum_35 : decode cX10_sum 35 = .ok (.iconst 0, 1) := by decide +kernel
theorem dX10_sum_36 : decode cX10_sum 36 = .ok (.iadd, 1) := by decide +kernel
theorem dX10_sum_37 : decode cX10_sum 37 = .ok (.istore 4, 2) := by decide +kernel
theorem dX10_sum_39 : decode cX10_sum 39 = .ok (.iinc 5 1, 3) := by decide +kernel
theorem dX10_sum_42 : decode cX10_sum 42 = .ok (.goto (-36), 3) := by decide +kernel
theorem dX10_sum_45 : decode cX10_sum 45 = .ok (.iload 4, 2) := by decide +kernel
theorem dX10_sum_47 : decode cX10_sum 47 = .ok (.ireturn, 1) := by decide +kernel
theorem dX10_signAt_0 : decode cX10_signAt 0 = .ok (.iconst 0, 1) := by decide +kernel
theorem dX10_signAt_1 : decode cX10_signAt 1 = .ok (.istore 4, 2) := by decide +kernel
theorem dX10_signAt_3 : decode cX10_signAt 3 = .ok (.iload 4, 2) := by decide +kernel
theorem dX10_signAt_5 : decode cX10_signAt 5 = .ok (.iconst 4, 1) := by decide +kernel
theorem dX10_signAt_6 : decode cX10_signAt 6 = .ok (.if_icmp .ge 35, 3) := by decide +kernel
theorem dX10_signAt_9 : decode cX10_signAt 9 = .ok (.iload_n 2, 1) := by decide +kernel
theorem dX10_signAt_10 : decode cX10_signAt 10 = .ok (.iload 4, 2) := by decide +kernel
theorem dX10_signAt_12 : decode cX10_signAt 12 = .ok (.invokestatic 101, 3) := by decide +kernel
theorem dX10_signAt_15 : decode cX10_signAt 15 = .ok (.ifCond .eq 20, 3) := by decide +kernel
theorem dX10_signAt_18 : decode cX10_signAt 18 = .ok (.iload_n 3, 1) := by decide +kernel
theorem dX10_signAt_19 : decode cX10_signAt 19 = .ok (.aload_n 0, 1) := by decide +kernel
theorem dX10_signAt_20 : decode cX10_signAt 20 = .ok (.iload_n 1, 1) := by decide +kernel
theorem dX10_signAt_21 : decode cX10_signAt 21 = .ok (.iload_n 2, 1) := by decide +kernel
theorem dX10_signAt_22 : decode cX10_signAt 22 = .ok (.iload 4, 2) := by decide +kernel
theorem dX10_signAt_24 : decode cX10_signAt 24 = .ok (.iconst 1, 1) := by decide +kernel
theorem dX10_signAt_25 : decode cX10_signAt 25 = .ok (.iadd, 1) := by decide +kernel
theorem dX10_signAt_26 : decode cX10_signAt 26 = .ok (.invokevirtual 105, 3) := by decide +kernel
theorem dX10_signAt_29 : decode cX10_signAt 29 = .ok (.if_icmp .ge 6, 3) := by decide +kernel
theorem dX10_signAt_32 : decode cX10_signAt 32 = .ok (.iload 4, 2) := by decide +kernel
theorem dX10_signAt_34 : decode cX10_signAt 34 = .ok (.ireturn, 1) := by decide +kernel
theorem dX10_signAt_35 : decode cX10_signAt 35 = .ok (.iinc 4 1, 3) := by decide +kernel
theorem dX10_signAt_38 : decode cX10_signAt 38 = .ok (.goto (-35), 3) := by decide +kernel
theorem dX10_signAt_41 : decode cX10_signAt 41 = .ok (.bipush (-9), 2) := by decide +kernel
theorem dX10_signAt_43 : decode cX10_signAt 43 = .ok (.ireturn, 1) := by decide +kernel
theorem dX10_plain_0 : decode cX10_plain 0 = .ok (.iconst 4, 1) := by decide +kernel
theorem dX10_plain_1 : decode cX10_plain 1 = .ok (.iload_n 2, 1) := by decide +kernel
theorem dX10_plain_2 : decode cX10_plain 2 = .ok (.invokestatic 109, 3) := by decide +kernel
theorem dX10_plain_5 : decode cX10_plain 5 = .ok (.isub, 1) := by decide +kernel
theorem dX10_plain_6 : decode cX10_plain 6 = .ok (.istore_n 3, 1) := by decide +kernel
theorem dX10_plain_7 : decode cX10_plain 7 = .ok (.aload_n 0, 1) := by decide +kernel
theorem dX10_plain_8 : decode cX10_plain 8 = .ok (.getfield 46, 3) := by decide +kernel
theorem dX10_plain_11 : decode cX10_plain 11 = .ok (.iconst 1, 1) := by decide +kernel
theorem dX10_plain_12 : decode cX10_plain 12 = .ok (.if_icmp .ne 11, 3) := by decide +kernel
theorem dX10_plain_15 : decode cX10_plain 15 = .ok (.aload_n 0, 1) := by decide +kernel
theorem dX10_plain_16 : decode cX10_plain 16 = .ok (.iload_n 3, 1) := by decide +kernel
theorem dX10_plain_17 : decode cX10_plain 17 = .ok (.invokevirtual 113, 3) := by decide +kernel
theorem dX10_plain_20 : decode cX10_plain 20 = .ok (.goto 4, 3) := by decide +kernel
theorem dX10_plain_23 : decode cX10_plain 23 = .ok (.iconst 0, 1) := by decide +kernel
theorem dX10_plain_24 : decode cX10_plain 24 = .ok (.istore 4, 2) := by decide +kernel
theorem dX10_plain_26 : decode cX10_plain 26 = .ok (.iload_n 1, 1) := by decide +kernel
theorem dX10_plain_27 : decode cX10_plain 27 = .ok (.istore 5, 2) := by decide +kernel
theorem dX10_plain_29 : decode cX10_plain 29 = .ok (.iconst 3, 1) := by decide +kernel
theorem dX10_plain_30 : decode cX10_plain 30 = .ok (.istore 6, 2) := by decide +kernel
theorem dX10_plain_32 : decode cX10_plain 32 = .ok (.iload 6, 2) := by decide +kernel
theorem dX10_plain_34 : decode cX10_plain 34 = .ok (.ifCond .lt 54, 3) := by decide +kernel
theorem dX10_plain_37 : decode cX10_plain 37 = .ok (.aload_n 0, 1) := by decide +kernel
theorem dX10_plain_38 : decode cX10_plain 38 = .ok (.getfield 46, 3) := by decide +kernel
theorem dX10_plain_41 : decode cX10_plain 41 = .ok (.iconst 1, 1) := by decide +kernel
theorem dX10_plain_42 : decode cX10_plain 42 = .ok (.if_icmp .ne 46, 3) := by decide +kernel
theorem dX10_plain_45 : decode cX10_plain 45 = .ok (.iload_n 2, 1) := by decide +kernel
theorem dX10_plain_46 : decode cX10_plain 46 = .ok (.iload 6, 2) := by decide +kernel
theorem dX10_plain_48 : decode cX10_plain 48 = .ok (.invokestatic 101, 3) := by decide +kernel
theorem dX10_plain_51 : decode cX10_plain 51 = .ok (.ifCond .ne 27, 3) := by decide +kernel
theorem dX10_plain_54 : decode cX10_plain 54 = .ok (.iload 6, 2) := by decide +kernel
theorem dX10_plain_56 : decode cX10_plain 56 = .ok (.iload_n 2, 1) := by decide +kernel
theorem dX10_plain_57 : decode cX10_plain 57 = .ok (.iconst 1, 1) := by decide +kernel
theorem dX10_plain_58 : decode cX10_plain 58 = .ok (.iload 6, 2) := by decide +kernel
theorem dX10_plain_60 : decode cX10_plain 60 = .ok (.ishl, 1) := by decide +kernel
theorem dX10_plain_61 : decode cX10_plain 61 = .ok (.iconst 1, 1) := by decide +kernel
theorem dX10_plain_62 : decode cX10_plain 62 = .ok (.isub, 1) := by decide +kernel
theorem dX10_plain_63 : decode cX10_plain 63 = .ok (.iand, 1) := by decide +kernel
theorem dX10_plain_64 : decode cX10_plain 64 = .ok (.invokestatic 109, 3) := by decide +kernel
theorem dX10_plain_67 : decode cX10_plain 67 = .ok (.isub, 1) := by decide +kernel
theorem dX10_plain_68 : decode cX10_plain 68 = .ok (.iload 4, 2) := by decide +kernel
theorem dX10_plain_70 : decode cX10_plain 70 = .ok (.if_icmp .ne 8, 3) := by decide +kernel
theorem dX10_plain_73 : decode cX10_plain 73 = .ok (.iload 6, 2) := by decide +kernel
theorem dX10_plain_75 : decode cX10_plain 75 = .ok (.goto 5, 3) := by decide +kernel
theorem dX10_plain_78 : decode cX10_plain 78 = .ok (.iload 5, 2) := by decide +kernel
theorem dX10_plain_80 : decode cX10_plain 80 = .ok (.istore 5, 2) := by decide +kernel
theorem dX10_plain_82 : decode cX10_plain 82 = .ok (.iinc 6 (-1), 3) := by decide +kernel
theorem dX10_plain_85 : decode cX10_plain 85 = .ok (.goto (-53), 3) := by decide +kernel
theorem dX10_plain_88 : decode cX10_plain 88 = .ok (.aload_n 0, 1) := by decide +kernel
theorem dX10_plain_89 : decode cX10_plain 89 = .ok (.iload 5, 2) := by decide +kernel
theorem dX10_plain_91 : decode cX10_plain 91 = .ok (.iload_n 2, 1) := by decide +kernel
theorem dX10_plain_92 : decode cX10_plain 92 = .ok (.iconst 1, 1) := by decide +kernel
theorem dX10_plain_93 : decode cX10_plain 93 = .ok (.iload 5, 2) := by decide +kernel
theorem dX10_plain_95 : decode cX10_plain 95 = .ok (.ishl, 1) := by decide +kernel
theorem dX10_plain_96 : decode cX10_plain 96 = .ok (.iconst 1, 1) := by decide +kernel
theorem dX10_plain_97 : decode cX10_plain 97 = .ok (.isub, 1) := by decide +kernel
theorem dX10_plain_98 : decode cX10_plain 98 = .ok (.iand, 1) := by decide +kernel
theorem dX10_plain_99 : decode cX10_plain 99 = .ok (.invokestatic 109, 3) := by decide +kernel
theorem dX10_plain_102 : decode cX10_plain 102 = .ok (.isub, 1) := by decide +kernel
theorem dX10_plain_103 : decode cX10_plain 103 = .ok (.iconst 1, 1) := by decide +kernel
theorem dX10_plain_104 : decode cX10_plain 104 = .ok (.iload_n 3, 1) := by decide +kernel
theorem dX10_plain_105 : decode cX10_plain 105 = .ok (.invokevirtual 116, 3) := by decide +kernel
theorem dX10_plain_108 : decode cX10_plain 108 = .ok (.aload_n 0, 1) := by decide +kernel
theorem dX10_plain_109 : decode cX10_plain 109 = .ok (.iconst (-1), 1) := by decide +kernel
theorem dX10_plain_110 : decode cX10_plain 110 = .ok (.putfield 120, 3) := by decide +kernel
theorem dX10_plain_113 : decode cX10_plain 113 = .ok (.iload 5, 2) := by decide +kernel
theorem dX10_plain_115 : decode cX10_plain 115 = .ok (.ireturn, 1) := by decide +kernel
theorem dX10_goes_0 : decode cX10_goes 0 = .ok (.iconst 0, 1) := by decide +kernel
theorem dX10_goes_1 : decode cX10_goes 1 = .ok (.istore_n 2, 1) := by decide +kernel
theorem dX10_goes_2 : decode cX10_goes 2 = .ok (.aload_n 0, 1) := by decide +kernel
theorem dX10_goes_3 : decode cX10_goes 3 = .ok (.iconst 0, 1) := by decide +kernel
theorem dX10_goes_4 : decode cX10_goes 4 = .ok (.putfield 123, 3) := by decide +kernel
theorem dX10_goes_7 : decode cX10_goes 7 = .ok (.aload_n 0, 1) := by decide +kernel
theorem dX10_goes_8 : decode cX10_goes 8 = .ok (.getfield 42, 3) := by decide +kernel
theorem dX10_goes_11 : decode cX10_goes 11 = .ok (.aload_n 0, 1) := by decide +kernel
theorem dX10_goes_12 : decode cX10_goes 12 = .ok (.getfield 49, 3) := by decide +kernel
theorem dX10_goes_15 : decode cX10_goes 15 = .ok (.invokestatic 126, 3) := by decide +kernel
theorem dX10_goes_18 : decode cX10_goes 18 = .ok (.istore_n 3, 1) := by decide +kernel
theorem dX10_goes_19 : decode cX10_goes 19 = .ok (.iload_n 3, 1) := by decide +kernel
theorem dX10_goes_20 : decode cX10_goes 20 = .ok (.ifCond .lt 179, 3) := by decide +kernel
theorem dX10_goes_23 : decode cX10_goes 23 = .ok (.aload_n 0, 1) := by decide +kernel
theorem dX10_goes_24 : decode cX10_goes 24 = .ok (.iload_n 3, 1) := by decide +kernel
theorem dX10_goes_25 : decode cX10_goes 25 = .ok (.aload_n 0, 1) := by decide +kernel
theorem dX10_goes_26 : decode cX10_goes 26 = .ok (.getfield 49, 3) := by decide +kernel
theorem dX10_goes_29 : decode cX10_goes 29 = .ok (.invokevirtual 130, 3) := by decide +kernel
theorem dX10_goes_32 : decode cX10_goes 32 = .ok (.istore 4, 2) := by decide +kernel
theorem dX10_goes_34 : decode cX10_goes 34 = .ok (.aload_n 0, 1) := by decide +kernel
theorem dX10_goes_35 : decode cX10_goes 35 = .ok (.iload 4, 2) := by decide +kernel
theorem dX10_goes_37 : decode cX10_goes 37 = .ok (.iload_n 2, 1) := by decide +kernel
theorem dX10_goes_38 : decode cX10_goes 38 = .ok (.invokevirtual 133, 3) := by decide +kernel
theorem dX10_goes_41 : decode cX10_goes 41 = .ok (.istore 5, 2) := by decide +kernel
theorem dX10_goes_43 : decode cX10_goes 43 = .ok (.iload 5, 2) := by decide +kernel
theorem dX10_goes_45 : decode cX10_goes 45 = .ok (.ifCond .eq 148, 3) := by decide +kernel
theorem dX10_goes_48 : decode cX10_goes 48 = .ok (.iload 5, 2) := by decide +kernel
theorem dX10_goes_50 : decode cX10_goes 50 = .ok (.iload_n 2, 1) := by decide +kernel
theorem dX10_goes_51 : decode cX10_goes 51 = .ok (.ior, 1) := by decide +kernel
theorem dX10_goes_52 : decode cX10_goes 52 = .ok (.bipush 15, 2) := by decide +kernel
theorem dX10_goes_54 : decode cX10_goes 54 = .ok (.if_icmp .ne 7, 3) := by decide +kernel
theorem dX10_goes_57 : decode cX10_goes 57 = .ok (.iconst 0, 1) := by decide +kernel
theorem dX10_goes_58 : decode cX10_goes 58 = .ok (.goto 8, 3) := by decide +kernel
theorem dX10_goes_61 : decode cX10_goes 61 = .ok (.iload 5, 2) := by decide +kernel
theorem dX10_goes_63 : decode cX10_goes 63 = .ok (.invokestatic 109, 3) := by decide +kernel
theorem dX10_goes_66 : decode cX10_goes 66 = .ok (.istore 6, 2) := by decide +kernel
theorem dX10_goes_68 : decode cX10_goes 68 = .ok (.aload_n 0, 1) := by decide +kernel
theorem dX10_goes_69 : decode cX10_goes 69 = .ok (.iload 4, 2) := by decide +kernel
theorem dX10_goes_71 : decode cX10_goes 71 = .ok (.iload 5, 2) := by decide +kernel
theorem dX10_goes_73 : decode cX10_goes 73 = .ok (.iconst 4, 1) := by decide +kernel
theorem dX10_goes_74 : decode cX10_goes 74 = .ok (.invokevirtual 105, 3) := by decide +kernel
theorem dX10_goes_77 : decode cX10_goes 77 = .ok (.iload 6, 2) := by decide +kernel
theorem dX10_goes_79 : decode cX10_goes 79 = .ok (.iadd, 1) := by decide +kernel
theorem dX10_goes_80 : decode cX10_goes 80 = .ok (.istore 7, 2) := by decide +kernel
theorem dX10_goes_82 : decode cX10_goes 82 = .ok (.aload_n 0, 1) := by decide +kernel
theorem dX10_goes_83 : decode cX10_goes 83 = .ok (.getfield 46, 3) := by decide +kernel
theorem dX10_goes_86 : decode cX10_goes 86 = .ok (.iconst 1, 1) := by decide +kernel
theorem dX10_goes_87 : decode cX10_goes 87 = .ok (.if_icmp .ne 20, 3) := by decide +kernel
theorem dX10_goes_90 : decode cX10_goes 90 = .ok (.aload_n 0, 1) := by decide +kernel
theorem dX10_goes_91 : decode cX10_goes 91 = .ok (.iload 4, 2) := by decide +kernel
theorem dX10_goes_93 : decode cX10_goes 93 = .ok (.iload 5, 2) := by decide +kernel
theorem dX10_goes_95 : decode cX10_goes 95 = .ok (.aload_n 0, 1) := by decide +kernel
theorem dX10_goes_96 : decode cX10_goes 96 = .ok (.iload 7, 2) := by decide +kernel
theorem dX10_goes_98 : decode cX10_goes 98 = .ok (.invokevirtual 113, 3) := by decide +kernel
theorem dX10_goes_101 : decode cX10_goes 101 = .ok (.invokevirtual 136, 3) := by decide +kernel
theorem dX10_goes_104 : decode cX10_goes 104 = .ok (.goto 18, 3) := by decide +kernel
theorem dX10_goes_107 : decode cX10_goes 107 = .ok (.iload 5, 2) := by decide +kernel
theorem dX10_goes_109 : decode cX10_goes 109 = .ok (.iload_n 1, 1) := by decide +kernel
theorem dX10_goes_110 : decode cX10_goes 110 = .ok (.invokestatic 101, 3) := by decide +kernel
theorem dX10_goes_113 : decode cX10_goes 113 = .ok (.ifCond .eq 7, 3) := by decide +kernel
theorem dX10_goes_116 : decode cX10_goes 116 = .ok (.iload_n 1, 1) := by decide +kernel
theorem dX10_goes_117 : decode cX10_goes 117 = .ok (.goto 5, 3) := by decide +kernel
theorem dX10_goes_120 : decode cX10_goes 120 = .ok (.bipush (-9), 2) := by decide +kernel
theorem dX10_goes_122 : decode cX10_goes 122 = .ok (.istore 8, 2) := by decide +kernel
theorem dX10_goes_124 : decode cX10_goes 124 = .ok (.iload 8, 2) := by decide +kernel
theorem dX10_goes_126 : decode cX10_goes 126 = .ok (.bipush (-9), 2) := by decide +kernel
theorem dX10_goes_128 : decode cX10_goes 128 = .ok (.if_icmp .eq 37, 3) := by decide +kernel
theorem dX10_goes_131 : decode cX10_goes 131 = .ok (.aload_n 0, 1) := by decide +kernel
theorem dX10_goes_132 : decode cX10_goes 132 = .ok (.aload_n 0, 1) := by decide +kernel
theorem dX10_goes_133 : decode cX10_goes 133 = .ok (.iload 4, 2) := by decide +kernel
theorem dX10_goes_135 : decode cX10_goes 135 = .ok (.iload 5, 2) := by decide +kernel
theorem dX10_goes_137 : decode cX10_goes 137 = .ok (.iload 8, 2) := by decide +kernel
theorem dX10_goes_139 : decode cX10_goes 139 = .ok (.invokevirtual 105, 3) := by decide +kernel
theorem dX10_goes_142 : decode cX10_goes 142 = .ok (.aload_n 0, 1) := by decide +kernel
theorem dX10_goes_143 : decode cX10_goes 143 = .ok (.getfield 29, 3) := by decide +kernel
theorem dX10_goes_146 : decode cX10_goes 146 = .ok (.iload 4, 2) := by decide +kernel
theorem dX10_goes_148 : decode cX10_goes 148 = .ok (.iload 8, 2) := by decide +kernel
theorem dX10_goes_150 : decode cX10_goes 150 = .ok (.iadd, 1) := by decide +kernel
theorem dX10_goes_151 : decode cX10_goes 151 = .ok (.iaload, 1) := by decide +kernel
theorem dX10_goes_152 : decode cX10_goes 152 = .ok (.iload 7, 2) := by decide +kernel
theorem dX10_goes_154 : decode cX10_goes 154 = .ok (.invokevirtual 116, 3) := by decide +kernel
theorem dX10_goes_157 : decode cX10_goes 157 = .ok (.aload_n 0, 1) := by decide +kernel
theorem dX10_goes_158 : decode cX10_goes 158 = .ok (.iload_n 3, 1) := by decide +kernel
theorem dX10_goes_159 : decode cX10_goes 159 = .ok (.putfield 120, 3) := by decide +kernel
theorem dX10_goes_162 : decode cX10_goes 162 = .ok (.iload 8, 2) := by decide +kernel
theorem dX10_goes_164 : decode cX10_goes 164 = .ok (.ireturn, 1) := by decide +kernel
theorem dX10_goes_165 : decode cX10_goes 165 = .ok (.aload_n 0, 1) := by decide +kernel
theorem dX10_goes_166 : decode cX10_goes 166 = .ok (.iload 7, 2) := by decide +kernel
theorem dX10_goes_168 : decode cX10_goes 168 = .ok (.iload 6, 2) := by decide +kernel
theorem dX10_goes_170 : decode cX10_goes 170 = .ok (.isub, 1) := by decide +kernel
theorem dX10_goes_171 : decode cX10_goes 171 = .ok (.iload 6, 2) := by decide +kernel
theorem dX10_goes_173 : decode cX10_goes 173 = .ok (.iload 7, 2) := by decide +kernel
theorem dX10_goes_175 : decode cX10_goes 175 = .ok (.invokevirtual 116, 3) := by decide +kernel
theorem dX10_goes_178 : decode cX10_goes 178 = .ok (.iload_n 2, 1) := by decide +kernel
theorem dX10_goes_179 : decode cX10_goes 179 = .ok (.iload 5, 2) := by decide +kernel
theorem dX10_goes_181 : decode cX10_goes 181 = .ok (.ior, 1) := by decide +kernel
theorem dX10_goes_182 : decode cX10_goes 182 = .ok (.istore_n 2, 1) := by decide +kernel
theorem dX10_goes_183 : decode cX10_goes 183 = .ok (.aload_n 0, 1) := by decide +kernel
theorem dX10_goes_184 : decode cX10_goes 184 = .ok (.dup, 1) := by decide +kernel
theorem dX10_goes_185 : decode cX10_goes 185 = .ok (.getfield 123, 3) := by decide +kernel
theorem dX10_goes_188 : decode cX10_goes 188 = .ok (.iconst 1, 1) := by decide +kernel
theorem dX10_goes_189 : decode cX10_goes 189 = .ok (.iadd, 1) := by decide +kernel
theorem dX10_goes_190 : decode cX10_goes 190 = .ok (.putfield 123, 3) := by decide +kernel
theorem dX10_goes_193 : decode cX10_goes 193 = .ok (.iinc 3 (-1), 3) := by decide +kernel
theorem dX10_goes_196 : decode cX10_goes 196 = .ok (.goto (-177), 3) := by decide +kernel
theorem dX10_goes_199 : decode cX10_goes 199 = .ok (.aload_n 0, 1) := by decide +kernel
theorem dX10_goes_200 : decode cX10_goes 200 = .ok (.iload_n 1, 1) := by decide +kernel
theorem dX10_goes_201 : decode cX10_goes 201 = .ok (.iload_n 2, 1) := by decide +kernel
theorem dX10_goes_202 : decode cX10_goes 202 = .ok (.invokevirtual 139, 3) := by decide +kernel
theorem dX10_goes_205 : decode cX10_goes 205 = .ok (.ireturn, 1) := by decide +kernel
theorem dX10_adds_0 : decode cX10_adds 0 = .ok (.aload_n 0, 1) := by decide +kernel
theorem dX10_adds_1 : decode cX10_adds 1 = .ok (.getfield 29, 3) := by decide +kernel
theorem dX10_adds_4 : decode cX10_adds 4 = .ok (.iload_n 1, 1) := by decide +kernel
theorem dX10_adds_5 : decode cX10_adds 5 = .ok (.iload_n 2, 1) := by decide +kernel
theorem dX10_adds_6 : decode cX10_adds 6 = .ok (.iadd, 1) := by decide +kernel
theorem dX10_adds_7 : decode cX10_adds 7 = .ok (.dup2, 1) := by decide +kernel
theorem dX10_adds_8 : decode cX10_adds 8 = .ok (.iaload, 1) := by decide +kernel
theorem dX10_adds_9 : decode cX10_adds 9 = .ok (.iconst 1, 1) := by decide +kernel
theorem dX10_adds_10 : decode cX10_adds 10 = .ok (.iadd, 1) := by decide +kernel
theorem dX10_adds_11 : decode cX10_adds 11 = .ok (.iastore, 1) := by decide +kernel
theorem dX10_adds_12 : decode cX10_adds 12 = .ok (.aload_n 0, 1) := by decide +kernel
theorem dX10_adds_13 : decode cX10_adds 13 = .ok (.getfield 29, 3) := by decide +kernel
theorem dX10_adds_16 : decode cX10_adds 16 = .ok (.iload_n 1, 1) := by decide +kernel
theorem dX10_adds_17 : decode cX10_adds 17 = .ok (.iload_n 2, 1) := by decide +kernel
theorem dX10_adds_18 : decode cX10_adds 18 = .ok (.iadd, 1) := by decide +kernel
theorem dX10_adds_19 : decode cX10_adds 19 = .ok (.iaload, 1) := by decide +kernel
theorem dX10_adds_20 : decode cX10_adds 20 = .ok (.aload_n 0, 1) := by decide +kernel
theorem dX10_adds_21 : decode cX10_adds 21 = .ok (.getfield 7, 3) := by decide +kernel
theorem dX10_adds_24 : decode cX10_adds 24 = .ok (.iconst 1, 1) := by decide +kernel
theorem dX10_adds_25 : decode cX10_adds 25 = .ok (.iaload, 1) := by decide +kernel
theorem dX10_adds_26 : decode cX10_adds 26 = .ok (.if_icmp .ne 7, 3) := by decide +kernel
theorem dX10_adds_29 : decode cX10_adds 29 = .ok (.iconst 1, 1) := by decide +kernel
theorem dX10_adds_30 : decode cX10_adds 30 = .ok (.goto 4, 3) := by decide +kernel
theorem dX10_adds_33 : decode cX10_adds 33 = .ok (.iconst 0, 1) := by decide +kernel
theorem dX10_adds_34 : decode cX10_adds 34 = .ok (.istore_n 3, 1) := by decide +kernel
theorem dX10_adds_35 : decode cX10_adds 35 = .ok (.iconst 0, 1) := by decide +kernel
theorem dX10_adds_36 : decode cX10_adds 36 = .ok (.istore 4, 2) := by decide +kernel
theorem dX10_adds_38 : decode cX10_adds 38 = .ok (.iload 4, 2) := by decide +kernel
theorem dX10_adds_40 : decode cX10_adds 40 = .ok (.iconst 4, 1) := by decide +kernel
theorem dX10_adds_41 : decode cX10_adds 41 = .ok (.if_icmp .ge 26, 3) := by decide +kernel
theorem dX10_adds_44 : decode cX10_adds 44 = .ok (.iload_n 3, 1) := by decide +kernel
theorem dX10_adds_45 : decode cX10_adds 45 = .ok (.ifCond .eq 22, 3) := by decide +kernel
theorem dX10_adds_48 : decode cX10_adds 48 = .ok (.aload_n 0, 1) := by decide +kernel
theorem dX10_adds_49 : decode cX10_adds 49 = .ok (.getfield 29, 3) := by decide +kernel
theorem dX10_adds_52 : decode cX10_adds 52 = .ok (.iload_n 1, 1) := by decide +kernel
theorem dX10_adds_53 : decode cX10_adds 53 = .ok (.iload 4, 2) := by decide +kernel
theorem dX10_adds_55 : decode cX10_adds 55 = .ok (.iadd, 1) := by decide +kernel
theorem dX10_adds_56 : decode cX10_adds 56 = .ok (.dup2, 1) := by decide +kernel
theorem dX10_adds_57 : decode cX10_adds 57 = .ok (.iaload, 1) := by decide +kernel
theorem dX10_adds_58 : decode cX10_adds 58 = .ok (.iconst 2, 1) := by decide +kernel
theorem dX10_adds_59 : decode cX10_adds 59 = .ok (.idiv, 1) := by decide +kernel
theorem dX10_adds_60 : decode cX10_adds 60 = .ok (.iastore, 1) := by decide +kernel
theorem dX10_adds_61 : decode cX10_adds 61 = .ok (.iinc 4 1, 3) := by decide +kernel
theorem dX10_adds_64 : decode cX10_adds 64 = .ok (.goto (-26), 3) := by decide +kernel
theorem dX10_adds_67 : decode cX10_adds 67 = .ok (.return_, 1) := by decide +kernel
theorem dX10_there_0 : decode cX10_there 0 = .ok (.iconst 0, 1) := by decide +kernel
theorem dX10_there_1 : decode cX10_there 1 = .ok (.istore_n 1, 1) := by decide +kernel
theorem dX10_there_2 : decode cX10_there 2 = .ok (.iconst 0, 1) := by decide +kernel
theorem dX10_there_3 : decode cX10_there 3 = .ok (.istore_n 2, 1) := by decide +kernel
theorem dX10_there_4 : decode cX10_there 4 = .ok (.iload_n 2, 1) := by decide +kernel
theorem dX10_there_5 : decode cX10_there 5 = .ok (.bipush 85, 2) := by decide +kernel
theorem dX10_there_7 : decode cX10_there 7 = .ok (.if_icmp .ge 28, 3) := by decide +kernel
theorem dX10_there_10 : decode cX10_there 10 = .ok (.iload_n 1, 1) := by decide +kernel
theorem dX10_there_11 : decode cX10_there 11 = .ok (.aload_n 0, 1) := by decide +kernel
theorem dX10_there_12 : decode cX10_there 12 = .ok (.iconst 4, 1) := by decide +kernel
theorem dX10_there_13 : decode cX10_there 13 = .ok (.iload_n 2, 1) := by decide +kernel
theorem dX10_there_14 : decode cX10_there 14 = .ok (.imul, 1) := by decide +kernel
theorem dX10_there_15 : decode cX10_there 15 = .ok (.iconst 0, 1) := by decide +kernel
theorem dX10_there_16 : decode cX10_there 16 = .ok (.invokevirtual 133, 3) := by decide +kernel
theorem dX10_there_19 : decode cX10_there 19 = .ok (.ifCond .eq 7, 3) := by decide +kernel
theorem dX10_there_22 : decode cX10_there 22 = .ok (.iconst 1, 1) := by decide +kernel
theorem dX10_there_23 : decode cX10_there 23 = .ok (.goto 4, 3) := by decide +kernel
theorem dX10_there_26 : decode cX10_there 26 = .ok (.iconst 0, 1) := by decide +kernel
theorem dX10_there_27 : decode cX10_there 27 = .ok (.iadd, 1) := by decide +kernel
theorem dX10_there_28 : decode cX10_there 28 = .ok (.istore_n 1, 1) := by decide +kernel
theorem dX10_there_29 : decode cX10_there 29 = .ok (.iinc 2 1, 3) := by decide +kernel
theorem dX10_there_32 : decode cX10_there 32 = .ok (.goto (-28), 3) := by decide +kernel
theorem dX10_there_35 : decode cX10_there 35 = .ok (.iload_n 1, 1) := by decide +kernel
theorem dX10_there_36 : decode cX10_there 36 = .ok (.ireturn, 1) := by decide +kernel
theorem dX10_forgets_0 : decode cX10_forgets 0 = .ok (.aload_n 0, 1) := by decide +kernel
theorem dX10_forgets_1 : decode cX10_forgets 1 = .ok (.invokevirtual 74, 3) := by decide +kernel
theorem dX10_forgets_4 : decode cX10_forgets 4 = .ok (.aload_n 0, 1) := by decide +kernel
theorem dX10_forgets_5 : decode cX10_forgets 5 = .ok (.dup, 1) := by decide +kernel
theorem dX10_forgets_6 : decode cX10_forgets 6 = .ok (.getfield 52, 3) := by decide +kernel
theorem dX10_forgets_9 : decode cX10_forgets 9 = .ok (.iconst 1, 1) := by decide +kernel
theorem dX10_forgets_10 : decode cX10_forgets 10 = .ok (.iadd, 1) := by decide +kernel
theorem dX10_forgets_11 : decode cX10_forgets 11 = .ok (.putfield 52, 3) := by decide +kernel
theorem dX10_forgets_14 : decode cX10_forgets 14 = .ok (.aload_n 0, 1) := by decide +kernel
theorem dX10_forgets_15 : decode cX10_forgets 15 = .ok (.getfield 49, 3) := by decide +kernel
theorem dX10_forgets_18 : decode cX10_forgets 18 = .ok (.aload_n 0, 1) := by decide +kernel
theorem dX10_forgets_19 : decode cX10_forgets 19 = .ok (.getfield 7, 3) := by decide +kernel
theorem dX10_forgets_22 : decode cX10_forgets 22 = .ok (.iconst 3, 1) := by decide +kernel
theorem dX10_forgets_23 : decode cX10_forgets 23 = .ok (.iaload, 1) := by decide +kernel
theorem dX10_forgets_24 : decode cX10_forgets 24 = .ok (.aload_n 0, 1) := by decide +kernel
theorem dX10_forgets_25 : decode cX10_forgets 25 = .ok (.getfield 49, 3) := by decide +kernel
theorem dX10_forgets_28 : decode cX10_forgets 28 = .ok (.invokestatic 126, 3) := by decide +kernel
theorem dX10_forgets_31 : decode cX10_forgets 31 = .ok (.isub, 1) := by decide +kernel
theorem dX10_forgets_32 : decode cX10_forgets 32 = .ok (.istore_n 1, 1) := by decide +kernel
theorem dX10_forgets_33 : decode cX10_forgets 33 = .ok (.iload_n 1, 1) := by decide +kernel
theorem dX10_forgets_34 : decode cX10_forgets 34 = .ok (.istore_n 2, 1) := by decide +kernel
theorem dX10_forgets_35 : decode cX10_forgets 35 = .ok (.iload_n 2, 1) := by decide +kernel
theorem dX10_forgets_36 : decode cX10_forgets 36 = .ok (.aload_n 0, 1) := by decide +kernel
theorem dX10_forgets_37 : decode cX10_forgets 37 = .ok (.getfield 49, 3) := by decide +kernel
theorem dX10_forgets_40 : decode cX10_forgets 40 = .ok (.if_icmp .ge 47, 3) := by decide +kernel
theorem dX10_forgets_43 : decode cX10_forgets 43 = .ok (.iconst 0, 1) := by decide +kernel
theorem dX10_forgets_44 : decode cX10_forgets 44 = .ok (.istore_n 3, 1) := by decide +kernel
theorem dX10_forgets_45 : decode cX10_forgets 45 = .ok (.iload_n 3, 1) := by decide +kernel
theorem dX10_forgets_46 : decode cX10_forgets 46 = .ok (.aload_n 0, 1) := by decide +kernel
theorem dX10_forgets_47 : decode cX10_forgets 47 = .ok (.getfield 42, 3) := by decide +kernel
theorem dX10_forgets_50 : decode cX10_forgets 50 = .ok (.iload_n 2, 1) := by decide +kernel
theorem dX10_forgets_51 : decode cX10_forgets 51 = .ok (.iload_n 1, 1) := by decide +kernel
theorem dX10_forgets_52 : decode cX10_forgets 52 = .ok (.isub, 1) := by decide +kernel
theorem dX10_forgets_53 : decode cX10_forgets 53 = .ok (.invokestatic 126, 3) := by decide +kernel
theorem dX10_forgets_56 : decode cX10_forgets 56 = .ok (.if_icmp .gt 25, 3) := by decide +kernel
theorem dX10_forgets_59 : decode cX10_forgets 59 = .ok (.aload_n 0, 1) := by decide +kernel
theorem dX10_forgets_60 : decode cX10_forgets 60 = .ok (.aload_n 0, 1) := by decide +kernel
theorem dX10_forgets_61 : decode cX10_forgets 61 = .ok (.iload_n 3, 1) := by decide +kernel
theorem dX10_forgets_62 : decode cX10_forgets 62 = .ok (.iload_n 2, 1) := by decide +kernel
theorem dX10_forgets_63 : decode cX10_forgets 63 = .ok (.invokevirtual 130, 3) := by decide +kernel
theorem dX10_forgets_66 : decode cX10_forgets 66 = .ok (.aload_n 0, 1) := by decide +kernel
theorem dX10_forgets_67 : decode cX10_forgets 67 = .ok (.getfield 26, 3) := by decide +kernel
theorem dX10_forgets_70 : decode cX10_forgets 70 = .ok (.iload_n 2, 1) := by decide +kernel
theorem dX10_forgets_71 : decode cX10_forgets 71 = .ok (.iaload, 1) := by decide +kernel
theorem dX10_forgets_72 : decode cX10_forgets 72 = .ok (.invokevirtual 142, 3) := by decide +kernel
theorem dX10_forgets_75 : decode cX10_forgets 75 = .ok (.iinc 3 1, 3) := by decide +kernel
theorem dX10_forgets_78 : decode cX10_forgets 78 = .ok (.goto (-33), 3) := by decide +kernel
theorem dX10_forgets_81 : decode cX10_forgets 81 = .ok (.iinc 2 1, 3) := by decide +kernel
theorem dX10_forgets_84 : decode cX10_forgets 84 = .ok (.goto (-49), 3) := by decide +kernel
theorem dX10_forgets_87 : decode cX10_forgets 87 = .ok (.return_, 1) := by decide +kernel
theorem dX10_learns_0 : decode cX10_learns 0 = .ok (.aload_n 0, 1) := by decide +kernel
theorem dX10_learns_1 : decode cX10_learns 1 = .ok (.getfield 120, 3) := by decide +kernel
theorem dX10_learns_4 : decode cX10_learns 4 = .ok (.ifCond .ge 7, 3) := by decide +kernel
theorem dX10_learns_7 : decode cX10_learns 7 = .ok (.iconst 0, 1) := by decide +kernel
theorem dX10_learns_8 : decode cX10_learns 8 = .ok (.goto 7, 3) := by decide +kernel
theorem dX10_learns_11 : decode cX10_learns 11 = .ok (.aload_n 0, 1) := by decide +kernel
theorem dX10_learns_12 : decode cX10_learns 12 = .ok (.getfield 120, 3) := by decide +kernel
theorem dX10_learns_15 : decode cX10_learns 15 = .ok (.istore_n 2, 1) := by decide +kernel
theorem dX10_learns_16 : decode cX10_learns 16 = .ok (.iload_n 2, 1) := by decide +kernel
theorem dX10_learns_17 : decode cX10_learns 17 = .ok (.aload_n 0, 1) := by decide +kernel
theorem dX10_learns_18 : decode cX10_learns 18 = .ok (.getfield 42, 3) := by decide +kernel
theorem dX10_learns_21 : decode cX10_learns 21 = .ok (.aload_n 0, 1) := by decide +kernel
theorem dX10_learns_22 : decode cX10_learns 22 = .ok (.getfield 49, 3) := by decide +kernel
theorem dX10_learns_25 : decode cX10_learns 25 = .ok (.invokestatic 126, 3) := by decide +kernel
theorem dX10_learns_28 : decode cX10_learns 28 = .ok (.if_icmp .gt 23, 3) := by decide +kernel
theorem dX10_learns_31 : decode cX10_learns 31 = .ok (.aload_n 0, 1) := by decide +kernel
theorem dX10_learns_32 : decode cX10_learns 32 = .ok (.aload_n 0, 1) := by decide +kernel
theorem dX10_learns_33 : decode cX10_learns 33 = .ok (.iload_n 2, 1) := by decide +kernel
theorem dX10_learns_34 : decode cX10_learns 34 = .ok (.aload_n 0, 1) := by decide +kernel
theorem dX10_learns_35 : decode cX10_learns 35 = .ok (.getfield 49, 3) := by decide +kernel
theorem dX10_learns_38 : decode cX10_learns 38 = .ok (.invokevirtual 130, 3) := by decide +kernel
theorem dX10_learns_41 : decode cX10_learns 41 = .ok (.iload_n 1, 1) := by decide +kernel
theorem dX10_learns_42 : decode cX10_learns 42 = .ok (.invokevirtual 142, 3) := by decide +kernel
theorem dX10_learns_45 : decode cX10_learns 45 = .ok (.iinc 2 1, 3) := by decide +kernel
theorem dX10_learns_48 : decode cX10_learns 48 = .ok (.goto (-32), 3) := by decide +kernel
theorem dX10_learns_51 : decode cX10_learns 51 = .ok (.aload_n 0, 1) := by decide +kernel
theorem dX10_learns_52 : decode cX10_learns 52 = .ok (.getfield 26, 3) := by decide +kernel
theorem dX10_learns_55 : decode cX10_learns 55 = .ok (.aload_n 0, 1) := by decide +kernel
theorem dX10_learns_56 : decode cX10_learns 56 = .ok (.getfield 49, 3) := by decide +kernel
theorem dX10_learns_59 : decode cX10_learns 59 = .ok (.iload_n 1, 1) := by decide +kernel
theorem dX10_learns_60 : decode cX10_learns 60 = .ok (.iastore, 1) := by decide +kernel
theorem dX10_learns_61 : decode cX10_learns 61 = .ok (.aload_n 0, 1) := by decide +kernel
theorem dX10_learns_62 : decode cX10_learns 62 = .ok (.dup, 1) := by decide +kernel
theorem dX10_learns_63 : decode cX10_learns 63 = .ok (.getfield 49, 3) := by decide +kernel
theorem dX10_learns_66 : decode cX10_learns 66 = .ok (.iconst 1, 1) := by decide +kernel
theorem dX10_learns_67 : decode cX10_learns 67 = .ok (.iadd, 1) := by decide +kernel
theorem dX10_learns_68 : decode cX10_learns 68 = .ok (.putfield 49, 3) := by decide +kernel
theorem dX10_learns_71 : decode cX10_learns 71 = .ok (.aload_n 0, 1) := by decide +kernel
theorem dX10_learns_72 : decode cX10_learns 72 = .ok (.invokevirtual 146, 3) := by decide +kernel
theorem dX10_learns_75 : decode cX10_learns 75 = .ok (.aload_n 0, 1) := by decide +kernel
theorem dX10_learns_76 : decode cX10_learns 76 = .ok (.getfield 7, 3) := by decide +kernel
theorem dX10_learns_79 : decode cX10_learns 79 = .ok (.iconst 2, 1) := by decide +kernel
theorem dX10_learns_80 : decode cX10_learns 80 = .ok (.iaload, 1) := by decide +kernel
theorem dX10_learns_81 : decode cX10_learns 81 = .ok (.if_icmp .le 7, 3) := by decide +kernel
theorem dX10_learns_84 : decode cX10_learns 84 = .ok (.aload_n 0, 1) := by decide +kernel
theorem dX10_learns_85 : decode cX10_learns 85 = .ok (.invokevirtual 149, 3) := by decide +kernel
theorem dX10_learns_88 : decode cX10_learns 88 = .ok (.return_, 1) := by decide +kernel
theorem dX10_packsAll_0 : decode cX10_packsAll 0 = .ok (.aload_n 0, 1) := by decide +kernel
theorem dX10_packsAll_1 : decode cX10_packsAll 1 = .ok (.iload_n 1, 1) := by decide +kernel
theorem dX10_packsAll_2 : decode cX10_packsAll 2 = .ok (.iconst 0, 1) := by decide +kernel
theorem dX10_packsAll_3 : decode cX10_packsAll 3 = .ok (.invokevirtual 152, 3) := by decide +kernel
theorem dX10_packsAll_6 : decode cX10_packsAll 6 = .ok (.iconst 0, 1) := by decide +kernel
theorem dX10_packsAll_7 : decode cX10_packsAll 7 = .ok (.istore_n 2, 1) := by decide +kernel
theorem dX10_packsAll_8 : decode cX10_packsAll 8 = .ok (.iload_n 2, 1) := by decide +kernel
theorem dX10_packsAll_9 : decode cX10_packsAll 9 = .ok (.aload_n 0, 1) := by decide +kernel
theorem dX10_packsAll_10 : decode cX10_packsAll 10 = .ok (.getfield 7, 3) := by decide +kernel
theorem dX10_packsAll_13 : decode cX10_packsAll 13 = .ok (.iconst 4, 1) := by decide +kernel
theorem dX10_packsAll_14 : decode cX10_packsAll 14 = .ok (.iaload, 1) := by decide +kernel
theorem dX10_packsAll_15 : decode cX10_packsAll 15 = .ok (.if_icmp .ge 25, 3) := by decide +kernel
theorem dX10_packsAll_18 : decode cX10_packsAll 18 = .ok (.aload_n 0, 1) := by decide +kernel
theorem dX10_packsAll_19 : decode cX10_packsAll 19 = .ok (.aload_n 0, 1) := by decide +kernel
theorem dX10_packsAll_20 : decode cX10_packsAll 20 = .ok (.aload_n 0, 1) := by decide +kernel
theorem dX10_packsAll_21 : decode cX10_packsAll 21 = .ok (.getfield 7, 3) := by decide +kernel
theorem dX10_packsAll_24 : decode cX10_packsAll 24 = .ok (.iconst 5, 1) := by decide +kernel
theorem dX10_packsAll_25 : decode cX10_packsAll 25 = .ok (.iload_n 2, 1) := by decide +kernel
theorem dX10_packsAll_26 : decode cX10_packsAll 26 = .ok (.iadd, 1) := by decide +kernel
theorem dX10_packsAll_27 : decode cX10_packsAll 27 = .ok (.iaload, 1) := by decide +kernel
theorem dX10_packsAll_28 : decode cX10_packsAll 28 = .ok (.invokevirtual 155, 3) := by decide +kernel
theorem dX10_packsAll_31 : decode cX10_packsAll 31 = .ok (.invokevirtual 158, 3) := by decide +kernel
theorem dX10_packsAll_34 : decode cX10_packsAll 34 = .ok (.iinc 2 1, 3) := by decide +kernel
theorem dX10_packsAll_37 : decode cX10_packsAll 37 = .ok (.goto (-29), 3) := by decide +kernel
theorem dX10_packsAll_40 : decode cX10_packsAll 40 = .ok (.return_, 1) := by decide +kernel
theorem dX10_packsNow_0 : decode cX10_packsNow 0 = .ok (.aload_n 0, 1) := by decide +kernel
theorem dX10_packsNow_1 : decode cX10_packsNow 1 = .ok (.aload_n 0, 1) := by decide +kernel
theorem dX10_packsNow_2 : decode cX10_packsNow 2 = .ok (.getfield 7, 3) := by decide +kernel
theorem dX10_packsNow_5 : decode cX10_packsNow 5 = .ok (.iconst 0, 1) := by decide +kernel
theorem dX10_packsNow_6 : decode cX10_packsNow 6 = .ok (.iaload, 1) := by decide +kernel
theorem dX10_packsNow_7 : decode cX10_packsNow 7 = .ok (.invokevirtual 161, 3) := by decide +kernel
theorem dX10_packsNow_10 : decode cX10_packsNow 10 = .ok (.return_, 1) := by decide +kernel
theorem dX10_unpacks_0 : decode cX10_unpacks 0 = .ok (.aload_n 0, 1) := by decide +kernel
theorem dX10_unpacks_1 : decode cX10_unpacks 1 = .ok (.aload_n 0, 1) := by decide +kernel
theorem dX10_unpacks_2 : decode cX10_unpacks 2 = .ok (.getfield 7, 3) := by decide +kernel
theorem dX10_unpacks_5 : decode cX10_unpacks 5 = .ok (.iconst 0, 1) := by decide +kernel
theorem dX10_unpacks_6 : decode cX10_unpacks 6 = .ok (.iaload, 1) := by decide +kernel
theorem dX10_unpacks_7 : decode cX10_unpacks 7 = .ok (.iconst 1, 1) := by decide +kernel
theorem dX10_unpacks_8 : decode cX10_unpacks 8 = .ok (.invokevirtual 152, 3) := by decide +kernel
theorem dX10_unpacks_11 : decode cX10_unpacks 11 = .ok (.iconst 0, 1) := by decide +kernel
theorem dX10_unpacks_12 : decode cX10_unpacks 12 = .ok (.istore_n 2, 1) := by decide +kernel
theorem dX10_unpacks_13 : decode cX10_unpacks 13 = .ok (.iload_n 2, 1) := by decide +kernel
theorem dX10_unpacks_14 : decode cX10_unpacks 14 = .ok (.iload_n 1, 1) := by decide +kernel
theorem dX10_unpacks_15 : decode cX10_unpacks 15 = .ok (.if_icmp .ge 19, 3) := by decide +kernel
theorem dX10_unpacks_18 : decode cX10_unpacks 18 = .ok (.aload_n 0, 1) := by decide +kernel
theorem dX10_unpacks_19 : decode cX10_unpacks 19 = .ok (.aload_n 0, 1) := by decide +kernel
theorem dX10_unpacks_20 : decode cX10_unpacks 20 = .ok (.bipush (-9), 2) := by decide +kernel
theorem dX10_unpacks_22 : decode cX10_unpacks 22 = .ok (.invokevirtual 155, 3) := by decide +kernel
theorem dX10_unpacks_25 : decode cX10_unpacks 25 = .ok (.invokevirtual 158, 3) := by decide +kernel
theorem dX10_unpacks_28 : decode cX10_unpacks 28 = .ok (.iinc 2 1, 3) := by decide +kernel
theorem dX10_unpacks_31 : decode cX10_unpacks 31 = .ok (.goto (-18), 3) := by decide +kernel
theorem dX10_unpacks_34 : decode cX10_unpacks 34 = .ok (.return_, 1) := by decide +kernel
theorem dX10_ended_0 : decode cX10_ended 0 = .ok (.aload_n 0, 1) := by decide +kernel
theorem dX10_ended_1 : decode cX10_ended 1 = .ok (.getfield 65, 3) := by decide +kernel
theorem dX10_ended_4 : decode cX10_ended 4 = .ok (.aload_n 0, 1) := by decide +kernel
theorem dX10_ended_5 : decode cX10_ended 5 = .ok (.getfield 62, 3) := by decide +kernel
theorem dX10_ended_8 : decode cX10_ended 8 = .ok (.iadd, 1) := by decide +kernel
theorem dX10_ended_9 : decode cX10_ended 9 = .ok (.iconst 2, 1) := by decide +kernel
theorem dX10_ended_10 : decode cX10_ended 10 = .ok (.iadd, 1) := by decide +kernel
theorem dX10_ended_11 : decode cX10_ended 11 = .ok (.ireturn, 1) := by decide +kernel
theorem dX10_type_0 : decode cX10_type 0 = .ok (.iload_n 1, 1) := by decide +kernel
theorem dX10_type_1 : decode cX10_type 1 = .ok (.iconst 0, 1) := by decide +kernel
theorem dX10_type_2 : decode cX10_type 2 = .ok (.sipush 255, 3) := by decide +kernel
theorem dX10_type_5 : decode cX10_type 5 = .ok (.invokestatic 164, 3) := by decide +kernel
theorem dX10_type_8 : decode cX10_type 8 = .ok (.ifCond .ne 5, 3) := by decide +kernel
theorem dX10_type_11 : decode cX10_type 11 = .ok (.iconst (-1), 1) := by decide +kernel
theorem dX10_type_12 : decode cX10_type 12 = .ok (.ireturn, 1) := by decide +kernel
theorem dX10_type_13 : decode cX10_type 13 = .ok (.aload_n 0, 1) := by decide +kernel
theorem dX10_type_14 : decode cX10_type 14 = .ok (.getfield 168, 3) := by decide +kernel
theorem dX10_type_17 : decode cX10_type 17 = .ok (.sipush 200, 3) := by decide +kernel
theorem dX10_type_20 : decode cX10_type 20 = .ok (.if_icmp .ne 6, 3) := by decide +kernel
theorem dX10_type_23 : decode cX10_type 23 = .ok (.bipush (-3), 2) := by decide +kernel
theorem dX10_type_25 : decode cX10_type 25 = .ok (.ireturn, 1) := by decide +kernel
theorem dX10_type_26 : decode cX10_type 26 = .ok (.aload_n 0, 1) := by decide +kernel
theorem dX10_type_27 : decode cX10_type 27 = .ok (.getfield 23, 3) := by decide +kernel
theorem dX10_type_30 : decode cX10_type 30 = .ok (.aload_n 0, 1) := by decide +kernel
theorem dX10_type_31 : decode cX10_type 31 = .ok (.getfield 168, 3) := by decide +kernel
theorem dX10_type_34 : decode cX10_type 34 = .ok (.iload_n 1, 1) := by decide +kernel
theorem dX10_type_35 : decode cX10_type 35 = .ok (.iastore, 1) := by decide +kernel
theorem dX10_type_36 : decode cX10_type 36 = .ok (.aload_n 0, 1) := by decide +kernel
theorem dX10_type_37 : decode cX10_type 37 = .ok (.dup, 1) := by decide +kernel
theorem dX10_type_38 : decode cX10_type 38 = .ok (.getfield 168, 3) := by decide +kernel
theorem dX10_type_41 : decode cX10_type 41 = .ok (.iconst 1, 1) := by decide +kernel
theorem dX10_type_42 : decode cX10_type 42 = .ok (.iadd, 1) := by decide +kernel
theorem dX10_type_43 : decode cX10_type 43 = .ok (.putfield 168, 3) := by decide +kernel
theorem dX10_type_46 : decode cX10_type 46 = .ok (.aload_n 0, 1) := by decide +kernel
theorem dX10_type_47 : decode cX10_type 47 = .ok (.getfield 168, 3) := by decide +kernel
theorem dX10_type_50 : decode cX10_type 50 = .ok (.ireturn, 1) := by decide +kernel
theorem dX10_clear_0 : decode cX10_clear 0 = .ok (.aload_n 0, 1) := by decide +kernel
theorem dX10_clear_1 : decode cX10_clear 1 = .ok (.getfield 168, 3) := by decide +kernel
theorem dX10_clear_4 : decode cX10_clear 4 = .ok (.istore_n 1, 1) := by decide +kernel
theorem dX10_clear_5 : decode cX10_clear 5 = .ok (.aload_n 0, 1) := by decide +kernel
theorem dX10_clear_6 : decode cX10_clear 6 = .ok (.iconst 0, 1) := by decide +kernel
theorem dX10_clear_7 : decode cX10_clear 7 = .ok (.putfield 168, 3) := by decide +kernel
theorem dX10_clear_10 : decode cX10_clear 10 = .ok (.iload_n 1, 1) := by decide +kernel
theorem dX10_clear_11 : decode cX10_clear 11 = .ok (.ireturn, 1) := by decide +kernel
theorem dX10_keeps_0 : decode cX10_keeps 0 = .ok (.aload_n 0, 1) := by decide +kernel
theorem dX10_keeps_1 : decode cX10_keeps 1 = .ok (.getfield 171, 3) := by decide +kernel
theorem dX10_keeps_4 : decode cX10_keeps 4 = .ok (.bipush 6, 2) := by decide +kernel
theorem dX10_keeps_6 : decode cX10_keeps 6 = .ok (.if_icmp .ne 43, 3) := by decide +kernel
theorem dX10_keeps_9 : decode cX10_keeps 9 = .ok (.iconst 0, 1) := by decide +kernel
theorem dX10_keeps_10 : decode cX10_keeps 10 = .ok (.istore_n 1, 1) := by decide +kernel
theorem dX10_keeps_11 : decode cX10_keeps 11 = .ok (.iload_n 1, 1) := by decide +kernel
theorem dX10_keeps_12 : decode cX10_keeps 12 = .ok (.sipush 325, 3) := by decide +kernel
theorem dX10_keeps_15 : decode cX10_keeps 15 = .ok (.if_icmp .ge 24, 3) := by decide +kernel
theorem dX10_keeps_18 : decode cX10_keeps 18 = .ok (.aload_n 0, 1) := by decide +kernel
theorem dX10_keeps_19 : decode cX10_keeps 19 = .ok (.getfield 13, 3) := by decide +kernel
theorem dX10_keeps_22 : decode cX10_keeps 22 = .ok (.iload_n 1, 1) := by decide +kernel
theorem dX10_keeps_23 : decode cX10_keeps 23 = .ok (.aload_n 0, 1) := by decide +kernel
theorem dX10_keeps_24 : decode cX10_keeps 24 = .ok (.getfield 13, 3) := by decide +kernel
theorem dX10_keeps_27 : decode cX10_keeps 27 = .ok (.iload_n 1, 1) := by decide +kernel
theorem dX10_keeps_28 : decode cX10_keeps 28 = .ok (.bipush 65, 2) := by decide +kernel
theorem dX10_keeps_30 : decode cX10_keeps 30 = .ok (.iadd, 1) := by decide +kernel
theorem dX10_keeps_31 : decode cX10_keeps 31 = .ok (.iaload, 1) := by decide +kernel
theorem dX10_keeps_32 : decode cX10_keeps 32 = .ok (.iastore, 1) := by decide +kernel
theorem dX10_keeps_33 : decode cX10_keeps 33 = .ok (.iinc 1 1, 3) := by decide +kernel
theorem dX10_keeps_36 : decode cX10_keeps 36 = .ok (.goto (-25), 3) := by decide +kernel
theorem dX10_keeps_39 : decode cX10_keeps 39 = .ok (.aload_n 0, 1) := by decide +kernel
theorem dX10_keeps_40 : decode cX10_keeps 40 = .ok (.dup, 1) := by decide +kernel
theorem dX10_keeps_41 : decode cX10_keeps 41 = .ok (.getfield 171, 3) := by decide +kernel
theorem dX10_keeps_44 : decode cX10_keeps 44 = .ok (.iconst 1, 1) := by decide +kernel
theorem dX10_keeps_45 : decode cX10_keeps 45 = .ok (.isub, 1) := by decide +kernel
theorem dX10_keeps_46 : decode cX10_keeps 46 = .ok (.putfield 171, 3) := by decide +kernel
theorem dX10_keeps_49 : decode cX10_keeps 49 = .ok (.iconst 0, 1) := by decide +kernel
theorem dX10_keeps_50 : decode cX10_keeps 50 = .ok (.istore_n 1, 1) := by decide +kernel
theorem dX10_keeps_51 : decode cX10_keeps 51 = .ok (.iload_n 1, 1) := by decide +kernel
theorem dX10_keeps_52 : decode cX10_keeps 52 = .ok (.bipush 65, 2) := by decide +kernel
theorem dX10_keeps_54 : decode cX10_keeps 54 = .ok (.if_icmp .ge 29, 3) := by decide +kernel
theorem dX10_keeps_57 : decode cX10_keeps 57 = .ok (.aload_n 0, 1) := by decide +kernel
theorem dX10_keeps_58 : decode cX10_keeps 58 = .ok (.getfield 13, 3) := by decide +kernel
theorem dX10_keeps_61 : decode cX10_keeps 61 = .ok (.bipush 65, 2) := by decide +kernel
theorem dX10_keeps_63 : decode cX10_keeps 63 = .ok (.aload_n 0, 1) := by decide +kernel
theorem dX10_keeps_64 : decode cX10_keeps 64 = .ok (.getfield 171, 3) := by decide +kernel
theorem dX10_keeps_67 : decode cX10_keeps 67 = .ok (.imul, 1) := by decide +kernel
theorem dX10_keeps_68 : decode cX10_keeps 68 = .ok (.iload_n 1, 1) := by decide +kernel
theorem dX10_keeps_69 : decode cX10_keeps 69 = .ok (.iadd, 1) := by decide +kernel
theorem dX10_keeps_70 : decode cX10_keeps 70 = .ok (.aload_n 0, 1) := by decide +kernel
theorem dX10_keeps_71 : decode cX10_keeps 71 = .ok (.getfield 7, 3) := by decide +kernel
theorem dX10_keeps_74 : decode cX10_keeps 74 = .ok (.iload_n 1, 1) := by decide +kernel
theorem dX10_keeps_75 : decode cX10_keeps 75 = .ok (.iaload, 1) := by decide +kernel
theorem dX10_keeps_76 : decode cX10_keeps 76 = .ok (.iastore, 1) := by decide +kernel
theorem dX10_keeps_77 : decode cX10_keeps 77 = .ok (.iinc 1 1, 3) := by decide +kernel
theorem dX10_keeps_80 : decode cX10_keeps 80 = .ok (.goto (-29), 3) := by decide +kernel
theorem dX10_keeps_83 : decode cX10_keeps 83 = .ok (.aload_n 0, 1) := by decide +kernel
theorem dX10_keeps_84 : decode cX10_keeps 84 = .ok (.dup, 1) := by decide +kernel
theorem dX10_keeps_85 : decode cX10_keeps 85 = .ok (.getfield 171, 3) := by decide +kernel
theorem dX10_keeps_88 : decode cX10_keeps 88 = .ok (.iconst 1, 1) := by decide +kernel
theorem dX10_keeps_89 : decode cX10_keeps 89 = .ok (.iadd, 1) := by decide +kernel
theorem dX10_keeps_90 : decode cX10_keeps 90 = .ok (.putfield 171, 3) := by decide +kernel
theorem dX10_keeps_93 : decode cX10_keeps 93 = .ok (.return_, 1) := by decide +kernel
theorem dX10_begins_0 : decode cX10_begins 0 = .ok (.iload_n 1, 1) := by decide +kernel
theorem dX10_begins_1 : decode cX10_begins 1 = .ok (.iconst 0, 1) := by decide +kernel
theorem dX10_begins_2 : decode cX10_begins 2 = .ok (.iconst 3, 1) := by decide +kernel
theorem dX10_begins_3 : decode cX10_begins 3 = .ok (.invokestatic 164, 3) := by decide +kernel
theorem dX10_begins_6 : decode cX10_begins 6 = .ok (.ifCond .eq 34, 3) := by decide +kernel
theorem dX10_begins_9 : decode cX10_begins 9 = .ok (.iload_n 2, 1) := by decide +kernel
theorem dX10_begins_10 : decode cX10_begins 10 = .ok (.iconst 2, 1) := by decide +kernel
theorem dX10_begins_11 : decode cX10_begins 11 = .ok (.bipush 15, 2) := by decide +kernel
theorem dX10_begins_13 : decode cX10_begins 13 = .ok (.invokestatic 164, 3) := by decide +kernel
theorem dX10_begins_16 : decode cX10_begins 16 = .ok (.ifCond .eq 24, 3) := by decide +kernel
theorem dX10_begins_19 : decode cX10_begins 19 = .ok (.iload_n 3, 1) := by decide +kernel
theorem dX10_begins_20 : decode cX10_begins 20 = .ok (.iconst 4, 1) := by decide +kernel
theorem dX10_begins_21 : decode cX10_begins 21 = .ok (.bipush 60, 2) := by decide +kernel
theorem dX10_begins_23 : decode cX10_begins 23 = .ok (.invokestatic 164, 3) := by decide +kernel
theorem dX10_begins_26 : decode cX10_begins 26 = .ok (.ifCond .eq 14, 3) := by decide +kernel
theorem dX10_begins_29 : decode cX10_begins 29 = .ok (.iload 4, 2) := by decide +kernel
theorem dX10_begins_31 : decode cX10_begins 31 = .ok (.iconst 0, 1) := by decide +kernel
theorem dX10_begins_32 : decode cX10_begins 32 = .ok (.bipush 9, 2) := by decide +kernel
theorem dX10_begins_34 : decode cX10_begins 34 = .ok (.invokestatic 164, 3) := by decide +kernel
theorem dX10_begins_37 : decode cX10_begins 37 = .ok (.ifCond .ne 5, 3) := by decide +kernel
theorem dX10_begins_40 : decode cX10_begins 40 = .ok (.iconst (-1), 1) := by decide +kernel
theorem dX10_begins_41 : decode cX10_begins 41 = .ok (.ireturn, 1) := by decide +kernel
theorem dX10_begins_42 : decode cX10_begins 42 = .ok (.aload_n 0, 1) := by decide +kernel
theorem dX10_begins_43 : decode cX10_begins 43 = .ok (.invokevirtual 174, 3) := by decide +kernel
theorem dX10_begins_46 : decode cX10_begins 46 = .ok (.aload_n 0, 1) := by decide +kernel
theorem dX10_begins_47 : decode cX10_begins 47 = .ok (.getfield 7, 3) := by decide +kernel
theorem dX10_begins_50 : decode cX10_begins 50 = .ok (.iconst 4, 1) := by decide +kernel
theorem dX10_begins_51 : decode cX10_begins 51 = .ok (.iaload, 1) := by decide +kernel
theorem dX10_begins_52 : decode cX10_begins 52 = .ok (.istore 5, 2) := by decide +kernel
theorem dX10_begins_54 : decode cX10_begins 54 = .ok (.aload_n 0, 1) := by decide +kernel
theorem dX10_begins_55 : decode cX10_begins 55 = .ok (.iload_n 1, 1) := by decide +kernel
theorem dX10_begins_56 : decode cX10_begins 56 = .ok (.iload_n 2, 1) := by decide +kernel
theorem dX10_begins_57 : decode cX10_begins 57 = .ok (.iload_n 3, 1) := by decide +kernel
theorem dX10_begins_58 : decode cX10_begins 58 = .ok (.iload 4, 2) := by decide +kernel
theorem dX10_begins_60 : decode cX10_begins 60 = .ok (.invokevirtual 38, 3) := by decide +kernel
theorem dX10_begins_63 : decode cX10_begins 63 = .ok (.iload 5, 2) := by decide +kernel
theorem dX10_begins_65 : decode cX10_begins 65 = .ok (.ireturn, 1) := by decide +kernel
theorem dX10_appends_0 : decode cX10_appends 0 = .ok (.aload_n 0, 1) := by decide +kernel
theorem dX10_appends_1 : decode cX10_appends 1 = .ok (.getfield 7, 3) := by decide +kernel
theorem dX10_appends_4 : decode cX10_appends 4 = .ok (.iconst 5, 1) := by decide +kernel
theorem dX10_appends_5 : decode cX10_appends 5 = .ok (.aload_n 0, 1) := by decide +kernel
theorem dX10_appends_6 : decode cX10_appends 6 = .ok (.getfield 7, 3) := by decide +kernel
theorem dX10_appends_9 : decode cX10_appends 9 = .ok (.iconst 4, 1) := by decide +kernel
theorem dX10_appends_10 : decode cX10_appends 10 = .ok (.iaload, 1) := by decide +kernel
theorem dX10_appends_11 : decode cX10_appends 11 = .ok (.iadd, 1) := by decide +kernel
theorem dX10_appends_12 : decode cX10_appends 12 = .ok (.iload_n 1, 1) := by decide +kernel
theorem dX10_appends_13 : decode cX10_appends 13 = .ok (.iastore, 1) := by decide +kernel
theorem dX10_appends_14 : decode cX10_appends 14 = .ok (.aload_n 0, 1) := by decide +kernel
theorem dX10_appends_15 : decode cX10_appends 15 = .ok (.getfield 7, 3) := by decide +kernel
theorem dX10_appends_18 : decode cX10_appends 18 = .ok (.iconst 4, 1) := by decide +kernel
theorem dX10_appends_19 : decode cX10_appends 19 = .ok (.dup2, 1) := by decide +kernel
theorem dX10_appends_20 : decode cX10_appends 20 = .ok (.iaload, 1) := by decide +kernel
theorem dX10_appends_21 : decode cX10_appends 21 = .ok (.iconst 1, 1) := by decide +kernel
theorem dX10_appends_22 : decode cX10_appends 22 = .ok (.iadd, 1) := by decide +kernel
theorem dX10_appends_23 : decode cX10_appends 23 = .ok (.iastore, 1) := by decide +kernel
theorem dX10_appends_24 : decode cX10_appends 24 = .ok (.return_, 1) := by decide +kernel
theorem dX10_packs_0 : decode cX10_packs 0 = .ok (.iload_n 1, 1) := by decide +kernel
theorem dX10_packs_1 : decode cX10_packs 1 = .ok (.iconst 0, 1) := by decide +kernel
theorem dX10_packs_2 : decode cX10_packs 2 = .ok (.iconst 3, 1) := by decide +kernel
theorem dX10_packs_3 : decode cX10_packs 3 = .ok (.invokestatic 164, 3) := by decide +kernel
theorem dX10_packs_6 : decode cX10_packs 6 = .ok (.ifCond .ne 6, 3) := by decide +kernel
theorem dX10_packs_9 : decode cX10_packs 9 = .ok (.bipush (-5), 2) := by decide +kernel
theorem dX10_packs_11 : decode cX10_packs 11 = .ok (.ireturn, 1) := by decide +kernel
theorem dX10_packs_12 : decode cX10_packs 12 = .ok (.aload_n 0, 1) := by decide +kernel
theorem dX10_packs_13 : decode cX10_packs 13 = .ok (.getfield 7, 3) := by decide +kernel
theorem dX10_packs_16 : decode cX10_packs 16 = .ok (.iconst 4, 1) := by decide +kernel
theorem dX10_packs_17 : decode cX10_packs 17 = .ok (.iaload, 1) := by decide +kernel
theorem dX10_packs_18 : decode cX10_packs 18 = .ok (.bipush 60, 2) := by decide +kernel
theorem dX10_packs_20 : decode cX10_packs 20 = .ok (.if_icmp .ne 6, 3) := by decide +kernel
theorem dX10_packs_23 : decode cX10_packs 23 = .ok (.bipush (-6), 2) := by decide +kernel
theorem dX10_packs_25 : decode cX10_packs 25 = .ok (.ireturn, 1) := by decide +kernel
theorem dX10_packs_26 : decode cX10_packs 26 = .ok (.aload_n 0, 1) := by decide +kernel
theorem dX10_packs_27 : decode cX10_packs 27 = .ok (.invokevirtual 174, 3) := by decide +kernel
theorem dX10_packs_30 : decode cX10_packs 30 = .ok (.aload_n 0, 1) := by decide +kernel
theorem dX10_packs_31 : decode cX10_packs 31 = .ok (.iload_n 1, 1) := by decide +kernel
theorem dX10_packs_32 : decode cX10_packs 32 = .ok (.invokevirtual 177, 3) := by decide +kernel
theorem dX10_packs_35 : decode cX10_packs 35 = .ok (.aload_n 0, 1) := by decide +kernel
theorem dX10_packs_36 : decode cX10_packs 36 = .ok (.invokevirtual 180, 3) := by decide +kernel
theorem dX10_packs_39 : decode cX10_packs 39 = .ok (.aload_n 0, 1) := by decide +kernel
theorem dX10_packs_40 : decode cX10_packs 40 = .ok (.getfield 120, 3) := by decide +kernel
theorem dX10_packs_43 : decode cX10_packs 43 = .ok (.ireturn, 1) := by decide +kernel
theorem dX10_wrongLetter_0 : decode cX10_wrongLetter 0 = .ok (.iconst 0, 1) := by decide +kernel
theorem dX10_wrongLetter_1 : decode cX10_wrongLetter 1 = .ok (.istore_n 3, 1) := by decide +kernel
theorem dX10_wrongLetter_2 : decode cX10_wrongLetter 2 = .ok (.iload_n 3, 1) := by decide +kernel
theorem dX10_wrongLetter_3 : decode cX10_wrongLetter 3 = .ok (.aload_n 0, 1) := by decide +kernel
theorem dX10_wrongLetter_4 : decode cX10_wrongLetter 4 = .ok (.getfield 168, 3) := by decide +kernel
theorem dX10_wrongLetter_7 : decode cX10_wrongLetter 7 = .ok (.if_icmp .ge 25, 3) := by decide +kernel
theorem dX10_wrongLetter_10 : decode cX10_wrongLetter 10 = .ok (.aload_n 0, 1) := by decide +kernel
theorem dX10_wrongLetter_11 : decode cX10_wrongLetter 11 = .ok (.getfield 23, 3) := by decide +kernel
theorem dX10_wrongLetter_14 : decode cX10_wrongLetter 14 = .ok (.iload_n 3, 1) := by decide +kernel
theorem dX10_wrongLetter_15 : decode cX10_wrongLetter 15 = .ok (.iaload, 1) := by decide +kernel
theorem dX10_wrongLetter_16 : decode cX10_wrongLetter 16 = .ok (.iload_n 1, 1) := by decide +kernel
theorem dX10_wrongLetter_17 : decode cX10_wrongLetter 17 = .ok (.iload_n 2, 1) := by decide +kernel
theorem dX10_wrongLetter_18 : decode cX10_wrongLetter 18 = .ok (.invokestatic 164, 3) := by decide +kernel
theorem dX10_wrongLetter_21 : decode cX10_wrongLetter 21 = .ok (.ifCond .ne 5, 3) := by decide +kernel
theorem dX10_wrongLetter_24 : decode cX10_wrongLetter 24 = .ok (.iload_n 3, 1) := by decide +kernel
theorem dX10_wrongLetter_25 : decode cX10_wrongLetter 25 = .ok (.ireturn, 1) := by decide +kernel
theorem dX10_wrongLetter_26 : decode cX10_wrongLetter 26 = .ok (.iinc 3 1, 3) := by decide +kernel
theorem dX10_wrongLetter_29 : decode cX10_wrongLetter 29 = .ok (.goto (-27), 3) := by decide +kernel
theorem dX10_wrongLetter_32 : decode cX10_wrongLetter 32 = .ok (.bipush (-9), 2) := by decide +kernel
theorem dX10_wrongLetter_34 : decode cX10_wrongLetter 34 = .ok (.ireturn, 1) := by decide +kernel
theorem dX10_word_0 : decode cX10_word 0 = .ok (.aload_n 0, 1) := by decide +kernel
theorem dX10_word_1 : decode cX10_word 1 = .ok (.bipush 97, 2) := by decide +kernel
theorem dX10_word_3 : decode cX10_word 3 = .ok (.bipush 100, 2) := by decide +kernel
theorem dX10_word_5 : decode cX10_word 5 = .ok (.invokevirtual 183, 3) := by decide +kernel
theorem dX10_word_8 : decode cX10_word 8 = .ok (.istore_n 1, 1) := by decide +kernel
theorem dX10_word_9 : decode cX10_word 9 = .ok (.iload_n 1, 1) := by decide +kernel
theorem dX10_word_10 : decode cX10_word 10 = .ok (.bipush (-9), 2) := by decide +kernel
theorem dX10_word_12 : decode cX10_word 12 = .ok (.if_icmp .eq 8, 3) := by decide +kernel
theorem dX10_word_15 : decode cX10_word 15 = .ok (.bipush (-10), 2) := by decide +kernel
theorem dX10_word_17 : decode cX10_word 17 = .ok (.iload_n 1, 1) := by decide +kernel
theorem dX10_word_18 : decode cX10_word 18 = .ok (.isub, 1) := by decide +kernel
theorem dX10_word_19 : decode cX10_word 19 = .ok (.ireturn, 1) := by decide +kernel
theorem dX10_word_20 : decode cX10_word 20 = .ok (.aload_n 0, 1) := by decide +kernel
theorem dX10_word_21 : decode cX10_word 21 = .ok (.getfield 7, 3) := by decide +kernel
theorem dX10_word_24 : decode cX10_word 24 = .ok (.iconst 4, 1) := by decide +kernel
theorem dX10_word_25 : decode cX10_word 25 = .ok (.iaload, 1) := by decide +kernel
theorem dX10_word_26 : decode cX10_word 26 = .ok (.aload_n 0, 1) := by decide +kernel
theorem dX10_word_27 : decode cX10_word 27 = .ok (.getfield 168, 3) := by decide +kernel
theorem dX10_word_30 : decode cX10_word 30 = .ok (.iadd, 1) := by decide +kernel
theorem dX10_word_31 : decode cX10_word 31 = .ok (.bipush 60, 2) := by decide +kernel
theorem dX10_word_33 : decode cX10_word 33 = .ok (.if_icmp .le 6, 3) := by decide +kernel
theorem dX10_word_36 : decode cX10_word 36 = .ok (.bipush (-3), 2) := by decide +kernel
theorem dX10_word_38 : decode cX10_word 38 = .ok (.ireturn, 1) := by decide +kernel
theorem dX10_word_39 : decode cX10_word 39 = .ok (.aload_n 0, 1) := by decide +kernel
theorem dX10_word_40 : decode cX10_word 40 = .ok (.invokevirtual 174, 3) := by decide +kernel
theorem dX10_word_43 : decode cX10_word 43 = .ok (.iconst 0, 1) := by decide +kernel
theorem dX10_word_44 : decode cX10_word 44 = .ok (.istore_n 2, 1) := by decide +kernel
theorem dX10_word_45 : decode cX10_word 45 = .ok (.iload_n 2, 1) := by decide +kernel
theorem dX10_word_46 : decode cX10_word 46 = .ok (.aload_n 0, 1) := by decide +kernel
theorem dX10_word_47 : decode cX10_word 47 = .ok (.getfield 168, 3) := by decide +kernel
theorem dX10_word_50 : decode cX10_word 50 = .ok (.if_icmp .ge 22, 3) := by decide +kernel
theorem dX10_word_53 : decode cX10_word 53 = .ok (.aload_n 0, 1) := by decide +kernel
theorem dX10_word_54 : decode cX10_word 54 = .ok (.aload_n 0, 1) := by decide +kernel
theorem dX10_word_55 : decode cX10_word 55 = .ok (.getfield 23, 3) := by decide +kernel
theorem dX10_word_58 : decode cX10_word 58 = .ok (.iload_n 2, 1) := by decide +kernel
theorem dX10_word_59 : decode cX10_word 59 = .ok (.iaload, 1) := by decide +kernel
theorem dX10_word_60 : decode cX10_word 60 = .ok (.bipush 97, 2) := by decide +kernel
theorem dX10_word_62 : decode cX10_word 62 = .ok (.isub, 1) := by decide +kernel
theorem dX10_word_63 : decode cX10_word 63 = .ok (.invokevirtual 177, 3) := by decide +kernel
theorem dX10_word_66 : decode cX10_word 66 = .ok (.iinc 2 1, 3) := by decide +kernel
theorem dX10_word_69 : decode cX10_word 69 = .ok (.goto (-24), 3) := by decide +kernel
theorem dX10_word_72 : decode cX10_word 72 = .ok (.aload_n 0, 1) := by decide +kernel
theorem dX10_word_73 : decode cX10_word 73 = .ok (.getfield 168, 3) := by decide +kernel
theorem dX10_word_76 : decode cX10_word 76 = .ok (.istore_n 2, 1) := by decide +kernel
theorem dX10_word_77 : decode cX10_word 77 = .ok (.aload_n 0, 1) := by decide +kernel
theorem dX10_word_78 : decode cX10_word 78 = .ok (.iconst 0, 1) := by decide +kernel
theorem dX10_word_79 : decode cX10_word 79 = .ok (.putfield 168, 3) := by decide +kernel
theorem dX10_word_82 : decode cX10_word 82 = .ok (.iload_n 2, 1) := by decide +kernel
theorem dX10_word_83 : decode cX10_word 83 = .ok (.ireturn, 1) := by decide +kernel
theorem dX10_cuts_0 : decode cX10_cuts 0 = .ok (.iload_n 1, 1) := by decide +kernel
theorem dX10_cuts_1 : decode cX10_cuts 1 = .ok (.iconst 1, 1) := by decide +kernel
theorem dX10_cuts_2 : decode cX10_cuts 2 = .ok (.if_icmp .ge 5, 3) := by decide +kernel
theorem dX10_cuts_5 : decode cX10_cuts 5 = .ok (.iconst (-1), 1) := by decide +kernel
theorem dX10_cuts_6 : decode cX10_cuts 6 = .ok (.ireturn, 1) := by decide +kernel
theorem dX10_cuts_7 : decode cX10_cuts 7 = .ok (.iload_n 1, 1) := by decide +kernel
theorem dX10_cuts_8 : decode cX10_cuts 8 = .ok (.aload_n 0, 1) := by decide +kernel
theorem dX10_cuts_9 : decode cX10_cuts 9 = .ok (.getfield 7, 3) := by decide +kernel
theorem dX10_cuts_12 : decode cX10_cuts 12 = .ok (.iconst 4, 1) := by decide +kernel
theorem dX10_cuts_13 : decode cX10_cuts 13 = .ok (.iaload, 1) := by decide +kernel
theorem dX10_cuts_14 : decode cX10_cuts 14 = .ok (.if_icmp .le 6, 3) := by decide +kernel
theorem dX10_cuts_17 : decode cX10_cuts 17 = .ok (.bipush (-2), 2) := by decide +kernel
theorem dX10_cuts_19 : decode cX10_cuts 19 = .ok (.ireturn, 1) := by decide +kernel
theorem dX10_cuts_20 : decode cX10_cuts 20 = .ok (.aload_n 0, 1) := by decide +kernel
theorem dX10_cuts_21 : decode cX10_cuts 21 = .ok (.invokevirtual 174, 3) := by decide +kernel
theorem dX10_cuts_24 : decode cX10_cuts 24 = .ok (.aload_n 0, 1) := by decide +kernel
theorem dX10_cuts_25 : decode cX10_cuts 25 = .ok (.getfield 7, 3) := by decide +kernel
theorem dX10_cuts_28 : decode cX10_cuts 28 = .ok (.iconst 4, 1) := by decide +kernel
theorem dX10_cuts_29 : decode cX10_cuts 29 = .ok (.dup2, 1) := by decide +kernel
theorem dX10_cuts_30 : decode cX10_cuts 30 = .ok (.iaload, 1) := by decide +kernel
theorem dX10_cuts_31 : decode cX10_cuts 31 = .ok (.iload_n 1, 1) := by decide +kernel
theorem dX10_cuts_32 : decode cX10_cuts 32 = .ok (.isub, 1) := by decide +kernel
theorem dX10_cuts_33 : decode cX10_cuts 33 = .ok (.iastore, 1) := by decide +kernel
theorem dX10_cuts_34 : decode cX10_cuts 34 = .ok (.aload_n 0, 1) := by decide +kernel
theorem dX10_cuts_35 : decode cX10_cuts 35 = .ok (.getfield 7, 3) := by decide +kernel
theorem dX10_cuts_38 : decode cX10_cuts 38 = .ok (.iconst 4, 1) := by decide +kernel
theorem dX10_cuts_39 : decode cX10_cuts 39 = .ok (.iaload, 1) := by decide +kernel
theorem dX10_cuts_40 : decode cX10_cuts 40 = .ok (.ireturn, 1) := by decide +kernel
theorem dX10_undo_0 : decode cX10_undo 0 = .ok (.aload_n 0, 1) := by decide +kernel
theorem dX10_undo_1 : decode cX10_undo 1 = .ok (.getfield 171, 3) := by decide +kernel
theorem dX10_undo_4 : decode cX10_undo 4 = .ok (.ifCond .ne 6, 3) := by decide +kernel
theorem dX10_undo_7 : decode cX10_undo 7 = .ok (.bipush (-2), 2) := by decide +kernel
theorem dX10_undo_9 : decode cX10_undo 9 = .ok (.ireturn, 1) := by decide +kernel
theorem dX10_undo_10 : decode cX10_undo 10 = .ok (.aload_n 0, 1) := by decide +kernel
theorem dX10_undo_11 : decode cX10_undo 11 = .ok (.dup, 1) := by decide +kernel
theorem dX10_undo_12 : decode cX10_undo 12 = .ok (.getfield 171, 3) := by decide +kernel
theorem dX10_undo_15 : decode cX10_undo 15 = .ok (.iconst 1, 1) := by decide +kernel
theorem dX10_undo_16 : decode cX10_undo 16 = .ok (.isub, 1) := by decide +kernel
theorem dX10_undo_17 : decode cX10_undo 17 = .ok (.putfield 171, 3) := by decide +kernel
theorem dX10_undo_20 : decode cX10_undo 20 = .ok (.iconst 0, 1) := by decide +kernel
theorem dX10_undo_21 : decode cX10_undo 21 = .ok (.istore_n 1, 1) := by decide +kernel
theorem dX10_undo_22 : decode cX10_undo 22 = .ok (.iload_n 1, 1) := by decide +kernel
theorem dX10_undo_23 : decode cX10_undo 23 = .ok (.bipush 65, 2) := by decide +kernel
theorem dX10_undo_25 : decode cX10_undo 25 = .ok (.if_icmp .ge 29, 3) := by decide +kernel
theorem dX10_undo_28 : decode cX10_undo 28 = .ok (.aload_n 0, 1) := by decide +kernel
theorem dX10_undo_29 : decode cX10_undo 29 = .ok (.getfield 7, 3) := by decide +kernel
theorem dX10_undo_32 : decode cX10_undo 32 = .ok (.iload_n 1, 1) := by decide +kernel
theorem dX10_undo_33 : decode cX10_undo 33 = .ok (.aload_n 0, 1) := by decide +kernel
theorem dX10_undo_34 : decode cX10_undo 34 = .ok (.getfield 13, 3) := by decide +kernel
theorem dX10_undo_37 : decode cX10_undo 37 = .ok (.bipush 65, 2) := by decide +kernel
theorem dX10_undo_39 : decode cX10_undo 39 = .ok (.aload_n 0, 1) := by decide +kernel
theorem dX10_undo_40 : decode cX10_undo 40 = .ok (.getfield 171, 3) := by decide +kernel
theorem dX10_undo_43 : decode cX10_undo 43 = .ok (.imul, 1) := by decide +kernel
theorem dX10_undo_44 : decode cX10_undo 44 = .ok (.iload_n 1, 1) := by decide +kernel
theorem dX10_undo_45 : decode cX10_undo 45 = .ok (.iadd, 1) := by decide +kernel
theorem dX10_undo_46 : decode cX10_undo 46 = .ok (.iaload, 1) := by decide +kernel
theorem dX10_undo_47 : decode cX10_undo 47 = .ok (.iastore, 1) := by decide +kernel
theorem dX10_undo_48 : decode cX10_undo 48 = .ok (.iinc 1 1, 3) := by decide +kernel
theorem dX10_undo_51 : decode cX10_undo 51 = .ok (.goto (-29), 3) := by decide +kernel
theorem dX10_undo_54 : decode cX10_undo 54 = .ok (.aload_n 0, 1) := by decide +kernel
theorem dX10_undo_55 : decode cX10_undo 55 = .ok (.getfield 171, 3) := by decide +kernel
theorem dX10_undo_58 : decode cX10_undo 58 = .ok (.ireturn, 1) := by decide +kernel
theorem dX10_sign_0 : decode cX10_sign 0 = .ok (.iload_n 1, 1) := by decide +kernel
theorem dX10_sign_1 : decode cX10_sign 1 = .ok (.iconst 0, 1) := by decide +kernel
theorem dX10_sign_2 : decode cX10_sign 2 = .ok (.aload_n 0, 1) := by decide +kernel
theorem dX10_sign_3 : decode cX10_sign 3 = .ok (.getfield 7, 3) := by decide +kernel
theorem dX10_sign_6 : decode cX10_sign 6 = .ok (.iconst 4, 1) := by decide +kernel
theorem dX10_sign_7 : decode cX10_sign 7 = .ok (.iaload, 1) := by decide +kernel
theorem dX10_sign_8 : decode cX10_sign 8 = .ok (.iconst 1, 1) := by decide +kernel
theorem dX10_sign_9 : decode cX10_sign 9 = .ok (.isub, 1) := by decide +kernel
theorem dX10_sign_10 : decode cX10_sign 10 = .ok (.invokestatic 164, 3) := by decide +kernel
theorem dX10_sign_13 : decode cX10_sign 13 = .ok (.ifCond .eq 14, 3) := by decide +kernel
theorem dX10_sign_16 : decode cX10_sign 16 = .ok (.aload_n 0, 1) := by decide +kernel
theorem dX10_sign_17 : decode cX10_sign 17 = .ok (.getfield 7, 3) := by decide +kernel
theorem dX10_sign_20 : decode cX10_sign 20 = .ok (.iconst 5, 1) := by decide +kernel
theorem dX10_sign_21 : decode cX10_sign 21 = .ok (.iload_n 1, 1) := by decide +kernel
theorem dX10_sign_22 : decode cX10_sign 22 = .ok (.iadd, 1) := by decide +kernel
theorem dX10_sign_23 : decode cX10_sign 23 = .ok (.iaload, 1) := by decide +kernel
theorem dX10_sign_24 : decode cX10_sign 24 = .ok (.goto 4, 3) := by decide +kernel
theorem dX10_sign_27 : decode cX10_sign 27 = .ok (.iconst (-1), 1) := by decide +kernel
theorem dX10_sign_28 : decode cX10_sign 28 = .ok (.ireturn, 1) := by decide +kernel
theorem dX10_isSign_0 : decode cX10_isSign 0 = .ok (.iload_n 0, 1) := by decide +kernel
theorem dX10_isSign_1 : decode cX10_isSign 1 = .ok (.iconst 0, 1) := by decide +kernel
theorem dX10_isSign_2 : decode cX10_isSign 2 = .ok (.iconst 3, 1) := by decide +kernel
theorem dX10_isSign_3 : decode cX10_isSign 3 = .ok (.invokestatic 164, 3) := by decide +kernel
theorem dX10_isSign_6 : decode cX10_isSign 6 = .ok (.ireturn, 1) := by decide +kernel
theorem dX10_countOf_0 : decode cX10_countOf 0 = .ok (.aload_n 0, 1) := by decide +kernel
theorem dX10_countOf_1 : decode cX10_countOf 1 = .ok (.invokevirtual 180, 3) := by decide +kernel
theorem dX10_countOf_4 : decode cX10_countOf 4 = .ok (.aload_n 0, 1) := by decide +kernel
theorem dX10_countOf_5 : decode cX10_countOf 5 = .ok (.getfield 29, 3) := by decide +kernel
theorem dX10_countOf_8 : decode cX10_countOf 8 = .ok (.iload_n 1, 1) := by decide +kernel
theorem dX10_countOf_9 : decode cX10_countOf 9 = .ok (.iload_n 2, 1) := by decide +kernel
theorem dX10_countOf_10 : decode cX10_countOf 10 = .ok (.iadd, 1) := by decide +kernel
theorem dX10_countOf_11 : decode cX10_countOf 11 = .ok (.iaload, 1) := by decide +kernel
theorem dX10_countOf_12 : decode cX10_countOf 12 = .ok (.ireturn, 1) := by decide +kernel
theorem dX10_count_0 : decode cX10_count 0 = .ok (.iload_n 1, 1) := by decide +kernel
theorem dX10_count_1 : decode cX10_count 1 = .ok (.iconst 0, 1) := by decide +kernel
theorem dX10_count_2 : decode cX10_count 2 = .ok (.aload_n 0, 1) := by decide +kernel
theorem dX10_count_3 : decode cX10_count 3 = .ok (.getfield 7, 3) := by decide +kernel
theorem dX10_count_6 : decode cX10_count 6 = .ok (.iconst 0, 1) := by decide +kernel
theorem dX10_count_7 : decode cX10_count 7 = .ok (.iaload, 1) := by decide +kernel
theorem dX10_count_8 : decode cX10_count 8 = .ok (.invokestatic 164, 3) := by decide +kernel
theorem dX10_count_11 : decode cX10_count 11 = .ok (.ifCond .eq 33, 3) := by decide +kernel
theorem dX10_count_14 : decode cX10_count 14 = .ok (.iload_n 2, 1) := by decide +kernel
theorem dX10_count_15 : decode cX10_count 15 = .ok (.invokestatic 186, 3) := by decide +kernel
theorem dX10_count_18 : decode cX10_count 18 = .ok (.ifCond .eq 26, 3) := by decide +kernel
theorem dX10_count_21 : decode cX10_count 21 = .ok (.iload_n 3, 1) := by decide +kernel
theorem dX10_count_22 : decode cX10_count 22 = .ok (.invokestatic 186, 3) := by decide +kernel
theorem dX10_count_25 : decode cX10_count 25 = .ok (.ifCond .eq 19, 3) := by decide +kernel
theorem dX10_count_28 : decode cX10_count 28 = .ok (.iload 4, 2) := by decide +kernel
theorem dX10_count_30 : decode cX10_count 30 = .ok (.invokestatic 186, 3) := by decide +kernel
theorem dX10_count_33 : decode cX10_count 33 = .ok (.ifCond .eq 11, 3) := by decide +kernel
theorem dX10_count_36 : decode cX10_count 36 = .ok (.iload 5, 2) := by decide +kernel
theorem dX10_count_38 : decode cX10_count 38 = .ok (.invokestatic 186, 3) := by decide +kernel
theorem dX10_count_41 : decode cX10_count 41 = .ok (.ifCond .ne 5, 3) := by decide +kernel
theorem dX10_count_44 : decode cX10_count 44 = .ok (.iconst (-1), 1) := by decide +kernel
theorem dX10_count_45 : decode cX10_count 45 = .ok (.ireturn, 1) := by decide +kernel
theorem dX10_count_46 : decode cX10_count 46 = .ok (.iload_n 1, 1) := by decide +kernel
theorem dX10_count_47 : decode cX10_count 47 = .ok (.iconst 3, 1) := by decide +kernel
theorem dX10_count_48 : decode cX10_count 48 = .ok (.if_icmp .ge 8, 3) := by decide +kernel
theorem dX10_count_51 : decode cX10_count 51 = .ok (.iload 4, 2) := by decide +kernel
theorem dX10_count_53 : decode cX10_count 53 = .ok (.ifCond .ne 21, 3) := by decide +kernel
theorem dX10_count_56 : decode cX10_count 56 = .ok (.iload_n 1, 1) := by decide +kernel
theorem dX10_count_57 : decode cX10_count 57 = .ok (.iconst 2, 1) := by decide +kernel
theorem dX10_count_58 : decode cX10_count 58 = .ok (.if_icmp .ge 7, 3) := by decide +kernel
theorem dX10_count_61 : decode cX10_count 61 = .ok (.iload_n 3, 1) := by decide +kernel
theorem dX10_count_62 : decode cX10_count 62 = .ok (.ifCond .ne 12, 3) := by decide +kernel
theorem dX10_count_65 : decode cX10_count 65 = .ok (.iload_n 1, 1) := by decide +kernel
theorem dX10_count_66 : decode cX10_count 66 = .ok (.iconst 1, 1) := by decide +kernel
theorem dX10_count_67 : decode cX10_count 67 = .ok (.if_icmp .ge 9, 3) := by decide +kernel
theorem dX10_count_70 : decode cX10_count 70 = .ok (.iload_n 2, 1) := by decide +kernel
theorem dX10_count_71 : decode cX10_count 71 = .ok (.ifCond .eq 5, 3) := by decide +kernel
theorem dX10_count_74 : decode cX10_count 74 = .ok (.iconst (-1), 1) := by decide +kernel
theorem dX10_count_75 : decode cX10_count 75 = .ok (.ireturn, 1) := by decide +kernel
