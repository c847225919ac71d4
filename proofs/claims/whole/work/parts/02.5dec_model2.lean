theorem dX10_count_76 : decode cX10_count 76 = .ok (.iload_n 1, 1) := by decide +kernel
theorem dX10_count_77 : decode cX10_count 77 = .ok (.ifCond .ne 7, 3) := by decide +kernel
theorem dX10_count_80 : decode cX10_count 80 = .ok (.iconst 0, 1) := by decide +kernel
theorem dX10_count_81 : decode cX10_count 81 = .ok (.goto 43, 3) := by decide +kernel
theorem dX10_count_84 : decode cX10_count 84 = .ok (.iload_n 1, 1) := by decide +kernel
theorem dX10_count_85 : decode cX10_count 85 = .ok (.iconst 1, 1) := by decide +kernel
theorem dX10_count_86 : decode cX10_count 86 = .ok (.if_icmp .ne 9, 3) := by decide +kernel
theorem dX10_count_89 : decode cX10_count 89 = .ok (.iconst 1, 1) := by decide +kernel
theorem dX10_count_90 : decode cX10_count 90 = .ok (.iload_n 2, 1) := by decide +kernel
theorem dX10_count_91 : decode cX10_count 91 = .ok (.iadd, 1) := by decide +kernel
theorem dX10_count_92 : decode cX10_count 92 = .ok (.goto 32, 3) := by decide +kernel
theorem dX10_count_95 : decode cX10_count 95 = .ok (.iload_n 1, 1) := by decide +kernel
theorem dX10_count_96 : decode cX10_count 96 = .ok (.iconst 2, 1) := by decide +kernel
theorem dX10_count_97 : decode cX10_count 97 = .ok (.if_icmp .ne 13, 3) := by decide +kernel
theorem dX10_count_100 : decode cX10_count 100 = .ok (.iconst 5, 1) := by decide +kernel
theorem dX10_count_101 : decode cX10_count 101 = .ok (.iconst 4, 1) := by decide +kernel
theorem dX10_count_102 : decode cX10_count 102 = .ok (.iload_n 2, 1) := by decide +kernel
theorem dX10_count_103 : decode cX10_count 103 = .ok (.imul, 1) := by decide +kernel
theorem dX10_count_104 : decode cX10_count 104 = .ok (.iadd, 1) := by decide +kernel
theorem dX10_count_105 : decode cX10_count 105 = .ok (.iload_n 3, 1) := by decide +kernel
theorem dX10_count_106 : decode cX10_count 106 = .ok (.iadd, 1) := by decide +kernel
theorem dX10_count_107 : decode cX10_count 107 = .ok (.goto 17, 3) := by decide +kernel
theorem dX10_count_110 : decode cX10_count 110 = .ok (.bipush 21, 2) := by decide +kernel
theorem dX10_count_112 : decode cX10_count 112 = .ok (.bipush 16, 2) := by decide +kernel
theorem dX10_count_114 : decode cX10_count 114 = .ok (.iload_n 2, 1) := by decide +kernel
theorem dX10_count_115 : decode cX10_count 115 = .ok (.imul, 1) := by decide +kernel
theorem dX10_count_116 : decode cX10_count 116 = .ok (.iadd, 1) := by decide +kernel
theorem dX10_count_117 : decode cX10_count 117 = .ok (.iconst 4, 1) := by decide +kernel
theorem dX10_count_118 : decode cX10_count 118 = .ok (.iload_n 3, 1) := by decide +kernel
theorem dX10_count_119 : decode cX10_count 119 = .ok (.imul, 1) := by decide +kernel
theorem dX10_count_120 : decode cX10_count 120 = .ok (.iadd, 1) := by decide +kernel
theorem dX10_count_121 : decode cX10_count 121 = .ok (.iload 4, 2) := by decide +kernel
theorem dX10_count_123 : decode cX10_count 123 = .ok (.iadd, 1) := by decide +kernel
theorem dX10_count_124 : decode cX10_count 124 = .ok (.istore 6, 2) := by decide +kernel
theorem dX10_count_126 : decode cX10_count 126 = .ok (.aload_n 0, 1) := by decide +kernel
theorem dX10_count_127 : decode cX10_count 127 = .ok (.iconst 4, 1) := by decide +kernel
theorem dX10_count_128 : decode cX10_count 128 = .ok (.iload 6, 2) := by decide +kernel
theorem dX10_count_130 : decode cX10_count 130 = .ok (.imul, 1) := by decide +kernel
theorem dX10_count_131 : decode cX10_count 131 = .ok (.iload 5, 2) := by decide +kernel
theorem dX10_count_133 : decode cX10_count 133 = .ok (.invokevirtual 190, 3) := by decide +kernel
theorem dX10_count_136 : decode cX10_count 136 = .ok (.ireturn, 1) := by decide +kernel
theorem dX10_bit_0 : decode cX10_bit 0 = .ok (.iload_n 1, 1) := by decide +kernel
theorem dX10_bit_1 : decode cX10_bit 1 = .ok (.ifCond .ge 5, 3) := by decide +kernel
theorem dX10_bit_4 : decode cX10_bit 4 = .ok (.iconst (-1), 1) := by decide +kernel
theorem dX10_bit_5 : decode cX10_bit 5 = .ok (.ireturn, 1) := by decide +kernel
theorem dX10_bit_6 : decode cX10_bit 6 = .ok (.aload_n 0, 1) := by decide +kernel
theorem dX10_bit_7 : decode cX10_bit 7 = .ok (.invokevirtual 180, 3) := by decide +kernel
theorem dX10_bit_10 : decode cX10_bit 10 = .ok (.iload_n 1, 1) := by decide +kernel
theorem dX10_bit_11 : decode cX10_bit 11 = .ok (.aload_n 0, 1) := by decide +kernel
theorem dX10_bit_12 : decode cX10_bit 12 = .ok (.getfield 65, 3) := by decide +kernel
theorem dX10_bit_15 : decode cX10_bit 15 = .ok (.if_icmp .ge 12, 3) := by decide +kernel
theorem dX10_bit_18 : decode cX10_bit 18 = .ok (.aload_n 0, 1) := by decide +kernel
theorem dX10_bit_19 : decode cX10_bit 19 = .ok (.getfield 32, 3) := by decide +kernel
theorem dX10_bit_22 : decode cX10_bit 22 = .ok (.iload_n 1, 1) := by decide +kernel
theorem dX10_bit_23 : decode cX10_bit 23 = .ok (.iaload, 1) := by decide +kernel
theorem dX10_bit_24 : decode cX10_bit 24 = .ok (.goto 5, 3) := by decide +kernel
theorem dX10_bit_27 : decode cX10_bit 27 = .ok (.bipush (-9), 2) := by decide +kernel
theorem dX10_bit_29 : decode cX10_bit 29 = .ok (.ireturn, 1) := by decide +kernel
theorem dX10_common_0 : decode cX10_common 0 = .ok (.lload_n 0, 1) := by decide +kernel
theorem dX10_common_1 : decode cX10_common 1 = .ok (.lstore 4, 2) := by decide +kernel
theorem dX10_common_3 : decode cX10_common 3 = .ok (.lload_n 2, 1) := by decide +kernel
theorem dX10_common_4 : decode cX10_common 4 = .ok (.lstore 6, 2) := by decide +kernel
theorem dX10_common_6 : decode cX10_common 6 = .ok (.lload 6, 2) := by decide +kernel
theorem dX10_common_8 : decode cX10_common 8 = .ok (.lconst 0, 1) := by decide +kernel
theorem dX10_common_9 : decode cX10_common 9 = .ok (.lcmp, 1) := by decide +kernel
theorem dX10_common_10 : decode cX10_common 10 = .ok (.ifCond .eq 21, 3) := by decide +kernel
theorem dX10_common_13 : decode cX10_common 13 = .ok (.lload 4, 2) := by decide +kernel
theorem dX10_common_15 : decode cX10_common 15 = .ok (.lload 6, 2) := by decide +kernel
theorem dX10_common_17 : decode cX10_common 17 = .ok (.lrem, 1) := by decide +kernel
theorem dX10_common_18 : decode cX10_common 18 = .ok (.lstore 8, 2) := by decide +kernel
theorem dX10_common_20 : decode cX10_common 20 = .ok (.lload 6, 2) := by decide +kernel
theorem dX10_common_22 : decode cX10_common 22 = .ok (.lstore 4, 2) := by decide +kernel
theorem dX10_common_24 : decode cX10_common 24 = .ok (.lload 8, 2) := by decide +kernel
theorem dX10_common_26 : decode cX10_common 26 = .ok (.lstore 6, 2) := by decide +kernel
theorem dX10_common_28 : decode cX10_common 28 = .ok (.goto (-22), 3) := by decide +kernel
theorem dX10_common_31 : decode cX10_common 31 = .ok (.lload 4, 2) := by decide +kernel
theorem dX10_common_33 : decode cX10_common 33 = .ok (.lreturn, 1) := by decide +kernel
theorem dX10_weighs_0 : decode cX10_weighs 0 = .ok (.aload_n 0, 1) := by decide +kernel
theorem dX10_weighs_1 : decode cX10_weighs 1 = .ok (.iconst 2, 1) := by decide +kernel
theorem dX10_weighs_2 : decode cX10_weighs 2 = .ok (.putfield 46, 3) := by decide +kernel
theorem dX10_weighs_5 : decode cX10_weighs 5 = .ok (.aload_n 0, 1) := by decide +kernel
theorem dX10_weighs_6 : decode cX10_weighs 6 = .ok (.lconst 1, 1) := by decide +kernel
theorem dX10_weighs_7 : decode cX10_weighs 7 = .ok (.putfield 90, 3) := by decide +kernel
theorem dX10_weighs_10 : decode cX10_weighs 10 = .ok (.aload_n 0, 1) := by decide +kernel
theorem dX10_weighs_11 : decode cX10_weighs 11 = .ok (.lconst 1, 1) := by decide +kernel
theorem dX10_weighs_12 : decode cX10_weighs 12 = .ok (.putfield 94, 3) := by decide +kernel
theorem dX10_weighs_15 : decode cX10_weighs 15 = .ok (.aload_n 0, 1) := by decide +kernel
theorem dX10_weighs_16 : decode cX10_weighs 16 = .ok (.iload_n 1, 1) := by decide +kernel
theorem dX10_weighs_17 : decode cX10_weighs 17 = .ok (.invokevirtual 155, 3) := by decide +kernel
theorem dX10_weighs_20 : decode cX10_weighs 20 = .ok (.istore_n 2, 1) := by decide +kernel
theorem dX10_weighs_21 : decode cX10_weighs 21 = .ok (.aload_n 0, 1) := by decide +kernel
theorem dX10_weighs_22 : decode cX10_weighs 22 = .ok (.getfield 90, 3) := by decide +kernel
theorem dX10_weighs_25 : decode cX10_weighs 25 = .ok (.aload_n 0, 1) := by decide +kernel
theorem dX10_weighs_26 : decode cX10_weighs 26 = .ok (.getfield 94, 3) := by decide +kernel
theorem dX10_weighs_29 : decode cX10_weighs 29 = .ok (.invokestatic 193, 3) := by decide +kernel
theorem dX10_weighs_32 : decode cX10_weighs 32 = .ok (.lstore_n 3, 1) := by decide +kernel
theorem dX10_weighs_33 : decode cX10_weighs 33 = .ok (.aload_n 0, 1) := by decide +kernel
theorem dX10_weighs_34 : decode cX10_weighs 34 = .ok (.dup, 1) := by decide +kernel
theorem dX10_weighs_35 : decode cX10_weighs 35 = .ok (.getfield 90, 3) := by decide +kernel
theorem dX10_weighs_38 : decode cX10_weighs 38 = .ok (.lload_n 3, 1) := by decide +kernel
theorem dX10_weighs_39 : decode cX10_weighs 39 = .ok (.ldiv, 1) := by decide +kernel
theorem dX10_weighs_40 : decode cX10_weighs 40 = .ok (.putfield 90, 3) := by decide +kernel
theorem dX10_weighs_43 : decode cX10_weighs 43 = .ok (.aload_n 0, 1) := by decide +kernel
theorem dX10_weighs_44 : decode cX10_weighs 44 = .ok (.dup, 1) := by decide +kernel
theorem dX10_weighs_45 : decode cX10_weighs 45 = .ok (.getfield 94, 3) := by decide +kernel
theorem dX10_weighs_48 : decode cX10_weighs 48 = .ok (.lload_n 3, 1) := by decide +kernel
theorem dX10_weighs_49 : decode cX10_weighs 49 = .ok (.ldiv, 1) := by decide +kernel
theorem dX10_weighs_50 : decode cX10_weighs 50 = .ok (.putfield 94, 3) := by decide +kernel
theorem dX10_weighs_53 : decode cX10_weighs 53 = .ok (.return_, 1) := by decide +kernel
theorem dX10_chance_0 : decode cX10_chance 0 = .ok (.iload_n 1, 1) := by decide +kernel
theorem dX10_chance_1 : decode cX10_chance 1 = .ok (.invokestatic 186, 3) := by decide +kernel
theorem dX10_chance_4 : decode cX10_chance 4 = .ok (.ifCond .eq 12, 3) := by decide +kernel
theorem dX10_chance_7 : decode cX10_chance 7 = .ok (.iload_n 2, 1) := by decide +kernel
theorem dX10_chance_8 : decode cX10_chance 8 = .ok (.iconst 0, 1) := by decide +kernel
theorem dX10_chance_9 : decode cX10_chance 9 = .ok (.iconst 1, 1) := by decide +kernel
theorem dX10_chance_10 : decode cX10_chance 10 = .ok (.invokestatic 164, 3) := by decide +kernel
theorem dX10_chance_13 : decode cX10_chance 13 = .ok (.ifCond .ne 5, 3) := by decide +kernel
theorem dX10_chance_16 : decode cX10_chance 16 = .ok (.iconst (-1), 1) := by decide +kernel
theorem dX10_chance_17 : decode cX10_chance 17 = .ok (.ireturn, 1) := by decide +kernel
theorem dX10_chance_18 : decode cX10_chance 18 = .ok (.aload_n 0, 1) := by decide +kernel
theorem dX10_chance_19 : decode cX10_chance 19 = .ok (.invokevirtual 180, 3) := by decide +kernel
theorem dX10_chance_22 : decode cX10_chance 22 = .ok (.aload_n 0, 1) := by decide +kernel
theorem dX10_chance_23 : decode cX10_chance 23 = .ok (.iload_n 1, 1) := by decide +kernel
theorem dX10_chance_24 : decode cX10_chance 24 = .ok (.invokevirtual 197, 3) := by decide +kernel
theorem dX10_chance_27 : decode cX10_chance 27 = .ok (.iload_n 2, 1) := by decide +kernel
theorem dX10_chance_28 : decode cX10_chance 28 = .ok (.ifCond .ne 10, 3) := by decide +kernel
theorem dX10_chance_31 : decode cX10_chance 31 = .ok (.aload_n 0, 1) := by decide +kernel
theorem dX10_chance_32 : decode cX10_chance 32 = .ok (.getfield 90, 3) := by decide +kernel
theorem dX10_chance_35 : decode cX10_chance 35 = .ok (.goto 7, 3) := by decide +kernel
theorem dX10_chance_38 : decode cX10_chance 38 = .ok (.aload_n 0, 1) := by decide +kernel
theorem dX10_chance_39 : decode cX10_chance 39 = .ok (.getfield 94, 3) := by decide +kernel
theorem dX10_chance_42 : decode cX10_chance 42 = .ok (.l2i, 1) := by decide +kernel
theorem dX10_chance_43 : decode cX10_chance 43 = .ok (.ireturn, 1) := by decide +kernel
theorem dX10_escapes_0 : decode cX10_escapes 0 = .ok (.iload_n 1, 1) := by decide +kernel
theorem dX10_escapes_1 : decode cX10_escapes 1 = .ok (.invokestatic 186, 3) := by decide +kernel
theorem dX10_escapes_4 : decode cX10_escapes 4 = .ok (.ifCond .eq 12, 3) := by decide +kernel
theorem dX10_escapes_7 : decode cX10_escapes 7 = .ok (.iload_n 2, 1) := by decide +kernel
theorem dX10_escapes_8 : decode cX10_escapes 8 = .ok (.iconst 0, 1) := by decide +kernel
theorem dX10_escapes_9 : decode cX10_escapes 9 = .ok (.iconst 1, 1) := by decide +kernel
theorem dX10_escapes_10 : decode cX10_escapes 10 = .ok (.invokestatic 164, 3) := by decide +kernel
theorem dX10_escapes_13 : decode cX10_escapes 13 = .ok (.ifCond .ne 6, 3) := by decide +kernel
theorem dX10_escapes_16 : decode cX10_escapes 16 = .ok (.bipush (-5), 2) := by decide +kernel
theorem dX10_escapes_18 : decode cX10_escapes 18 = .ok (.ireturn, 1) := by decide +kernel
theorem dX10_escapes_19 : decode cX10_escapes 19 = .ok (.aload_n 0, 1) := by decide +kernel
theorem dX10_escapes_20 : decode cX10_escapes 20 = .ok (.invokevirtual 180, 3) := by decide +kernel
theorem dX10_escapes_23 : decode cX10_escapes 23 = .ok (.aload_n 0, 1) := by decide +kernel
theorem dX10_escapes_24 : decode cX10_escapes 24 = .ok (.iload_n 1, 1) := by decide +kernel
theorem dX10_escapes_25 : decode cX10_escapes 25 = .ok (.invokevirtual 197, 3) := by decide +kernel
theorem dX10_escapes_28 : decode cX10_escapes 28 = .ok (.iload_n 2, 1) := by decide +kernel
theorem dX10_escapes_29 : decode cX10_escapes 29 = .ok (.ifCond .ne 10, 3) := by decide +kernel
theorem dX10_escapes_32 : decode cX10_escapes 32 = .ok (.aload_n 0, 1) := by decide +kernel
theorem dX10_escapes_33 : decode cX10_escapes 33 = .ok (.getfield 123, 3) := by decide +kernel
theorem dX10_escapes_36 : decode cX10_escapes 36 = .ok (.goto 7, 3) := by decide +kernel
theorem dX10_escapes_39 : decode cX10_escapes 39 = .ok (.aload_n 0, 1) := by decide +kernel
theorem dX10_escapes_40 : decode cX10_escapes 40 = .ok (.getfield 120, 3) := by decide +kernel
theorem dX10_escapes_43 : decode cX10_escapes 43 = .ok (.ireturn, 1) := by decide +kernel
theorem dX10_likeliest_0 : decode cX10_likeliest 0 = .ok (.aload_n 0, 1) := by decide +kernel
theorem dX10_likeliest_1 : decode cX10_likeliest 1 = .ok (.invokevirtual 180, 3) := by decide +kernel
theorem dX10_likeliest_4 : decode cX10_likeliest 4 = .ok (.iconst 0, 1) := by decide +kernel
theorem dX10_likeliest_5 : decode cX10_likeliest 5 = .ok (.istore_n 1, 1) := by decide +kernel
theorem dX10_likeliest_6 : decode cX10_likeliest 6 = .ok (.aload_n 0, 1) := by decide +kernel
theorem dX10_likeliest_7 : decode cX10_likeliest 7 = .ok (.iconst 0, 1) := by decide +kernel
theorem dX10_likeliest_8 : decode cX10_likeliest 8 = .ok (.invokevirtual 197, 3) := by decide +kernel
theorem dX10_likeliest_11 : decode cX10_likeliest 11 = .ok (.aload_n 0, 1) := by decide +kernel
theorem dX10_likeliest_12 : decode cX10_likeliest 12 = .ok (.getfield 90, 3) := by decide +kernel
theorem dX10_likeliest_15 : decode cX10_likeliest 15 = .ok (.lstore_n 2, 1) := by decide +kernel
theorem dX10_likeliest_16 : decode cX10_likeliest 16 = .ok (.aload_n 0, 1) := by decide +kernel
theorem dX10_likeliest_17 : decode cX10_likeliest 17 = .ok (.getfield 94, 3) := by decide +kernel
theorem dX10_likeliest_20 : decode cX10_likeliest 20 = .ok (.lstore 4, 2) := by decide +kernel
theorem dX10_likeliest_22 : decode cX10_likeliest 22 = .ok (.iconst 1, 1) := by decide +kernel
theorem dX10_likeliest_23 : decode cX10_likeliest 23 = .ok (.istore 6, 2) := by decide +kernel
theorem dX10_likeliest_25 : decode cX10_likeliest 25 = .ok (.iload 6, 2) := by decide +kernel
theorem dX10_likeliest_27 : decode cX10_likeliest 27 = .ok (.iconst 4, 1) := by decide +kernel
theorem dX10_likeliest_28 : decode cX10_likeliest 28 = .ok (.if_icmp .ge 46, 3) := by decide +kernel
theorem dX10_likeliest_31 : decode cX10_likeliest 31 = .ok (.aload_n 0, 1) := by decide +kernel
theorem dX10_likeliest_32 : decode cX10_likeliest 32 = .ok (.iload 6, 2) := by decide +kernel
theorem dX10_likeliest_34 : decode cX10_likeliest 34 = .ok (.invokevirtual 197, 3) := by decide +kernel
theorem dX10_likeliest_37 : decode cX10_likeliest 37 = .ok (.aload_n 0, 1) := by decide +kernel
theorem dX10_likeliest_38 : decode cX10_likeliest 38 = .ok (.getfield 90, 3) := by decide +kernel
theorem dX10_likeliest_41 : decode cX10_likeliest 41 = .ok (.lload 4, 2) := by decide +kernel
theorem dX10_likeliest_43 : decode cX10_likeliest 43 = .ok (.lmul, 1) := by decide +kernel
theorem dX10_likeliest_44 : decode cX10_likeliest 44 = .ok (.lload_n 2, 1) := by decide +kernel
theorem dX10_likeliest_45 : decode cX10_likeliest 45 = .ok (.aload_n 0, 1) := by decide +kernel
theorem dX10_likeliest_46 : decode cX10_likeliest 46 = .ok (.getfield 94, 3) := by decide +kernel
theorem dX10_likeliest_49 : decode cX10_likeliest 49 = .ok (.lmul, 1) := by decide +kernel
theorem dX10_likeliest_50 : decode cX10_likeliest 50 = .ok (.lcmp, 1) := by decide +kernel
theorem dX10_likeliest_51 : decode cX10_likeliest 51 = .ok (.ifCond .le 17, 3) := by decide +kernel
theorem dX10_likeliest_54 : decode cX10_likeliest 54 = .ok (.iload 6, 2) := by decide +kernel
theorem dX10_likeliest_56 : decode cX10_likeliest 56 = .ok (.istore_n 1, 1) := by decide +kernel
theorem dX10_likeliest_57 : decode cX10_likeliest 57 = .ok (.aload_n 0, 1) := by decide +kernel
theorem dX10_likeliest_58 : decode cX10_likeliest 58 = .ok (.getfield 90, 3) := by decide +kernel
theorem dX10_likeliest_61 : decode cX10_likeliest 61 = .ok (.lstore_n 2, 1) := by decide +kernel
theorem dX10_likeliest_62 : decode cX10_likeliest 62 = .ok (.aload_n 0, 1) := by decide +kernel
theorem dX10_likeliest_63 : decode cX10_likeliest 63 = .ok (.getfield 94, 3) := by decide +kernel
theorem dX10_likeliest_66 : decode cX10_likeliest 66 = .ok (.lstore 4, 2) := by decide +kernel
theorem dX10_likeliest_68 : decode cX10_likeliest 68 = .ok (.iinc 6 1, 3) := by decide +kernel
theorem dX10_likeliest_71 : decode cX10_likeliest 71 = .ok (.goto (-46), 3) := by decide +kernel
theorem dX10_likeliest_74 : decode cX10_likeliest 74 = .ok (.iload_n 1, 1) := by decide +kernel
theorem dX10_likeliest_75 : decode cX10_likeliest 75 = .ok (.ireturn, 1) := by decide +kernel
theorem dX10_length_0 : decode cX10_length 0 = .ok (.aload_n 0, 1) := by decide +kernel
theorem dX10_length_1 : decode cX10_length 1 = .ok (.invokevirtual 180, 3) := by decide +kernel
theorem dX10_length_4 : decode cX10_length 4 = .ok (.aload_n 0, 1) := by decide +kernel
theorem dX10_length_5 : decode cX10_length 5 = .ok (.invokevirtual 200, 3) := by decide +kernel
theorem dX10_length_8 : decode cX10_length 8 = .ok (.ireturn, 1) := by decide +kernel
theorem dX10_best_0 : decode cX10_best 0 = .ok (.iconst 0, 1) := by decide +kernel
theorem dX10_best_1 : decode cX10_best 1 = .ok (.istore_n 1, 1) := by decide +kernel
theorem dX10_best_2 : decode cX10_best 2 = .ok (.iconst 0, 1) := by decide +kernel
theorem dX10_best_3 : decode cX10_best 3 = .ok (.istore_n 2, 1) := by decide +kernel
theorem dX10_best_4 : decode cX10_best 4 = .ok (.iconst 0, 1) := by decide +kernel
theorem dX10_best_5 : decode cX10_best 5 = .ok (.istore_n 3, 1) := by decide +kernel
theorem dX10_best_6 : decode cX10_best 6 = .ok (.iload_n 3, 1) := by decide +kernel
theorem dX10_best_7 : decode cX10_best 7 = .ok (.iconst 4, 1) := by decide +kernel
theorem dX10_best_8 : decode cX10_best 8 = .ok (.if_icmp .ge 58, 3) := by decide +kernel
theorem dX10_best_11 : decode cX10_best 11 = .ok (.aload_n 0, 1) := by decide +kernel
theorem dX10_best_12 : decode cX10_best 12 = .ok (.iload_n 3, 1) := by decide +kernel
theorem dX10_best_13 : decode cX10_best 13 = .ok (.invokevirtual 161, 3) := by decide +kernel
theorem dX10_best_16 : decode cX10_best 16 = .ok (.iload_n 3, 1) := by decide +kernel
theorem dX10_best_17 : decode cX10_best 17 = .ok (.ifCond .eq 11, 3) := by decide +kernel
theorem dX10_best_20 : decode cX10_best 20 = .ok (.aload_n 0, 1) := by decide +kernel
theorem dX10_best_21 : decode cX10_best 21 = .ok (.invokevirtual 200, 3) := by decide +kernel
theorem dX10_best_24 : decode cX10_best 24 = .ok (.iload_n 2, 1) := by decide +kernel
theorem dX10_best_25 : decode cX10_best 25 = .ok (.if_icmp .ge 7, 3) := by decide +kernel
theorem dX10_best_28 : decode cX10_best 28 = .ok (.iconst 1, 1) := by decide +kernel
theorem dX10_best_29 : decode cX10_best 29 = .ok (.goto 4, 3) := by decide +kernel
theorem dX10_best_32 : decode cX10_best 32 = .ok (.iconst 0, 1) := by decide +kernel
theorem dX10_best_33 : decode cX10_best 33 = .ok (.istore 4, 2) := by decide +kernel
theorem dX10_best_35 : decode cX10_best 35 = .ok (.iload 4, 2) := by decide +kernel
theorem dX10_best_37 : decode cX10_best 37 = .ok (.ifCond .eq 7, 3) := by decide +kernel
theorem dX10_best_40 : decode cX10_best 40 = .ok (.iload_n 3, 1) := by decide +kernel
theorem dX10_best_41 : decode cX10_best 41 = .ok (.goto 4, 3) := by decide +kernel
theorem dX10_best_44 : decode cX10_best 44 = .ok (.iload_n 1, 1) := by decide +kernel
theorem dX10_best_45 : decode cX10_best 45 = .ok (.istore_n 1, 1) := by decide +kernel
theorem dX10_best_46 : decode cX10_best 46 = .ok (.iload 4, 2) := by decide +kernel
theorem dX10_best_48 : decode cX10_best 48 = .ok (.ifCond .eq 10, 3) := by decide +kernel
theorem dX10_best_51 : decode cX10_best 51 = .ok (.aload_n 0, 1) := by decide +kernel
theorem dX10_best_52 : decode cX10_best 52 = .ok (.invokevirtual 200, 3) := by decide +kernel
theorem dX10_best_55 : decode cX10_best 55 = .ok (.goto 4, 3) := by decide +kernel
theorem dX10_best_58 : decode cX10_best 58 = .ok (.iload_n 2, 1) := by decide +kernel
theorem dX10_best_59 : decode cX10_best 59 = .ok (.istore_n 2, 1) := by decide +kernel
theorem dX10_best_60 : decode cX10_best 60 = .ok (.iinc 3 1, 3) := by decide +kernel
theorem dX10_best_63 : decode cX10_best 63 = .ok (.goto (-57), 3) := by decide +kernel
theorem dX10_best_66 : decode cX10_best 66 = .ok (.iload_n 1, 1) := by decide +kernel
theorem dX10_best_67 : decode cX10_best 67 = .ok (.ireturn, 1) := by decide +kernel
theorem dX10_unpacked_0 : decode cX10_unpacked 0 = .ok (.iload_n 1, 1) := by decide +kernel
theorem dX10_unpacked_1 : decode cX10_unpacked 1 = .ok (.iconst 0, 1) := by decide +kernel
theorem dX10_unpacked_2 : decode cX10_unpacked 2 = .ok (.bipush 59, 2) := by decide +kernel
theorem dX10_unpacked_4 : decode cX10_unpacked 4 = .ok (.invokestatic 164, 3) := by decide +kernel
theorem dX10_unpacked_7 : decode cX10_unpacked 7 = .ok (.ifCond .ne 5, 3) := by decide +kernel
theorem dX10_unpacked_10 : decode cX10_unpacked 10 = .ok (.iconst (-1), 1) := by decide +kernel
theorem dX10_unpacked_11 : decode cX10_unpacked 11 = .ok (.ireturn, 1) := by decide +kernel
theorem dX10_unpacked_12 : decode cX10_unpacked 12 = .ok (.aload_n 0, 1) := by decide +kernel
theorem dX10_unpacked_13 : decode cX10_unpacked 13 = .ok (.bipush 48, 2) := by decide +kernel
theorem dX10_unpacked_15 : decode cX10_unpacked 15 = .ok (.bipush 49, 2) := by decide +kernel
theorem dX10_unpacked_17 : decode cX10_unpacked 17 = .ok (.invokevirtual 183, 3) := by decide +kernel
theorem dX10_unpacked_20 : decode cX10_unpacked 20 = .ok (.istore_n 2, 1) := by decide +kernel
theorem dX10_unpacked_21 : decode cX10_unpacked 21 = .ok (.iload_n 2, 1) := by decide +kernel
theorem dX10_unpacked_22 : decode cX10_unpacked 22 = .ok (.bipush (-9), 2) := by decide +kernel
theorem dX10_unpacked_24 : decode cX10_unpacked 24 = .ok (.if_icmp .eq 8, 3) := by decide +kernel
theorem dX10_unpacked_27 : decode cX10_unpacked 27 = .ok (.bipush (-10), 2) := by decide +kernel
theorem dX10_unpacked_29 : decode cX10_unpacked 29 = .ok (.iload_n 2, 1) := by decide +kernel
theorem dX10_unpacked_30 : decode cX10_unpacked 30 = .ok (.isub, 1) := by decide +kernel
theorem dX10_unpacked_31 : decode cX10_unpacked 31 = .ok (.ireturn, 1) := by decide +kernel
theorem dX10_unpacked_32 : decode cX10_unpacked 32 = .ok (.aload_n 0, 1) := by decide +kernel
theorem dX10_unpacked_33 : decode cX10_unpacked 33 = .ok (.aload_n 0, 1) := by decide +kernel
theorem dX10_unpacked_34 : decode cX10_unpacked 34 = .ok (.getfield 168, 3) := by decide +kernel
theorem dX10_unpacked_37 : decode cX10_unpacked 37 = .ok (.putfield 81, 3) := by decide +kernel
theorem dX10_unpacked_40 : decode cX10_unpacked 40 = .ok (.iconst 0, 1) := by decide +kernel
theorem dX10_unpacked_41 : decode cX10_unpacked 41 = .ok (.istore_n 3, 1) := by decide +kernel
theorem dX10_unpacked_42 : decode cX10_unpacked 42 = .ok (.iload_n 3, 1) := by decide +kernel
theorem dX10_unpacked_43 : decode cX10_unpacked 43 = .ok (.aload_n 0, 1) := by decide +kernel
theorem dX10_unpacked_44 : decode cX10_unpacked 44 = .ok (.getfield 168, 3) := by decide +kernel
theorem dX10_unpacked_47 : decode cX10_unpacked 47 = .ok (.if_icmp .ge 24, 3) := by decide +kernel
theorem dX10_unpacked_50 : decode cX10_unpacked 50 = .ok (.aload_n 0, 1) := by decide +kernel
theorem dX10_unpacked_51 : decode cX10_unpacked 51 = .ok (.getfield 35, 3) := by decide +kernel
theorem dX10_unpacked_54 : decode cX10_unpacked 54 = .ok (.iload_n 3, 1) := by decide +kernel
theorem dX10_unpacked_55 : decode cX10_unpacked 55 = .ok (.aload_n 0, 1) := by decide +kernel
theorem dX10_unpacked_56 : decode cX10_unpacked 56 = .ok (.getfield 23, 3) := by decide +kernel
theorem dX10_unpacked_59 : decode cX10_unpacked 59 = .ok (.iload_n 3, 1) := by decide +kernel
theorem dX10_unpacked_60 : decode cX10_unpacked 60 = .ok (.iaload, 1) := by decide +kernel
theorem dX10_unpacked_61 : decode cX10_unpacked 61 = .ok (.bipush 48, 2) := by decide +kernel
theorem dX10_unpacked_63 : decode cX10_unpacked 63 = .ok (.isub, 1) := by decide +kernel
theorem dX10_unpacked_64 : decode cX10_unpacked 64 = .ok (.iastore, 1) := by decide +kernel
theorem dX10_unpacked_65 : decode cX10_unpacked 65 = .ok (.iinc 3 1, 3) := by decide +kernel
theorem dX10_unpacked_68 : decode cX10_unpacked 68 = .ok (.goto (-26), 3) := by decide +kernel
theorem dX10_unpacked_71 : decode cX10_unpacked 71 = .ok (.aload_n 0, 1) := by decide +kernel
theorem dX10_unpacked_72 : decode cX10_unpacked 72 = .ok (.iload_n 1, 1) := by decide +kernel
theorem dX10_unpacked_73 : decode cX10_unpacked 73 = .ok (.iconst 1, 1) := by decide +kernel
theorem dX10_unpacked_74 : decode cX10_unpacked 74 = .ok (.iadd, 1) := by decide +kernel
theorem dX10_unpacked_75 : decode cX10_unpacked 75 = .ok (.invokevirtual 203, 3) := by decide +kernel
theorem dX10_unpacked_78 : decode cX10_unpacked 78 = .ok (.aload_n 0, 1) := by decide +kernel
theorem dX10_unpacked_79 : decode cX10_unpacked 79 = .ok (.getfield 26, 3) := by decide +kernel
theorem dX10_unpacked_82 : decode cX10_unpacked 82 = .ok (.iload_n 1, 1) := by decide +kernel
theorem dX10_unpacked_83 : decode cX10_unpacked 83 = .ok (.iaload, 1) := by decide +kernel
theorem dX10_unpacked_84 : decode cX10_unpacked 84 = .ok (.ireturn, 1) := by decide +kernel
theorem dX10_agrees_0 : decode cX10_agrees 0 = .ok (.aload_n 0, 1) := by decide +kernel
theorem dX10_agrees_1 : decode cX10_agrees 1 = .ok (.invokevirtual 180, 3) := by decide +kernel
theorem dX10_agrees_4 : decode cX10_agrees 4 = .ok (.aload_n 0, 1) := by decide +kernel
theorem dX10_agrees_5 : decode cX10_agrees 5 = .ok (.dup, 1) := by decide +kernel
theorem dX10_agrees_6 : decode cX10_agrees 6 = .ok (.getfield 62, 3) := by decide +kernel
theorem dX10_agrees_9 : decode cX10_agrees 9 = .ok (.iconst 1, 1) := by decide +kernel
theorem dX10_agrees_10 : decode cX10_agrees 10 = .ok (.iadd, 1) := by decide +kernel
theorem dX10_agrees_11 : decode cX10_agrees 11 = .ok (.putfield 62, 3) := by decide +kernel
theorem dX10_agrees_14 : decode cX10_agrees 14 = .ok (.aload_n 0, 1) := by decide +kernel
theorem dX10_agrees_15 : decode cX10_agrees 15 = .ok (.aload_n 0, 1) := by decide +kernel
theorem dX10_agrees_16 : decode cX10_agrees 16 = .ok (.getfield 55, 3) := by decide +kernel
theorem dX10_agrees_19 : decode cX10_agrees 19 = .ok (.sipush 16384, 3) := by decide +kernel
theorem dX10_agrees_22 : decode cX10_agrees 22 = .ok (.if_icmp .ge 7, 3) := by decide +kernel
theorem dX10_agrees_25 : decode cX10_agrees 25 = .ok (.iconst 0, 1) := by decide +kernel
theorem dX10_agrees_26 : decode cX10_agrees 26 = .ok (.goto 4, 3) := by decide +kernel
theorem dX10_agrees_29 : decode cX10_agrees 29 = .ok (.iconst 1, 1) := by decide +kernel
theorem dX10_agrees_30 : decode cX10_agrees 30 = .ok (.invokevirtual 86, 3) := by decide +kernel
theorem dX10_agrees_33 : decode cX10_agrees 33 = .ok (.aload_n 0, 1) := by decide +kernel
theorem dX10_agrees_34 : decode cX10_agrees 34 = .ok (.aload_n 0, 1) := by decide +kernel
theorem dX10_agrees_35 : decode cX10_agrees 35 = .ok (.getfield 65, 3) := by decide +kernel
theorem dX10_agrees_38 : decode cX10_agrees 38 = .ok (.putfield 81, 3) := by decide +kernel
theorem dX10_agrees_41 : decode cX10_agrees 41 = .ok (.iconst 0, 1) := by decide +kernel
theorem dX10_agrees_42 : decode cX10_agrees 42 = .ok (.istore_n 1, 1) := by decide +kernel
theorem dX10_agrees_43 : decode cX10_agrees 43 = .ok (.iload_n 1, 1) := by decide +kernel
theorem dX10_agrees_44 : decode cX10_agrees 44 = .ok (.aload_n 0, 1) := by decide +kernel
theorem dX10_agrees_45 : decode cX10_agrees 45 = .ok (.getfield 65, 3) := by decide +kernel
theorem dX10_agrees_48 : decode cX10_agrees 48 = .ok (.if_icmp .ge 21, 3) := by decide +kernel
theorem dX10_agrees_51 : decode cX10_agrees 51 = .ok (.aload_n 0, 1) := by decide +kernel
theorem dX10_agrees_52 : decode cX10_agrees 52 = .ok (.getfield 35, 3) := by decide +kernel
theorem dX10_agrees_55 : decode cX10_agrees 55 = .ok (.iload_n 1, 1) := by decide +kernel
theorem dX10_agrees_56 : decode cX10_agrees 56 = .ok (.aload_n 0, 1) := by decide +kernel
theorem dX10_agrees_57 : decode cX10_agrees 57 = .ok (.getfield 32, 3) := by decide +kernel
theorem dX10_agrees_60 : decode cX10_agrees 60 = .ok (.iload_n 1, 1) := by decide +kernel
theorem dX10_agrees_61 : decode cX10_agrees 61 = .ok (.iaload, 1) := by decide +kernel
theorem dX10_agrees_62 : decode cX10_agrees 62 = .ok (.iastore, 1) := by decide +kernel
theorem dX10_agrees_63 : decode cX10_agrees 63 = .ok (.iinc 1 1, 3) := by decide +kernel
theorem dX10_agrees_66 : decode cX10_agrees 66 = .ok (.goto (-23), 3) := by decide +kernel
theorem dX10_agrees_69 : decode cX10_agrees 69 = .ok (.aload_n 0, 1) := by decide +kernel
theorem dX10_agrees_70 : decode cX10_agrees 70 = .ok (.aload_n 0, 1) := by decide +kernel
theorem dX10_agrees_71 : decode cX10_agrees 71 = .ok (.getfield 7, 3) := by decide +kernel
theorem dX10_agrees_74 : decode cX10_agrees 74 = .ok (.iconst 4, 1) := by decide +kernel
theorem dX10_agrees_75 : decode cX10_agrees 75 = .ok (.iaload, 1) := by decide +kernel
theorem dX10_agrees_76 : decode cX10_agrees 76 = .ok (.invokevirtual 203, 3) := by decide +kernel
theorem dX10_agrees_79 : decode cX10_agrees 79 = .ok (.iconst 0, 1) := by decide +kernel
theorem dX10_agrees_80 : decode cX10_agrees 80 = .ok (.istore_n 1, 1) := by decide +kernel
theorem dX10_agrees_81 : decode cX10_agrees 81 = .ok (.iload_n 1, 1) := by decide +kernel
theorem dX10_agrees_82 : decode cX10_agrees 82 = .ok (.aload_n 0, 1) := by decide +kernel
theorem dX10_agrees_83 : decode cX10_agrees 83 = .ok (.getfield 7, 3) := by decide +kernel
theorem dX10_agrees_86 : decode cX10_agrees 86 = .ok (.iconst 4, 1) := by decide +kernel
theorem dX10_agrees_87 : decode cX10_agrees 87 = .ok (.iaload, 1) := by decide +kernel
theorem dX10_agrees_88 : decode cX10_agrees 88 = .ok (.if_icmp .ge 26, 3) := by decide +kernel
theorem dX10_agrees_91 : decode cX10_agrees 91 = .ok (.aload_n 0, 1) := by decide +kernel
theorem dX10_agrees_92 : decode cX10_agrees 92 = .ok (.getfield 26, 3) := by decide +kernel
theorem dX10_agrees_95 : decode cX10_agrees 95 = .ok (.iload_n 1, 1) := by decide +kernel
theorem dX10_agrees_96 : decode cX10_agrees 96 = .ok (.iaload, 1) := by decide +kernel
theorem dX10_agrees_97 : decode cX10_agrees 97 = .ok (.aload_n 0, 1) := by decide +kernel
theorem dX10_agrees_98 : decode cX10_agrees 98 = .ok (.getfield 7, 3) := by decide +kernel
theorem dX10_agrees_101 : decode cX10_agrees 101 = .ok (.iconst 5, 1) := by decide +kernel
theorem dX10_agrees_102 : decode cX10_agrees 102 = .ok (.iload_n 1, 1) := by decide +kernel
theorem dX10_agrees_103 : decode cX10_agrees 103 = .ok (.iadd, 1) := by decide +kernel
theorem dX10_agrees_104 : decode cX10_agrees 104 = .ok (.iaload, 1) := by decide +kernel
theorem dX10_agrees_105 : decode cX10_agrees 105 = .ok (.if_icmp .ne 9, 3) := by decide +kernel
theorem dX10_agrees_108 : decode cX10_agrees 108 = .ok (.iinc 1 1, 3) := by decide +kernel
theorem dX10_agrees_111 : decode cX10_agrees 111 = .ok (.goto (-30), 3) := by decide +kernel
theorem dX10_agrees_114 : decode cX10_agrees 114 = .ok (.iload_n 1, 1) := by decide +kernel
theorem dX10_agrees_115 : decode cX10_agrees 115 = .ok (.ireturn, 1) := by decide +kernel
theorem dX10_keep_0 : decode cX10_keep 0 = .ok (.iload_n 1, 1) := by decide +kernel
theorem dX10_keep_1 : decode cX10_keep 1 = .ok (.iconst 0, 1) := by decide +kernel
theorem dX10_keep_2 : decode cX10_keep 2 = .ok (.iconst 1, 1) := by decide +kernel
theorem dX10_keep_3 : decode cX10_keep 3 = .ok (.invokestatic 164, 3) := by decide +kernel
theorem dX10_keep_6 : decode cX10_keep 6 = .ok (.ifCond .ne 5, 3) := by decide +kernel
theorem dX10_keep_9 : decode cX10_keep 9 = .ok (.iconst (-1), 1) := by decide +kernel
theorem dX10_keep_10 : decode cX10_keep 10 = .ok (.ireturn, 1) := by decide +kernel
theorem dX10_keep_11 : decode cX10_keep 11 = .ok (.iconst 0, 1) := by decide +kernel
theorem dX10_keep_12 : decode cX10_keep 12 = .ok (.istore_n 2, 1) := by decide +kernel
theorem dX10_keep_13 : decode cX10_keep 13 = .ok (.iload_n 2, 1) := by decide +kernel
theorem dX10_keep_14 : decode cX10_keep 14 = .ok (.bipush 65, 2) := by decide +kernel
theorem dX10_keep_16 : decode cX10_keep 16 = .ok (.if_icmp .ge 26, 3) := by decide +kernel
theorem dX10_keep_19 : decode cX10_keep 19 = .ok (.aload_n 0, 1) := by decide +kernel
theorem dX10_keep_20 : decode cX10_keep 20 = .ok (.getfield 16, 3) := by decide +kernel
theorem dX10_keep_23 : decode cX10_keep 23 = .ok (.bipush 65, 2) := by decide +kernel
theorem dX10_keep_25 : decode cX10_keep 25 = .ok (.iload_n 1, 1) := by decide +kernel
theorem dX10_keep_26 : decode cX10_keep 26 = .ok (.imul, 1) := by decide +kernel
theorem dX10_keep_27 : decode cX10_keep 27 = .ok (.iload_n 2, 1) := by decide +kernel
theorem dX10_keep_28 : decode cX10_keep 28 = .ok (.iadd, 1) := by decide +kernel
theorem dX10_keep_29 : decode cX10_keep 29 = .ok (.aload_n 0, 1) := by decide +kernel
theorem dX10_keep_30 : decode cX10_keep 30 = .ok (.getfield 7, 3) := by decide +kernel
theorem dX10_keep_33 : decode cX10_keep 33 = .ok (.iload_n 2, 1) := by decide +kernel
theorem dX10_keep_34 : decode cX10_keep 34 = .ok (.iaload, 1) := by decide +kernel
theorem dX10_keep_35 : decode cX10_keep 35 = .ok (.iastore, 1) := by decide +kernel
theorem dX10_keep_36 : decode cX10_keep 36 = .ok (.iinc 2 1, 3) := by decide +kernel
theorem dX10_keep_39 : decode cX10_keep 39 = .ok (.goto (-26), 3) := by decide +kernel
theorem dX10_keep_42 : decode cX10_keep 42 = .ok (.aload_n 0, 1) := by decide +kernel
theorem dX10_keep_43 : decode cX10_keep 43 = .ok (.getfield 19, 3) := by decide +kernel
theorem dX10_keep_46 : decode cX10_keep 46 = .ok (.iload_n 1, 1) := by decide +kernel
theorem dX10_keep_47 : decode cX10_keep 47 = .ok (.iconst 1, 1) := by decide +kernel
theorem dX10_keep_48 : decode cX10_keep 48 = .ok (.bastore, 1) := by decide +kernel
theorem dX10_keep_49 : decode cX10_keep 49 = .ok (.aload_n 0, 1) := by decide +kernel
theorem dX10_keep_50 : decode cX10_keep 50 = .ok (.getfield 7, 3) := by decide +kernel
theorem dX10_keep_53 : decode cX10_keep 53 = .ok (.iconst 4, 1) := by decide +kernel
theorem dX10_keep_54 : decode cX10_keep 54 = .ok (.iaload, 1) := by decide +kernel
theorem dX10_keep_55 : decode cX10_keep 55 = .ok (.ireturn, 1) := by decide +kernel
theorem dX10_back_0 : decode cX10_back 0 = .ok (.iload_n 1, 1) := by decide +kernel
theorem dX10_back_1 : decode cX10_back 1 = .ok (.iconst 0, 1) := by decide +kernel
theorem dX10_back_2 : decode cX10_back 2 = .ok (.iconst 1, 1) := by decide +kernel
theorem dX10_back_3 : decode cX10_back 3 = .ok (.invokestatic 164, 3) := by decide +kernel
theorem dX10_back_6 : decode cX10_back 6 = .ok (.ifCond .ne 5, 3) := by decide +kernel
theorem dX10_back_9 : decode cX10_back 9 = .ok (.iconst (-1), 1) := by decide +kernel
theorem dX10_back_10 : decode cX10_back 10 = .ok (.ireturn, 1) := by decide +kernel
theorem dX10_back_11 : decode cX10_back 11 = .ok (.aload_n 0, 1) := by decide +kernel
theorem dX10_back_12 : decode cX10_back 12 = .ok (.getfield 19, 3) := by decide +kernel
theorem dX10_back_15 : decode cX10_back 15 = .ok (.iload_n 1, 1) := by decide +kernel
theorem dX10_back_16 : decode cX10_back 16 = .ok (.baload, 1) := by decide +kernel
theorem dX10_back_17 : decode cX10_back 17 = .ok (.ifCond .ne 6, 3) := by decide +kernel
theorem dX10_back_20 : decode cX10_back 20 = .ok (.bipush (-2), 2) := by decide +kernel
theorem dX10_back_22 : decode cX10_back 22 = .ok (.ireturn, 1) := by decide +kernel
theorem dX10_back_23 : decode cX10_back 23 = .ok (.iconst 0, 1) := by decide +kernel
theorem dX10_back_24 : decode cX10_back 24 = .ok (.istore_n 2, 1) := by decide +kernel
theorem dX10_back_25 : decode cX10_back 25 = .ok (.iload_n 2, 1) := by decide +kernel
theorem dX10_back_26 : decode cX10_back 26 = .ok (.bipush 65, 2) := by decide +kernel
theorem dX10_back_28 : decode cX10_back 28 = .ok (.if_icmp .ge 26, 3) := by decide +kernel
theorem dX10_back_31 : decode cX10_back 31 = .ok (.aload_n 0, 1) := by decide +kernel
theorem dX10_back_32 : decode cX10_back 32 = .ok (.getfield 7, 3) := by decide +kernel
theorem dX10_back_35 : decode cX10_back 35 = .ok (.iload_n 2, 1) := by decide +kernel
theorem dX10_back_36 : decode cX10_back 36 = .ok (.aload_n 0, 1) := by decide +kernel
theorem dX10_back_37 : decode cX10_back 37 = .ok (.getfield 16, 3) := by decide +kernel
theorem dX10_back_40 : decode cX10_back 40 = .ok (.bipush 65, 2) := by decide +kernel
theorem dX10_back_42 : decode cX10_back 42 = .ok (.iload_n 1, 1) := by decide +kernel
theorem dX10_back_43 : decode cX10_back 43 = .ok (.imul, 1) := by decide +kernel
theorem dX10_back_44 : decode cX10_back 44 = .ok (.iload_n 2, 1) := by decide +kernel
theorem dX10_back_45 : decode cX10_back 45 = .ok (.iadd, 1) := by decide +kernel
theorem dX10_back_46 : decode cX10_back 46 = .ok (.iaload, 1) := by decide +kernel
theorem dX10_back_47 : decode cX10_back 47 = .ok (.iastore, 1) := by decide +kernel
theorem dX10_back_48 : decode cX10_back 48 = .ok (.iinc 2 1, 3) := by decide +kernel
theorem dX10_back_51 : decode cX10_back 51 = .ok (.goto (-26), 3) := by decide +kernel
theorem dX10_back_54 : decode cX10_back 54 = .ok (.aload_n 0, 1) := by decide +kernel
theorem dX10_back_55 : decode cX10_back 55 = .ok (.iconst 0, 1) := by decide +kernel
theorem dX10_back_56 : decode cX10_back 56 = .ok (.putfield 171, 3) := by decide +kernel
theorem dX10_back_59 : decode cX10_back 59 = .ok (.aload_n 0, 1) := by decide +kernel
theorem dX10_back_60 : decode cX10_back 60 = .ok (.getfield 7, 3) := by decide +kernel
theorem dX10_back_63 : decode cX10_back 63 = .ok (.iconst 4, 1) := by decide +kernel
theorem dX10_back_64 : decode cX10_back 64 = .ok (.iaload, 1) := by decide +kernel
theorem dX10_back_65 : decode cX10_back 65 = .ok (.ireturn, 1) := by decide +kernel
theorem dX10_tellNow_0 : decode cX10_tellNow 0 = .ok (.aload_n 0, 1) := by decide +kernel
theorem dX10_tellNow_1 : decode cX10_tellNow 1 = .ok (.invokevirtual 180, 3) := by decide +kernel
theorem dX10_tellNow_4 : decode cX10_tellNow 4 = .ok (.iload_n 1, 1) := by decide +kernel
theorem dX10_tellNow_5 : decode cX10_tellNow 5 = .ok (.tableswitch 60 1 5 #[35, 40, 45, 50, 55], 35) := by decide +kernel
theorem dX10_tellNow_40 : decode cX10_tellNow 40 = .ok (.aload_n 0, 1) := by decide +kernel
theorem dX10_tellNow_41 : decode cX10_tellNow 41 = .ok (.invokevirtual 146, 3) := by decide +kernel
theorem dX10_tellNow_44 : decode cX10_tellNow 44 = .ok (.ireturn, 1) := by decide +kernel
theorem dX10_tellNow_45 : decode cX10_tellNow 45 = .ok (.aload_n 0, 1) := by decide +kernel
theorem dX10_tellNow_46 : decode cX10_tellNow 46 = .ok (.getfield 52, 3) := by decide +kernel
theorem dX10_tellNow_49 : decode cX10_tellNow 49 = .ok (.ireturn, 1) := by decide +kernel
theorem dX10_tellNow_50 : decode cX10_tellNow 50 = .ok (.aload_n 0, 1) := by decide +kernel
theorem dX10_tellNow_51 : decode cX10_tellNow 51 = .ok (.getfield 65, 3) := by decide +kernel
theorem dX10_tellNow_54 : decode cX10_tellNow 54 = .ok (.ireturn, 1) := by decide +kernel
theorem dX10_tellNow_55 : decode cX10_tellNow 55 = .ok (.aload_n 0, 1) := by decide +kernel
theorem dX10_tellNow_56 : decode cX10_tellNow 56 = .ok (.getfield 62, 3) := by decide +kernel
theorem dX10_tellNow_59 : decode cX10_tellNow 59 = .ok (.ireturn, 1) := by decide +kernel
theorem dX10_tellNow_60 : decode cX10_tellNow 60 = .ok (.aload_n 0, 1) := by decide +kernel
theorem dX10_tellNow_61 : decode cX10_tellNow 61 = .ok (.getfield 55, 3) := by decide +kernel
theorem dX10_tellNow_64 : decode cX10_tellNow 64 = .ok (.ireturn, 1) := by decide +kernel
theorem dX10_tellNow_65 : decode cX10_tellNow 65 = .ok (.aload_n 0, 1) := by decide +kernel
theorem dX10_tellNow_66 : decode cX10_tellNow 66 = .ok (.getfield 59, 3) := by decide +kernel
theorem dX10_tellNow_69 : decode cX10_tellNow 69 = .ok (.ireturn, 1) := by decide +kernel
theorem dX10_told_0 : decode cX10_told 0 = .ok (.iload_n 1, 1) := by decide +kernel
theorem dX10_told_1 : decode cX10_told 1 = .ok (.iconst 1, 1) := by decide +kernel
theorem dX10_told_2 : decode cX10_told 2 = .ok (.bipush 6, 2) := by decide +kernel
theorem dX10_told_4 : decode cX10_told 4 = .ok (.invokestatic 164, 3) := by decide +kernel
theorem dX10_told_7 : decode cX10_told 7 = .ok (.ifCond .eq 9, 3) := by decide +kernel
theorem dX10_told_10 : decode cX10_told 10 = .ok (.aload_n 0, 1) := by decide +kernel
theorem dX10_told_11 : decode cX10_told 11 = .ok (.iload_n 1, 1) := by decide +kernel
theorem dX10_told_12 : decode cX10_told 12 = .ok (.invokevirtual 206, 3) := by decide +kernel
theorem dX10_told_15 : decode cX10_told 15 = .ok (.ireturn, 1) := by decide +kernel
theorem dX10_told_16 : decode cX10_told 16 = .ok (.iload_n 1, 1) := by decide +kernel
theorem dX10_told_17 : decode cX10_told 17 = .ok (.bipush 7, 2) := by decide +kernel
theorem dX10_told_19 : decode cX10_told 19 = .ok (.bipush 10, 2) := by decide +kernel
theorem dX10_told_21 : decode cX10_told 21 = .ok (.invokestatic 164, 3) := by decide +kernel
theorem dX10_told_24 : decode cX10_told 24 = .ok (.ifCond .eq 13, 3) := by decide +kernel
theorem dX10_told_27 : decode cX10_told 27 = .ok (.aload_n 0, 1) := by decide +kernel
theorem dX10_told_28 : decode cX10_told 28 = .ok (.getfield 7, 3) := by decide +kernel
theorem dX10_told_31 : decode cX10_told 31 = .ok (.iload_n 1, 1) := by decide +kernel
theorem dX10_told_32 : decode cX10_told 32 = .ok (.bipush 7, 2) := by decide +kernel
theorem dX10_told_34 : decode cX10_told 34 = .ok (.isub, 1) := by decide +kernel
theorem dX10_told_35 : decode cX10_told 35 = .ok (.iaload, 1) := by decide +kernel
theorem dX10_told_36 : decode cX10_told 36 = .ok (.ireturn, 1) := by decide +kernel
theorem dX10_told_37 : decode cX10_told 37 = .ok (.iload_n 1, 1) := by decide +kernel
theorem dX10_told_38 : decode cX10_told 38 = .ok (.ifCond .ne 12, 3) := by decide +kernel
theorem dX10_told_41 : decode cX10_told 41 = .ok (.aload_n 0, 1) := by decide +kernel
theorem dX10_told_42 : decode cX10_told 42 = .ok (.getfield 7, 3) := by decide +kernel
theorem dX10_told_45 : decode cX10_told 45 = .ok (.iconst 4, 1) := by decide +kernel
theorem dX10_told_46 : decode cX10_told 46 = .ok (.iaload, 1) := by decide +kernel
theorem dX10_told_47 : decode cX10_told 47 = .ok (.goto 30, 3) := by decide +kernel
theorem dX10_told_50 : decode cX10_told 50 = .ok (.iload_n 1, 1) := by decide +kernel
theorem dX10_told_51 : decode cX10_told 51 = .ok (.bipush 11, 2) := by decide +kernel
theorem dX10_told_53 : decode cX10_told 53 = .ok (.if_icmp .ne 10, 3) := by decide +kernel
theorem dX10_told_56 : decode cX10_told 56 = .ok (.aload_n 0, 1) := by decide +kernel
theorem dX10_told_57 : decode cX10_told 57 = .ok (.getfield 168, 3) := by decide +kernel
theorem dX10_told_60 : decode cX10_told 60 = .ok (.goto 17, 3) := by decide +kernel
theorem dX10_told_63 : decode cX10_told 63 = .ok (.iload_n 1, 1) := by decide +kernel
theorem dX10_told_64 : decode cX10_told 64 = .ok (.bipush 12, 2) := by decide +kernel
theorem dX10_told_66 : decode cX10_told 66 = .ok (.if_icmp .ne 10, 3) := by decide +kernel
theorem dX10_told_69 : decode cX10_told 69 = .ok (.aload_n 0, 1) := by decide +kernel
theorem dX10_told_70 : decode cX10_told 70 = .ok (.getfield 171, 3) := by decide +kernel
theorem dX10_told_73 : decode cX10_told 73 = .ok (.goto 4, 3) := by decide +kernel
theorem dX10_told_76 : decode cX10_told 76 = .ok (.iconst (-1), 1) := by decide +kernel
theorem dX10_told_77 : decode cX10_told 77 = .ok (.ireturn, 1) := by decide +kernel
