theorem dX0_init_0 : decode cX0_init 0 = .ok (.aload_n 0, 1) := by decide +kernel
theorem dX0_init_1 : decode cX0_init 1 = .ok (.invokespecial 3, 3) := by decide +kernel
theorem dX0_init_4 : decode cX0_init 4 = .ok (.aload_n 0, 1) := by decide +kernel
theorem dX0_init_5 : decode cX0_init 5 = .ok (.sipush 340, 3) := by decide +kernel
theorem dX0_init_8 : decode cX0_init 8 = .ok (.newarray .int, 2) := by decide +kernel
theorem dX0_init_10 : decode cX0_init 10 = .ok (.putfield 9, 3) := by decide +kernel
theorem dX0_init_13 : decode cX0_init 13 = .ok (.aload_n 0, 1) := by decide +kernel
theorem dX0_init_14 : decode cX0_init 14 = .ok (.iconst 0, 1) := by decide +kernel
theorem dX0_init_15 : decode cX0_init 15 = .ok (.putfield 15, 3) := by decide +kernel
theorem dX0_init_18 : decode cX0_init 18 = .ok (.return_, 1) := by decide +kernel
theorem dX0_empties_0 : decode cX0_empties 0 = .ok (.iconst 0, 1) := by decide +kernel
theorem dX0_empties_1 : decode cX0_empties 1 = .ok (.istore_n 1, 1) := by decide +kernel
theorem dX0_empties_2 : decode cX0_empties 2 = .ok (.iload_n 1, 1) := by decide +kernel
theorem dX0_empties_3 : decode cX0_empties 3 = .ok (.aload_n 0, 1) := by decide +kernel
theorem dX0_empties_4 : decode cX0_empties 4 = .ok (.getfield 9, 3) := by decide +kernel
theorem dX0_empties_7 : decode cX0_empties 7 = .ok (.arraylength, 1) := by decide +kernel
theorem dX0_empties_8 : decode cX0_empties 8 = .ok (.if_icmp .ge 16, 3) := by decide +kernel
theorem dX0_empties_11 : decode cX0_empties 11 = .ok (.aload_n 0, 1) := by decide +kernel
theorem dX0_empties_12 : decode cX0_empties 12 = .ok (.getfield 9, 3) := by decide +kernel
theorem dX0_empties_15 : decode cX0_empties 15 = .ok (.iload_n 1, 1) := by decide +kernel
theorem dX0_empties_16 : decode cX0_empties 16 = .ok (.iconst 0, 1) := by decide +kernel
theorem dX0_empties_17 : decode cX0_empties 17 = .ok (.iastore, 1) := by decide +kernel
theorem dX0_empties_18 : decode cX0_empties 18 = .ok (.iinc 1 1, 3) := by decide +kernel
theorem dX0_empties_21 : decode cX0_empties 21 = .ok (.goto (-19), 3) := by decide +kernel
theorem dX0_empties_24 : decode cX0_empties 24 = .ok (.aload_n 0, 1) := by decide +kernel
theorem dX0_empties_25 : decode cX0_empties 25 = .ok (.iconst 0, 1) := by decide +kernel
theorem dX0_empties_26 : decode cX0_empties 26 = .ok (.putfield 15, 3) := by decide +kernel
theorem dX0_empties_29 : decode cX0_empties 29 = .ok (.return_, 1) := by decide +kernel
theorem dX0_at_0 : decode cX0_at 0 = .ok (.iconst 4, 1) := by decide +kernel
theorem dX0_at_1 : decode cX0_at 1 = .ok (.iload_n 1, 1) := by decide +kernel
theorem dX0_at_2 : decode cX0_at 2 = .ok (.imul, 1) := by decide +kernel
theorem dX0_at_3 : decode cX0_at 3 = .ok (.iload_n 2, 1) := by decide +kernel
theorem dX0_at_4 : decode cX0_at 4 = .ok (.iadd, 1) := by decide +kernel
theorem dX0_at_5 : decode cX0_at 5 = .ok (.istore_n 3, 1) := by decide +kernel
theorem dX0_at_6 : decode cX0_at 6 = .ok (.iload_n 3, 1) := by decide +kernel
theorem dX0_at_7 : decode cX0_at 7 = .ok (.ifCond .lt 21, 3) := by decide +kernel
theorem dX0_at_10 : decode cX0_at 10 = .ok (.iload_n 3, 1) := by decide +kernel
theorem dX0_at_11 : decode cX0_at 11 = .ok (.aload_n 0, 1) := by decide +kernel
theorem dX0_at_12 : decode cX0_at 12 = .ok (.getfield 9, 3) := by decide +kernel
theorem dX0_at_15 : decode cX0_at 15 = .ok (.arraylength, 1) := by decide +kernel
theorem dX0_at_16 : decode cX0_at 16 = .ok (.if_icmp .ge 12, 3) := by decide +kernel
theorem dX0_at_19 : decode cX0_at 19 = .ok (.aload_n 0, 1) := by decide +kernel
theorem dX0_at_20 : decode cX0_at 20 = .ok (.getfield 9, 3) := by decide +kernel
theorem dX0_at_23 : decode cX0_at 23 = .ok (.iload_n 3, 1) := by decide +kernel
theorem dX0_at_24 : decode cX0_at 24 = .ok (.iaload, 1) := by decide +kernel
theorem dX0_at_25 : decode cX0_at 25 = .ok (.goto 4, 3) := by decide +kernel
theorem dX0_at_28 : decode cX0_at 28 = .ok (.iconst 0, 1) := by decide +kernel
theorem dX0_at_29 : decode cX0_at 29 = .ok (.ireturn, 1) := by decide +kernel
theorem dX0_raises_0 : decode cX0_raises 0 = .ok (.iconst 4, 1) := by decide +kernel
theorem dX0_raises_1 : decode cX0_raises 1 = .ok (.iload_n 1, 1) := by decide +kernel
theorem dX0_raises_2 : decode cX0_raises 2 = .ok (.imul, 1) := by decide +kernel
theorem dX0_raises_3 : decode cX0_raises 3 = .ok (.istore 4, 2) := by decide +kernel
theorem dX0_raises_5 : decode cX0_raises 5 = .ok (.iload 4, 2) := by decide +kernel
theorem dX0_raises_7 : decode cX0_raises 7 = .ok (.ifCond .lt 24, 3) := by decide +kernel
theorem dX0_raises_10 : decode cX0_raises 10 = .ok (.iload 4, 2) := by decide +kernel
theorem dX0_raises_12 : decode cX0_raises 12 = .ok (.aload_n 0, 1) := by decide +kernel
theorem dX0_raises_13 : decode cX0_raises 13 = .ok (.getfield 9, 3) := by decide +kernel
theorem dX0_raises_16 : decode cX0_raises 16 = .ok (.arraylength, 1) := by decide +kernel
theorem dX0_raises_17 : decode cX0_raises 17 = .ok (.iconst 4, 1) := by decide +kernel
theorem dX0_raises_18 : decode cX0_raises 18 = .ok (.isub, 1) := by decide +kernel
theorem dX0_raises_19 : decode cX0_raises 19 = .ok (.if_icmp .gt 12, 3) := by decide +kernel
theorem dX0_raises_22 : decode cX0_raises 22 = .ok (.iload_n 2, 1) := by decide +kernel
theorem dX0_raises_23 : decode cX0_raises 23 = .ok (.ifCond .lt 8, 3) := by decide +kernel
theorem dX0_raises_26 : decode cX0_raises 26 = .ok (.iload_n 2, 1) := by decide +kernel
theorem dX0_raises_27 : decode cX0_raises 27 = .ok (.iconst 4, 1) := by decide +kernel
theorem dX0_raises_28 : decode cX0_raises 28 = .ok (.if_icmp .lt 4, 3) := by decide +kernel
theorem dX0_raises_31 : decode cX0_raises 31 = .ok (.return_, 1) := by decide +kernel
theorem dX0_raises_32 : decode cX0_raises 32 = .ok (.iconst 0, 1) := by decide +kernel
theorem dX0_raises_33 : decode cX0_raises 33 = .ok (.istore 5, 2) := by decide +kernel
theorem dX0_raises_35 : decode cX0_raises 35 = .ok (.iload 4, 2) := by decide +kernel
theorem dX0_raises_37 : decode cX0_raises 37 = .ok (.istore 6, 2) := by decide +kernel
theorem dX0_raises_39 : decode cX0_raises 39 = .ok (.iload 6, 2) := by decide +kernel
theorem dX0_raises_41 : decode cX0_raises 41 = .ok (.iload 4, 2) := by decide +kernel
theorem dX0_raises_43 : decode cX0_raises 43 = .ok (.iconst 4, 1) := by decide +kernel
theorem dX0_raises_44 : decode cX0_raises 44 = .ok (.iadd, 1) := by decide +kernel
theorem dX0_raises_45 : decode cX0_raises 45 = .ok (.if_icmp .ge 21, 3) := by decide +kernel
theorem dX0_raises_48 : decode cX0_raises 48 = .ok (.iload 5, 2) := by decide +kernel
theorem dX0_raises_50 : decode cX0_raises 50 = .ok (.aload_n 0, 1) := by decide +kernel
theorem dX0_raises_51 : decode cX0_raises 51 = .ok (.getfield 9, 3) := by decide +kernel
theorem dX0_raises_54 : decode cX0_raises 54 = .ok (.iload 6, 2) := by decide +kernel
theorem dX0_raises_56 : decode cX0_raises 56 = .ok (.iaload, 1) := by decide +kernel
theorem dX0_raises_57 : decode cX0_raises 57 = .ok (.iadd, 1) := by decide +kernel
theorem dX0_raises_58 : decode cX0_raises 58 = .ok (.istore 5, 2) := by decide +kernel
theorem dX0_raises_60 : decode cX0_raises 60 = .ok (.iinc 6 1, 3) := by decide +kernel
theorem dX0_raises_63 : decode cX0_raises 63 = .ok (.goto (-24), 3) := by decide +kernel
theorem dX0_raises_66 : decode cX0_raises 66 = .ok (.iload 5, 2) := by decide +kernel
theorem dX0_raises_68 : decode cX0_raises 68 = .ok (.ifCond .ne 13, 3) := by decide +kernel
theorem dX0_raises_71 : decode cX0_raises 71 = .ok (.aload_n 0, 1) := by decide +kernel
theorem dX0_raises_72 : decode cX0_raises 72 = .ok (.dup, 1) := by decide +kernel
theorem dX0_raises_73 : decode cX0_raises 73 = .ok (.getfield 15, 3) := by decide +kernel
theorem dX0_raises_76 : decode cX0_raises 76 = .ok (.iconst 1, 1) := by decide +kernel
theorem dX0_raises_77 : decode cX0_raises 77 = .ok (.iadd, 1) := by decide +kernel
theorem dX0_raises_78 : decode cX0_raises 78 = .ok (.putfield 15, 3) := by decide +kernel
theorem dX0_raises_81 : decode cX0_raises 81 = .ok (.aload_n 0, 1) := by decide +kernel
theorem dX0_raises_82 : decode cX0_raises 82 = .ok (.getfield 9, 3) := by decide +kernel
theorem dX0_raises_85 : decode cX0_raises 85 = .ok (.iload 4, 2) := by decide +kernel
theorem dX0_raises_87 : decode cX0_raises 87 = .ok (.iload_n 2, 1) := by decide +kernel
theorem dX0_raises_88 : decode cX0_raises 88 = .ok (.iadd, 1) := by decide +kernel
theorem dX0_raises_89 : decode cX0_raises 89 = .ok (.dup2, 1) := by decide +kernel
theorem dX0_raises_90 : decode cX0_raises 90 = .ok (.iaload, 1) := by decide +kernel
theorem dX0_raises_91 : decode cX0_raises 91 = .ok (.iconst 1, 1) := by decide +kernel
theorem dX0_raises_92 : decode cX0_raises 92 = .ok (.iadd, 1) := by decide +kernel
theorem dX0_raises_93 : decode cX0_raises 93 = .ok (.iastore, 1) := by decide +kernel
theorem dX0_raises_94 : decode cX0_raises 94 = .ok (.aload_n 0, 1) := by decide +kernel
theorem dX0_raises_95 : decode cX0_raises 95 = .ok (.getfield 9, 3) := by decide +kernel
theorem dX0_raises_98 : decode cX0_raises 98 = .ok (.iload 4, 2) := by decide +kernel
theorem dX0_raises_100 : decode cX0_raises 100 = .ok (.iload_n 2, 1) := by decide +kernel
theorem dX0_raises_101 : decode cX0_raises 101 = .ok (.iadd, 1) := by decide +kernel
theorem dX0_raises_102 : decode cX0_raises 102 = .ok (.iaload, 1) := by decide +kernel
theorem dX0_raises_103 : decode cX0_raises 103 = .ok (.iload_n 3, 1) := by decide +kernel
theorem dX0_raises_104 : decode cX0_raises 104 = .ok (.if_icmp .eq 4, 3) := by decide +kernel
theorem dX0_raises_107 : decode cX0_raises 107 = .ok (.return_, 1) := by decide +kernel
theorem dX0_raises_108 : decode cX0_raises 108 = .ok (.iload 4, 2) := by decide +kernel
theorem dX0_raises_110 : decode cX0_raises 110 = .ok (.istore 6, 2) := by decide +kernel
theorem dX0_raises_112 : decode cX0_raises 112 = .ok (.iload 6, 2) := by decide +kernel
theorem dX0_raises_114 : decode cX0_raises 114 = .ok (.iload 4, 2) := by decide +kernel
theorem dX0_raises_116 : decode cX0_raises 116 = .ok (.iconst 4, 1) := by decide +kernel
theorem dX0_raises_117 : decode cX0_raises 117 = .ok (.iadd, 1) := by decide +kernel
theorem dX0_raises_118 : decode cX0_raises 118 = .ok (.if_icmp .ge 20, 3) := by decide +kernel
theorem dX0_raises_121 : decode cX0_raises 121 = .ok (.aload_n 0, 1) := by decide +kernel
theorem dX0_raises_122 : decode cX0_raises 122 = .ok (.getfield 9, 3) := by decide +kernel
theorem dX0_raises_125 : decode cX0_raises 125 = .ok (.iload 6, 2) := by decide +kernel
theorem dX0_raises_127 : decode cX0_raises 127 = .ok (.dup2, 1) := by decide +kernel
theorem dX0_raises_128 : decode cX0_raises 128 = .ok (.iaload, 1) := by decide +kernel
theorem dX0_raises_129 : decode cX0_raises 129 = .ok (.iconst 2, 1) := by decide +kernel
theorem dX0_raises_130 : decode cX0_raises 130 = .ok (.idiv, 1) := by decide +kernel
theorem dX0_raises_131 : decode cX0_raises 131 = .ok (.iastore, 1) := by decide +kernel
theorem dX0_raises_132 : decode cX0_raises 132 = .ok (.iinc 6 1, 3) := by decide +kernel
theorem dX0_raises_135 : decode cX0_raises 135 = .ok (.goto (-23), 3) := by decide +kernel
theorem dX0_raises_138 : decode cX0_raises 138 = .ok (.return_, 1) := by decide +kernel
theorem dX1_init_0 : decode cX1_init 0 = .ok (.aload_n 0, 1) := by decide +kernel
theorem dX1_init_1 : decode cX1_init 1 = .ok (.invokespecial 3, 3) := by decide +kernel
theorem dX1_init_4 : decode cX1_init 4 = .ok (.aload_n 0, 1) := by decide +kernel
theorem dX1_init_5 : decode cX1_init 5 = .ok (.bipush 6, 2) := by decide +kernel
theorem dX1_init_7 : decode cX1_init 7 = .ok (.anewarray 9, 3) := by decide +kernel
theorem dX1_init_10 : decode cX1_init 10 = .ok (.putfield 11, 3) := by decide +kernel
theorem dX1_init_13 : decode cX1_init 13 = .ok (.aload_n 0, 1) := by decide +kernel
theorem dX1_init_14 : decode cX1_init 14 = .ok (.iconst 0, 1) := by decide +kernel
theorem dX1_init_15 : decode cX1_init 15 = .ok (.putfield 17, 3) := by decide +kernel
theorem dX1_init_18 : decode cX1_init 18 = .ok (.aload_n 0, 1) := by decide +kernel
theorem dX1_init_19 : decode cX1_init 19 = .ok (.iconst 0, 1) := by decide +kernel
theorem dX1_init_20 : decode cX1_init 20 = .ok (.putfield 21, 3) := by decide +kernel
theorem dX1_init_23 : decode cX1_init 23 = .ok (.iconst 0, 1) := by decide +kernel
theorem dX1_init_24 : decode cX1_init 24 = .ok (.istore_n 1, 1) := by decide +kernel
theorem dX1_init_25 : decode cX1_init 25 = .ok (.iload_n 1, 1) := by decide +kernel
theorem dX1_init_26 : decode cX1_init 26 = .ok (.aload_n 0, 1) := by decide +kernel
theorem dX1_init_27 : decode cX1_init 27 = .ok (.getfield 11, 3) := by decide +kernel
theorem dX1_init_30 : decode cX1_init 30 = .ok (.arraylength, 1) := by decide +kernel
theorem dX1_init_31 : decode cX1_init 31 = .ok (.if_icmp .ge 22, 3) := by decide +kernel
theorem dX1_init_34 : decode cX1_init 34 = .ok (.aload_n 0, 1) := by decide +kernel
theorem dX1_init_35 : decode cX1_init 35 = .ok (.getfield 11, 3) := by decide +kernel
theorem dX1_init_38 : decode cX1_init 38 = .ok (.iload_n 1, 1) := by decide +kernel
theorem dX1_init_39 : decode cX1_init 39 = .ok (.new 9, 3) := by decide +kernel
theorem dX1_init_42 : decode cX1_init 42 = .ok (.dup, 1) := by decide +kernel
theorem dX1_init_43 : decode cX1_init 43 = .ok (.invokespecial 24, 3) := by decide +kernel
theorem dX1_init_46 : decode cX1_init 46 = .ok (.aastore, 1) := by decide +kernel
theorem dX1_init_47 : decode cX1_init 47 = .ok (.iinc 1 1, 3) := by decide +kernel
theorem dX1_init_50 : decode cX1_init 50 = .ok (.goto (-25), 3) := by decide +kernel
theorem dX1_init_53 : decode cX1_init 53 = .ok (.return_, 1) := by decide +kernel
theorem dX1_remembers_0 : decode cX1_remembers 0 = .ok (.aload_n 0, 1) := by decide +kernel
theorem dX1_remembers_1 : decode cX1_remembers 1 = .ok (.getfield 17, 3) := by decide +kernel
theorem dX1_remembers_4 : decode cX1_remembers 4 = .ok (.ifCond .lt 27, 3) := by decide +kernel
theorem dX1_remembers_7 : decode cX1_remembers 7 = .ok (.aload_n 0, 1) := by decide +kernel
theorem dX1_remembers_8 : decode cX1_remembers 8 = .ok (.getfield 17, 3) := by decide +kernel
theorem dX1_remembers_11 : decode cX1_remembers 11 = .ok (.aload_n 0, 1) := by decide +kernel
theorem dX1_remembers_12 : decode cX1_remembers 12 = .ok (.getfield 11, 3) := by decide +kernel
theorem dX1_remembers_15 : decode cX1_remembers 15 = .ok (.arraylength, 1) := by decide +kernel
theorem dX1_remembers_16 : decode cX1_remembers 16 = .ok (.if_icmp .ge 15, 3) := by decide +kernel
theorem dX1_remembers_19 : decode cX1_remembers 19 = .ok (.aload_n 0, 1) := by decide +kernel
theorem dX1_remembers_20 : decode cX1_remembers 20 = .ok (.getfield 11, 3) := by decide +kernel
theorem dX1_remembers_23 : decode cX1_remembers 23 = .ok (.aload_n 0, 1) := by decide +kernel
theorem dX1_remembers_24 : decode cX1_remembers 24 = .ok (.getfield 17, 3) := by decide +kernel
theorem dX1_remembers_27 : decode cX1_remembers 27 = .ok (.aaload, 1) := by decide +kernel
theorem dX1_remembers_28 : decode cX1_remembers 28 = .ok (.ifnonnull 4, 3) := by decide +kernel
theorem dX1_remembers_31 : decode cX1_remembers 31 = .ok (.return_, 1) := by decide +kernel
theorem dX1_remembers_32 : decode cX1_remembers 32 = .ok (.aload_n 0, 1) := by decide +kernel
theorem dX1_remembers_33 : decode cX1_remembers 33 = .ok (.getfield 11, 3) := by decide +kernel
theorem dX1_remembers_36 : decode cX1_remembers 36 = .ok (.aload_n 0, 1) := by decide +kernel
theorem dX1_remembers_37 : decode cX1_remembers 37 = .ok (.getfield 17, 3) := by decide +kernel
theorem dX1_remembers_40 : decode cX1_remembers 40 = .ok (.aaload, 1) := by decide +kernel
theorem dX1_remembers_41 : decode cX1_remembers 41 = .ok (.aload_n 1, 1) := by decide +kernel
theorem dX1_remembers_42 : decode cX1_remembers 42 = .ok (.invokevirtual 25, 3) := by decide +kernel
theorem dX1_remembers_45 : decode cX1_remembers 45 = .ok (.aload_n 0, 1) := by decide +kernel
theorem dX1_remembers_46 : decode cX1_remembers 46 = .ok (.aload_n 0, 1) := by decide +kernel
theorem dX1_remembers_47 : decode cX1_remembers 47 = .ok (.getfield 17, 3) := by decide +kernel
theorem dX1_remembers_50 : decode cX1_remembers 50 = .ok (.iconst 1, 1) := by decide +kernel
theorem dX1_remembers_51 : decode cX1_remembers 51 = .ok (.iadd, 1) := by decide +kernel
theorem dX1_remembers_52 : decode cX1_remembers 52 = .ok (.aload_n 0, 1) := by decide +kernel
theorem dX1_remembers_53 : decode cX1_remembers 53 = .ok (.getfield 11, 3) := by decide +kernel
theorem dX1_remembers_56 : decode cX1_remembers 56 = .ok (.arraylength, 1) := by decide +kernel
theorem dX1_remembers_57 : decode cX1_remembers 57 = .ok (.if_icmp .ge 12, 3) := by decide +kernel
theorem dX1_remembers_60 : decode cX1_remembers 60 = .ok (.aload_n 0, 1) := by decide +kernel
theorem dX1_remembers_61 : decode cX1_remembers 61 = .ok (.getfield 17, 3) := by decide +kernel
theorem dX1_remembers_64 : decode cX1_remembers 64 = .ok (.iconst 1, 1) := by decide +kernel
theorem dX1_remembers_65 : decode cX1_remembers 65 = .ok (.iadd, 1) := by decide +kernel
theorem dX1_remembers_66 : decode cX1_remembers 66 = .ok (.goto 4, 3) := by decide +kernel
theorem dX1_remembers_69 : decode cX1_remembers 69 = .ok (.iconst 0, 1) := by decide +kernel
theorem dX1_remembers_70 : decode cX1_remembers 70 = .ok (.putfield 17, 3) := by decide +kernel
theorem dX1_remembers_73 : decode cX1_remembers 73 = .ok (.aload_n 0, 1) := by decide +kernel
theorem dX1_remembers_74 : decode cX1_remembers 74 = .ok (.aload_n 0, 1) := by decide +kernel
theorem dX1_remembers_75 : decode cX1_remembers 75 = .ok (.getfield 21, 3) := by decide +kernel
theorem dX1_remembers_78 : decode cX1_remembers 78 = .ok (.iconst 1, 1) := by decide +kernel
theorem dX1_remembers_79 : decode cX1_remembers 79 = .ok (.iadd, 1) := by decide +kernel
theorem dX1_remembers_80 : decode cX1_remembers 80 = .ok (.aload_n 0, 1) := by decide +kernel
theorem dX1_remembers_81 : decode cX1_remembers 81 = .ok (.getfield 11, 3) := by decide +kernel
theorem dX1_remembers_84 : decode cX1_remembers 84 = .ok (.arraylength, 1) := by decide +kernel
theorem dX1_remembers_85 : decode cX1_remembers 85 = .ok (.invokestatic 29, 3) := by decide +kernel
theorem dX1_remembers_88 : decode cX1_remembers 88 = .ok (.putfield 21, 3) := by decide +kernel
theorem dX1_remembers_91 : decode cX1_remembers 91 = .ok (.return_, 1) := by decide +kernel
theorem dX1_recalls_0 : decode cX1_recalls 0 = .ok (.aload_n 0, 1) := by decide +kernel
theorem dX1_recalls_1 : decode cX1_recalls 1 = .ok (.getfield 21, 3) := by decide +kernel
theorem dX1_recalls_4 : decode cX1_recalls 4 = .ok (.ifCond .gt 4, 3) := by decide +kernel
theorem dX1_recalls_7 : decode cX1_recalls 7 = .ok (.return_, 1) := by decide +kernel
theorem dX1_recalls_8 : decode cX1_recalls 8 = .ok (.aload_n 0, 1) := by decide +kernel
theorem dX1_recalls_9 : decode cX1_recalls 9 = .ok (.getfield 17, 3) := by decide +kernel
theorem dX1_recalls_12 : decode cX1_recalls 12 = .ok (.ifCond .le 12, 3) := by decide +kernel
theorem dX1_recalls_15 : decode cX1_recalls 15 = .ok (.aload_n 0, 1) := by decide +kernel
theorem dX1_recalls_16 : decode cX1_recalls 16 = .ok (.getfield 17, 3) := by decide +kernel
theorem dX1_recalls_19 : decode cX1_recalls 19 = .ok (.iconst 1, 1) := by decide +kernel
theorem dX1_recalls_20 : decode cX1_recalls 20 = .ok (.isub, 1) := by decide +kernel
theorem dX1_recalls_21 : decode cX1_recalls 21 = .ok (.goto 10, 3) := by decide +kernel
theorem dX1_recalls_24 : decode cX1_recalls 24 = .ok (.aload_n 0, 1) := by decide +kernel
theorem dX1_recalls_25 : decode cX1_recalls 25 = .ok (.getfield 11, 3) := by decide +kernel
theorem dX1_recalls_28 : decode cX1_recalls 28 = .ok (.arraylength, 1) := by decide +kernel
theorem dX1_recalls_29 : decode cX1_recalls 29 = .ok (.iconst 1, 1) := by decide +kernel
theorem dX1_recalls_30 : decode cX1_recalls 30 = .ok (.isub, 1) := by decide +kernel
theorem dX1_recalls_31 : decode cX1_recalls 31 = .ok (.istore_n 2, 1) := by decide +kernel
theorem dX1_recalls_32 : decode cX1_recalls 32 = .ok (.iload_n 2, 1) := by decide +kernel
theorem dX1_recalls_33 : decode cX1_recalls 33 = .ok (.ifCond .lt 21, 3) := by decide +kernel
theorem dX1_recalls_36 : decode cX1_recalls 36 = .ok (.iload_n 2, 1) := by decide +kernel
theorem dX1_recalls_37 : decode cX1_recalls 37 = .ok (.aload_n 0, 1) := by decide +kernel
theorem dX1_recalls_38 : decode cX1_recalls 38 = .ok (.getfield 11, 3) := by decide +kernel
theorem dX1_recalls_41 : decode cX1_recalls 41 = .ok (.arraylength, 1) := by decide +kernel
theorem dX1_recalls_42 : decode cX1_recalls 42 = .ok (.if_icmp .ge 12, 3) := by decide +kernel
theorem dX1_recalls_45 : decode cX1_recalls 45 = .ok (.aload_n 0, 1) := by decide +kernel
theorem dX1_recalls_46 : decode cX1_recalls 46 = .ok (.getfield 11, 3) := by decide +kernel
theorem dX1_recalls_49 : decode cX1_recalls 49 = .ok (.iload_n 2, 1) := by decide +kernel
theorem dX1_recalls_50 : decode cX1_recalls 50 = .ok (.aaload, 1) := by decide +kernel
theorem dX1_recalls_51 : decode cX1_recalls 51 = .ok (.ifnonnull 4, 3) := by decide +kernel
theorem dX1_recalls_54 : decode cX1_recalls 54 = .ok (.return_, 1) := by decide +kernel
theorem dX1_recalls_55 : decode cX1_recalls 55 = .ok (.aload_n 1, 1) := by decide +kernel
theorem dX1_recalls_56 : decode cX1_recalls 56 = .ok (.aload_n 0, 1) := by decide +kernel
theorem dX1_recalls_57 : decode cX1_recalls 57 = .ok (.getfield 11, 3) := by decide +kernel
theorem dX1_recalls_60 : decode cX1_recalls 60 = .ok (.iload_n 2, 1) := by decide +kernel
theorem dX1_recalls_61 : decode cX1_recalls 61 = .ok (.aaload, 1) := by decide +kernel
theorem dX1_recalls_62 : decode cX1_recalls 62 = .ok (.invokevirtual 25, 3) := by decide +kernel
theorem dX1_recalls_65 : decode cX1_recalls 65 = .ok (.aload_n 0, 1) := by decide +kernel
theorem dX1_recalls_66 : decode cX1_recalls 66 = .ok (.iload_n 2, 1) := by decide +kernel
theorem dX1_recalls_67 : decode cX1_recalls 67 = .ok (.putfield 17, 3) := by decide +kernel
theorem dX1_recalls_70 : decode cX1_recalls 70 = .ok (.aload_n 0, 1) := by decide +kernel
theorem dX1_recalls_71 : decode cX1_recalls 71 = .ok (.dup, 1) := by decide +kernel
theorem dX1_recalls_72 : decode cX1_recalls 72 = .ok (.getfield 21, 3) := by decide +kernel
theorem dX1_recalls_75 : decode cX1_recalls 75 = .ok (.iconst 1, 1) := by decide +kernel
theorem dX1_recalls_76 : decode cX1_recalls 76 = .ok (.isub, 1) := by decide +kernel
theorem dX1_recalls_77 : decode cX1_recalls 77 = .ok (.putfield 21, 3) := by decide +kernel
theorem dX1_recalls_80 : decode cX1_recalls 80 = .ok (.return_, 1) := by decide +kernel
theorem dX1_losesAll_0 : decode cX1_losesAll 0 = .ok (.aload_n 0, 1) := by decide +kernel
theorem dX1_losesAll_1 : decode cX1_losesAll 1 = .ok (.iconst 0, 1) := by decide +kernel
theorem dX1_losesAll_2 : decode cX1_losesAll 2 = .ok (.putfield 21, 3) := by decide +kernel
theorem dX1_losesAll_5 : decode cX1_losesAll 5 = .ok (.return_, 1) := by decide +kernel
theorem dX2_init_0 : decode cX2_init 0 = .ok (.aload_n 0, 1) := by decide +kernel
theorem dX2_init_1 : decode cX2_init 1 = .ok (.invokespecial 3, 3) := by decide +kernel
theorem dX2_init_4 : decode cX2_init 4 = .ok (.aload_n 0, 1) := by decide +kernel
theorem dX2_init_5 : decode cX2_init 5 = .ok (.iconst 0, 1) := by decide +kernel
theorem dX2_init_6 : decode cX2_init 6 = .ok (.putfield 9, 3) := by decide +kernel
theorem dX2_init_9 : decode cX2_init 9 = .ok (.aload_n 0, 1) := by decide +kernel
theorem dX2_init_10 : decode cX2_init 10 = .ok (.iconst 0, 1) := by decide +kernel
theorem dX2_init_11 : decode cX2_init 11 = .ok (.putfield 15, 3) := by decide +kernel
theorem dX2_init_14 : decode cX2_init 14 = .ok (.aload_n 0, 1) := by decide +kernel
theorem dX2_init_15 : decode cX2_init 15 = .ok (.lconst 1, 1) := by decide +kernel
theorem dX2_init_16 : decode cX2_init 16 = .ok (.putfield 18, 3) := by decide +kernel
theorem dX2_init_19 : decode cX2_init 19 = .ok (.aload_n 0, 1) := by decide +kernel
theorem dX2_init_20 : decode cX2_init 20 = .ok (.lconst 1, 1) := by decide +kernel
theorem dX2_init_21 : decode cX2_init 21 = .ok (.putfield 22, 3) := by decide +kernel
theorem dX2_init_24 : decode cX2_init 24 = .ok (.return_, 1) := by decide +kernel
theorem dX2_wants_0 : decode cX2_wants 0 = .ok (.aload_n 0, 1) := by decide +kernel
theorem dX2_wants_1 : decode cX2_wants 1 = .ok (.iload_n 1, 1) := by decide +kernel
theorem dX2_wants_2 : decode cX2_wants 2 = .ok (.putfield 9, 3) := by decide +kernel
theorem dX2_wants_5 : decode cX2_wants 5 = .ok (.aload_n 0, 1) := by decide +kernel
theorem dX2_wants_6 : decode cX2_wants 6 = .ok (.iconst (-1), 1) := by decide +kernel
theorem dX2_wants_7 : decode cX2_wants 7 = .ok (.putfield 15, 3) := by decide +kernel
theorem dX2_wants_10 : decode cX2_wants 10 = .ok (.aload_n 0, 1) := by decide +kernel
theorem dX2_wants_11 : decode cX2_wants 11 = .ok (.lconst 1, 1) := by decide +kernel
theorem dX2_wants_12 : decode cX2_wants 12 = .ok (.putfield 18, 3) := by decide +kernel
theorem dX2_wants_15 : decode cX2_wants 15 = .ok (.aload_n 0, 1) := by decide +kernel
theorem dX2_wants_16 : decode cX2_wants 16 = .ok (.lconst 1, 1) := by decide +kernel
theorem dX2_wants_17 : decode cX2_wants 17 = .ok (.putfield 22, 3) := by decide +kernel
theorem dX2_wants_20 : decode cX2_wants 20 = .ok (.return_, 1) := by decide +kernel
theorem dX2_chooses_0 : decode cX2_chooses 0 = .ok (.aload_n 1, 1) := by decide +kernel
theorem dX2_chooses_1 : decode cX2_chooses 1 = .ok (.aload_n 0, 1) := by decide +kernel
theorem dX2_chooses_2 : decode cX2_chooses 2 = .ok (.getfield 9, 3) := by decide +kernel
theorem dX2_chooses_5 : decode cX2_chooses 5 = .ok (.invokevirtual 25, 3) := by decide +kernel
theorem dX2_chooses_8 : decode cX2_chooses 8 = .ok (.ireturn, 1) := by decide +kernel
theorem dX2_takes_0 : decode cX2_takes 0 = .ok (.aload_n 0, 1) := by decide +kernel
theorem dX2_takes_1 : decode cX2_takes 1 = .ok (.dup, 1) := by decide +kernel
theorem dX2_takes_2 : decode cX2_takes 2 = .ok (.getfield 15, 3) := by decide +kernel
theorem dX2_takes_5 : decode cX2_takes 5 = .ok (.iconst 1, 1) := by decide +kernel
theorem dX2_takes_6 : decode cX2_takes 6 = .ok (.iadd, 1) := by decide +kernel
theorem dX2_takes_7 : decode cX2_takes 7 = .ok (.putfield 15, 3) := by decide +kernel
theorem dX2_takes_10 : decode cX2_takes 10 = .ok (.aload_n 0, 1) := by decide +kernel
theorem dX2_takes_11 : decode cX2_takes 11 = .ok (.dup, 1) := by decide +kernel
theorem dX2_takes_12 : decode cX2_takes 12 = .ok (.getfield 18, 3) := by decide +kernel
theorem dX2_takes_15 : decode cX2_takes 15 = .ok (.iload_n 2, 1) := by decide +kernel
theorem dX2_takes_16 : decode cX2_takes 16 = .ok (.i2l, 1) := by decide +kernel
theorem dX2_takes_17 : decode cX2_takes 17 = .ok (.lmul, 1) := by decide +kernel
theorem dX2_takes_18 : decode cX2_takes 18 = .ok (.putfield 18, 3) := by decide +kernel
theorem dX2_takes_21 : decode cX2_takes 21 = .ok (.aload_n 0, 1) := by decide +kernel
theorem dX2_takes_22 : decode cX2_takes 22 = .ok (.dup, 1) := by decide +kernel
theorem dX2_takes_23 : decode cX2_takes 23 = .ok (.getfield 22, 3) := by decide +kernel
theorem dX2_takes_26 : decode cX2_takes 26 = .ok (.iload_n 3, 1) := by decide +kernel
theorem dX2_takes_27 : decode cX2_takes 27 = .ok (.i2l, 1) := by decide +kernel
theorem dX2_takes_28 : decode cX2_takes 28 = .ok (.lmul, 1) := by decide +kernel
theorem dX2_takes_29 : decode cX2_takes 29 = .ok (.putfield 22, 3) := by decide +kernel
theorem dX2_takes_32 : decode cX2_takes 32 = .ok (.return_, 1) := by decide +kernel
theorem dX2_inLeastTerms_0 : decode cX2_inLeastTerms 0 = .ok (.aload_n 0, 1) := by decide +kernel
theorem dX2_inLeastTerms_1 : decode cX2_inLeastTerms 1 = .ok (.getfield 22, 3) := by decide +kernel
theorem dX2_inLeastTerms_4 : decode cX2_inLeastTerms 4 = .ok (.lstore_n 3, 1) := by decide +kernel
theorem dX2_inLeastTerms_5 : decode cX2_inLeastTerms 5 = .ok (.aload_n 0, 1) := by decide +kernel
theorem dX2_inLeastTerms_6 : decode cX2_inLeastTerms 6 = .ok (.getfield 18, 3) := by decide +kernel
theorem dX2_inLeastTerms_9 : decode cX2_inLeastTerms 9 = .ok (.lstore 5, 2) := by decide +kernel
theorem dX2_inLeastTerms_11 : decode cX2_inLeastTerms 11 = .ok (.iconst 0, 1) := by decide +kernel
theorem dX2_inLeastTerms_12 : decode cX2_inLeastTerms 12 = .ok (.istore 7, 2) := by decide +kernel
theorem dX2_inLeastTerms_14 : decode cX2_inLeastTerms 14 = .ok (.iload 7, 2) := by decide +kernel
theorem dX2_inLeastTerms_16 : decode cX2_inLeastTerms 16 = .ok (.bipush 64, 2) := by decide +kernel
theorem dX2_inLeastTerms_18 : decode cX2_inLeastTerms 18 = .ok (.if_icmp .ge 29, 3) := by decide +kernel
theorem dX2_inLeastTerms_21 : decode cX2_inLeastTerms 21 = .ok (.lload 5, 2) := by decide +kernel
theorem dX2_inLeastTerms_23 : decode cX2_inLeastTerms 23 = .ok (.lconst 0, 1) := by decide +kernel
theorem dX2_inLeastTerms_24 : decode cX2_inLeastTerms 24 = .ok (.lcmp, 1) := by decide +kernel
theorem dX2_inLeastTerms_25 : decode cX2_inLeastTerms 25 = .ok (.ifCond .eq 22, 3) := by decide +kernel
theorem dX2_inLeastTerms_28 : decode cX2_inLeastTerms 28 = .ok (.lload_n 3, 1) := by decide +kernel
theorem dX2_inLeastTerms_29 : decode cX2_inLeastTerms 29 = .ok (.lload 5, 2) := by decide +kernel
theorem dX2_inLeastTerms_31 : decode cX2_inLeastTerms 31 = .ok (.lrem, 1) := by decide +kernel
theorem dX2_inLeastTerms_32 : decode cX2_inLeastTerms 32 = .ok (.lstore 8, 2) := by decide +kernel
theorem dX2_inLeastTerms_34 : decode cX2_inLeastTerms 34 = .ok (.lload 5, 2) := by decide +kernel
theorem dX2_inLeastTerms_36 : decode cX2_inLeastTerms 36 = .ok (.lstore_n 3, 1) := by decide +kernel
theorem dX2_inLeastTerms_37 : decode cX2_inLeastTerms 37 = .ok (.lload 8, 2) := by decide +kernel
theorem dX2_inLeastTerms_39 : decode cX2_inLeastTerms 39 = .ok (.lstore 5, 2) := by decide +kernel
theorem dX2_inLeastTerms_41 : decode cX2_inLeastTerms 41 = .ok (.iinc 7 1, 3) := by decide +kernel
theorem dX2_inLeastTerms_44 : decode cX2_inLeastTerms 44 = .ok (.goto (-30), 3) := by decide +kernel
theorem dX2_inLeastTerms_47 : decode cX2_inLeastTerms 47 = .ok (.lload_n 3, 1) := by decide +kernel
theorem dX2_inLeastTerms_48 : decode cX2_inLeastTerms 48 = .ok (.lconst 0, 1) := by decide +kernel
theorem dX2_inLeastTerms_49 : decode cX2_inLeastTerms 49 = .ok (.lcmp, 1) := by decide +kernel
theorem dX2_inLeastTerms_50 : decode cX2_inLeastTerms 50 = .ok (.ifCond .ne 7, 3) := by decide +kernel
theorem dX2_inLeastTerms_53 : decode cX2_inLeastTerms 53 = .ok (.iconst 0, 1) := by decide +kernel
theorem dX2_inLeastTerms_54 : decode cX2_inLeastTerms 54 = .ok (.goto 7, 3) := by decide +kernel
theorem dX2_inLeastTerms_57 : decode cX2_inLeastTerms 57 = .ok (.lload_n 1, 1) := by decide +kernel
theorem dX2_inLeastTerms_58 : decode cX2_inLeastTerms 58 = .ok (.lload_n 3, 1) := by decide +kernel
theorem dX2_inLeastTerms_59 : decode cX2_inLeastTerms 59 = .ok (.ldiv, 1) := by decide +kernel
theorem dX2_inLeastTerms_60 : decode cX2_inLeastTerms 60 = .ok (.l2i, 1) := by decide +kernel
theorem dX2_inLeastTerms_61 : decode cX2_inLeastTerms 61 = .ok (.ireturn, 1) := by decide +kernel
theorem dX3_init_0 : decode cX3_init 0 = .ok (.aload_n 0, 1) := by decide +kernel
theorem dX3_init_1 : decode cX3_init 1 = .ok (.invokespecial 3, 3) := by decide +kernel
theorem dX3_init_4 : decode cX3_init 4 = .ok (.aload_n 0, 1) := by decide +kernel
theorem dX3_init_5 : decode cX3_init 5 = .ok (.new 9, 3) := by decide +kernel
theorem dX3_init_8 : decode cX3_init 8 = .ok (.dup, 1) := by decide +kernel
theorem dX3_init_9 : decode cX3_init 9 = .ok (.invokespecial 11, 3) := by decide +kernel
theorem dX3_init_12 : decode cX3_init 12 = .ok (.putfield 12, 3) := by decide +kernel
theorem dX3_init_15 : decode cX3_init 15 = .ok (.aload_n 0, 1) := by decide +kernel
theorem dX3_init_16 : decode cX3_init 16 = .ok (.new 18, 3) := by decide +kernel
theorem dX3_init_19 : decode cX3_init 19 = .ok (.dup, 1) := by decide +kernel
theorem dX3_init_20 : decode cX3_init 20 = .ok (.invokespecial 20, 3) := by decide +kernel
theorem dX3_init_23 : decode cX3_init 23 = .ok (.putfield 21, 3) := by decide +kernel
theorem dX3_init_26 : decode cX3_init 26 = .ok (.aload_n 0, 1) := by decide +kernel
theorem dX3_init_27 : decode cX3_init 27 = .ok (.new 25, 3) := by decide +kernel
theorem dX3_init_30 : decode cX3_init 30 = .ok (.dup, 1) := by decide +kernel
theorem dX3_init_31 : decode cX3_init 31 = .ok (.invokespecial 27, 3) := by decide +kernel
theorem dX3_init_34 : decode cX3_init 34 = .ok (.putfield 28, 3) := by decide +kernel
theorem dX3_init_37 : decode cX3_init 37 = .ok (.aload_n 0, 1) := by decide +kernel
theorem dX3_init_38 : decode cX3_init 38 = .ok (.new 32, 3) := by decide +kernel
theorem dX3_init_41 : decode cX3_init 41 = .ok (.dup, 1) := by decide +kernel
theorem dX3_init_42 : decode cX3_init 42 = .ok (.invokespecial 34, 3) := by decide +kernel
theorem dX3_init_45 : decode cX3_init 45 = .ok (.putfield 35, 3) := by decide +kernel
theorem dX3_init_48 : decode cX3_init 48 = .ok (.aload_n 0, 1) := by decide +kernel
theorem dX3_init_49 : decode cX3_init 49 = .ok (.iconst 0, 1) := by decide +kernel
theorem dX3_init_50 : decode cX3_init 50 = .ok (.putfield 39, 3) := by decide +kernel
theorem dX3_init_53 : decode cX3_init 53 = .ok (.aload_n 0, 1) := by decide +kernel
theorem dX3_init_54 : decode cX3_init 54 = .ok (.iconst 0, 1) := by decide +kernel
theorem dX3_init_55 : decode cX3_init 55 = .ok (.putfield 43, 3) := by decide +kernel
theorem dX3_init_58 : decode cX3_init 58 = .ok (.aload_n 0, 1) := by decide +kernel
theorem dX3_init_59 : decode cX3_init 59 = .ok (.iconst 0, 1) := by decide +kernel
theorem dX3_init_60 : decode cX3_init 60 = .ok (.putfield 46, 3) := by decide +kernel
theorem dX3_init_63 : decode cX3_init 63 = .ok (.return_, 1) := by decide +kernel
theorem dX3_startsLike_0 : decode cX3_startsLike 0 = .ok (.aload_n 0, 1) := by decide +kernel
theorem dX3_startsLike_1 : decode cX3_startsLike 1 = .ok (.getfield 12, 3) := by decide +kernel
theorem dX3_startsLike_4 : decode cX3_startsLike 4 = .ok (.aload_n 1, 1) := by decide +kernel
theorem dX3_startsLike_5 : decode cX3_startsLike 5 = .ok (.getfield 49, 3) := by decide +kernel
theorem dX3_startsLike_8 : decode cX3_startsLike 8 = .ok (.aload_n 1, 1) := by decide +kernel
theorem dX3_startsLike_9 : decode cX3_startsLike 9 = .ok (.getfield 52, 3) := by decide +kernel
theorem dX3_startsLike_12 : decode cX3_startsLike 12 = .ok (.aload_n 1, 1) := by decide +kernel
theorem dX3_startsLike_13 : decode cX3_startsLike 13 = .ok (.getfield 55, 3) := by decide +kernel
theorem dX3_startsLike_16 : decode cX3_startsLike 16 = .ok (.aload_n 1, 1) := by decide +kernel
theorem dX3_startsLike_17 : decode cX3_startsLike 17 = .ok (.getfield 58, 3) := by decide +kernel
theorem dX3_startsLike_20 : decode cX3_startsLike 20 = .ok (.invokevirtual 61, 3) := by decide +kernel
theorem dX3_startsLike_23 : decode cX3_startsLike 23 = .ok (.aload_n 0, 1) := by decide +kernel
theorem dX3_startsLike_24 : decode cX3_startsLike 24 = .ok (.invokevirtual 65, 3) := by decide +kernel
theorem dX3_startsLike_27 : decode cX3_startsLike 27 = .ok (.return_, 1) := by decide +kernel
theorem dX3_repacks_0 : decode cX3_repacks 0 = .ok (.aload_n 0, 1) := by decide +kernel
theorem dX3_repacks_1 : decode cX3_repacks 1 = .ok (.invokevirtual 65, 3) := by decide +kernel
theorem dX3_repacks_4 : decode cX3_repacks 4 = .ok (.aload_n 0, 1) := by decide +kernel
theorem dX3_repacks_5 : decode cX3_repacks 5 = .ok (.getfield 12, 3) := by decide +kernel
theorem dX3_repacks_8 : decode cX3_repacks 8 = .ok (.getfield 68, 3) := by decide +kernel
theorem dX3_repacks_11 : decode cX3_repacks 11 = .ok (.getfield 72, 3) := by decide +kernel
theorem dX3_repacks_14 : decode cX3_repacks 14 = .ok (.istore_n 1, 1) := by decide +kernel
theorem dX3_repacks_15 : decode cX3_repacks 15 = .ok (.iconst 0, 1) := by decide +kernel
theorem dX3_repacks_16 : decode cX3_repacks 16 = .ok (.istore_n 2, 1) := by decide +kernel
theorem dX3_repacks_17 : decode cX3_repacks 17 = .ok (.iload_n 2, 1) := by decide +kernel
theorem dX3_repacks_18 : decode cX3_repacks 18 = .ok (.iload_n 1, 1) := by decide +kernel
theorem dX3_repacks_19 : decode cX3_repacks 19 = .ok (.if_icmp .ge 14, 3) := by decide +kernel
theorem dX3_repacks_22 : decode cX3_repacks 22 = .ok (.aload_n 0, 1) := by decide +kernel
theorem dX3_repacks_23 : decode cX3_repacks 23 = .ok (.invokevirtual 77, 3) := by decide +kernel
theorem dX3_repacks_26 : decode cX3_repacks 26 = .ok (.pop, 1) := by decide +kernel
theorem dX3_repacks_27 : decode cX3_repacks 27 = .ok (.iinc 2 1, 3) := by decide +kernel
theorem dX3_repacks_30 : decode cX3_repacks 30 = .ok (.goto (-13), 3) := by decide +kernel
theorem dX3_repacks_33 : decode cX3_repacks 33 = .ok (.return_, 1) := by decide +kernel
theorem dX3_packsNext_0 : decode cX3_packsNext 0 = .ok (.aload_n 0, 1) := by decide +kernel
theorem dX3_packsNext_1 : decode cX3_packsNext 1 = .ok (.getfield 12, 3) := by decide +kernel
theorem dX3_packsNext_4 : decode cX3_packsNext 4 = .ok (.getfield 68, 3) := by decide +kernel
theorem dX3_packsNext_7 : decode cX3_packsNext 7 = .ok (.aload_n 0, 1) := by decide +kernel
theorem dX3_packsNext_8 : decode cX3_packsNext 8 = .ok (.getfield 39, 3) := by decide +kernel
theorem dX3_packsNext_11 : decode cX3_packsNext 11 = .ok (.invokevirtual 81, 3) := by decide +kernel
theorem dX3_packsNext_14 : decode cX3_packsNext 14 = .ok (.istore_n 1, 1) := by decide +kernel
theorem dX3_packsNext_15 : decode cX3_packsNext 15 = .ok (.aload_n 0, 1) := by decide +kernel
theorem dX3_packsNext_16 : decode cX3_packsNext 16 = .ok (.getfield 28, 3) := by decide +kernel
theorem dX3_packsNext_19 : decode cX3_packsNext 19 = .ok (.iload_n 1, 1) := by decide +kernel
theorem dX3_packsNext_20 : decode cX3_packsNext 20 = .ok (.invokevirtual 85, 3) := by decide +kernel
theorem dX3_packsNext_23 : decode cX3_packsNext 23 = .ok (.aload_n 0, 1) := by decide +kernel
theorem dX3_packsNext_24 : decode cX3_packsNext 24 = .ok (.aload_n 0, 1) := by decide +kernel
theorem dX3_packsNext_25 : decode cX3_packsNext 25 = .ok (.getfield 28, 3) := by decide +kernel
theorem dX3_packsNext_28 : decode cX3_packsNext 28 = .ok (.invokevirtual 89, 3) := by decide +kernel
theorem dX3_packsNext_31 : decode cX3_packsNext 31 = .ok (.istore_n 2, 1) := by decide +kernel
theorem dX3_packsNext_32 : decode cX3_packsNext 32 = .ok (.aload_n 0, 1) := by decide +kernel
theorem dX3_packsNext_33 : decode cX3_packsNext 33 = .ok (.iload_n 1, 1) := by decide +kernel
theorem dX3_packsNext_34 : decode cX3_packsNext 34 = .ok (.iload_n 2, 1) := by decide +kernel
theorem dX3_packsNext_35 : decode cX3_packsNext 35 = .ok (.invokevirtual 93, 3) := by decide +kernel
theorem dX3_packsNext_38 : decode cX3_packsNext 38 = .ok (.iload_n 2, 1) := by decide +kernel
theorem dX3_packsNext_39 : decode cX3_packsNext 39 = .ok (.ireturn, 1) := by decide +kernel
theorem dX3_readsNext_0 : decode cX3_readsNext 0 = .ok (.aload_n 0, 1) := by decide +kernel
theorem dX3_readsNext_1 : decode cX3_readsNext 1 = .ok (.aload_n 0, 1) := by decide +kernel
theorem dX3_readsNext_2 : decode cX3_readsNext 2 = .ok (.getfield 28, 3) := by decide +kernel
theorem dX3_readsNext_5 : decode cX3_readsNext 5 = .ok (.invokevirtual 89, 3) := by decide +kernel
theorem dX3_readsNext_8 : decode cX3_readsNext 8 = .ok (.istore_n 1, 1) := by decide +kernel
theorem dX3_readsNext_9 : decode cX3_readsNext 9 = .ok (.aload_n 0, 1) := by decide +kernel
theorem dX3_readsNext_10 : decode cX3_readsNext 10 = .ok (.getfield 46, 3) := by decide +kernel
theorem dX3_readsNext_13 : decode cX3_readsNext 13 = .ok (.istore_n 2, 1) := by decide +kernel
theorem dX3_readsNext_14 : decode cX3_readsNext 14 = .ok (.aload_n 0, 1) := by decide +kernel
theorem dX3_readsNext_15 : decode cX3_readsNext 15 = .ok (.getfield 12, 3) := by decide +kernel
theorem dX3_readsNext_18 : decode cX3_readsNext 18 = .ok (.getfield 68, 3) := by decide +kernel
theorem dX3_readsNext_21 : decode cX3_readsNext 21 = .ok (.iload_n 2, 1) := by decide +kernel
theorem dX3_readsNext_22 : decode cX3_readsNext 22 = .ok (.invokevirtual 97, 3) := by decide +kernel
theorem dX3_readsNext_25 : decode cX3_readsNext 25 = .ok (.aload_n 0, 1) := by decide +kernel
theorem dX3_readsNext_26 : decode cX3_readsNext 26 = .ok (.iload_n 2, 1) := by decide +kernel
theorem dX3_readsNext_27 : decode cX3_readsNext 27 = .ok (.iload_n 1, 1) := by decide +kernel
theorem dX3_readsNext_28 : decode cX3_readsNext 28 = .ok (.invokevirtual 93, 3) := by decide +kernel
theorem dX3_readsNext_31 : decode cX3_readsNext 31 = .ok (.iload_n 2, 1) := by decide +kernel
theorem dX3_readsNext_32 : decode cX3_readsNext 32 = .ok (.ireturn, 1) := by decide +kernel
theorem dX3_weighs_0 : decode cX3_weighs 0 = .ok (.aload_n 1, 1) := by decide +kernel
theorem dX3_weighs_1 : decode cX3_weighs 1 = .ok (.iload_n 2, 1) := by decide +kernel
theorem dX3_weighs_2 : decode cX3_weighs 2 = .ok (.invokevirtual 100, 3) := by decide +kernel
theorem dX3_weighs_5 : decode cX3_weighs 5 = .ok (.aload_n 0, 1) := by decide +kernel
theorem dX3_weighs_6 : decode cX3_weighs 6 = .ok (.aload_n 1, 1) := by decide +kernel
theorem dX3_weighs_7 : decode cX3_weighs 7 = .ok (.invokevirtual 89, 3) := by decide +kernel
theorem dX3_weighs_10 : decode cX3_weighs 10 = .ok (.ireturn, 1) := by decide +kernel
theorem dX3_descends_0 : decode cX3_descends 0 = .ok (.aload_n 0, 1) := by decide +kernel
theorem dX3_descends_1 : decode cX3_descends 1 = .ok (.getfield 35, 3) := by decide +kernel
theorem dX3_descends_4 : decode cX3_descends 4 = .ok (.invokevirtual 103, 3) := by decide +kernel
theorem dX3_descends_7 : decode cX3_descends 7 = .ok (.aload_n 0, 1) := by decide +kernel
theorem dX3_descends_8 : decode cX3_descends 8 = .ok (.invokevirtual 106, 3) := by decide +kernel
theorem dX3_descends_11 : decode cX3_descends 11 = .ok (.istore_n 2, 1) := by decide +kernel
theorem dX3_descends_12 : decode cX3_descends 12 = .ok (.iload_n 2, 1) := by decide +kernel
theorem dX3_descends_13 : decode cX3_descends 13 = .ok (.ifCond .lt 104, 3) := by decide +kernel
theorem dX3_descends_16 : decode cX3_descends 16 = .ok (.aload_n 0, 1) := by decide +kernel
theorem dX3_descends_17 : decode cX3_descends 17 = .ok (.getfield 35, 3) := by decide +kernel
theorem dX3_descends_20 : decode cX3_descends 20 = .ok (.aload_n 0, 1) := by decide +kernel
theorem dX3_descends_21 : decode cX3_descends 21 = .ok (.getfield 21, 3) := by decide +kernel
theorem dX3_descends_24 : decode cX3_descends 24 = .ok (.aload_n 0, 1) := by decide +kernel
theorem dX3_descends_25 : decode cX3_descends 25 = .ok (.getfield 12, 3) := by decide +kernel
theorem dX3_descends_28 : decode cX3_descends 28 = .ok (.aload_n 0, 1) := by decide +kernel
theorem dX3_descends_29 : decode cX3_descends 29 = .ok (.getfield 39, 3) := by decide +kernel
theorem dX3_descends_32 : decode cX3_descends 32 = .ok (.iload_n 2, 1) := by decide +kernel
theorem dX3_descends_33 : decode cX3_descends 33 = .ok (.invokevirtual 109, 3) := by decide +kernel
theorem dX3_descends_36 : decode cX3_descends 36 = .ok (.invokevirtual 113, 3) := by decide +kernel
theorem dX3_descends_39 : decode cX3_descends 39 = .ok (.aload_n 0, 1) := by decide +kernel
theorem dX3_descends_40 : decode cX3_descends 40 = .ok (.getfield 35, 3) := by decide +kernel
theorem dX3_descends_43 : decode cX3_descends 43 = .ok (.getfield 117, 3) := by decide +kernel
theorem dX3_descends_46 : decode cX3_descends 46 = .ok (.ifCond .le 65, 3) := by decide +kernel
theorem dX3_descends_49 : decode cX3_descends 49 = .ok (.aload_n 0, 1) := by decide +kernel
theorem dX3_descends_50 : decode cX3_descends 50 = .ok (.aload_n 1, 1) := by decide +kernel
theorem dX3_descends_51 : decode cX3_descends 51 = .ok (.aload_n 0, 1) := by decide +kernel
theorem dX3_descends_52 : decode cX3_descends 52 = .ok (.getfield 35, 3) := by decide +kernel
theorem dX3_descends_55 : decode cX3_descends 55 = .ok (.invokevirtual 120, 3) := by decide +kernel
theorem dX3_descends_58 : decode cX3_descends 58 = .ok (.putfield 46, 3) := by decide +kernel
theorem dX3_descends_61 : decode cX3_descends 61 = .ok (.aload_n 1, 1) := by decide +kernel
theorem dX3_descends_62 : decode cX3_descends 62 = .ok (.aload_n 0, 1) := by decide +kernel
theorem dX3_descends_63 : decode cX3_descends 63 = .ok (.getfield 35, 3) := by decide +kernel
theorem dX3_descends_66 : decode cX3_descends 66 = .ok (.aload_n 0, 1) := by decide +kernel
theorem dX3_descends_67 : decode cX3_descends 67 = .ok (.getfield 46, 3) := by decide +kernel
theorem dX3_descends_70 : decode cX3_descends 70 = .ok (.invokevirtual 126, 3) := by decide +kernel
theorem dX3_descends_73 : decode cX3_descends 73 = .ok (.aload_n 0, 1) := by decide +kernel
theorem dX3_descends_74 : decode cX3_descends 74 = .ok (.getfield 35, 3) := by decide +kernel
theorem dX3_descends_77 : decode cX3_descends 77 = .ok (.aload_n 0, 1) := by decide +kernel
theorem dX3_descends_78 : decode cX3_descends 78 = .ok (.getfield 46, 3) := by decide +kernel
theorem dX3_descends_81 : decode cX3_descends 81 = .ok (.invokevirtual 129, 3) := by decide +kernel
theorem dX3_descends_84 : decode cX3_descends 84 = .ok (.aload_n 0, 1) := by decide +kernel
theorem dX3_descends_85 : decode cX3_descends 85 = .ok (.getfield 35, 3) := by decide +kernel
theorem dX3_descends_88 : decode cX3_descends 88 = .ok (.getfield 117, 3) := by decide +kernel
theorem dX3_descends_91 : decode cX3_descends 91 = .ok (.invokevirtual 132, 3) := by decide +kernel
theorem dX3_descends_94 : decode cX3_descends 94 = .ok (.aload_n 0, 1) := by decide +kernel
theorem dX3_descends_95 : decode cX3_descends 95 = .ok (.getfield 46, 3) := by decide +kernel
theorem dX3_descends_98 : decode cX3_descends 98 = .ok (.iconst 4, 1) := by decide +kernel
theorem dX3_descends_99 : decode cX3_descends 99 = .ok (.if_icmp .eq 5, 3) := by decide +kernel
theorem dX3_descends_102 : decode cX3_descends 102 = .ok (.iload_n 2, 1) := by decide +kernel
theorem dX3_descends_103 : decode cX3_descends 103 = .ok (.ireturn, 1) := by decide +kernel
theorem dX3_descends_104 : decode cX3_descends 104 = .ok (.aload_n 0, 1) := by decide +kernel
theorem dX3_descends_105 : decode cX3_descends 105 = .ok (.getfield 35, 3) := by decide +kernel
theorem dX3_descends_108 : decode cX3_descends 108 = .ok (.invokevirtual 136, 3) := by decide +kernel
theorem dX3_descends_111 : decode cX3_descends 111 = .ok (.iinc 2 (-1), 3) := by decide +kernel
theorem dX3_descends_114 : decode cX3_descends 114 = .ok (.goto (-102), 3) := by decide +kernel
theorem dX3_descends_117 : decode cX3_descends 117 = .ok (.aload_n 0, 1) := by decide +kernel
theorem dX3_descends_118 : decode cX3_descends 118 = .ok (.getfield 35, 3) := by decide +kernel
theorem dX3_descends_121 : decode cX3_descends 121 = .ok (.aload_n 0, 1) := by decide +kernel
theorem dX3_descends_122 : decode cX3_descends 122 = .ok (.getfield 21, 3) := by decide +kernel
theorem dX3_descends_125 : decode cX3_descends 125 = .ok (.iconst (-1), 1) := by decide +kernel
theorem dX3_descends_126 : decode cX3_descends 126 = .ok (.invokevirtual 113, 3) := by decide +kernel
theorem dX3_descends_129 : decode cX3_descends 129 = .ok (.aload_n 0, 1) := by decide +kernel
theorem dX3_descends_130 : decode cX3_descends 130 = .ok (.aload_n 1, 1) := by decide +kernel
theorem dX3_descends_131 : decode cX3_descends 131 = .ok (.aload_n 0, 1) := by decide +kernel
theorem dX3_descends_132 : decode cX3_descends 132 = .ok (.getfield 35, 3) := by decide +kernel
theorem dX3_descends_135 : decode cX3_descends 135 = .ok (.invokevirtual 120, 3) := by decide +kernel
theorem dX3_descends_138 : decode cX3_descends 138 = .ok (.putfield 46, 3) := by decide +kernel
theorem dX3_descends_141 : decode cX3_descends 141 = .ok (.aload_n 1, 1) := by decide +kernel
theorem dX3_descends_142 : decode cX3_descends 142 = .ok (.aload_n 0, 1) := by decide +kernel
theorem dX3_descends_143 : decode cX3_descends 143 = .ok (.getfield 35, 3) := by decide +kernel
theorem dX3_descends_146 : decode cX3_descends 146 = .ok (.aload_n 0, 1) := by decide +kernel
theorem dX3_descends_147 : decode cX3_descends 147 = .ok (.getfield 46, 3) := by decide +kernel
theorem dX3_descends_150 : decode cX3_descends 150 = .ok (.invokevirtual 126, 3) := by decide +kernel
theorem dX3_descends_153 : decode cX3_descends 153 = .ok (.aload_n 0, 1) := by decide +kernel
theorem dX3_descends_154 : decode cX3_descends 154 = .ok (.getfield 35, 3) := by decide +kernel
theorem dX3_descends_157 : decode cX3_descends 157 = .ok (.aload_n 0, 1) := by decide +kernel
theorem dX3_descends_158 : decode cX3_descends 158 = .ok (.getfield 46, 3) := by decide +kernel
theorem dX3_descends_161 : decode cX3_descends 161 = .ok (.invokevirtual 129, 3) := by decide +kernel
theorem dX3_descends_164 : decode cX3_descends 164 = .ok (.aload_n 0, 1) := by decide +kernel
theorem dX3_descends_165 : decode cX3_descends 165 = .ok (.getfield 35, 3) := by decide +kernel
theorem dX3_descends_168 : decode cX3_descends 168 = .ok (.getfield 117, 3) := by decide +kernel
theorem dX3_descends_171 : decode cX3_descends 171 = .ok (.invokevirtual 132, 3) := by decide +kernel
theorem dX3_descends_174 : decode cX3_descends 174 = .ok (.iconst (-1), 1) := by decide +kernel
theorem dX3_descends_175 : decode cX3_descends 175 = .ok (.ireturn, 1) := by decide +kernel
theorem dX3_startsAnew_0 : decode cX3_startsAnew 0 = .ok (.aload_n 0, 1) := by decide +kernel
theorem dX3_startsAnew_1 : decode cX3_startsAnew 1 = .ok (.iconst 0, 1) := by decide +kernel
theorem dX3_startsAnew_2 : decode cX3_startsAnew 2 = .ok (.putfield 39, 3) := by decide +kernel
theorem dX3_startsAnew_5 : decode cX3_startsAnew 5 = .ok (.aload_n 0, 1) := by decide +kernel
theorem dX3_startsAnew_6 : decode cX3_startsAnew 6 = .ok (.iconst 0, 1) := by decide +kernel
theorem dX3_startsAnew_7 : decode cX3_startsAnew 7 = .ok (.putfield 43, 3) := by decide +kernel
theorem dX3_startsAnew_10 : decode cX3_startsAnew 10 = .ok (.aload_n 0, 1) := by decide +kernel
theorem dX3_startsAnew_11 : decode cX3_startsAnew 11 = .ok (.getfield 21, 3) := by decide +kernel
theorem dX3_startsAnew_14 : decode cX3_startsAnew 14 = .ok (.invokevirtual 139, 3) := by decide +kernel
theorem dX3_startsAnew_17 : decode cX3_startsAnew 17 = .ok (.aload_n 0, 1) := by decide +kernel
theorem dX3_startsAnew_18 : decode cX3_startsAnew 18 = .ok (.getfield 28, 3) := by decide +kernel
theorem dX3_startsAnew_21 : decode cX3_startsAnew 21 = .ok (.invokevirtual 142, 3) := by decide +kernel
theorem dX3_startsAnew_24 : decode cX3_startsAnew 24 = .ok (.return_, 1) := by decide +kernel
theorem dX3_longest_0 : decode cX3_longest 0 = .ok (.aload_n 0, 1) := by decide +kernel
theorem dX3_longest_1 : decode cX3_longest 1 = .ok (.getfield 12, 3) := by decide +kernel
theorem dX3_longest_4 : decode cX3_longest 4 = .ok (.getfield 49, 3) := by decide +kernel
theorem dX3_longest_7 : decode cX3_longest 7 = .ok (.aload_n 0, 1) := by decide +kernel
theorem dX3_longest_8 : decode cX3_longest 8 = .ok (.getfield 39, 3) := by decide +kernel
theorem dX3_longest_11 : decode cX3_longest 11 = .ok (.invokestatic 145, 3) := by decide +kernel
theorem dX3_longest_14 : decode cX3_longest 14 = .ok (.ireturn, 1) := by decide +kernel
theorem dX3_learns_0 : decode cX3_learns 0 = .ok (.aload_n 0, 1) := by decide +kernel
theorem dX3_learns_1 : decode cX3_learns 1 = .ok (.invokevirtual 106, 3) := by decide +kernel
theorem dX3_learns_4 : decode cX3_learns 4 = .ok (.istore_n 3, 1) := by decide +kernel
theorem dX3_learns_5 : decode cX3_learns 5 = .ok (.iload_n 2, 1) := by decide +kernel
theorem dX3_learns_6 : decode cX3_learns 6 = .ok (.iconst 0, 1) := by decide +kernel
theorem dX3_learns_7 : decode cX3_learns 7 = .ok (.invokestatic 150, 3) := by decide +kernel
theorem dX3_learns_10 : decode cX3_learns 10 = .ok (.istore 4, 2) := by decide +kernel
theorem dX3_learns_12 : decode cX3_learns 12 = .ok (.iload 4, 2) := by decide +kernel
theorem dX3_learns_14 : decode cX3_learns 14 = .ok (.iload_n 3, 1) := by decide +kernel
theorem dX3_learns_15 : decode cX3_learns 15 = .ok (.if_icmp .gt 37, 3) := by decide +kernel
theorem dX3_learns_18 : decode cX3_learns 18 = .ok (.aload_n 0, 1) := by decide +kernel
theorem dX3_learns_19 : decode cX3_learns 19 = .ok (.getfield 21, 3) := by decide +kernel
theorem dX3_learns_22 : decode cX3_learns 22 = .ok (.aload_n 0, 1) := by decide +kernel
theorem dX3_learns_23 : decode cX3_learns 23 = .ok (.getfield 12, 3) := by decide +kernel
theorem dX3_learns_26 : decode cX3_learns 26 = .ok (.aload_n 0, 1) := by decide +kernel
theorem dX3_learns_27 : decode cX3_learns 27 = .ok (.getfield 39, 3) := by decide +kernel
theorem dX3_learns_30 : decode cX3_learns 30 = .ok (.iload 4, 2) := by decide +kernel
theorem dX3_learns_32 : decode cX3_learns 32 = .ok (.invokevirtual 109, 3) := by decide +kernel
theorem dX3_learns_35 : decode cX3_learns 35 = .ok (.iload_n 1, 1) := by decide +kernel
theorem dX3_learns_36 : decode cX3_learns 36 = .ok (.aload_n 0, 1) := by decide +kernel
theorem dX3_learns_37 : decode cX3_learns 37 = .ok (.getfield 12, 3) := by decide +kernel
theorem dX3_learns_40 : decode cX3_learns 40 = .ok (.getfield 52, 3) := by decide +kernel
theorem dX3_learns_43 : decode cX3_learns 43 = .ok (.invokevirtual 153, 3) := by decide +kernel
theorem dX3_learns_46 : decode cX3_learns 46 = .ok (.iinc 4 1, 3) := by decide +kernel
theorem dX3_learns_49 : decode cX3_learns 49 = .ok (.goto (-37), 3) := by decide +kernel
theorem dX3_learns_52 : decode cX3_learns 52 = .ok (.aload_n 0, 1) := by decide +kernel
theorem dX3_learns_53 : decode cX3_learns 53 = .ok (.dup, 1) := by decide +kernel
theorem dX3_learns_54 : decode cX3_learns 54 = .ok (.getfield 39, 3) := by decide +kernel
theorem dX3_learns_57 : decode cX3_learns 57 = .ok (.iconst 1, 1) := by decide +kernel
theorem dX3_learns_58 : decode cX3_learns 58 = .ok (.iadd, 1) := by decide +kernel
theorem dX3_learns_59 : decode cX3_learns 59 = .ok (.putfield 39, 3) := by decide +kernel
theorem dX3_learns_62 : decode cX3_learns 62 = .ok (.aload_n 0, 1) := by decide +kernel
theorem dX3_learns_63 : decode cX3_learns 63 = .ok (.getfield 21, 3) := by decide +kernel
theorem dX3_learns_66 : decode cX3_learns 66 = .ok (.getfield 156, 3) := by decide +kernel
theorem dX3_learns_69 : decode cX3_learns 69 = .ok (.aload_n 0, 1) := by decide +kernel
theorem dX3_learns_70 : decode cX3_learns 70 = .ok (.getfield 12, 3) := by decide +kernel
theorem dX3_learns_73 : decode cX3_learns 73 = .ok (.getfield 55, 3) := by decide +kernel
theorem dX3_learns_76 : decode cX3_learns 76 = .ok (.if_icmp .le 7, 3) := by decide +kernel
theorem dX3_learns_79 : decode cX3_learns 79 = .ok (.aload_n 0, 1) := by decide +kernel
theorem dX3_learns_80 : decode cX3_learns 80 = .ok (.invokevirtual 159, 3) := by decide +kernel
theorem dX3_learns_83 : decode cX3_learns 83 = .ok (.return_, 1) := by decide +kernel
theorem dX3_forgets_0 : decode cX3_forgets 0 = .ok (.aload_n 0, 1) := by decide +kernel
theorem dX3_forgets_1 : decode cX3_forgets 1 = .ok (.dup, 1) := by decide +kernel
theorem dX3_forgets_2 : decode cX3_forgets 2 = .ok (.getfield 43, 3) := by decide +kernel
theorem dX3_forgets_5 : decode cX3_forgets 5 = .ok (.iconst 1, 1) := by decide +kernel
theorem dX3_forgets_6 : decode cX3_forgets 6 = .ok (.iadd, 1) := by decide +kernel
theorem dX3_forgets_7 : decode cX3_forgets 7 = .ok (.putfield 43, 3) := by decide +kernel
theorem dX3_forgets_10 : decode cX3_forgets 10 = .ok (.aload_n 0, 1) := by decide +kernel
theorem dX3_forgets_11 : decode cX3_forgets 11 = .ok (.getfield 21, 3) := by decide +kernel
theorem dX3_forgets_14 : decode cX3_forgets 14 = .ok (.invokevirtual 139, 3) := by decide +kernel
theorem dX3_forgets_17 : decode cX3_forgets 17 = .ok (.aload_n 0, 1) := by decide +kernel
theorem dX3_forgets_18 : decode cX3_forgets 18 = .ok (.getfield 39, 3) := by decide +kernel
theorem dX3_forgets_21 : decode cX3_forgets 21 = .ok (.aload_n 0, 1) := by decide +kernel
theorem dX3_forgets_22 : decode cX3_forgets 22 = .ok (.getfield 12, 3) := by decide +kernel
theorem dX3_forgets_25 : decode cX3_forgets 25 = .ok (.getfield 58, 3) := by decide +kernel
theorem dX3_forgets_28 : decode cX3_forgets 28 = .ok (.isub, 1) := by decide +kernel
theorem dX3_forgets_29 : decode cX3_forgets 29 = .ok (.iconst 0, 1) := by decide +kernel
theorem dX3_forgets_30 : decode cX3_forgets 30 = .ok (.invokestatic 150, 3) := by decide +kernel
theorem dX3_forgets_33 : decode cX3_forgets 33 = .ok (.istore_n 1, 1) := by decide +kernel
theorem dX3_forgets_34 : decode cX3_forgets 34 = .ok (.iload_n 1, 1) := by decide +kernel
theorem dX3_forgets_35 : decode cX3_forgets 35 = .ok (.istore_n 2, 1) := by decide +kernel
theorem dX3_forgets_36 : decode cX3_forgets 36 = .ok (.iload_n 2, 1) := by decide +kernel
theorem dX3_forgets_37 : decode cX3_forgets 37 = .ok (.aload_n 0, 1) := by decide +kernel
theorem dX3_forgets_38 : decode cX3_forgets 38 = .ok (.getfield 39, 3) := by decide +kernel
theorem dX3_forgets_41 : decode cX3_forgets 41 = .ok (.if_icmp .ge 73, 3) := by decide +kernel
theorem dX3_forgets_44 : decode cX3_forgets 44 = .ok (.aload_n 0, 1) := by decide +kernel
theorem dX3_forgets_45 : decode cX3_forgets 45 = .ok (.getfield 12, 3) := by decide +kernel
theorem dX3_forgets_48 : decode cX3_forgets 48 = .ok (.getfield 49, 3) := by decide +kernel
theorem dX3_forgets_51 : decode cX3_forgets 51 = .ok (.iload_n 2, 1) := by decide +kernel
theorem dX3_forgets_52 : decode cX3_forgets 52 = .ok (.iload_n 1, 1) := by decide +kernel
theorem dX3_forgets_53 : decode cX3_forgets 53 = .ok (.isub, 1) := by decide +kernel
theorem dX3_forgets_54 : decode cX3_forgets 54 = .ok (.invokestatic 145, 3) := by decide +kernel
theorem dX3_forgets_57 : decode cX3_forgets 57 = .ok (.istore_n 3, 1) := by decide +kernel
theorem dX3_forgets_58 : decode cX3_forgets 58 = .ok (.iconst 0, 1) := by decide +kernel
theorem dX3_forgets_59 : decode cX3_forgets 59 = .ok (.istore 4, 2) := by decide +kernel
theorem dX3_forgets_61 : decode cX3_forgets 61 = .ok (.iload 4, 2) := by decide +kernel
theorem dX3_forgets_63 : decode cX3_forgets 63 = .ok (.iload_n 3, 1) := by decide +kernel
theorem dX3_forgets_64 : decode cX3_forgets 64 = .ok (.if_icmp .gt 44, 3) := by decide +kernel
theorem dX3_forgets_67 : decode cX3_forgets 67 = .ok (.aload_n 0, 1) := by decide +kernel
theorem dX3_forgets_68 : decode cX3_forgets 68 = .ok (.getfield 21, 3) := by decide +kernel
theorem dX3_forgets_71 : decode cX3_forgets 71 = .ok (.aload_n 0, 1) := by decide +kernel
theorem dX3_forgets_72 : decode cX3_forgets 72 = .ok (.getfield 12, 3) := by decide +kernel
theorem dX3_forgets_75 : decode cX3_forgets 75 = .ok (.iload_n 2, 1) := by decide +kernel
theorem dX3_forgets_76 : decode cX3_forgets 76 = .ok (.iload 4, 2) := by decide +kernel
theorem dX3_forgets_78 : decode cX3_forgets 78 = .ok (.invokevirtual 109, 3) := by decide +kernel
theorem dX3_forgets_81 : decode cX3_forgets 81 = .ok (.aload_n 0, 1) := by decide +kernel
theorem dX3_forgets_82 : decode cX3_forgets 82 = .ok (.getfield 12, 3) := by decide +kernel
theorem dX3_forgets_85 : decode cX3_forgets 85 = .ok (.getfield 68, 3) := by decide +kernel
theorem dX3_forgets_88 : decode cX3_forgets 88 = .ok (.iload_n 2, 1) := by decide +kernel
theorem dX3_forgets_89 : decode cX3_forgets 89 = .ok (.invokevirtual 81, 3) := by decide +kernel
theorem dX3_forgets_92 : decode cX3_forgets 92 = .ok (.aload_n 0, 1) := by decide +kernel
theorem dX3_forgets_93 : decode cX3_forgets 93 = .ok (.getfield 12, 3) := by decide +kernel
theorem dX3_forgets_96 : decode cX3_forgets 96 = .ok (.getfield 52, 3) := by decide +kernel
theorem dX3_forgets_99 : decode cX3_forgets 99 = .ok (.invokevirtual 153, 3) := by decide +kernel
theorem dX3_forgets_102 : decode cX3_forgets 102 = .ok (.iinc 4 1, 3) := by decide +kernel
theorem dX3_forgets_105 : decode cX3_forgets 105 = .ok (.goto (-44), 3) := by decide +kernel
theorem dX3_forgets_108 : decode cX3_forgets 108 = .ok (.iinc 2 1, 3) := by decide +kernel
theorem dX3_forgets_111 : decode cX3_forgets 111 = .ok (.goto (-75), 3) := by decide +kernel
theorem dX3_forgets_114 : decode cX3_forgets 114 = .ok (.return_, 1) := by decide +kernel
theorem dX4_init_0 : decode cX4_init 0 = .ok (.aload_n 0, 1) := by decide +kernel
theorem dX4_init_1 : decode cX4_init 1 = .ok (.invokespecial 3, 3) := by decide +kernel
theorem dX4_init_4 : decode cX4_init 4 = .ok (.aload_n 0, 1) := by decide +kernel
theorem dX4_init_5 : decode cX4_init 5 = .ok (.iconst 2, 1) := by decide +kernel
theorem dX4_init_6 : decode cX4_init 6 = .ok (.putfield 9, 3) := by decide +kernel
theorem dX4_init_9 : decode cX4_init 9 = .ok (.aload_n 0, 1) := by decide +kernel
theorem dX4_init_10 : decode cX4_init 10 = .ok (.bipush 7, 2) := by decide +kernel
theorem dX4_init_12 : decode cX4_init 12 = .ok (.putfield 15, 3) := by decide +kernel
theorem dX4_init_15 : decode cX4_init 15 = .ok (.aload_n 0, 1) := by decide +kernel
theorem dX4_init_16 : decode cX4_init 16 = .ok (.bipush 24, 2) := by decide +kernel
theorem dX4_init_18 : decode cX4_init 18 = .ok (.putfield 18, 3) := by decide +kernel
theorem dX4_init_21 : decode cX4_init 21 = .ok (.aload_n 0, 1) := by decide +kernel
theorem dX4_init_22 : decode cX4_init 22 = .ok (.iconst 4, 1) := by decide +kernel
theorem dX4_init_23 : decode cX4_init 23 = .ok (.putfield 21, 3) := by decide +kernel
theorem dX4_init_26 : decode cX4_init 26 = .ok (.aload_n 0, 1) := by decide +kernel
theorem dX4_init_27 : decode cX4_init 27 = .ok (.new 24, 3) := by decide +kernel
theorem dX4_init_30 : decode cX4_init 30 = .ok (.dup, 1) := by decide +kernel
theorem dX4_init_31 : decode cX4_init 31 = .ok (.bipush 60, 2) := by decide +kernel
theorem dX4_init_33 : decode cX4_init 33 = .ok (.invokespecial 26, 3) := by decide +kernel
theorem dX4_init_36 : decode cX4_init 36 = .ok (.putfield 29, 3) := by decide +kernel
theorem dX4_init_39 : decode cX4_init 39 = .ok (.return_, 1) := by decide +kernel
theorem dX4_setsOut_0 : decode cX4_setsOut 0 = .ok (.aload_n 0, 1) := by decide +kernel
theorem dX4_setsOut_1 : decode cX4_setsOut 1 = .ok (.iload_n 1, 1) := by decide +kernel
theorem dX4_setsOut_2 : decode cX4_setsOut 2 = .ok (.putfield 9, 3) := by decide +kernel
theorem dX4_setsOut_5 : decode cX4_setsOut 5 = .ok (.aload_n 0, 1) := by decide +kernel
theorem dX4_setsOut_6 : decode cX4_setsOut 6 = .ok (.iload_n 2, 1) := by decide +kernel
theorem dX4_setsOut_7 : decode cX4_setsOut 7 = .ok (.putfield 15, 3) := by decide +kernel
theorem dX4_setsOut_10 : decode cX4_setsOut 10 = .ok (.aload_n 0, 1) := by decide +kernel
theorem dX4_setsOut_11 : decode cX4_setsOut 11 = .ok (.iload_n 3, 1) := by decide +kernel
theorem dX4_setsOut_12 : decode cX4_setsOut 12 = .ok (.putfield 18, 3) := by decide +kernel
theorem dX4_setsOut_15 : decode cX4_setsOut 15 = .ok (.aload_n 0, 1) := by decide +kernel
theorem dX4_setsOut_16 : decode cX4_setsOut 16 = .ok (.iload 4, 2) := by decide +kernel
theorem dX4_setsOut_18 : decode cX4_setsOut 18 = .ok (.putfield 21, 3) := by decide +kernel
theorem dX4_setsOut_21 : decode cX4_setsOut 21 = .ok (.aload_n 0, 1) := by decide +kernel
theorem dX4_setsOut_22 : decode cX4_setsOut 22 = .ok (.getfield 29, 3) := by decide +kernel
theorem dX4_setsOut_25 : decode cX4_setsOut 25 = .ok (.iconst 0, 1) := by decide +kernel
theorem dX4_setsOut_26 : decode cX4_setsOut 26 = .ok (.invokevirtual 33, 3) := by decide +kernel
theorem dX4_setsOut_29 : decode cX4_setsOut 29 = .ok (.return_, 1) := by decide +kernel
theorem dX4_becomes_0 : decode cX4_becomes 0 = .ok (.aload_n 0, 1) := by decide +kernel
theorem dX4_becomes_1 : decode cX4_becomes 1 = .ok (.aload_n 1, 1) := by decide +kernel
theorem dX4_becomes_2 : decode cX4_becomes 2 = .ok (.getfield 9, 3) := by decide +kernel
theorem dX4_becomes_5 : decode cX4_becomes 5 = .ok (.aload_n 1, 1) := by decide +kernel
theorem dX4_becomes_6 : decode cX4_becomes 6 = .ok (.getfield 15, 3) := by decide +kernel
theorem dX4_becomes_9 : decode cX4_becomes 9 = .ok (.aload_n 1, 1) := by decide +kernel
theorem dX4_becomes_10 : decode cX4_becomes 10 = .ok (.getfield 18, 3) := by decide +kernel
theorem dX4_becomes_13 : decode cX4_becomes 13 = .ok (.aload_n 1, 1) := by decide +kernel
theorem dX4_becomes_14 : decode cX4_becomes 14 = .ok (.getfield 21, 3) := by decide +kernel
theorem dX4_becomes_17 : decode cX4_becomes 17 = .ok (.invokevirtual 36, 3) := by decide +kernel
theorem dX4_becomes_20 : decode cX4_becomes 20 = .ok (.aload_n 0, 1) := by decide +kernel
theorem dX4_becomes_21 : decode cX4_becomes 21 = .ok (.getfield 29, 3) := by decide +kernel
theorem dX4_becomes_24 : decode cX4_becomes 24 = .ok (.aload_n 1, 1) := by decide +kernel
theorem dX4_becomes_25 : decode cX4_becomes 25 = .ok (.getfield 29, 3) := by decide +kernel
theorem dX4_becomes_28 : decode cX4_becomes 28 = .ok (.invokevirtual 40, 3) := by decide +kernel
theorem dX4_becomes_31 : decode cX4_becomes 31 = .ok (.return_, 1) := by decide +kernel
theorem dX4_contextAhead_0 : decode cX4_contextAhead 0 = .ok (.iconst 0, 1) := by decide +kernel
theorem dX4_contextAhead_1 : decode cX4_contextAhead 1 = .ok (.istore_n 3, 1) := by decide +kernel
theorem dX4_contextAhead_2 : decode cX4_contextAhead 2 = .ok (.iload_n 1, 1) := by decide +kernel
theorem dX4_contextAhead_3 : decode cX4_contextAhead 3 = .ok (.iload_n 2, 1) := by decide +kernel
theorem dX4_contextAhead_4 : decode cX4_contextAhead 4 = .ok (.isub, 1) := by decide +kernel
theorem dX4_contextAhead_5 : decode cX4_contextAhead 5 = .ok (.istore 4, 2) := by decide +kernel
theorem dX4_contextAhead_7 : decode cX4_contextAhead 7 = .ok (.iload 4, 2) := by decide +kernel
theorem dX4_contextAhead_9 : decode cX4_contextAhead 9 = .ok (.iload_n 1, 1) := by decide +kernel
theorem dX4_contextAhead_10 : decode cX4_contextAhead 10 = .ok (.if_icmp .ge 23, 3) := by decide +kernel
theorem dX4_contextAhead_13 : decode cX4_contextAhead 13 = .ok (.iload_n 3, 1) := by decide +kernel
theorem dX4_contextAhead_14 : decode cX4_contextAhead 14 = .ok (.aload_n 0, 1) := by decide +kernel
theorem dX4_contextAhead_15 : decode cX4_contextAhead 15 = .ok (.getfield 29, 3) := by decide +kernel
theorem dX4_contextAhead_18 : decode cX4_contextAhead 18 = .ok (.iload 4, 2) := by decide +kernel
theorem dX4_contextAhead_20 : decode cX4_contextAhead 20 = .ok (.invokevirtual 44, 3) := by decide +kernel
theorem dX4_contextAhead_23 : decode cX4_contextAhead 23 = .ok (.invokestatic 48, 3) := by decide +kernel
theorem dX4_contextAhead_26 : decode cX4_contextAhead 26 = .ok (.istore_n 3, 1) := by decide +kernel
theorem dX4_contextAhead_27 : decode cX4_contextAhead 27 = .ok (.iinc 4 1, 3) := by decide +kernel
theorem dX4_contextAhead_30 : decode cX4_contextAhead 30 = .ok (.goto (-23), 3) := by decide +kernel
theorem dX4_contextAhead_33 : decode cX4_contextAhead 33 = .ok (.iload_n 3, 1) := by decide +kernel
theorem dX4_contextAhead_34 : decode cX4_contextAhead 34 = .ok (.ireturn, 1) := by decide +kernel
theorem dX5_init_0 : decode cX5_init 0 = .ok (.aload_n 0, 1) := by decide +kernel
theorem dX5_init_1 : decode cX5_init 1 = .ok (.invokespecial 3, 3) := by decide +kernel
theorem dX5_init_4 : decode cX5_init 4 = .ok (.aload_n 0, 1) := by decide +kernel
theorem dX5_init_5 : decode cX5_init 5 = .ok (.new 9, 3) := by decide +kernel
theorem dX5_init_8 : decode cX5_init 8 = .ok (.dup, 1) := by decide +kernel
theorem dX5_init_9 : decode cX5_init 9 = .ok (.sipush 722, 3) := by decide +kernel
theorem dX5_init_12 : decode cX5_init 12 = .ok (.invokespecial 11, 3) := by decide +kernel
theorem dX5_init_15 : decode cX5_init 15 = .ok (.putfield 14, 3) := by decide +kernel
theorem dX5_init_18 : decode cX5_init 18 = .ok (.aload_n 0, 1) := by decide +kernel
theorem dX5_init_19 : decode cX5_init 19 = .ok (.iconst 0, 1) := by decide +kernel
theorem dX5_init_20 : decode cX5_init 20 = .ok (.putfield 20, 3) := by decide +kernel
theorem dX5_init_23 : decode cX5_init 23 = .ok (.aload_n 0, 1) := by decide +kernel
theorem dX5_init_24 : decode cX5_init 24 = .ok (.ldc 24, 2) := by decide +kernel
theorem dX5_init_26 : decode cX5_init 26 = .ok (.putfield 25, 3) := by decide +kernel
theorem dX5_init_29 : decode cX5_init 29 = .ok (.aload_n 0, 1) := by decide +kernel
theorem dX5_init_30 : decode cX5_init 30 = .ok (.iconst 0, 1) := by decide +kernel
theorem dX5_init_31 : decode cX5_init 31 = .ok (.putfield 28, 3) := by decide +kernel
theorem dX5_init_34 : decode cX5_init 34 = .ok (.aload_n 0, 1) := by decide +kernel
theorem dX5_init_35 : decode cX5_init 35 = .ok (.iconst 0, 1) := by decide +kernel
theorem dX5_init_36 : decode cX5_init 36 = .ok (.putfield 31, 3) := by decide +kernel
theorem dX5_init_39 : decode cX5_init 39 = .ok (.aload_n 0, 1) := by decide +kernel
theorem dX5_init_40 : decode cX5_init 40 = .ok (.iconst 0, 1) := by decide +kernel
theorem dX5_init_41 : decode cX5_init 41 = .ok (.putfield 34, 3) := by decide +kernel
theorem dX5_init_44 : decode cX5_init 44 = .ok (.aload_n 0, 1) := by decide +kernel
theorem dX5_init_45 : decode cX5_init 45 = .ok (.iconst 0, 1) := by decide +kernel
theorem dX5_init_46 : decode cX5_init 46 = .ok (.putfield 38, 3) := by decide +kernel
theorem dX5_init_49 : decode cX5_init 49 = .ok (.aload_n 0, 1) := by decide +kernel
theorem dX5_init_50 : decode cX5_init 50 = .ok (.iconst 0, 1) := by decide +kernel
theorem dX5_init_51 : decode cX5_init 51 = .ok (.putfield 41, 3) := by decide +kernel
theorem dX5_init_54 : decode cX5_init 54 = .ok (.return_, 1) := by decide +kernel
theorem dX5_startsWriting_0 : decode cX5_startsWriting 0 = .ok (.aload_n 0, 1) := by decide +kernel
theorem dX5_startsWriting_1 : decode cX5_startsWriting 1 = .ok (.getfield 14, 3) := by decide +kernel
theorem dX5_startsWriting_4 : decode cX5_startsWriting 4 = .ok (.iconst 0, 1) := by decide +kernel
theorem dX5_startsWriting_5 : decode cX5_startsWriting 5 = .ok (.invokevirtual 44, 3) := by decide +kernel
theorem dX5_startsWriting_8 : decode cX5_startsWriting 8 = .ok (.aload_n 0, 1) := by decide +kernel
theorem dX5_startsWriting_9 : decode cX5_startsWriting 9 = .ok (.invokevirtual 47, 3) := by decide +kernel
theorem dX5_startsWriting_12 : decode cX5_startsWriting 12 = .ok (.aload_n 0, 1) := by decide +kernel
theorem dX5_startsWriting_13 : decode cX5_startsWriting 13 = .ok (.iconst 0, 1) := by decide +kernel
theorem dX5_startsWriting_14 : decode cX5_startsWriting 14 = .ok (.putfield 34, 3) := by decide +kernel
theorem dX5_startsWriting_17 : decode cX5_startsWriting 17 = .ok (.return_, 1) := by decide +kernel
theorem dX5_startsReading_0 : decode cX5_startsReading 0 = .ok (.aload_n 0, 1) := by decide +kernel
theorem dX5_startsReading_1 : decode cX5_startsReading 1 = .ok (.invokevirtual 47, 3) := by decide +kernel
theorem dX5_startsReading_4 : decode cX5_startsReading 4 = .ok (.aload_n 0, 1) := by decide +kernel
theorem dX5_startsReading_5 : decode cX5_startsReading 5 = .ok (.iconst 1, 1) := by decide +kernel
theorem dX5_startsReading_6 : decode cX5_startsReading 6 = .ok (.putfield 34, 3) := by decide +kernel
theorem dX5_startsReading_9 : decode cX5_startsReading 9 = .ok (.aload_n 0, 1) := by decide +kernel
theorem dX5_startsReading_10 : decode cX5_startsReading 10 = .ok (.iconst 0, 1) := by decide +kernel
theorem dX5_startsReading_11 : decode cX5_startsReading 11 = .ok (.putfield 38, 3) := by decide +kernel
theorem dX5_startsReading_14 : decode cX5_startsReading 14 = .ok (.iconst 0, 1) := by decide +kernel
theorem dX5_startsReading_15 : decode cX5_startsReading 15 = .ok (.istore_n 1, 1) := by decide +kernel
theorem dX5_startsReading_16 : decode cX5_startsReading 16 = .ok (.iload_n 1, 1) := by decide +kernel
theorem dX5_startsReading_17 : decode cX5_startsReading 17 = .ok (.bipush 16, 2) := by decide +kernel
theorem dX5_startsReading_19 : decode cX5_startsReading 19 = .ok (.if_icmp .ge 28, 3) := by decide +kernel
theorem dX5_startsReading_22 : decode cX5_startsReading 22 = .ok (.aload_n 0, 1) := by decide +kernel
theorem dX5_startsReading_23 : decode cX5_startsReading 23 = .ok (.iconst 2, 1) := by decide +kernel
theorem dX5_startsReading_24 : decode cX5_startsReading 24 = .ok (.aload_n 0, 1) := by decide +kernel
theorem dX5_startsReading_25 : decode cX5_startsReading 25 = .ok (.getfield 38, 3) := by decide +kernel
theorem dX5_startsReading_28 : decode cX5_startsReading 28 = .ok (.imul, 1) := by decide +kernel
theorem dX5_startsReading_29 : decode cX5_startsReading 29 = .ok (.aload_n 0, 1) := by decide +kernel
theorem dX5_startsReading_30 : decode cX5_startsReading 30 = .ok (.getfield 14, 3) := by decide +kernel
theorem dX5_startsReading_33 : decode cX5_startsReading 33 = .ok (.iload_n 1, 1) := by decide +kernel
theorem dX5_startsReading_34 : decode cX5_startsReading 34 = .ok (.invokevirtual 50, 3) := by decide +kernel
theorem dX5_startsReading_37 : decode cX5_startsReading 37 = .ok (.iadd, 1) := by decide +kernel
theorem dX5_startsReading_38 : decode cX5_startsReading 38 = .ok (.putfield 38, 3) := by decide +kernel
theorem dX5_startsReading_41 : decode cX5_startsReading 41 = .ok (.iinc 1 1, 3) := by decide +kernel
theorem dX5_startsReading_44 : decode cX5_startsReading 44 = .ok (.goto (-28), 3) := by decide +kernel
theorem dX5_startsReading_47 : decode cX5_startsReading 47 = .ok (.aload_n 0, 1) := by decide +kernel
theorem dX5_startsReading_48 : decode cX5_startsReading 48 = .ok (.bipush 16, 2) := by decide +kernel
theorem dX5_startsReading_50 : decode cX5_startsReading 50 = .ok (.putfield 41, 3) := by decide +kernel
theorem dX5_startsReading_53 : decode cX5_startsReading 53 = .ok (.return_, 1) := by decide +kernel
theorem dX5_endsLike_0 : decode cX5_endsLike 0 = .ok (.aload_n 0, 1) := by decide +kernel
theorem dX5_endsLike_1 : decode cX5_endsLike 1 = .ok (.getfield 14, 3) := by decide +kernel
theorem dX5_endsLike_4 : decode cX5_endsLike 4 = .ok (.aload_n 1, 1) := by decide +kernel
theorem dX5_endsLike_5 : decode cX5_endsLike 5 = .ok (.getfield 14, 3) := by decide +kernel
theorem dX5_endsLike_8 : decode cX5_endsLike 8 = .ok (.invokevirtual 54, 3) := by decide +kernel
theorem dX5_endsLike_11 : decode cX5_endsLike 11 = .ok (.aload_n 0, 1) := by decide +kernel
theorem dX5_endsLike_12 : decode cX5_endsLike 12 = .ok (.iconst 0, 1) := by decide +kernel
theorem dX5_endsLike_13 : decode cX5_endsLike 13 = .ok (.putfield 34, 3) := by decide +kernel
theorem dX5_endsLike_16 : decode cX5_endsLike 16 = .ok (.aload_n 0, 1) := by decide +kernel
theorem dX5_endsLike_17 : decode cX5_endsLike 17 = .ok (.aload_n 1, 1) := by decide +kernel
theorem dX5_endsLike_18 : decode cX5_endsLike 18 = .ok (.getfield 28, 3) := by decide +kernel
theorem dX5_endsLike_21 : decode cX5_endsLike 21 = .ok (.iconst 1, 1) := by decide +kernel
theorem dX5_endsLike_22 : decode cX5_endsLike 22 = .ok (.iadd, 1) := by decide +kernel
theorem dX5_endsLike_23 : decode cX5_endsLike 23 = .ok (.putfield 28, 3) := by decide +kernel
theorem dX5_endsLike_26 : decode cX5_endsLike 26 = .ok (.aload_n 0, 1) := by decide +kernel
theorem dX5_endsLike_27 : decode cX5_endsLike 27 = .ok (.aload_n 1, 1) := by decide +kernel
theorem dX5_endsLike_28 : decode cX5_endsLike 28 = .ok (.getfield 20, 3) := by decide +kernel
theorem dX5_endsLike_31 : decode cX5_endsLike 31 = .ok (.sipush 16384, 3) := by decide +kernel
theorem dX5_endsLike_34 : decode cX5_endsLike 34 = .ok (.if_icmp .ge 7, 3) := by decide +kernel
theorem dX5_endsLike_37 : decode cX5_endsLike 37 = .ok (.iconst 0, 1) := by decide +kernel
theorem dX5_endsLike_38 : decode cX5_endsLike 38 = .ok (.goto 4, 3) := by decide +kernel
theorem dX5_endsLike_41 : decode cX5_endsLike 41 = .ok (.iconst 1, 1) := by decide +kernel
theorem dX5_endsLike_42 : decode cX5_endsLike 42 = .ok (.invokevirtual 58, 3) := by decide +kernel
theorem dX5_endsLike_45 : decode cX5_endsLike 45 = .ok (.return_, 1) := by decide +kernel
theorem dX5_endedSize_0 : decode cX5_endedSize 0 = .ok (.aload_n 0, 1) := by decide +kernel
theorem dX5_endedSize_1 : decode cX5_endedSize 1 = .ok (.getfield 14, 3) := by decide +kernel
theorem dX5_endedSize_4 : decode cX5_endedSize 4 = .ok (.getfield 61, 3) := by decide +kernel
theorem dX5_endedSize_7 : decode cX5_endedSize 7 = .ok (.aload_n 0, 1) := by decide +kernel
theorem dX5_endedSize_8 : decode cX5_endedSize 8 = .ok (.getfield 28, 3) := by decide +kernel
theorem dX5_endedSize_11 : decode cX5_endedSize 11 = .ok (.iadd, 1) := by decide +kernel
theorem dX5_endedSize_12 : decode cX5_endedSize 12 = .ok (.iconst 2, 1) := by decide +kernel
theorem dX5_endedSize_13 : decode cX5_endedSize 13 = .ok (.iadd, 1) := by decide +kernel
theorem dX5_endedSize_14 : decode cX5_endedSize 14 = .ok (.ireturn, 1) := by decide +kernel
theorem dX5_wants_0 : decode cX5_wants 0 = .ok (.aload_n 0, 1) := by decide +kernel
theorem dX5_wants_1 : decode cX5_wants 1 = .ok (.iload_n 1, 1) := by decide +kernel
theorem dX5_wants_2 : decode cX5_wants 2 = .ok (.putfield 31, 3) := by decide +kernel
theorem dX5_wants_5 : decode cX5_wants 5 = .ok (.return_, 1) := by decide +kernel
theorem dX5_chooses_0 : decode cX5_chooses 0 = .ok (.aload_n 0, 1) := by decide +kernel
theorem dX5_chooses_1 : decode cX5_chooses 1 = .ok (.getfield 34, 3) := by decide +kernel
theorem dX5_chooses_4 : decode cX5_chooses 4 = .ok (.ifCond .ne 12, 3) := by decide +kernel
theorem dX5_chooses_7 : decode cX5_chooses 7 = .ok (.aload_n 1, 1) := by decide +kernel
theorem dX5_chooses_8 : decode cX5_chooses 8 = .ok (.aload_n 0, 1) := by decide +kernel
theorem dX5_chooses_9 : decode cX5_chooses 9 = .ok (.getfield 31, 3) := by decide +kernel
theorem dX5_chooses_12 : decode cX5_chooses 12 = .ok (.invokevirtual 64, 3) := by decide +kernel
theorem dX5_chooses_15 : decode cX5_chooses 15 = .ok (.ireturn, 1) := by decide +kernel
theorem dX5_chooses_16 : decode cX5_chooses 16 = .ok (.aload_n 0, 1) := by decide +kernel
theorem dX5_chooses_17 : decode cX5_chooses 17 = .ok (.getfield 25, 3) := by decide +kernel
theorem dX5_chooses_20 : decode cX5_chooses 20 = .ok (.aload_n 0, 1) := by decide +kernel
theorem dX5_chooses_21 : decode cX5_chooses 21 = .ok (.getfield 20, 3) := by decide +kernel
theorem dX5_chooses_24 : decode cX5_chooses 24 = .ok (.isub, 1) := by decide +kernel
theorem dX5_chooses_25 : decode cX5_chooses 25 = .ok (.iconst 1, 1) := by decide +kernel
theorem dX5_chooses_26 : decode cX5_chooses 26 = .ok (.iadd, 1) := by decide +kernel
theorem dX5_chooses_27 : decode cX5_chooses 27 = .ok (.istore_n 2, 1) := by decide +kernel
theorem dX5_chooses_28 : decode cX5_chooses 28 = .ok (.iload_n 2, 1) := by decide +kernel
theorem dX5_chooses_29 : decode cX5_chooses 29 = .ok (.ifCond .le 26, 3) := by decide +kernel
theorem dX5_chooses_32 : decode cX5_chooses 32 = .ok (.aload_n 0, 1) := by decide +kernel
theorem dX5_chooses_33 : decode cX5_chooses 33 = .ok (.getfield 38, 3) := by decide +kernel
theorem dX5_chooses_36 : decode cX5_chooses 36 = .ok (.aload_n 0, 1) := by decide +kernel
theorem dX5_chooses_37 : decode cX5_chooses 37 = .ok (.getfield 20, 3) := by decide +kernel
theorem dX5_chooses_40 : decode cX5_chooses 40 = .ok (.isub, 1) := by decide +kernel
theorem dX5_chooses_41 : decode cX5_chooses 41 = .ok (.iconst 1, 1) := by decide +kernel
theorem dX5_chooses_42 : decode cX5_chooses 42 = .ok (.iadd, 1) := by decide +kernel
theorem dX5_chooses_43 : decode cX5_chooses 43 = .ok (.aload_n 1, 1) := by decide +kernel
theorem dX5_chooses_44 : decode cX5_chooses 44 = .ok (.getfield 69, 3) := by decide +kernel
theorem dX5_chooses_47 : decode cX5_chooses 47 = .ok (.imul, 1) := by decide +kernel
theorem dX5_chooses_48 : decode cX5_chooses 48 = .ok (.iconst 1, 1) := by decide +kernel
theorem dX5_chooses_49 : decode cX5_chooses 49 = .ok (.isub, 1) := by decide +kernel
theorem dX5_chooses_50 : decode cX5_chooses 50 = .ok (.iload_n 2, 1) := by decide +kernel
theorem dX5_chooses_51 : decode cX5_chooses 51 = .ok (.idiv, 1) := by decide +kernel
theorem dX5_chooses_52 : decode cX5_chooses 52 = .ok (.goto 4, 3) := by decide +kernel
theorem dX5_chooses_55 : decode cX5_chooses 55 = .ok (.iconst 0, 1) := by decide +kernel
theorem dX5_chooses_56 : decode cX5_chooses 56 = .ok (.istore_n 3, 1) := by decide +kernel
theorem dX5_chooses_57 : decode cX5_chooses 57 = .ok (.aload_n 1, 1) := by decide +kernel
theorem dX5_chooses_58 : decode cX5_chooses 58 = .ok (.iload_n 3, 1) := by decide +kernel
theorem dX5_chooses_59 : decode cX5_chooses 59 = .ok (.invokevirtual 72, 3) := by decide +kernel
theorem dX5_chooses_62 : decode cX5_chooses 62 = .ok (.ireturn, 1) := by decide +kernel
theorem dX5_takes_0 : decode cX5_takes 0 = .ok (.iload_n 3, 1) := by decide +kernel
theorem dX5_takes_1 : decode cX5_takes 1 = .ok (.ifCond .gt 4, 3) := by decide +kernel
theorem dX5_takes_4 : decode cX5_takes 4 = .ok (.return_, 1) := by decide +kernel
theorem dX5_takes_5 : decode cX5_takes 5 = .ok (.aload_n 0, 1) := by decide +kernel
theorem dX5_takes_6 : decode cX5_takes 6 = .ok (.getfield 25, 3) := by decide +kernel
theorem dX5_takes_9 : decode cX5_takes 9 = .ok (.aload_n 0, 1) := by decide +kernel
theorem dX5_takes_10 : decode cX5_takes 10 = .ok (.getfield 20, 3) := by decide +kernel
theorem dX5_takes_13 : decode cX5_takes 13 = .ok (.isub, 1) := by decide +kernel
theorem dX5_takes_14 : decode cX5_takes 14 = .ok (.iconst 1, 1) := by decide +kernel
theorem dX5_takes_15 : decode cX5_takes 15 = .ok (.iadd, 1) := by decide +kernel
theorem dX5_takes_16 : decode cX5_takes 16 = .ok (.istore 4, 2) := by decide +kernel
theorem dX5_takes_18 : decode cX5_takes 18 = .ok (.aload_n 0, 1) := by decide +kernel
theorem dX5_takes_19 : decode cX5_takes 19 = .ok (.aload_n 0, 1) := by decide +kernel
theorem dX5_takes_20 : decode cX5_takes 20 = .ok (.getfield 20, 3) := by decide +kernel
theorem dX5_takes_23 : decode cX5_takes 23 = .ok (.iload 4, 2) := by decide +kernel
theorem dX5_takes_25 : decode cX5_takes 25 = .ok (.iload_n 1, 1) := by decide +kernel
theorem dX5_takes_26 : decode cX5_takes 26 = .ok (.iload_n 2, 1) := by decide +kernel
theorem dX5_takes_27 : decode cX5_takes 27 = .ok (.iadd, 1) := by decide +kernel
theorem dX5_takes_28 : decode cX5_takes 28 = .ok (.imul, 1) := by decide +kernel
theorem dX5_takes_29 : decode cX5_takes 29 = .ok (.iload_n 3, 1) := by decide +kernel
theorem dX5_takes_30 : decode cX5_takes 30 = .ok (.idiv, 1) := by decide +kernel
theorem dX5_takes_31 : decode cX5_takes 31 = .ok (.iadd, 1) := by decide +kernel
theorem dX5_takes_32 : decode cX5_takes 32 = .ok (.iconst 1, 1) := by decide +kernel
theorem dX5_takes_33 : decode cX5_takes 33 = .ok (.isub, 1) := by decide +kernel
theorem dX5_takes_34 : decode cX5_takes 34 = .ok (.putfield 25, 3) := by decide +kernel
theorem dX5_takes_37 : decode cX5_takes 37 = .ok (.aload_n 0, 1) := by decide +kernel
theorem dX5_takes_38 : decode cX5_takes 38 = .ok (.aload_n 0, 1) := by decide +kernel
theorem dX5_takes_39 : decode cX5_takes 39 = .ok (.getfield 20, 3) := by decide +kernel
theorem dX5_takes_42 : decode cX5_takes 42 = .ok (.iload 4, 2) := by decide +kernel
theorem dX5_takes_44 : decode cX5_takes 44 = .ok (.iload_n 1, 1) := by decide +kernel
theorem dX5_takes_45 : decode cX5_takes 45 = .ok (.imul, 1) := by decide +kernel
theorem dX5_takes_46 : decode cX5_takes 46 = .ok (.iload_n 3, 1) := by decide +kernel
theorem dX5_takes_47 : decode cX5_takes 47 = .ok (.idiv, 1) := by decide +kernel
theorem dX5_takes_48 : decode cX5_takes 48 = .ok (.iadd, 1) := by decide +kernel
theorem dX5_takes_49 : decode cX5_takes 49 = .ok (.putfield 20, 3) := by decide +kernel
theorem dX5_takes_52 : decode cX5_takes 52 = .ok (.iconst 0, 1) := by decide +kernel
theorem dX5_takes_53 : decode cX5_takes 53 = .ok (.istore 5, 2) := by decide +kernel
theorem dX5_takes_55 : decode cX5_takes 55 = .ok (.iload 5, 2) := by decide +kernel
theorem dX5_takes_57 : decode cX5_takes 57 = .ok (.bipush 64, 2) := by decide +kernel
theorem dX5_takes_59 : decode cX5_takes 59 = .ok (.if_icmp .ge 94, 3) := by decide +kernel
theorem dX5_takes_62 : decode cX5_takes 62 = .ok (.aload_n 0, 1) := by decide +kernel
theorem dX5_takes_63 : decode cX5_takes 63 = .ok (.getfield 25, 3) := by decide +kernel
theorem dX5_takes_66 : decode cX5_takes 66 = .ok (.ldc 75, 2) := by decide +kernel
theorem dX5_takes_68 : decode cX5_takes 68 = .ok (.if_icmp .ge 16, 3) := by decide +kernel
theorem dX5_takes_71 : decode cX5_takes 71 = .ok (.aload_n 0, 1) := by decide +kernel
theorem dX5_takes_72 : decode cX5_takes 72 = .ok (.iconst 0, 1) := by decide +kernel
theorem dX5_takes_73 : decode cX5_takes 73 = .ok (.invokevirtual 58, 3) := by decide +kernel
theorem dX5_takes_76 : decode cX5_takes 76 = .ok (.aload_n 0, 1) := by decide +kernel
theorem dX5_takes_77 : decode cX5_takes 77 = .ok (.iconst 0, 1) := by decide +kernel
theorem dX5_takes_78 : decode cX5_takes 78 = .ok (.invokevirtual 76, 3) := by decide +kernel
theorem dX5_takes_81 : decode cX5_takes 81 = .ok (.goto 66, 3) := by decide +kernel
theorem dX5_takes_84 : decode cX5_takes 84 = .ok (.aload_n 0, 1) := by decide +kernel
theorem dX5_takes_85 : decode cX5_takes 85 = .ok (.getfield 20, 3) := by decide +kernel
theorem dX5_takes_88 : decode cX5_takes 88 = .ok (.ldc 75, 2) := by decide +kernel
theorem dX5_takes_90 : decode cX5_takes 90 = .ok (.if_icmp .lt 17, 3) := by decide +kernel
theorem dX5_takes_93 : decode cX5_takes 93 = .ok (.aload_n 0, 1) := by decide +kernel
theorem dX5_takes_94 : decode cX5_takes 94 = .ok (.iconst 1, 1) := by decide +kernel
theorem dX5_takes_95 : decode cX5_takes 95 = .ok (.invokevirtual 58, 3) := by decide +kernel
theorem dX5_takes_98 : decode cX5_takes 98 = .ok (.aload_n 0, 1) := by decide +kernel
theorem dX5_takes_99 : decode cX5_takes 99 = .ok (.ldc 75, 2) := by decide +kernel
theorem dX5_takes_101 : decode cX5_takes 101 = .ok (.invokevirtual 76, 3) := by decide +kernel
theorem dX5_takes_104 : decode cX5_takes 104 = .ok (.goto 43, 3) := by decide +kernel
theorem dX5_takes_107 : decode cX5_takes 107 = .ok (.aload_n 0, 1) := by decide +kernel
theorem dX5_takes_108 : decode cX5_takes 108 = .ok (.getfield 20, 3) := by decide +kernel
theorem dX5_takes_111 : decode cX5_takes 111 = .ok (.sipush 16384, 3) := by decide +kernel
theorem dX5_takes_114 : decode cX5_takes 114 = .ok (.if_icmp .lt 32, 3) := by decide +kernel
theorem dX5_takes_117 : decode cX5_takes 117 = .ok (.aload_n 0, 1) := by decide +kernel
theorem dX5_takes_118 : decode cX5_takes 118 = .ok (.getfield 25, 3) := by decide +kernel
theorem dX5_takes_121 : decode cX5_takes 121 = .ok (.ldc 79, 2) := by decide +kernel
theorem dX5_takes_123 : decode cX5_takes 123 = .ok (.if_icmp .ge 23, 3) := by decide +kernel
theorem dX5_takes_126 : decode cX5_takes 126 = .ok (.aload_n 0, 1) := by decide +kernel
theorem dX5_takes_127 : decode cX5_takes 127 = .ok (.dup, 1) := by decide +kernel
theorem dX5_takes_128 : decode cX5_takes 128 = .ok (.getfield 28, 3) := by decide +kernel
theorem dX5_takes_131 : decode cX5_takes 131 = .ok (.iconst 1, 1) := by decide +kernel
theorem dX5_takes_132 : decode cX5_takes 132 = .ok (.iadd, 1) := by decide +kernel
theorem dX5_takes_133 : decode cX5_takes 133 = .ok (.putfield 28, 3) := by decide +kernel
theorem dX5_takes_136 : decode cX5_takes 136 = .ok (.aload_n 0, 1) := by decide +kernel
theorem dX5_takes_137 : decode cX5_takes 137 = .ok (.sipush 16384, 3) := by decide +kernel
theorem dX5_takes_140 : decode cX5_takes 140 = .ok (.invokevirtual 76, 3) := by decide +kernel
theorem dX5_takes_143 : decode cX5_takes 143 = .ok (.goto 4, 3) := by decide +kernel
theorem dX5_takes_146 : decode cX5_takes 146 = .ok (.return_, 1) := by decide +kernel
theorem dX5_takes_147 : decode cX5_takes 147 = .ok (.iinc 5 1, 3) := by decide +kernel
theorem dX5_takes_150 : decode cX5_takes 150 = .ok (.goto (-95), 3) := by decide +kernel
theorem dX5_takes_153 : decode cX5_takes 153 = .ok (.return_, 1) := by decide +kernel
theorem dX5_isWhole_0 : decode cX5_isWhole 0 = .ok (.aload_n 0, 1) := by decide +kernel
theorem dX5_isWhole_1 : decode cX5_isWhole 1 = .ok (.iconst 0, 1) := by decide +kernel
theorem dX5_isWhole_2 : decode cX5_isWhole 2 = .ok (.putfield 20, 3) := by decide +kernel
theorem dX5_isWhole_5 : decode cX5_isWhole 5 = .ok (.aload_n 0, 1) := by decide +kernel
theorem dX5_isWhole_6 : decode cX5_isWhole 6 = .ok (.ldc 24, 2) := by decide +kernel
theorem dX5_isWhole_8 : decode cX5_isWhole 8 = .ok (.putfield 25, 3) := by decide +kernel
theorem dX5_isWhole_11 : decode cX5_isWhole 11 = .ok (.aload_n 0, 1) := by decide +kernel
theorem dX5_isWhole_12 : decode cX5_isWhole 12 = .ok (.iconst 0, 1) := by decide +kernel
theorem dX5_isWhole_13 : decode cX5_isWhole 13 = .ok (.putfield 28, 3) := by decide +kernel
theorem dX5_isWhole_16 : decode cX5_isWhole 16 = .ok (.return_, 1) := by decide +kernel
theorem dX5_doubles_0 : decode cX5_doubles 0 = .ok (.aload_n 0, 1) := by decide +kernel
theorem dX5_doubles_1 : decode cX5_doubles 1 = .ok (.iconst 2, 1) := by decide +kernel
theorem dX5_doubles_2 : decode cX5_doubles 2 = .ok (.aload_n 0, 1) := by decide +kernel
theorem dX5_doubles_3 : decode cX5_doubles 3 = .ok (.getfield 20, 3) := by decide +kernel
theorem dX5_doubles_6 : decode cX5_doubles 6 = .ok (.iload_n 1, 1) := by decide +kernel
theorem dX5_doubles_7 : decode cX5_doubles 7 = .ok (.isub, 1) := by decide +kernel
theorem dX5_doubles_8 : decode cX5_doubles 8 = .ok (.imul, 1) := by decide +kernel
theorem dX5_doubles_9 : decode cX5_doubles 9 = .ok (.putfield 20, 3) := by decide +kernel
theorem dX5_doubles_12 : decode cX5_doubles 12 = .ok (.aload_n 0, 1) := by decide +kernel
theorem dX5_doubles_13 : decode cX5_doubles 13 = .ok (.iconst 2, 1) := by decide +kernel
theorem dX5_doubles_14 : decode cX5_doubles 14 = .ok (.aload_n 0, 1) := by decide +kernel
theorem dX5_doubles_15 : decode cX5_doubles 15 = .ok (.getfield 25, 3) := by decide +kernel
theorem dX5_doubles_18 : decode cX5_doubles 18 = .ok (.iload_n 1, 1) := by decide +kernel
theorem dX5_doubles_19 : decode cX5_doubles 19 = .ok (.isub, 1) := by decide +kernel
theorem dX5_doubles_20 : decode cX5_doubles 20 = .ok (.imul, 1) := by decide +kernel
theorem dX5_doubles_21 : decode cX5_doubles 21 = .ok (.iconst 1, 1) := by decide +kernel
theorem dX5_doubles_22 : decode cX5_doubles 22 = .ok (.iadd, 1) := by decide +kernel
theorem dX5_doubles_23 : decode cX5_doubles 23 = .ok (.putfield 25, 3) := by decide +kernel
theorem dX5_doubles_26 : decode cX5_doubles 26 = .ok (.aload_n 0, 1) := by decide +kernel
theorem dX5_doubles_27 : decode cX5_doubles 27 = .ok (.getfield 34, 3) := by decide +kernel
theorem dX5_doubles_30 : decode cX5_doubles 30 = .ok (.ifCond .ne 4, 3) := by decide +kernel
theorem dX5_doubles_33 : decode cX5_doubles 33 = .ok (.return_, 1) := by decide +kernel
theorem dX5_doubles_34 : decode cX5_doubles 34 = .ok (.aload_n 0, 1) := by decide +kernel
theorem dX5_doubles_35 : decode cX5_doubles 35 = .ok (.iconst 2, 1) := by decide +kernel
theorem dX5_doubles_36 : decode cX5_doubles 36 = .ok (.aload_n 0, 1) := by decide +kernel
theorem dX5_doubles_37 : decode cX5_doubles 37 = .ok (.getfield 38, 3) := by decide +kernel
theorem dX5_doubles_40 : decode cX5_doubles 40 = .ok (.iload_n 1, 1) := by decide +kernel
theorem dX5_doubles_41 : decode cX5_doubles 41 = .ok (.isub, 1) := by decide +kernel
theorem dX5_doubles_42 : decode cX5_doubles 42 = .ok (.imul, 1) := by decide +kernel
theorem dX5_doubles_43 : decode cX5_doubles 43 = .ok (.aload_n 0, 1) := by decide +kernel
theorem dX5_doubles_44 : decode cX5_doubles 44 = .ok (.getfield 14, 3) := by decide +kernel
theorem dX5_doubles_47 : decode cX5_doubles 47 = .ok (.aload_n 0, 1) := by decide +kernel
theorem dX5_doubles_48 : decode cX5_doubles 48 = .ok (.getfield 41, 3) := by decide +kernel
theorem dX5_doubles_51 : decode cX5_doubles 51 = .ok (.invokevirtual 50, 3) := by decide +kernel
theorem dX5_doubles_54 : decode cX5_doubles 54 = .ok (.iadd, 1) := by decide +kernel
theorem dX5_doubles_55 : decode cX5_doubles 55 = .ok (.putfield 38, 3) := by decide +kernel
theorem dX5_doubles_58 : decode cX5_doubles 58 = .ok (.aload_n 0, 1) := by decide +kernel
theorem dX5_doubles_59 : decode cX5_doubles 59 = .ok (.dup, 1) := by decide +kernel
theorem dX5_doubles_60 : decode cX5_doubles 60 = .ok (.getfield 41, 3) := by decide +kernel
theorem dX5_doubles_63 : decode cX5_doubles 63 = .ok (.iconst 1, 1) := by decide +kernel
theorem dX5_doubles_64 : decode cX5_doubles 64 = .ok (.iadd, 1) := by decide +kernel
theorem dX5_doubles_65 : decode cX5_doubles 65 = .ok (.putfield 41, 3) := by decide +kernel
theorem dX5_doubles_68 : decode cX5_doubles 68 = .ok (.return_, 1) := by decide +kernel
theorem dX5_writesBit_0 : decode cX5_writesBit 0 = .ok (.aload_n 0, 1) := by decide +kernel
theorem dX5_writesBit_1 : decode cX5_writesBit 1 = .ok (.getfield 34, 3) := by decide +kernel
theorem dX5_writesBit_4 : decode cX5_writesBit 4 = .ok (.ifCond .eq 4, 3) := by decide +kernel
theorem dX5_writesBit_7 : decode cX5_writesBit 7 = .ok (.return_, 1) := by decide +kernel
theorem dX5_writesBit_8 : decode cX5_writesBit 8 = .ok (.aload_n 0, 1) := by decide +kernel
theorem dX5_writesBit_9 : decode cX5_writesBit 9 = .ok (.getfield 14, 3) := by decide +kernel
theorem dX5_writesBit_12 : decode cX5_writesBit 12 = .ok (.iload_n 1, 1) := by decide +kernel
theorem dX5_writesBit_13 : decode cX5_writesBit 13 = .ok (.invokevirtual 80, 3) := by decide +kernel
theorem dX5_writesBit_16 : decode cX5_writesBit 16 = .ok (.iconst 0, 1) := by decide +kernel
theorem dX5_writesBit_17 : decode cX5_writesBit 17 = .ok (.istore_n 2, 1) := by decide +kernel
theorem dX5_writesBit_18 : decode cX5_writesBit 18 = .ok (.iload_n 2, 1) := by decide +kernel
theorem dX5_writesBit_19 : decode cX5_writesBit 19 = .ok (.aload_n 0, 1) := by decide +kernel
theorem dX5_writesBit_20 : decode cX5_writesBit 20 = .ok (.getfield 28, 3) := by decide +kernel
theorem dX5_writesBit_23 : decode cX5_writesBit 23 = .ok (.if_icmp .ge 26, 3) := by decide +kernel
theorem dX5_writesBit_26 : decode cX5_writesBit 26 = .ok (.iload_n 2, 1) := by decide +kernel
theorem dX5_writesBit_27 : decode cX5_writesBit 27 = .ok (.sipush 722, 3) := by decide +kernel
theorem dX5_writesBit_30 : decode cX5_writesBit 30 = .ok (.if_icmp .ge 19, 3) := by decide +kernel
theorem dX5_writesBit_33 : decode cX5_writesBit 33 = .ok (.aload_n 0, 1) := by decide +kernel
theorem dX5_writesBit_34 : decode cX5_writesBit 34 = .ok (.getfield 14, 3) := by decide +kernel
theorem dX5_writesBit_37 : decode cX5_writesBit 37 = .ok (.iconst 1, 1) := by decide +kernel
theorem dX5_writesBit_38 : decode cX5_writesBit 38 = .ok (.iload_n 1, 1) := by decide +kernel
theorem dX5_writesBit_39 : decode cX5_writesBit 39 = .ok (.isub, 1) := by decide +kernel
theorem dX5_writesBit_40 : decode cX5_writesBit 40 = .ok (.invokevirtual 80, 3) := by decide +kernel
theorem dX5_writesBit_43 : decode cX5_writesBit 43 = .ok (.iinc 2 1, 3) := by decide +kernel
theorem dX5_writesBit_46 : decode cX5_writesBit 46 = .ok (.goto (-28), 3) := by decide +kernel
theorem dX5_writesBit_49 : decode cX5_writesBit 49 = .ok (.aload_n 0, 1) := by decide +kernel
theorem dX5_writesBit_50 : decode cX5_writesBit 50 = .ok (.iconst 0, 1) := by decide +kernel
theorem dX5_writesBit_51 : decode cX5_writesBit 51 = .ok (.putfield 28, 3) := by decide +kernel
theorem dX5_writesBit_54 : decode cX5_writesBit 54 = .ok (.return_, 1) := by decide +kernel
theorem dX6_init_0 : decode cX6_init 0 = .ok (.aload_n 0, 1) := by decide +kernel
theorem dX6_init_1 : decode cX6_init 1 = .ok (.invokespecial 1, 3) := by decide +kernel
theorem dX6_init_4 : decode cX6_init 4 = .ok (.aload_n 0, 1) := by decide +kernel
theorem dX6_init_5 : decode cX6_init 5 = .ok (.iconst 0, 1) := by decide +kernel
theorem dX6_init_6 : decode cX6_init 6 = .ok (.putfield 7, 3) := by decide +kernel
theorem dX6_init_9 : decode cX6_init 9 = .ok (.aload_n 0, 1) := by decide +kernel
theorem dX6_init_10 : decode cX6_init 10 = .ok (.iload_n 1, 1) := by decide +kernel
theorem dX6_init_11 : decode cX6_init 11 = .ok (.iconst 0, 1) := by decide +kernel
theorem dX6_init_12 : decode cX6_init 12 = .ok (.invokestatic 13, 3) := by decide +kernel
theorem dX6_init_15 : decode cX6_init 15 = .ok (.newarray .int, 2) := by decide +kernel
theorem dX6_init_17 : decode cX6_init 17 = .ok (.putfield 19, 3) := by decide +kernel
theorem dX6_init_20 : decode cX6_init 20 = .ok (.return_, 1) := by decide +kernel
theorem dX6_isFull_0 : decode cX6_isFull 0 = .ok (.aload_n 0, 1) := by decide +kernel
theorem dX6_isFull_1 : decode cX6_isFull 1 = .ok (.getfield 7, 3) := by decide +kernel
theorem dX6_isFull_4 : decode cX6_isFull 4 = .ok (.aload_n 0, 1) := by decide +kernel
theorem dX6_isFull_5 : decode cX6_isFull 5 = .ok (.getfield 19, 3) := by decide +kernel
theorem dX6_isFull_8 : decode cX6_isFull 8 = .ok (.arraylength, 1) := by decide +kernel
theorem dX6_isFull_9 : decode cX6_isFull 9 = .ok (.if_icmp .lt 7, 3) := by decide +kernel
theorem dX6_isFull_12 : decode cX6_isFull 12 = .ok (.iconst 1, 1) := by decide +kernel
theorem dX6_isFull_13 : decode cX6_isFull 13 = .ok (.goto 4, 3) := by decide +kernel
theorem dX6_isFull_16 : decode cX6_isFull 16 = .ok (.iconst 0, 1) := by decide +kernel
theorem dX6_isFull_17 : decode cX6_isFull 17 = .ok (.ireturn, 1) := by decide +kernel
theorem dX6_at_0 : decode cX6_at 0 = .ok (.iload_n 1, 1) := by decide +kernel
theorem dX6_at_1 : decode cX6_at 1 = .ok (.ifCond .lt 29, 3) := by decide +kernel
theorem dX6_at_4 : decode cX6_at 4 = .ok (.iload_n 1, 1) := by decide +kernel
theorem dX6_at_5 : decode cX6_at 5 = .ok (.aload_n 0, 1) := by decide +kernel
theorem dX6_at_6 : decode cX6_at 6 = .ok (.getfield 7, 3) := by decide +kernel
theorem dX6_at_9 : decode cX6_at 9 = .ok (.if_icmp .ge 21, 3) := by decide +kernel
theorem dX6_at_12 : decode cX6_at 12 = .ok (.iload_n 1, 1) := by decide +kernel
theorem dX6_at_13 : decode cX6_at 13 = .ok (.aload_n 0, 1) := by decide +kernel
theorem dX6_at_14 : decode cX6_at 14 = .ok (.getfield 19, 3) := by decide +kernel
theorem dX6_at_17 : decode cX6_at 17 = .ok (.arraylength, 1) := by decide +kernel
theorem dX6_at_18 : decode cX6_at 18 = .ok (.if_icmp .ge 12, 3) := by decide +kernel
theorem dX6_at_21 : decode cX6_at 21 = .ok (.aload_n 0, 1) := by decide +kernel
theorem dX6_at_22 : decode cX6_at 22 = .ok (.getfield 19, 3) := by decide +kernel
theorem dX6_at_25 : decode cX6_at 25 = .ok (.iload_n 1, 1) := by decide +kernel
theorem dX6_at_26 : decode cX6_at 26 = .ok (.iaload, 1) := by decide +kernel
theorem dX6_at_27 : decode cX6_at 27 = .ok (.goto 4, 3) := by decide +kernel
theorem dX6_at_30 : decode cX6_at 30 = .ok (.iconst 0, 1) := by decide +kernel
theorem dX6_at_31 : decode cX6_at 31 = .ok (.ireturn, 1) := by decide +kernel
theorem dX6_puts_0 : decode cX6_puts 0 = .ok (.aload_n 0, 1) := by decide +kernel
theorem dX6_puts_1 : decode cX6_puts 1 = .ok (.getfield 7, 3) := by decide +kernel
theorem dX6_puts_4 : decode cX6_puts 4 = .ok (.ifCond .lt 15, 3) := by decide +kernel
theorem dX6_puts_7 : decode cX6_puts 7 = .ok (.aload_n 0, 1) := by decide +kernel
theorem dX6_puts_8 : decode cX6_puts 8 = .ok (.getfield 7, 3) := by decide +kernel
theorem dX6_puts_11 : decode cX6_puts 11 = .ok (.aload_n 0, 1) := by decide +kernel
theorem dX6_puts_12 : decode cX6_puts 12 = .ok (.getfield 19, 3) := by decide +kernel
theorem dX6_puts_15 : decode cX6_puts 15 = .ok (.arraylength, 1) := by decide +kernel
theorem dX6_puts_16 : decode cX6_puts 16 = .ok (.if_icmp .lt 4, 3) := by decide +kernel
theorem dX6_puts_19 : decode cX6_puts 19 = .ok (.return_, 1) := by decide +kernel
theorem dX6_puts_20 : decode cX6_puts 20 = .ok (.aload_n 0, 1) := by decide +kernel
theorem dX6_puts_21 : decode cX6_puts 21 = .ok (.getfield 19, 3) := by decide +kernel
theorem dX6_puts_24 : decode cX6_puts 24 = .ok (.aload_n 0, 1) := by decide +kernel
theorem dX6_puts_25 : decode cX6_puts 25 = .ok (.getfield 7, 3) := by decide +kernel
theorem dX6_puts_28 : decode cX6_puts 28 = .ok (.iload_n 1, 1) := by decide +kernel
theorem dX6_puts_29 : decode cX6_puts 29 = .ok (.iastore, 1) := by decide +kernel
theorem dX6_puts_30 : decode cX6_puts 30 = .ok (.aload_n 0, 1) := by decide +kernel
theorem dX6_puts_31 : decode cX6_puts 31 = .ok (.dup, 1) := by decide +kernel
theorem dX6_puts_32 : decode cX6_puts 32 = .ok (.getfield 7, 3) := by decide +kernel
theorem dX6_puts_35 : decode cX6_puts 35 = .ok (.iconst 1, 1) := by decide +kernel
theorem dX6_puts_36 : decode cX6_puts 36 = .ok (.iadd, 1) := by decide +kernel
theorem dX6_puts_37 : decode cX6_puts 37 = .ok (.putfield 7, 3) := by decide +kernel
theorem dX6_puts_40 : decode cX6_puts 40 = .ok (.return_, 1) := by decide +kernel
theorem dX6_shortens_0 : decode cX6_shortens 0 = .ok (.iload_n 1, 1) := by decide +kernel
theorem dX6_shortens_1 : decode cX6_shortens 1 = .ok (.ifCond .lt 16, 3) := by decide +kernel
theorem dX6_shortens_4 : decode cX6_shortens 4 = .ok (.iload_n 1, 1) := by decide +kernel
theorem dX6_shortens_5 : decode cX6_shortens 5 = .ok (.aload_n 0, 1) := by decide +kernel
theorem dX6_shortens_6 : decode cX6_shortens 6 = .ok (.getfield 7, 3) := by decide +kernel
theorem dX6_shortens_9 : decode cX6_shortens 9 = .ok (.if_icmp .ge 8, 3) := by decide +kernel
theorem dX6_shortens_12 : decode cX6_shortens 12 = .ok (.aload_n 0, 1) := by decide +kernel
theorem dX6_shortens_13 : decode cX6_shortens 13 = .ok (.iload_n 1, 1) := by decide +kernel
theorem dX6_shortens_14 : decode cX6_shortens 14 = .ok (.putfield 7, 3) := by decide +kernel
theorem dX6_shortens_17 : decode cX6_shortens 17 = .ok (.return_, 1) := by decide +kernel
theorem dX6_copies_0 : decode cX6_copies 0 = .ok (.aload_n 1, 1) := by decide +kernel
theorem dX6_copies_1 : decode cX6_copies 1 = .ok (.getfield 7, 3) := by decide +kernel
theorem dX6_copies_4 : decode cX6_copies 4 = .ok (.istore_n 2, 1) := by decide +kernel
theorem dX6_copies_5 : decode cX6_copies 5 = .ok (.aload_n 0, 1) := by decide +kernel
theorem dX6_copies_6 : decode cX6_copies 6 = .ok (.iconst 0, 1) := by decide +kernel
theorem dX6_copies_7 : decode cX6_copies 7 = .ok (.putfield 7, 3) := by decide +kernel
theorem dX6_copies_10 : decode cX6_copies 10 = .ok (.iconst 0, 1) := by decide +kernel
theorem dX6_copies_11 : decode cX6_copies 11 = .ok (.istore_n 3, 1) := by decide +kernel
theorem dX6_copies_12 : decode cX6_copies 12 = .ok (.iload_n 3, 1) := by decide +kernel
theorem dX6_copies_13 : decode cX6_copies 13 = .ok (.iload_n 2, 1) := by decide +kernel
theorem dX6_copies_14 : decode cX6_copies 14 = .ok (.if_icmp .ge 18, 3) := by decide +kernel
theorem dX6_copies_17 : decode cX6_copies 17 = .ok (.aload_n 0, 1) := by decide +kernel
theorem dX6_copies_18 : decode cX6_copies 18 = .ok (.aload_n 1, 1) := by decide +kernel
theorem dX6_copies_19 : decode cX6_copies 19 = .ok (.iload_n 3, 1) := by decide +kernel
theorem dX6_copies_20 : decode cX6_copies 20 = .ok (.invokevirtual 23, 3) := by decide +kernel
theorem dX6_copies_23 : decode cX6_copies 23 = .ok (.invokevirtual 27, 3) := by decide +kernel
theorem dX6_copies_26 : decode cX6_copies 26 = .ok (.iinc 3 1, 3) := by decide +kernel
theorem dX6_copies_29 : decode cX6_copies 29 = .ok (.goto (-17), 3) := by decide +kernel
theorem dX6_copies_32 : decode cX6_copies 32 = .ok (.return_, 1) := by decide +kernel
theorem dX7_init_0 : decode cX7_init 0 = .ok (.aload_n 0, 1) := by decide +kernel
theorem dX7_init_1 : decode cX7_init 1 = .ok (.invokespecial 3, 3) := by decide +kernel
theorem dX7_init_4 : decode cX7_init 4 = .ok (.aload_n 0, 1) := by decide +kernel
theorem dX7_init_5 : decode cX7_init 5 = .ok (.iconst 5, 1) := by decide +kernel
theorem dX7_init_6 : decode cX7_init 6 = .ok (.newarray .int, 2) := by decide +kernel
theorem dX7_init_8 : decode cX7_init 8 = .ok (.putfield 9, 3) := by decide +kernel
theorem dX7_init_11 : decode cX7_init 11 = .ok (.aload_n 0, 1) := by decide +kernel
theorem dX7_init_12 : decode cX7_init 12 = .ok (.iconst 0, 1) := by decide +kernel
theorem dX7_init_13 : decode cX7_init 13 = .ok (.putfield 15, 3) := by decide +kernel
theorem dX7_init_16 : decode cX7_init 16 = .ok (.aload_n 0, 1) := by decide +kernel
theorem dX7_init_17 : decode cX7_init 17 = .ok (.iconst 0, 1) := by decide +kernel
theorem dX7_init_18 : decode cX7_init 18 = .ok (.putfield 19, 3) := by decide +kernel
theorem dX7_init_21 : decode cX7_init 21 = .ok (.aload_n 0, 1) := by decide +kernel
theorem dX7_init_22 : decode cX7_init 22 = .ok (.iconst 0, 1) := by decide +kernel
theorem dX7_init_23 : decode cX7_init 23 = .ok (.putfield 22, 3) := by decide +kernel
theorem dX7_init_26 : decode cX7_init 26 = .ok (.return_, 1) := by decide +kernel
theorem dX7_shutsNone_0 : decode cX7_shutsNone 0 = .ok (.aload_n 0, 1) := by decide +kernel
theorem dX7_shutsNone_1 : decode cX7_shutsNone 1 = .ok (.iconst 0, 1) := by decide +kernel
theorem dX7_shutsNone_2 : decode cX7_shutsNone 2 = .ok (.putfield 19, 3) := by decide +kernel
theorem dX7_shutsNone_5 : decode cX7_shutsNone 5 = .ok (.return_, 1) := by decide +kernel
theorem dX7_shutsOpen_0 : decode cX7_shutsOpen 0 = .ok (.aload_n 0, 1) := by decide +kernel
theorem dX7_shutsOpen_1 : decode cX7_shutsOpen 1 = .ok (.dup, 1) := by decide +kernel
theorem dX7_shutsOpen_2 : decode cX7_shutsOpen 2 = .ok (.getfield 19, 3) := by decide +kernel
theorem dX7_shutsOpen_5 : decode cX7_shutsOpen 5 = .ok (.aload_n 0, 1) := by decide +kernel
theorem dX7_shutsOpen_6 : decode cX7_shutsOpen 6 = .ok (.getfield 22, 3) := by decide +kernel
theorem dX7_shutsOpen_9 : decode cX7_shutsOpen 9 = .ok (.ior, 1) := by decide +kernel
theorem dX7_shutsOpen_10 : decode cX7_shutsOpen 10 = .ok (.putfield 19, 3) := by decide +kernel
theorem dX7_shutsOpen_13 : decode cX7_shutsOpen 13 = .ok (.return_, 1) := by decide +kernel
theorem dX7_shows_0 : decode cX7_shows 0 = .ok (.aload_n 0, 1) := by decide +kernel
theorem dX7_shows_1 : decode cX7_shows 1 = .ok (.iconst 0, 1) := by decide +kernel
theorem dX7_shows_2 : decode cX7_shows 2 = .ok (.putfield 22, 3) := by decide +kernel
theorem dX7_shows_5 : decode cX7_shows 5 = .ok (.aload_n 0, 1) := by decide +kernel
theorem dX7_shows_6 : decode cX7_shows 6 = .ok (.iconst 0, 1) := by decide +kernel
theorem dX7_shows_7 : decode cX7_shows 7 = .ok (.putfield 15, 3) := by decide +kernel
theorem dX7_shows_10 : decode cX7_shows 10 = .ok (.iconst 0, 1) := by decide +kernel
theorem dX7_shows_11 : decode cX7_shows 11 = .ok (.istore_n 3, 1) := by decide +kernel
theorem dX7_shows_12 : decode cX7_shows 12 = .ok (.iload_n 3, 1) := by decide +kernel
theorem dX7_shows_13 : decode cX7_shows 13 = .ok (.iconst 4, 1) := by decide +kernel
theorem dX7_shows_14 : decode cX7_shows 14 = .ok (.if_icmp .ge 85, 3) := by decide +kernel
theorem dX7_shows_17 : decode cX7_shows 17 = .ok (.iload_n 3, 1) := by decide +kernel
theorem dX7_shows_18 : decode cX7_shows 18 = .ok (.aload_n 0, 1) := by decide +kernel
theorem dX7_shows_19 : decode cX7_shows 19 = .ok (.getfield 9, 3) := by decide +kernel
theorem dX7_shows_22 : decode cX7_shows 22 = .ok (.arraylength, 1) := by decide +kernel
theorem dX7_shows_23 : decode cX7_shows 23 = .ok (.if_icmp .ge 76, 3) := by decide +kernel
theorem dX7_shows_26 : decode cX7_shows 26 = .ok (.iload_n 2, 1) := by decide +kernel
theorem dX7_shows_27 : decode cX7_shows 27 = .ok (.iconst (-1), 1) := by decide +kernel
theorem dX7_shows_28 : decode cX7_shows 28 = .ok (.if_icmp .ne 7, 3) := by decide +kernel
theorem dX7_shows_31 : decode cX7_shows 31 = .ok (.iconst 1, 1) := by decide +kernel
theorem dX7_shows_32 : decode cX7_shows 32 = .ok (.goto 9, 3) := by decide +kernel
theorem dX7_shows_35 : decode cX7_shows 35 = .ok (.aload_n 1, 1) := by decide +kernel
theorem dX7_shows_36 : decode cX7_shows 36 = .ok (.iload_n 2, 1) := by decide +kernel
theorem dX7_shows_37 : decode cX7_shows 37 = .ok (.iload_n 3, 1) := by decide +kernel
theorem dX7_shows_38 : decode cX7_shows 38 = .ok (.invokevirtual 25, 3) := by decide +kernel
theorem dX7_shows_41 : decode cX7_shows 41 = .ok (.istore 4, 2) := by decide +kernel
theorem dX7_shows_43 : decode cX7_shows 43 = .ok (.aload_n 0, 1) := by decide +kernel
theorem dX7_shows_44 : decode cX7_shows 44 = .ok (.getfield 19, 3) := by decide +kernel
theorem dX7_shows_47 : decode cX7_shows 47 = .ok (.iload_n 3, 1) := by decide +kernel
theorem dX7_shows_48 : decode cX7_shows 48 = .ok (.ishr, 1) := by decide +kernel
theorem dX7_shows_49 : decode cX7_shows 49 = .ok (.iconst 1, 1) := by decide +kernel
theorem dX7_shows_50 : decode cX7_shows 50 = .ok (.iand, 1) := by decide +kernel
theorem dX7_shows_51 : decode cX7_shows 51 = .ok (.ifCond .eq 6, 3) := by decide +kernel
theorem dX7_shows_54 : decode cX7_shows 54 = .ok (.iconst 0, 1) := by decide +kernel
theorem dX7_shows_55 : decode cX7_shows 55 = .ok (.istore 4, 2) := by decide +kernel
theorem dX7_shows_57 : decode cX7_shows 57 = .ok (.iload 4, 2) := by decide +kernel
theorem dX7_shows_59 : decode cX7_shows 59 = .ok (.ifCond .le 15, 3) := by decide +kernel
theorem dX7_shows_62 : decode cX7_shows 62 = .ok (.aload_n 0, 1) := by decide +kernel
theorem dX7_shows_63 : decode cX7_shows 63 = .ok (.dup, 1) := by decide +kernel
theorem dX7_shows_64 : decode cX7_shows 64 = .ok (.getfield 22, 3) := by decide +kernel
theorem dX7_shows_67 : decode cX7_shows 67 = .ok (.iconst 1, 1) := by decide +kernel
theorem dX7_shows_68 : decode cX7_shows 68 = .ok (.iload_n 3, 1) := by decide +kernel
theorem dX7_shows_69 : decode cX7_shows 69 = .ok (.ishl, 1) := by decide +kernel
theorem dX7_shows_70 : decode cX7_shows 70 = .ok (.ior, 1) := by decide +kernel
theorem dX7_shows_71 : decode cX7_shows 71 = .ok (.putfield 22, 3) := by decide +kernel
theorem dX7_shows_74 : decode cX7_shows 74 = .ok (.aload_n 0, 1) := by decide +kernel
theorem dX7_shows_75 : decode cX7_shows 75 = .ok (.getfield 9, 3) := by decide +kernel
theorem dX7_shows_78 : decode cX7_shows 78 = .ok (.iload_n 3, 1) := by decide +kernel
theorem dX7_shows_79 : decode cX7_shows 79 = .ok (.iload 4, 2) := by decide +kernel
theorem dX7_shows_81 : decode cX7_shows 81 = .ok (.iastore, 1) := by decide +kernel
theorem dX7_shows_82 : decode cX7_shows 82 = .ok (.aload_n 0, 1) := by decide +kernel
theorem dX7_shows_83 : decode cX7_shows 83 = .ok (.dup, 1) := by decide +kernel
theorem dX7_shows_84 : decode cX7_shows 84 = .ok (.getfield 15, 3) := by decide +kernel
theorem dX7_shows_87 : decode cX7_shows 87 = .ok (.iload 4, 2) := by decide +kernel
theorem dX7_shows_89 : decode cX7_shows 89 = .ok (.iadd, 1) := by decide +kernel
theorem dX7_shows_90 : decode cX7_shows 90 = .ok (.putfield 15, 3) := by decide +kernel
theorem dX7_shows_93 : decode cX7_shows 93 = .ok (.iinc 3 1, 3) := by decide +kernel
theorem dX7_shows_96 : decode cX7_shows 96 = .ok (.goto (-84), 3) := by decide +kernel
theorem dX7_shows_99 : decode cX7_shows 99 = .ok (.iload_n 2, 1) := by decide +kernel
theorem dX7_shows_100 : decode cX7_shows 100 = .ok (.iconst (-1), 1) := by decide +kernel
theorem dX7_shows_101 : decode cX7_shows 101 = .ok (.if_icmp .eq 17, 3) := by decide +kernel
theorem dX7_shows_104 : decode cX7_shows 104 = .ok (.aload_n 0, 1) := by decide +kernel
theorem dX7_shows_105 : decode cX7_shows 105 = .ok (.getfield 22, 3) := by decide +kernel
theorem dX7_shows_108 : decode cX7_shows 108 = .ok (.aload_n 0, 1) := by decide +kernel
theorem dX7_shows_109 : decode cX7_shows 109 = .ok (.getfield 19, 3) := by decide +kernel
theorem dX7_shows_112 : decode cX7_shows 112 = .ok (.ior, 1) := by decide +kernel
theorem dX7_shows_113 : decode cX7_shows 113 = .ok (.bipush 15, 2) := by decide +kernel
theorem dX7_shows_115 : decode cX7_shows 115 = .ok (.if_icmp .ne 7, 3) := by decide +kernel
theorem dX7_shows_118 : decode cX7_shows 118 = .ok (.iconst 0, 1) := by decide +kernel
theorem dX7_shows_119 : decode cX7_shows 119 = .ok (.goto 10, 3) := by decide +kernel
theorem dX7_shows_122 : decode cX7_shows 122 = .ok (.aload_n 0, 1) := by decide +kernel
theorem dX7_shows_123 : decode cX7_shows 123 = .ok (.getfield 22, 3) := by decide +kernel
theorem dX7_shows_126 : decode cX7_shows 126 = .ok (.invokestatic 31, 3) := by decide +kernel
theorem dX7_shows_129 : decode cX7_shows 129 = .ok (.istore_n 3, 1) := by decide +kernel
theorem dX7_shows_130 : decode cX7_shows 130 = .ok (.iconst 4, 1) := by decide +kernel
theorem dX7_shows_131 : decode cX7_shows 131 = .ok (.aload_n 0, 1) := by decide +kernel
theorem dX7_shows_132 : decode cX7_shows 132 = .ok (.getfield 9, 3) := by decide +kernel
theorem dX7_shows_135 : decode cX7_shows 135 = .ok (.arraylength, 1) := by decide +kernel
theorem dX7_shows_136 : decode cX7_shows 136 = .ok (.if_icmp .ge 10, 3) := by decide +kernel
theorem dX7_shows_139 : decode cX7_shows 139 = .ok (.aload_n 0, 1) := by decide +kernel
theorem dX7_shows_140 : decode cX7_shows 140 = .ok (.getfield 9, 3) := by decide +kernel
theorem dX7_shows_143 : decode cX7_shows 143 = .ok (.iconst 4, 1) := by decide +kernel
theorem dX7_shows_144 : decode cX7_shows 144 = .ok (.iload_n 3, 1) := by decide +kernel
theorem dX7_shows_145 : decode cX7_shows 145 = .ok (.iastore, 1) := by decide +kernel
theorem dX7_shows_146 : decode cX7_shows 146 = .ok (.aload_n 0, 1) := by decide +kernel
theorem dX7_shows_147 : decode cX7_shows 147 = .ok (.dup, 1) := by decide +kernel
theorem dX7_shows_148 : decode cX7_shows 148 = .ok (.getfield 15, 3) := by decide +kernel
theorem dX7_shows_151 : decode cX7_shows 151 = .ok (.iload_n 3, 1) := by decide +kernel
theorem dX7_shows_152 : decode cX7_shows 152 = .ok (.iadd, 1) := by decide +kernel
theorem dX7_shows_153 : decode cX7_shows 153 = .ok (.putfield 15, 3) := by decide +kernel
theorem dX7_shows_156 : decode cX7_shows 156 = .ok (.return_, 1) := by decide +kernel
theorem dX7_width_0 : decode cX7_width 0 = .ok (.iload_n 1, 1) := by decide +kernel
theorem dX7_width_1 : decode cX7_width 1 = .ok (.ifCond .lt 21, 3) := by decide +kernel
theorem dX7_width_4 : decode cX7_width 4 = .ok (.iload_n 1, 1) := by decide +kernel
theorem dX7_width_5 : decode cX7_width 5 = .ok (.aload_n 0, 1) := by decide +kernel
theorem dX7_width_6 : decode cX7_width 6 = .ok (.getfield 9, 3) := by decide +kernel
theorem dX7_width_9 : decode cX7_width 9 = .ok (.arraylength, 1) := by decide +kernel
theorem dX7_width_10 : decode cX7_width 10 = .ok (.if_icmp .ge 12, 3) := by decide +kernel
theorem dX7_width_13 : decode cX7_width 13 = .ok (.aload_n 0, 1) := by decide +kernel
theorem dX7_width_14 : decode cX7_width 14 = .ok (.getfield 9, 3) := by decide +kernel
theorem dX7_width_17 : decode cX7_width 17 = .ok (.iload_n 1, 1) := by decide +kernel
theorem dX7_width_18 : decode cX7_width 18 = .ok (.iaload, 1) := by decide +kernel
theorem dX7_width_19 : decode cX7_width 19 = .ok (.goto 4, 3) := by decide +kernel
theorem dX7_width_22 : decode cX7_width 22 = .ok (.iconst 0, 1) := by decide +kernel
theorem dX7_width_23 : decode cX7_width 23 = .ok (.ireturn, 1) := by decide +kernel
theorem dX7_beginOf_0 : decode cX7_beginOf 0 = .ok (.iconst 0, 1) := by decide +kernel
theorem dX7_beginOf_1 : decode cX7_beginOf 1 = .ok (.istore_n 2, 1) := by decide +kernel
theorem dX7_beginOf_2 : decode cX7_beginOf 2 = .ok (.iconst 0, 1) := by decide +kernel
theorem dX7_beginOf_3 : decode cX7_beginOf 3 = .ok (.istore_n 3, 1) := by decide +kernel
theorem dX7_beginOf_4 : decode cX7_beginOf 4 = .ok (.iload_n 3, 1) := by decide +kernel
theorem dX7_beginOf_5 : decode cX7_beginOf 5 = .ok (.iload_n 1, 1) := by decide +kernel
theorem dX7_beginOf_6 : decode cX7_beginOf 6 = .ok (.if_icmp .ge 17, 3) := by decide +kernel
theorem dX7_beginOf_9 : decode cX7_beginOf 9 = .ok (.iload_n 2, 1) := by decide +kernel
theorem dX7_beginOf_10 : decode cX7_beginOf 10 = .ok (.aload_n 0, 1) := by decide +kernel
theorem dX7_beginOf_11 : decode cX7_beginOf 11 = .ok (.iload_n 3, 1) := by decide +kernel
theorem dX7_beginOf_12 : decode cX7_beginOf 12 = .ok (.invokevirtual 37, 3) := by decide +kernel
theorem dX7_beginOf_15 : decode cX7_beginOf 15 = .ok (.iadd, 1) := by decide +kernel
theorem dX7_beginOf_16 : decode cX7_beginOf 16 = .ok (.istore_n 2, 1) := by decide +kernel
theorem dX7_beginOf_17 : decode cX7_beginOf 17 = .ok (.iinc 3 1, 3) := by decide +kernel
theorem dX7_beginOf_20 : decode cX7_beginOf 20 = .ok (.goto (-16), 3) := by decide +kernel
theorem dX7_beginOf_23 : decode cX7_beginOf 23 = .ok (.iload_n 2, 1) := by decide +kernel
theorem dX7_beginOf_24 : decode cX7_beginOf 24 = .ok (.ireturn, 1) := by decide +kernel
theorem dX7_choiceFor_0 : decode cX7_choiceFor 0 = .ok (.aload_n 0, 1) := by decide +kernel
theorem dX7_choiceFor_1 : decode cX7_choiceFor 1 = .ok (.iload_n 1, 1) := by decide +kernel
theorem dX7_choiceFor_2 : decode cX7_choiceFor 2 = .ok (.invokevirtual 37, 3) := by decide +kernel
theorem dX7_choiceFor_5 : decode cX7_choiceFor 5 = .ok (.ifCond .le 7, 3) := by decide +kernel
theorem dX7_choiceFor_8 : decode cX7_choiceFor 8 = .ok (.iload_n 1, 1) := by decide +kernel
theorem dX7_choiceFor_9 : decode cX7_choiceFor 9 = .ok (.goto 4, 3) := by decide +kernel
theorem dX7_choiceFor_12 : decode cX7_choiceFor 12 = .ok (.iconst 4, 1) := by decide +kernel
